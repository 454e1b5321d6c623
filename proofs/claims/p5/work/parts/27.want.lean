theorem dX3_readWant_0 : decode cX3_readWant 0 = .ok (.aload_n 0, 1) := by decide +kernel
theorem dX3_readWant_1 : decode cX3_readWant 1 = .ok (.getfield 29, 3) := by decide +kernel
theorem k_266 : Cond.fieldLink RX3 29 "BurntWays$Reader" "wants" "LBurntWays$Wants;" ∈ bw_T := bw_m 266 (by decide +kernel) rfl
theorem dX3_readWant_4 : decode cX3_readWant 4 = .ok (.getfield 82, 3) := by decide +kernel
theorem k_202 : Cond.fieldLink RX3 82 "BurntWays$Wants" "count" "I" ∈ bw_T := bw_m 202 (by decide +kernel) rfl
theorem dX3_readWant_7 : decode cX3_readWant 7 = .ok (.bipush 6, 2) := by decide +kernel
theorem dX3_readWant_9 : decode cX3_readWant 9 = .ok (.if_icmp .lt 9, 3) := by decide +kernel
theorem dX3_readWant_18 : decode cX3_readWant 18 = .ok (.iconst 0, 1) := by decide +kernel
theorem dX3_readWant_19 : decode cX3_readWant 19 = .ok (.istore_n 1, 1) := by decide +kernel
theorem dX3_readWant_20 : decode cX3_readWant 20 = .ok (.iload_n 1, 1) := by decide +kernel
theorem dX3_readWant_21 : decode cX3_readWant 21 = .ok (.iconst 4, 1) := by decide +kernel
theorem dX3_readWant_22 : decode cX3_readWant 22 = .ok (.if_icmp .ge 67, 3) := by decide +kernel
theorem dX3_readWant_89 : decode cX3_readWant 89 = .ok (.aload_n 0, 1) := by decide +kernel
theorem dX3_readWant_90 : decode cX3_readWant 90 = .ok (.bipush 14, 2) := by decide +kernel
theorem dX3_readWant_92 : decode cX3_readWant 92 = .ok (.invokevirtual 117, 3) := by decide +kernel
theorem dX3_readWant_95 : decode cX3_readWant 95 = .ok (.ifCond .ne 5, 3) := by decide +kernel
theorem dX3_readWant_100 : decode cX3_readWant 100 = .ok (.aload_n 0, 1) := by decide +kernel
theorem dX3_readWant_101 : decode cX3_readWant 101 = .ok (.invokevirtual 85, 3) := by decide +kernel
theorem dX3_readWant_104 : decode cX3_readWant 104 = .ok (.aload_n 0, 1) := by decide +kernel
theorem dX3_readWant_105 : decode cX3_readWant 105 = .ok (.iconst 0, 1) := by decide +kernel
theorem dX3_readWant_106 : decode cX3_readWant 106 = .ok (.bipush 99, 2) := by decide +kernel
theorem dX3_readWant_108 : decode cX3_readWant 108 = .ok (.invokevirtual 142, 3) := by decide +kernel
theorem dX3_readWant_111 : decode cX3_readWant 111 = .ok (.ifCond .ne 5, 3) := by decide +kernel
theorem dX3_readWant_116 : decode cX3_readWant 116 = .ok (.aload_n 0, 1) := by decide +kernel
theorem dX3_readWant_117 : decode cX3_readWant 117 = .ok (.getfield 29, 3) := by decide +kernel
theorem dX3_readWant_120 : decode cX3_readWant 120 = .ok (.aload_n 0, 1) := by decide +kernel
theorem dX3_readWant_121 : decode cX3_readWant 121 = .ok (.getfield 29, 3) := by decide +kernel
theorem dX3_readWant_124 : decode cX3_readWant 124 = .ok (.getfield 82, 3) := by decide +kernel
theorem dX3_readWant_127 : decode cX3_readWant 127 = .ok (.iconst 4, 1) := by decide +kernel
theorem dX3_readWant_128 : decode cX3_readWant 128 = .ok (.aload_n 0, 1) := by decide +kernel
theorem dX3_readWant_129 : decode cX3_readWant 129 = .ok (.getfield 62, 3) := by decide +kernel
theorem dX3_readWant_132 : decode cX3_readWant 132 = .ok (.invokevirtual 164, 3) := by decide +kernel
theorem k_631 : Cond.methodLink RX3 164 yX7_put ∈ bw_T := bw_m 631 (by decide +kernel) rfl
theorem kv_X7_put : bw_KV RX7 yX7_put (Cond.code yX7_put cX7_put 4 none) := ⟨bw_m 632 (by decide +kernel) rfl, bw_m 633 (by decide +kernel) rfl, bw_m 97 (by decide +kernel) rfl, bw_m 634 (by decide +kernel) rfl⟩
theorem dX3_readWant_135 : decode cX3_readWant 135 = .ok (.aload_n 0, 1) := by decide +kernel
theorem dX3_readWant_136 : decode cX3_readWant 136 = .ok (.getfield 29, 3) := by decide +kernel
theorem dX3_readWant_139 : decode cX3_readWant 139 = .ok (.dup, 1) := by decide +kernel
theorem dX3_readWant_140 : decode cX3_readWant 140 = .ok (.getfield 82, 3) := by decide +kernel
theorem dX3_readWant_143 : decode cX3_readWant 143 = .ok (.iconst 1, 1) := by decide +kernel
theorem dX3_readWant_144 : decode cX3_readWant 144 = .ok (.iadd, 1) := by decide +kernel
theorem dX3_readWant_145 : decode cX3_readWant 145 = .ok (.putfield 82, 3) := by decide +kernel
theorem dX3_readWant_148 : decode cX3_readWant 148 = .ok (.aload_n 0, 1) := by decide +kernel
theorem dX3_readWant_149 : decode cX3_readWant 149 = .ok (.invokevirtual 85, 3) := by decide +kernel
theorem dX3_readWant_152 : decode cX3_readWant 152 = .ok (.iconst 1, 1) := by decide +kernel
theorem dX3_readWant_153 : decode cX3_readWant 153 = .ok (.ireturn, 1) := by decide +kernel
theorem dX3_readWant_114 : decode cX3_readWant 114 = .ok (.iconst 0, 1) := by decide +kernel
theorem dX3_readWant_115 : decode cX3_readWant 115 = .ok (.ireturn, 1) := by decide +kernel
theorem dX3_readWant_98 : decode cX3_readWant 98 = .ok (.iconst 0, 1) := by decide +kernel
theorem dX3_readWant_99 : decode cX3_readWant 99 = .ok (.ireturn, 1) := by decide +kernel
theorem dX3_readWant_25 : decode cX3_readWant 25 = .ok (.iload_n 1, 1) := by decide +kernel
theorem dX3_readWant_26 : decode cX3_readWant 26 = .ok (.ifCond .le 18, 3) := by decide +kernel
theorem dX3_readWant_44 : decode cX3_readWant 44 = .ok (.aload_n 0, 1) := by decide +kernel
theorem dX3_readWant_45 : decode cX3_readWant 45 = .ok (.invokevirtual 85, 3) := by decide +kernel
theorem dX3_readWant_48 : decode cX3_readWant 48 = .ok (.aload_n 0, 1) := by decide +kernel
theorem dX3_readWant_49 : decode cX3_readWant 49 = .ok (.iconst 0, 1) := by decide +kernel
theorem dX3_readWant_50 : decode cX3_readWant 50 = .ok (.bipush 9, 2) := by decide +kernel
theorem dX3_readWant_52 : decode cX3_readWant 52 = .ok (.invokevirtual 142, 3) := by decide +kernel
theorem dX3_readWant_55 : decode cX3_readWant 55 = .ok (.ifCond .ne 5, 3) := by decide +kernel
theorem dX3_readWant_60 : decode cX3_readWant 60 = .ok (.aload_n 0, 1) := by decide +kernel
theorem dX3_readWant_61 : decode cX3_readWant 61 = .ok (.getfield 29, 3) := by decide +kernel
theorem dX3_readWant_64 : decode cX3_readWant 64 = .ok (.aload_n 0, 1) := by decide +kernel
theorem dX3_readWant_65 : decode cX3_readWant 65 = .ok (.getfield 29, 3) := by decide +kernel
theorem dX3_readWant_68 : decode cX3_readWant 68 = .ok (.getfield 82, 3) := by decide +kernel
theorem dX3_readWant_71 : decode cX3_readWant 71 = .ok (.iload_n 1, 1) := by decide +kernel
theorem dX3_readWant_72 : decode cX3_readWant 72 = .ok (.aload_n 0, 1) := by decide +kernel
theorem dX3_readWant_73 : decode cX3_readWant 73 = .ok (.getfield 62, 3) := by decide +kernel
theorem dX3_readWant_76 : decode cX3_readWant 76 = .ok (.invokevirtual 164, 3) := by decide +kernel
theorem dX3_readWant_79 : decode cX3_readWant 79 = .ok (.aload_n 0, 1) := by decide +kernel
theorem dX3_readWant_80 : decode cX3_readWant 80 = .ok (.invokevirtual 85, 3) := by decide +kernel
theorem dX3_readWant_83 : decode cX3_readWant 83 = .ok (.iinc 1 1, 3) := by decide +kernel
theorem dX3_readWant_86 : decode cX3_readWant 86 = .ok (.goto (-66), 3) := by decide +kernel
theorem dX3_readWant_58 : decode cX3_readWant 58 = .ok (.iconst 0, 1) := by decide +kernel
theorem dX3_readWant_59 : decode cX3_readWant 59 = .ok (.ireturn, 1) := by decide +kernel
theorem dX3_readWant_29 : decode cX3_readWant 29 = .ok (.aload_n 0, 1) := by decide +kernel
theorem dX3_readWant_30 : decode cX3_readWant 30 = .ok (.getfield 49, 3) := by decide +kernel
theorem dX3_readWant_33 : decode cX3_readWant 33 = .ok (.bipush 22, 2) := by decide +kernel
theorem dX3_readWant_35 : decode cX3_readWant 35 = .ok (.if_icmp .eq 9, 3) := by decide +kernel
theorem dX3_readWant_38 : decode cX3_readWant 38 = .ok (.aload_n 0, 1) := by decide +kernel
theorem dX3_readWant_39 : decode cX3_readWant 39 = .ok (.iconst 1, 1) := by decide +kernel
theorem dX3_readWant_40 : decode cX3_readWant 40 = .ok (.invokevirtual 98, 3) := by decide +kernel
theorem dX3_readWant_43 : decode cX3_readWant 43 = .ok (.ireturn, 1) := by decide +kernel
theorem dX3_readWant_12 : decode cX3_readWant 12 = .ok (.aload_n 0, 1) := by decide +kernel
theorem dX3_readWant_13 : decode cX3_readWant 13 = .ok (.iconst 5, 1) := by decide +kernel
theorem dX3_readWant_14 : decode cX3_readWant 14 = .ok (.invokevirtual 98, 3) := by decide +kernel
theorem dX3_readWant_17 : decode cX3_readWant 17 = .ok (.ireturn, 1) := by decide +kernel
abbrev rm_X3_readWant : Room := { frames := 2, cells := 0, slots := 0, locals := 43 }
set_option maxRecDepth 100000 in
set_option maxHeartbeats 8000000 in
theorem c_X3_readWant {l : Launch} {E : (Nat → Prop) → State → Prop} (hO : bw_Ok E) {G : va_G} {cI cB cJ cN cW : ClassId} (b : Nat) (q : Nat → Nat) (i : Nat → Int) (g : Nat → Nat → Int) (hY : ReaderOk i) (qt : Nat → Nat) (nt : Int) (gt : Nat → Nat → Int) (hT : WantsOk nt) : bw_Ci (S := zU) l yX3_readWant (bw_ws (Cond.code yX3_readWant cX3_readWant 2 (some .boolean))) rm_X3_readWant E G (bw_kt cI cB cJ cN cW) [.ref b] [(b, .inr (3, [.ref (q 0), .int (zI (i 0)), .ref (q 3), .ref (q 4), .int (zI (i 1)), .int (zI (i 2)), .ref (q 1), .ref (q 2), .int (zI (i 3)), .int (zI (i 4)), .int (zI (i 5)), .int (zI (i 6)), .long (zL (i 7)), .int (zI (i 8))])), ((q 0), .inl (cB, 900, .inl (fun k => zI ((g 0) k)))), ((q 1), .inl (cJ, 19, .inr (.inl (fun k => zL ((g 1) k))))), ((q 2), .inl (cJ, 10, .inr (.inl (fun k => zL ((g 2) k))))), ((q 4), .inr (7, [.int (zI nt), .ref (qt 0)])), ((qt 0), .inl (cI, 30, .inl (fun k => zI ((gt 0) k))))] (fun r u => ∃ z : Int, r = zI z ∧ ReaderOk u.1 ∧ WantsOk (u.1 10) ∧ (z = 0 ∨ z = 1) ∧ (u.1 0 = i 0 ∧ u.1 3 = i 3)) (fun u => [(b, .inr (3, [.ref (q 0), .int (zI (u.1 0)), .ref (q 3), .ref (q 4), .int (zI (u.1 1)), .int (zI (u.1 2)), .ref (q 1), .ref (q 2), .int (zI (u.1 3)), .int (zI (u.1 4)), .int (zI (u.1 5)), .int (zI (u.1 6)), .long (zL (u.1 7)), .int (zI (u.1 8))])), ((q 0), .inl (cB, 900, .inl (fun k => zI ((g 0) k)))), ((q 1), .inl (cJ, 19, .inr (.inl (fun k => zL ((g 1) k))))), ((q 2), .inl (cJ, 10, .inr (.inl (fun k => zL ((g 2) k))))), ((q 4), .inr (7, [.int (zI (u.1 10)), .ref (qt 0)])), ((qt 0), .inl (cI, 30, .inl (fun k => zI ((u.2 0) k))))]) := by
  refine bw_Ci.of (cc := cX3_readWant) (maxL := 2) (ty := .boolean) (by decide) rfl (Nat.le_of_ble_eq_true rfl) ?_
  intro p e s m below meth c A Q hx hb hml hts hown hin hK hA hS hP hD hE ret ls hl
  have F : CallFix p m c cX3_readWant 2 s ([.ref b] : List Value).toArray bw_T RX3 := ⟨hx, hb, hml, hown, fun w h => hts w (List.mem_cons_of_mem _ h)⟩
  replace hl : lv_has ls 2 [(0, .ref b)] := hl
  refine lv_aload_n hx hb dX3_readWant_0 rfl (lv_at hl 0 rfl) ?_
  refine r_get F hK hP 0 3 rfl rfl in_X3 (by decide) k_266 rfl dX3_readWant_1 ?_
  refine r_get F hK hP 4 0 rfl rfl in_X7 (by decide) k_202 rfl dX3_readWant_4 ?_
  refine lv_bipush (v := zI 6) hx hb dX3_readWant_7 (by decide) ?_
  refine rz_icmp_lt (tgt := 18) F (by omega) (by omega) dX3_readWant_9 (by decide) (fun h9_0 => ?_) (fun h9_0 => ?_)
  · refine lv_iconst (v := zI 0) hx hb dX3_readWant_18 rfl ?_
    refine lv_istore_n (lv' := [(1, .int (zI 0)), (0, .ref b)]) hx hb dX3_readWant_19 rfl hl (by decide) rfl (fun ls hl => ?_)
    refine W.widen (k := 0) (n := 0) (Nat.le_of_ble_eq_true rfl) (Nat.le_of_ble_eq_true rfl) ?_
    refine (?_ : ∀ (n9_1 : Nat) (v1 : Int) (ii : Nat → Int) (gg : Nat → Nat → Int) (H : Heap) (locs : List Loc), (0 ≤ v1 ∧ v1 ≤ 4 ∧ ii 0 = i 0 ∧ ii 3 = i 3) → (4 - v1 : Int).toNat < n9_1 → (ReaderOk ii) → (WantsOk nt) → va_P G vwCl [(b, .inr (3, [.ref (q 0), .int (zI (ii 0)), .ref (q 3), .ref (q 4), .int (zI (ii 1)), .int (zI (ii 2)), .ref (q 1), .ref (q 2), .int (zI (ii 3)), .int (zI (ii 4)), .int (zI (ii 5)), .int (zI (ii 6)), .long (zL (ii 7)), .int (zI (ii 8))])), ((q 0), .inl (cB, 900, .inl (fun k => zI ((g 0) k)))), ((q 1), .inl (cJ, 19, .inr (.inl (fun k => zL ((g 1) k))))), ((q 2), .inl (cJ, 10, .inr (.inl (fun k => zL ((g 2) k))))), ((q 4), .inr (7, [.int (zI nt), .ref (qt 0)])), ((qt 0), .inl (cI, 30, .inl (fun k => zI ((gg 0) k))))] H → va_D A [(b, .inr (3, [.ref (q 0), .int (zI (ii 0)), .ref (q 3), .ref (q 4), .int (zI (ii 1)), .int (zI (ii 2)), .ref (q 1), .ref (q 2), .int (zI (ii 3)), .int (zI (ii 4)), .int (zI (ii 5)), .int (zI (ii 6)), .long (zL (ii 7)), .int (zI (ii 8))])), ((q 0), .inl (cB, 900, .inl (fun k => zI ((g 0) k)))), ((q 1), .inl (cJ, 19, .inr (.inl (fun k => zL ((g 1) k))))), ((q 2), .inl (cJ, 10, .inr (.inl (fun k => zL ((g 2) k))))), ((q 4), .inr (7, [.int (zI nt), .ref (qt 0)])), ((qt 0), .inl (cI, 30, .inl (fun k => zI ((gg 0) k))))] → va_S A s.heap H locs → ∀ ls : Array Slot, lv_has ls 2 [(1, .int (zI v1)), (0, .ref b)] → W p l e rm_X3_readWant s m ([.ref b] : List Value).toArray below meth c H locs 0 0 Q (F0 m 20 ls [])) ((4 - 0 : Int).toNat + 1) 0 i gt _ _ (by omega) (by omega) hY hT hP hD hS ls hl
    clear hP hD hS hl ls
    intro n9_1
    induction n9_1 with
    | zero =>
      intro v1 ii gg H locs hI hM
      exact absurd hM (by omega)
    | succ n9_1 ih1 =>
      intro v1 ii gg H locs hI1 hM1 hG hT9 hP hD hS ls hl
      have hf2 := hG
      have hf3 := hT9
      refine lv_iload_n hx hb dX3_readWant_20 rfl (lv_at hl 0 rfl) ?_
      refine lv_iconst (v := zI 4) hx hb dX3_readWant_21 rfl ?_
      refine rz_icmp_ge (tgt := 89) F (by omega) (by omega) dX3_readWant_22 (by decide) (fun h22_3 => ?_) (fun h22_3 => ?_)
      · refine lv_aload_n hx hb dX3_readWant_89 rfl (lv_at hl 1 rfl) ?_
        refine lv_bipush (v := zI 14) hx hb dX3_readWant_90 (by decide) ?_
        refine r_callVi (As := [.int (zI 14)]) (rest := []) (wr := [((q 4), .inr (7, [.int (zI nt), .ref (qt 0)])), ((qt 0), .inl (cI, 30, .inl (fun k => zI ((gg 0) k))))]) F hK hP hD hS hA hO hE (c_X3_isWord hO b q ii g hG 14 (by omega)) k_611 kv_X3_isWord 1 rfl (by decide +kernel) ⟨Nat.le_of_ble_eq_true rfl, Nat.le_of_ble_eq_true rfl⟩ [0, 1, 2, 3] [4, 5] rfl rfl (by decide) (by decide) (by decide) 0 3 rfl rfl rfl hl.1 rfl (Nat.le_of_ble_eq_true rfl) dX3_readWant_92 ⟨Nat.le_of_ble_eq_true rfl, Nat.le_of_ble_eq_true rfl⟩ (w1 := fun u5 => [((q 4), .inr (7, [.int (zI nt), .ref (qt 0)])), ((qt 0), .inl (cI, 30, .inl (fun k => zI ((gg 0) k)))), (b, .inr (3, [.ref (q 0), .int (zI (u5.1 0)), .ref (q 3), .ref (q 4), .int (zI (u5.1 1)), .int (zI (u5.1 2)), .ref (q 1), .ref (q 2), .int (zI (u5.1 3)), .int (zI (u5.1 4)), .int (zI (u5.1 5)), .int (zI (u5.1 6)), .long (zL (u5.1 7)), .int (zI (u5.1 8))])), ((q 0), .inl (cB, 900, .inl (fun k => zI ((g 0) k)))), ((q 1), .inl (cJ, 19, .inr (.inl (fun k => zL ((g 1) k))))), ((q 2), .inl (cJ, 10, .inr (.inl (fun k => zL ((g 2) k)))))]) (fun _ => rfl) (fun r6 u5 H locs hp7 hP hD hS => ?_)
        obtain ⟨z8, rfl, h_z8⟩ := hp7
        have hx9 := h_z8.2
        have hf10 := h_z8.1
        refine rz_if_ne (tgt := 100) F (by omega) dX3_readWant_95 (by decide) (fun h95_10 => ?_) (fun h95_10 => ?_)
        · refine lv_aload_n hx hb dX3_readWant_100 rfl (lv_at hl 1 rfl) ?_
          refine r_callVv (As := []) (rest := []) (wr := [((q 4), .inr (7, [.int (zI nt), .ref (qt 0)])), ((qt 0), .inl (cI, 30, .inl (fun k => zI ((gg 0) k))))]) F hK hP hD hS hA hO hE (c_X3_advance hO b q u5.1 g h_z8.1) k_559 kv_X3_advance 0 rfl (by decide +kernel) ⟨Nat.le_of_ble_eq_true rfl, Nat.le_of_ble_eq_true rfl⟩ [2, 3, 4, 5] [0, 1] rfl rfl (by decide) (by decide) (by decide) 0 3 rfl rfl rfl hl.1 rfl (Nat.le_of_ble_eq_true rfl) dX3_readWant_101 ⟨Nat.le_of_ble_eq_true rfl, Nat.le_of_ble_eq_true rfl⟩ (w1 := fun u12 => [((q 4), .inr (7, [.int (zI nt), .ref (qt 0)])), ((qt 0), .inl (cI, 30, .inl (fun k => zI ((gg 0) k)))), (b, .inr (3, [.ref (q 0), .int (zI (u12.1 0)), .ref (q 3), .ref (q 4), .int (zI (u12.1 1)), .int (zI (u12.1 2)), .ref (q 1), .ref (q 2), .int (zI (u12.1 3)), .int (zI (u12.1 4)), .int (zI (u12.1 5)), .int (zI (u12.1 6)), .long (zL (u12.1 7)), .int (zI (u12.1 8))])), ((q 0), .inl (cB, 900, .inl (fun k => zI ((g 0) k)))), ((q 1), .inl (cJ, 19, .inr (.inl (fun k => zL ((g 1) k))))), ((q 2), .inl (cJ, 10, .inr (.inl (fun k => zL ((g 2) k)))))]) (fun _ => rfl) (fun  u12 H locs hp13 hP hD hS => ?_)
          have hx14 := hp13.2
          have hf15 := hp13.1
          refine lv_aload_n hx hb dX3_readWant_104 rfl (lv_at hl 1 rfl) ?_
          refine lv_iconst (v := zI 0) hx hb dX3_readWant_105 rfl ?_
          refine lv_bipush (v := zI 99) hx hb dX3_readWant_106 (by decide) ?_
          refine r_callVi (As := [.int (zI 0), .int (zI 99)]) (rest := []) (wr := [((q 4), .inr (7, [.int (zI nt), .ref (qt 0)])), ((qt 0), .inl (cI, 30, .inl (fun k => zI ((gg 0) k))))]) F hK hP hD hS hA hO hE (c_X3_isWhole hO b q u12.1 g hp13.1 0 99 (by omega) (by omega)) k_607 kv_X3_isWhole 2 rfl (by decide +kernel) ⟨Nat.le_of_ble_eq_true rfl, Nat.le_of_ble_eq_true rfl⟩ [2, 3, 4, 5] [0, 1] rfl rfl (by decide) (by decide) (by decide) 0 3 rfl rfl rfl hl.1 rfl (Nat.le_of_ble_eq_true rfl) dX3_readWant_108 ⟨Nat.le_of_ble_eq_true rfl, Nat.le_of_ble_eq_true rfl⟩ (w1 := fun u16 => [((q 4), .inr (7, [.int (zI nt), .ref (qt 0)])), ((qt 0), .inl (cI, 30, .inl (fun k => zI ((gg 0) k)))), (b, .inr (3, [.ref (q 0), .int (zI (u16.1 0)), .ref (q 3), .ref (q 4), .int (zI (u16.1 1)), .int (zI (u16.1 2)), .ref (q 1), .ref (q 2), .int (zI (u16.1 3)), .int (zI (u16.1 4)), .int (zI (u16.1 5)), .int (zI (u16.1 6)), .long (zL (u16.1 7)), .int (zI (u16.1 8))])), ((q 0), .inl (cB, 900, .inl (fun k => zI ((g 0) k)))), ((q 1), .inl (cJ, 19, .inr (.inl (fun k => zL ((g 1) k))))), ((q 2), .inl (cJ, 10, .inr (.inl (fun k => zL ((g 2) k)))))]) (fun _ => rfl) (fun r17 u16 H locs hp18 hP hD hS => ?_)
          obtain ⟨z19, rfl, h_z19⟩ := hp18
          have hx20 := h_z19.2
          have hf21 := h_z19.1
          refine rz_if_ne (tgt := 116) F (by omega) dX3_readWant_111 (by decide) (fun h111_21 => ?_) (fun h111_21 => ?_)
          · refine lv_aload_n hx hb dX3_readWant_116 rfl (lv_at hl 1 rfl) ?_
            refine r_get F hK hP 2 3 rfl rfl in_X3 (by decide) k_266 rfl dX3_readWant_117 ?_
            refine lv_aload_n hx hb dX3_readWant_120 rfl (lv_at hl 1 rfl) ?_
            refine r_get F hK hP 2 3 rfl rfl in_X3 (by decide) k_266 rfl dX3_readWant_121 ?_
            refine r_get F hK hP 0 0 rfl rfl in_X7 (by decide) k_202 rfl dX3_readWant_124 ?_
            refine lv_iconst (v := zI 4) hx hb dX3_readWant_127 rfl ?_
            refine lv_aload_n hx hb dX3_readWant_128 rfl (lv_at hl 1 rfl) ?_
            refine r_get F hK hP 2 13 rfl rfl in_X3 (by decide) k_279 rfl dX3_readWant_129 ?_
            refine r_callVv (As := [.int (zI nt), .int (zI 4), .int (zI (u16.1 8))]) (rest := []) (wr := [(b, .inr (3, [.ref (q 0), .int (zI (u16.1 0)), .ref (q 3), .ref (q 4), .int (zI (u16.1 1)), .int (zI (u16.1 2)), .ref (q 1), .ref (q 2), .int (zI (u16.1 3)), .int (zI (u16.1 4)), .int (zI (u16.1 5)), .int (zI (u16.1 6)), .long (zL (u16.1 7)), .int (zI (u16.1 8))])), ((q 0), .inl (cB, 900, .inl (fun k => zI ((g 0) k)))), ((q 1), .inl (cJ, 19, .inr (.inl (fun k => zL ((g 1) k))))), ((q 2), .inl (cJ, 10, .inr (.inl (fun k => zL ((g 2) k)))))]) F hK hP hD hS hA hO hE (c_X7_put hO (q 4) qt nt gg hT9 nt 4 (u16.1 8) (by omega) (by omega)) k_631 kv_X7_put 3 rfl (by decide +kernel) ⟨Nat.le_of_ble_eq_true rfl, Nat.le_of_ble_eq_true rfl⟩ [0, 1] [2, 3, 4, 5] rfl rfl (by decide) (by decide) (by decide) 0 7 rfl rfl rfl hl.1 rfl (Nat.le_of_ble_eq_true rfl) dX3_readWant_132 ⟨Nat.le_of_ble_eq_true rfl, Nat.le_of_ble_eq_true rfl⟩ (w1 := fun u23 => [(b, .inr (3, [.ref (q 0), .int (zI (u16.1 0)), .ref (q 3), .ref (q 4), .int (zI (u16.1 1)), .int (zI (u16.1 2)), .ref (q 1), .ref (q 2), .int (zI (u16.1 3)), .int (zI (u16.1 4)), .int (zI (u16.1 5)), .int (zI (u16.1 6)), .long (zL (u16.1 7)), .int (zI (u16.1 8))])), ((q 0), .inl (cB, 900, .inl (fun k => zI ((g 0) k)))), ((q 1), .inl (cJ, 19, .inr (.inl (fun k => zL ((g 1) k))))), ((q 2), .inl (cJ, 10, .inr (.inl (fun k => zL ((g 2) k))))), ((q 4), .inr (7, [.int (zI nt), .ref (qt 0)])), ((qt 0), .inl (cI, 30, .inl (fun k => zI ((u23.2 0) k))))]) (fun _ => rfl) (fun  u23 H locs hp24 hP hD hS => ?_)
            have hf25 := hT9
            refine lv_aload_n hx hb dX3_readWant_135 rfl (lv_at hl 1 rfl) ?_
            refine r_get F hK hP 0 3 rfl rfl in_X3 (by decide) k_266 rfl dX3_readWant_136 ?_
            refine lv_dup hx hb dX3_readWant_139 rfl ?_
            refine r_get F hK hP 4 0 rfl rfl in_X7 (by decide) k_202 rfl dX3_readWant_140 ?_
            refine lv_iconst (v := zI 1) hx hb dX3_readWant_143 rfl ?_
            refine r_iadd (v := zI (nt + 1)) F dX3_readWant_144 (zI_add _ _) ?_
            refine r_put F hK hP hD hS 4 0 rfl rfl in_X7 tyX7 tyX7_ok nmX7 (by decide) k_202 rfl rfl rfl (Nat.le_of_ble_eq_true rfl) dX3_readWant_145 (w1 := [(b, .inr (3, [.ref (q 0), .int (zI (u16.1 0)), .ref (q 3), .ref (q 4), .int (zI (u16.1 1)), .int (zI (u16.1 2)), .ref (q 1), .ref (q 2), .int (zI (u16.1 3)), .int (zI (u16.1 4)), .int (zI (u16.1 5)), .int (zI (u16.1 6)), .long (zL (u16.1 7)), .int (zI (u16.1 8))])), ((q 0), .inl (cB, 900, .inl (fun k => zI ((g 0) k)))), ((q 1), .inl (cJ, 19, .inr (.inl (fun k => zL ((g 1) k))))), ((q 2), .inl (cJ, 10, .inr (.inl (fun k => zL ((g 2) k))))), ((q 4), .inr (7, [.int (zI (nt + 1)), .ref (qt 0)])), ((qt 0), .inl (cI, 30, .inl (fun k => zI ((u23.2 0) k))))]) rfl (fun H locs hP hD hS => ?_)
            refine lv_aload_n hx hb dX3_readWant_148 rfl (lv_at hl 1 rfl) ?_
            refine r_callVv (As := []) (rest := []) (wr := [((q 4), .inr (7, [.int (zI (nt + 1)), .ref (qt 0)])), ((qt 0), .inl (cI, 30, .inl (fun k => zI ((u23.2 0) k))))]) F hK hP hD hS hA hO hE (c_X3_advance hO b q u16.1 g h_z19.1) k_559 kv_X3_advance 0 rfl (by decide +kernel) ⟨Nat.le_of_ble_eq_true rfl, Nat.le_of_ble_eq_true rfl⟩ [0, 1, 2, 3] [4, 5] rfl rfl (by decide) (by decide) (by decide) 0 3 rfl rfl rfl hl.1 rfl (Nat.le_of_ble_eq_true rfl) dX3_readWant_149 ⟨Nat.le_of_ble_eq_true rfl, Nat.le_of_ble_eq_true rfl⟩ (w1 := fun u26 => [((q 4), .inr (7, [.int (zI (nt + 1)), .ref (qt 0)])), ((qt 0), .inl (cI, 30, .inl (fun k => zI ((u23.2 0) k)))), (b, .inr (3, [.ref (q 0), .int (zI (u26.1 0)), .ref (q 3), .ref (q 4), .int (zI (u26.1 1)), .int (zI (u26.1 2)), .ref (q 1), .ref (q 2), .int (zI (u26.1 3)), .int (zI (u26.1 4)), .int (zI (u26.1 5)), .int (zI (u26.1 6)), .long (zL (u26.1 7)), .int (zI (u26.1 8))])), ((q 0), .inl (cB, 900, .inl (fun k => zI ((g 0) k)))), ((q 1), .inl (cJ, 19, .inr (.inl (fun k => zL ((g 1) k))))), ((q 2), .inl (cJ, 10, .inr (.inl (fun k => zL ((g 2) k)))))]) (fun _ => rfl) (fun  u26 H locs hp27 hP hD hS => ?_)
            have hx28 := hp27.2
            have hf29 := hp27.1
            refine lv_iconst (v := zI 1) hx hb dX3_readWant_152 rfl ?_
            exact ret (zI 1) (uC u26.1 (fun _ => (nt + 1)), u23.2) _ _ _ _ _ _ rfl ⟨1, rfl, hp27.1, (show WantsOk (nt + 1) from by omega), by omega, (show u26.1 0 = i 0 ∧ u26.1 3 = i 3 from by omega)⟩ (bw_subP (isC := [2, 3, 4, 5, 0, 1]) hP rfl) (hD.sub [2, 3, 4, 5, 0, 1] (by decide) rfl) hS (Nat.le_of_ble_eq_true rfl) (Nat.le_of_ble_eq_true rfl) dX3_readWant_153
          · refine lv_iconst (v := zI 0) hx hb dX3_readWant_114 rfl ?_
            exact ret (zI 0) (uC u16.1 (fun _ => nt), gg) _ _ _ _ _ _ rfl ⟨0, rfl, h_z19.1, (show WantsOk nt from by omega), by omega, (show u16.1 0 = i 0 ∧ u16.1 3 = i 3 from by omega)⟩ (bw_subP (isC := [2, 3, 4, 5, 0, 1]) hP rfl) (hD.sub [2, 3, 4, 5, 0, 1] (by decide) rfl) hS (Nat.le_of_ble_eq_true rfl) (Nat.le_of_ble_eq_true rfl) dX3_readWant_115
        · refine lv_iconst (v := zI 0) hx hb dX3_readWant_98 rfl ?_
          exact ret (zI 0) (uC u5.1 (fun _ => nt), gg) _ _ _ _ _ _ rfl ⟨0, rfl, h_z8.1, (show WantsOk nt from by omega), by omega, (show u5.1 0 = i 0 ∧ u5.1 3 = i 3 from by omega)⟩ (bw_subP (isC := [2, 3, 4, 5, 0, 1]) hP rfl) (hD.sub [2, 3, 4, 5, 0, 1] (by decide) rfl) hS (Nat.le_of_ble_eq_true rfl) (Nat.le_of_ble_eq_true rfl) dX3_readWant_99
      · refine lv_iload_n hx hb dX3_readWant_25 rfl (lv_at hl 0 rfl) ?_
        refine rz_if_le (tgt := 44) F (by omega) dX3_readWant_26 (by decide) (fun h26_29 => ?_) (fun h26_29 => ?_)
        · refine lv_aload_n hx hb dX3_readWant_44 rfl (lv_at hl 1 rfl) ?_
          refine r_callVv (As := []) (rest := []) (wr := [((q 4), .inr (7, [.int (zI nt), .ref (qt 0)])), ((qt 0), .inl (cI, 30, .inl (fun k => zI ((gg 0) k))))]) F hK hP hD hS hA hO hE (c_X3_advance hO b q ii g hG) k_559 kv_X3_advance 0 rfl (by decide +kernel) ⟨Nat.le_of_ble_eq_true rfl, Nat.le_of_ble_eq_true rfl⟩ [0, 1, 2, 3] [4, 5] rfl rfl (by decide) (by decide) (by decide) 0 3 rfl rfl rfl hl.1 rfl (Nat.le_of_ble_eq_true rfl) dX3_readWant_45 ⟨Nat.le_of_ble_eq_true rfl, Nat.le_of_ble_eq_true rfl⟩ (w1 := fun u31 => [((q 4), .inr (7, [.int (zI nt), .ref (qt 0)])), ((qt 0), .inl (cI, 30, .inl (fun k => zI ((gg 0) k)))), (b, .inr (3, [.ref (q 0), .int (zI (u31.1 0)), .ref (q 3), .ref (q 4), .int (zI (u31.1 1)), .int (zI (u31.1 2)), .ref (q 1), .ref (q 2), .int (zI (u31.1 3)), .int (zI (u31.1 4)), .int (zI (u31.1 5)), .int (zI (u31.1 6)), .long (zL (u31.1 7)), .int (zI (u31.1 8))])), ((q 0), .inl (cB, 900, .inl (fun k => zI ((g 0) k)))), ((q 1), .inl (cJ, 19, .inr (.inl (fun k => zL ((g 1) k))))), ((q 2), .inl (cJ, 10, .inr (.inl (fun k => zL ((g 2) k)))))]) (fun _ => rfl) (fun  u31 H locs hp32 hP hD hS => ?_)
          have hx33 := hp32.2
          have hf34 := hp32.1
          refine lv_aload_n hx hb dX3_readWant_48 rfl (lv_at hl 1 rfl) ?_
          refine lv_iconst (v := zI 0) hx hb dX3_readWant_49 rfl ?_
          refine lv_bipush (v := zI 9) hx hb dX3_readWant_50 (by decide) ?_
          refine r_callVi (As := [.int (zI 0), .int (zI 9)]) (rest := []) (wr := [((q 4), .inr (7, [.int (zI nt), .ref (qt 0)])), ((qt 0), .inl (cI, 30, .inl (fun k => zI ((gg 0) k))))]) F hK hP hD hS hA hO hE (c_X3_isWhole hO b q u31.1 g hp32.1 0 9 (by omega) (by omega)) k_607 kv_X3_isWhole 2 rfl (by decide +kernel) ⟨Nat.le_of_ble_eq_true rfl, Nat.le_of_ble_eq_true rfl⟩ [2, 3, 4, 5] [0, 1] rfl rfl (by decide) (by decide) (by decide) 0 3 rfl rfl rfl hl.1 rfl (Nat.le_of_ble_eq_true rfl) dX3_readWant_52 ⟨Nat.le_of_ble_eq_true rfl, Nat.le_of_ble_eq_true rfl⟩ (w1 := fun u35 => [((q 4), .inr (7, [.int (zI nt), .ref (qt 0)])), ((qt 0), .inl (cI, 30, .inl (fun k => zI ((gg 0) k)))), (b, .inr (3, [.ref (q 0), .int (zI (u35.1 0)), .ref (q 3), .ref (q 4), .int (zI (u35.1 1)), .int (zI (u35.1 2)), .ref (q 1), .ref (q 2), .int (zI (u35.1 3)), .int (zI (u35.1 4)), .int (zI (u35.1 5)), .int (zI (u35.1 6)), .long (zL (u35.1 7)), .int (zI (u35.1 8))])), ((q 0), .inl (cB, 900, .inl (fun k => zI ((g 0) k)))), ((q 1), .inl (cJ, 19, .inr (.inl (fun k => zL ((g 1) k))))), ((q 2), .inl (cJ, 10, .inr (.inl (fun k => zL ((g 2) k)))))]) (fun _ => rfl) (fun r36 u35 H locs hp37 hP hD hS => ?_)
          obtain ⟨z38, rfl, h_z38⟩ := hp37
          have hx39 := h_z38.2
          have hf40 := h_z38.1
          refine rz_if_ne (tgt := 60) F (by omega) dX3_readWant_55 (by decide) (fun h55_40 => ?_) (fun h55_40 => ?_)
          · refine lv_aload_n hx hb dX3_readWant_60 rfl (lv_at hl 1 rfl) ?_
            refine r_get F hK hP 2 3 rfl rfl in_X3 (by decide) k_266 rfl dX3_readWant_61 ?_
            refine lv_aload_n hx hb dX3_readWant_64 rfl (lv_at hl 1 rfl) ?_
            refine r_get F hK hP 2 3 rfl rfl in_X3 (by decide) k_266 rfl dX3_readWant_65 ?_
            refine r_get F hK hP 0 0 rfl rfl in_X7 (by decide) k_202 rfl dX3_readWant_68 ?_
            refine lv_iload_n hx hb dX3_readWant_71 rfl (lv_at hl 0 rfl) ?_
            refine lv_aload_n hx hb dX3_readWant_72 rfl (lv_at hl 1 rfl) ?_
            refine r_get F hK hP 2 13 rfl rfl in_X3 (by decide) k_279 rfl dX3_readWant_73 ?_
            refine r_callVv (As := [.int (zI nt), .int (zI v1), .int (zI (u35.1 8))]) (rest := []) (wr := [(b, .inr (3, [.ref (q 0), .int (zI (u35.1 0)), .ref (q 3), .ref (q 4), .int (zI (u35.1 1)), .int (zI (u35.1 2)), .ref (q 1), .ref (q 2), .int (zI (u35.1 3)), .int (zI (u35.1 4)), .int (zI (u35.1 5)), .int (zI (u35.1 6)), .long (zL (u35.1 7)), .int (zI (u35.1 8))])), ((q 0), .inl (cB, 900, .inl (fun k => zI ((g 0) k)))), ((q 1), .inl (cJ, 19, .inr (.inl (fun k => zL ((g 1) k))))), ((q 2), .inl (cJ, 10, .inr (.inl (fun k => zL ((g 2) k)))))]) F hK hP hD hS hA hO hE (c_X7_put hO (q 4) qt nt gg hT9 nt v1 (u35.1 8) (by omega) (by omega)) k_631 kv_X7_put 3 rfl (by decide +kernel) ⟨Nat.le_of_ble_eq_true rfl, Nat.le_of_ble_eq_true rfl⟩ [0, 1] [2, 3, 4, 5] rfl rfl (by decide) (by decide) (by decide) 0 7 rfl rfl rfl hl.1 rfl (Nat.le_of_ble_eq_true rfl) dX3_readWant_76 ⟨Nat.le_of_ble_eq_true rfl, Nat.le_of_ble_eq_true rfl⟩ (w1 := fun u42 => [(b, .inr (3, [.ref (q 0), .int (zI (u35.1 0)), .ref (q 3), .ref (q 4), .int (zI (u35.1 1)), .int (zI (u35.1 2)), .ref (q 1), .ref (q 2), .int (zI (u35.1 3)), .int (zI (u35.1 4)), .int (zI (u35.1 5)), .int (zI (u35.1 6)), .long (zL (u35.1 7)), .int (zI (u35.1 8))])), ((q 0), .inl (cB, 900, .inl (fun k => zI ((g 0) k)))), ((q 1), .inl (cJ, 19, .inr (.inl (fun k => zL ((g 1) k))))), ((q 2), .inl (cJ, 10, .inr (.inl (fun k => zL ((g 2) k))))), ((q 4), .inr (7, [.int (zI nt), .ref (qt 0)])), ((qt 0), .inl (cI, 30, .inl (fun k => zI ((u42.2 0) k))))]) (fun _ => rfl) (fun  u42 H locs hp43 hP hD hS => ?_)
            have hf44 := hT9
            refine lv_aload_n hx hb dX3_readWant_79 rfl (lv_at hl 1 rfl) ?_
            refine r_callVv (As := []) (rest := []) (wr := [((q 4), .inr (7, [.int (zI nt), .ref (qt 0)])), ((qt 0), .inl (cI, 30, .inl (fun k => zI ((u42.2 0) k))))]) F hK hP hD hS hA hO hE (c_X3_advance hO b q u35.1 g h_z38.1) k_559 kv_X3_advance 0 rfl (by decide +kernel) ⟨Nat.le_of_ble_eq_true rfl, Nat.le_of_ble_eq_true rfl⟩ [0, 1, 2, 3] [4, 5] rfl rfl (by decide) (by decide) (by decide) 0 3 rfl rfl rfl hl.1 rfl (Nat.le_of_ble_eq_true rfl) dX3_readWant_80 ⟨Nat.le_of_ble_eq_true rfl, Nat.le_of_ble_eq_true rfl⟩ (w1 := fun u45 => [((q 4), .inr (7, [.int (zI nt), .ref (qt 0)])), ((qt 0), .inl (cI, 30, .inl (fun k => zI ((u42.2 0) k)))), (b, .inr (3, [.ref (q 0), .int (zI (u45.1 0)), .ref (q 3), .ref (q 4), .int (zI (u45.1 1)), .int (zI (u45.1 2)), .ref (q 1), .ref (q 2), .int (zI (u45.1 3)), .int (zI (u45.1 4)), .int (zI (u45.1 5)), .int (zI (u45.1 6)), .long (zL (u45.1 7)), .int (zI (u45.1 8))])), ((q 0), .inl (cB, 900, .inl (fun k => zI ((g 0) k)))), ((q 1), .inl (cJ, 19, .inr (.inl (fun k => zL ((g 1) k))))), ((q 2), .inl (cJ, 10, .inr (.inl (fun k => zL ((g 2) k)))))]) (fun _ => rfl) (fun  u45 H locs hp46 hP hD hS => ?_)
            have hx47 := hp46.2
            have hf48 := hp46.1
            refine lv_iinc (v := zI (v1 + 1)) (lv' := [(1, .int (zI (v1 + 1))), (0, .ref b)]) hx hb dX3_readWant_83 hl (k := 0) rfl (zI_add _ _) (by decide) rfl (fun ls hl => ?_)
            refine lv_goto (tgt := 20) hx hb dX3_readWant_86 (by decide) ?_
            have hP := bw_subP (isC := [2, 3, 4, 5, 0, 1]) (wc := [(b, .inr (3, [.ref (q 0), .int (zI (u45.1 0)), .ref (q 3), .ref (q 4), .int (zI (u45.1 1)), .int (zI (u45.1 2)), .ref (q 1), .ref (q 2), .int (zI (u45.1 3)), .int (zI (u45.1 4)), .int (zI (u45.1 5)), .int (zI (u45.1 6)), .long (zL (u45.1 7)), .int (zI (u45.1 8))])), ((q 0), .inl (cB, 900, .inl (fun k => zI ((g 0) k)))), ((q 1), .inl (cJ, 19, .inr (.inl (fun k => zL ((g 1) k))))), ((q 2), .inl (cJ, 10, .inr (.inl (fun k => zL ((g 2) k))))), ((q 4), .inr (7, [.int (zI nt), .ref (qt 0)])), ((qt 0), .inl (cI, 30, .inl (fun k => zI ((u42.2 0) k))))]) hP rfl
            have hD := hD.sub (ws' := [(b, .inr (3, [.ref (q 0), .int (zI (u45.1 0)), .ref (q 3), .ref (q 4), .int (zI (u45.1 1)), .int (zI (u45.1 2)), .ref (q 1), .ref (q 2), .int (zI (u45.1 3)), .int (zI (u45.1 4)), .int (zI (u45.1 5)), .int (zI (u45.1 6)), .long (zL (u45.1 7)), .int (zI (u45.1 8))])), ((q 0), .inl (cB, 900, .inl (fun k => zI ((g 0) k)))), ((q 1), .inl (cJ, 19, .inr (.inl (fun k => zL ((g 1) k))))), ((q 2), .inl (cJ, 10, .inr (.inl (fun k => zL ((g 2) k))))), ((q 4), .inr (7, [.int (zI nt), .ref (qt 0)])), ((qt 0), .inl (cI, 30, .inl (fun k => zI ((u42.2 0) k))))]) [2, 3, 4, 5, 0, 1] (by decide) rfl
            exact ih1 (v1 + 1) u45.1 u42.2 _ _ (by omega) (by omega) hp46.1 hT9 hP hD hS ls (lv_sub hl [0, 1] rfl)
          · refine lv_iconst (v := zI 0) hx hb dX3_readWant_58 rfl ?_
            exact ret (zI 0) (uC u35.1 (fun _ => nt), gg) _ _ _ _ _ _ rfl ⟨0, rfl, h_z38.1, (show WantsOk nt from by omega), by omega, (show u35.1 0 = i 0 ∧ u35.1 3 = i 3 from by omega)⟩ (bw_subP (isC := [2, 3, 4, 5, 0, 1]) hP rfl) (hD.sub [2, 3, 4, 5, 0, 1] (by decide) rfl) hS (Nat.le_of_ble_eq_true rfl) (Nat.le_of_ble_eq_true rfl) dX3_readWant_59
        · refine lv_aload_n hx hb dX3_readWant_29 rfl (lv_at hl 1 rfl) ?_
          refine r_get F hK hP 0 9 rfl rfl in_X3 (by decide) k_275 rfl dX3_readWant_30 ?_
          refine lv_bipush (v := zI 22) hx hb dX3_readWant_33 (by decide) ?_
          refine rz_icmp_eq (tgt := 44) F (by omega) (by omega) dX3_readWant_35 (by decide) (fun h35_48 => ?_) (fun h35_48 => ?_)
          · refine lv_aload_n hx hb dX3_readWant_44 rfl (lv_at hl 1 rfl) ?_
            refine r_callVv (As := []) (rest := []) (wr := [((q 4), .inr (7, [.int (zI nt), .ref (qt 0)])), ((qt 0), .inl (cI, 30, .inl (fun k => zI ((gg 0) k))))]) F hK hP hD hS hA hO hE (c_X3_advance hO b q ii g hG) k_559 kv_X3_advance 0 rfl (by decide +kernel) ⟨Nat.le_of_ble_eq_true rfl, Nat.le_of_ble_eq_true rfl⟩ [0, 1, 2, 3] [4, 5] rfl rfl (by decide) (by decide) (by decide) 0 3 rfl rfl rfl hl.1 rfl (Nat.le_of_ble_eq_true rfl) dX3_readWant_45 ⟨Nat.le_of_ble_eq_true rfl, Nat.le_of_ble_eq_true rfl⟩ (w1 := fun u50 => [((q 4), .inr (7, [.int (zI nt), .ref (qt 0)])), ((qt 0), .inl (cI, 30, .inl (fun k => zI ((gg 0) k)))), (b, .inr (3, [.ref (q 0), .int (zI (u50.1 0)), .ref (q 3), .ref (q 4), .int (zI (u50.1 1)), .int (zI (u50.1 2)), .ref (q 1), .ref (q 2), .int (zI (u50.1 3)), .int (zI (u50.1 4)), .int (zI (u50.1 5)), .int (zI (u50.1 6)), .long (zL (u50.1 7)), .int (zI (u50.1 8))])), ((q 0), .inl (cB, 900, .inl (fun k => zI ((g 0) k)))), ((q 1), .inl (cJ, 19, .inr (.inl (fun k => zL ((g 1) k))))), ((q 2), .inl (cJ, 10, .inr (.inl (fun k => zL ((g 2) k)))))]) (fun _ => rfl) (fun  u50 H locs hp51 hP hD hS => ?_)
            have hx52 := hp51.2
            have hf53 := hp51.1
            refine lv_aload_n hx hb dX3_readWant_48 rfl (lv_at hl 1 rfl) ?_
            refine lv_iconst (v := zI 0) hx hb dX3_readWant_49 rfl ?_
            refine lv_bipush (v := zI 9) hx hb dX3_readWant_50 (by decide) ?_
            refine r_callVi (As := [.int (zI 0), .int (zI 9)]) (rest := []) (wr := [((q 4), .inr (7, [.int (zI nt), .ref (qt 0)])), ((qt 0), .inl (cI, 30, .inl (fun k => zI ((gg 0) k))))]) F hK hP hD hS hA hO hE (c_X3_isWhole hO b q u50.1 g hp51.1 0 9 (by omega) (by omega)) k_607 kv_X3_isWhole 2 rfl (by decide +kernel) ⟨Nat.le_of_ble_eq_true rfl, Nat.le_of_ble_eq_true rfl⟩ [2, 3, 4, 5] [0, 1] rfl rfl (by decide) (by decide) (by decide) 0 3 rfl rfl rfl hl.1 rfl (Nat.le_of_ble_eq_true rfl) dX3_readWant_52 ⟨Nat.le_of_ble_eq_true rfl, Nat.le_of_ble_eq_true rfl⟩ (w1 := fun u54 => [((q 4), .inr (7, [.int (zI nt), .ref (qt 0)])), ((qt 0), .inl (cI, 30, .inl (fun k => zI ((gg 0) k)))), (b, .inr (3, [.ref (q 0), .int (zI (u54.1 0)), .ref (q 3), .ref (q 4), .int (zI (u54.1 1)), .int (zI (u54.1 2)), .ref (q 1), .ref (q 2), .int (zI (u54.1 3)), .int (zI (u54.1 4)), .int (zI (u54.1 5)), .int (zI (u54.1 6)), .long (zL (u54.1 7)), .int (zI (u54.1 8))])), ((q 0), .inl (cB, 900, .inl (fun k => zI ((g 0) k)))), ((q 1), .inl (cJ, 19, .inr (.inl (fun k => zL ((g 1) k))))), ((q 2), .inl (cJ, 10, .inr (.inl (fun k => zL ((g 2) k)))))]) (fun _ => rfl) (fun r55 u54 H locs hp56 hP hD hS => ?_)
            obtain ⟨z57, rfl, h_z57⟩ := hp56
            have hx58 := h_z57.2
            have hf59 := h_z57.1
            refine rz_if_ne (tgt := 60) F (by omega) dX3_readWant_55 (by decide) (fun h55_59 => ?_) (fun h55_59 => ?_)
            · refine lv_aload_n hx hb dX3_readWant_60 rfl (lv_at hl 1 rfl) ?_
              refine r_get F hK hP 2 3 rfl rfl in_X3 (by decide) k_266 rfl dX3_readWant_61 ?_
              refine lv_aload_n hx hb dX3_readWant_64 rfl (lv_at hl 1 rfl) ?_
              refine r_get F hK hP 2 3 rfl rfl in_X3 (by decide) k_266 rfl dX3_readWant_65 ?_
              refine r_get F hK hP 0 0 rfl rfl in_X7 (by decide) k_202 rfl dX3_readWant_68 ?_
              refine lv_iload_n hx hb dX3_readWant_71 rfl (lv_at hl 0 rfl) ?_
              refine lv_aload_n hx hb dX3_readWant_72 rfl (lv_at hl 1 rfl) ?_
              refine r_get F hK hP 2 13 rfl rfl in_X3 (by decide) k_279 rfl dX3_readWant_73 ?_
              refine r_callVv (As := [.int (zI nt), .int (zI v1), .int (zI (u54.1 8))]) (rest := []) (wr := [(b, .inr (3, [.ref (q 0), .int (zI (u54.1 0)), .ref (q 3), .ref (q 4), .int (zI (u54.1 1)), .int (zI (u54.1 2)), .ref (q 1), .ref (q 2), .int (zI (u54.1 3)), .int (zI (u54.1 4)), .int (zI (u54.1 5)), .int (zI (u54.1 6)), .long (zL (u54.1 7)), .int (zI (u54.1 8))])), ((q 0), .inl (cB, 900, .inl (fun k => zI ((g 0) k)))), ((q 1), .inl (cJ, 19, .inr (.inl (fun k => zL ((g 1) k))))), ((q 2), .inl (cJ, 10, .inr (.inl (fun k => zL ((g 2) k)))))]) F hK hP hD hS hA hO hE (c_X7_put hO (q 4) qt nt gg hT9 nt v1 (u54.1 8) (by omega) (by omega)) k_631 kv_X7_put 3 rfl (by decide +kernel) ⟨Nat.le_of_ble_eq_true rfl, Nat.le_of_ble_eq_true rfl⟩ [0, 1] [2, 3, 4, 5] rfl rfl (by decide) (by decide) (by decide) 0 7 rfl rfl rfl hl.1 rfl (Nat.le_of_ble_eq_true rfl) dX3_readWant_76 ⟨Nat.le_of_ble_eq_true rfl, Nat.le_of_ble_eq_true rfl⟩ (w1 := fun u61 => [(b, .inr (3, [.ref (q 0), .int (zI (u54.1 0)), .ref (q 3), .ref (q 4), .int (zI (u54.1 1)), .int (zI (u54.1 2)), .ref (q 1), .ref (q 2), .int (zI (u54.1 3)), .int (zI (u54.1 4)), .int (zI (u54.1 5)), .int (zI (u54.1 6)), .long (zL (u54.1 7)), .int (zI (u54.1 8))])), ((q 0), .inl (cB, 900, .inl (fun k => zI ((g 0) k)))), ((q 1), .inl (cJ, 19, .inr (.inl (fun k => zL ((g 1) k))))), ((q 2), .inl (cJ, 10, .inr (.inl (fun k => zL ((g 2) k))))), ((q 4), .inr (7, [.int (zI nt), .ref (qt 0)])), ((qt 0), .inl (cI, 30, .inl (fun k => zI ((u61.2 0) k))))]) (fun _ => rfl) (fun  u61 H locs hp62 hP hD hS => ?_)
              have hf63 := hT9
              refine lv_aload_n hx hb dX3_readWant_79 rfl (lv_at hl 1 rfl) ?_
              refine r_callVv (As := []) (rest := []) (wr := [((q 4), .inr (7, [.int (zI nt), .ref (qt 0)])), ((qt 0), .inl (cI, 30, .inl (fun k => zI ((u61.2 0) k))))]) F hK hP hD hS hA hO hE (c_X3_advance hO b q u54.1 g h_z57.1) k_559 kv_X3_advance 0 rfl (by decide +kernel) ⟨Nat.le_of_ble_eq_true rfl, Nat.le_of_ble_eq_true rfl⟩ [0, 1, 2, 3] [4, 5] rfl rfl (by decide) (by decide) (by decide) 0 3 rfl rfl rfl hl.1 rfl (Nat.le_of_ble_eq_true rfl) dX3_readWant_80 ⟨Nat.le_of_ble_eq_true rfl, Nat.le_of_ble_eq_true rfl⟩ (w1 := fun u64 => [((q 4), .inr (7, [.int (zI nt), .ref (qt 0)])), ((qt 0), .inl (cI, 30, .inl (fun k => zI ((u61.2 0) k)))), (b, .inr (3, [.ref (q 0), .int (zI (u64.1 0)), .ref (q 3), .ref (q 4), .int (zI (u64.1 1)), .int (zI (u64.1 2)), .ref (q 1), .ref (q 2), .int (zI (u64.1 3)), .int (zI (u64.1 4)), .int (zI (u64.1 5)), .int (zI (u64.1 6)), .long (zL (u64.1 7)), .int (zI (u64.1 8))])), ((q 0), .inl (cB, 900, .inl (fun k => zI ((g 0) k)))), ((q 1), .inl (cJ, 19, .inr (.inl (fun k => zL ((g 1) k))))), ((q 2), .inl (cJ, 10, .inr (.inl (fun k => zL ((g 2) k)))))]) (fun _ => rfl) (fun  u64 H locs hp65 hP hD hS => ?_)
              have hx66 := hp65.2
              have hf67 := hp65.1
              refine lv_iinc (v := zI (v1 + 1)) (lv' := [(1, .int (zI (v1 + 1))), (0, .ref b)]) hx hb dX3_readWant_83 hl (k := 0) rfl (zI_add _ _) (by decide) rfl (fun ls hl => ?_)
              refine lv_goto (tgt := 20) hx hb dX3_readWant_86 (by decide) ?_
              have hP := bw_subP (isC := [2, 3, 4, 5, 0, 1]) (wc := [(b, .inr (3, [.ref (q 0), .int (zI (u64.1 0)), .ref (q 3), .ref (q 4), .int (zI (u64.1 1)), .int (zI (u64.1 2)), .ref (q 1), .ref (q 2), .int (zI (u64.1 3)), .int (zI (u64.1 4)), .int (zI (u64.1 5)), .int (zI (u64.1 6)), .long (zL (u64.1 7)), .int (zI (u64.1 8))])), ((q 0), .inl (cB, 900, .inl (fun k => zI ((g 0) k)))), ((q 1), .inl (cJ, 19, .inr (.inl (fun k => zL ((g 1) k))))), ((q 2), .inl (cJ, 10, .inr (.inl (fun k => zL ((g 2) k))))), ((q 4), .inr (7, [.int (zI nt), .ref (qt 0)])), ((qt 0), .inl (cI, 30, .inl (fun k => zI ((u61.2 0) k))))]) hP rfl
              have hD := hD.sub (ws' := [(b, .inr (3, [.ref (q 0), .int (zI (u64.1 0)), .ref (q 3), .ref (q 4), .int (zI (u64.1 1)), .int (zI (u64.1 2)), .ref (q 1), .ref (q 2), .int (zI (u64.1 3)), .int (zI (u64.1 4)), .int (zI (u64.1 5)), .int (zI (u64.1 6)), .long (zL (u64.1 7)), .int (zI (u64.1 8))])), ((q 0), .inl (cB, 900, .inl (fun k => zI ((g 0) k)))), ((q 1), .inl (cJ, 19, .inr (.inl (fun k => zL ((g 1) k))))), ((q 2), .inl (cJ, 10, .inr (.inl (fun k => zL ((g 2) k))))), ((q 4), .inr (7, [.int (zI nt), .ref (qt 0)])), ((qt 0), .inl (cI, 30, .inl (fun k => zI ((u61.2 0) k))))]) [2, 3, 4, 5, 0, 1] (by decide) rfl
              exact ih1 (v1 + 1) u64.1 u61.2 _ _ (by omega) (by omega) hp65.1 hT9 hP hD hS ls (lv_sub hl [0, 1] rfl)
            · refine lv_iconst (v := zI 0) hx hb dX3_readWant_58 rfl ?_
              exact ret (zI 0) (uC u54.1 (fun _ => nt), gg) _ _ _ _ _ _ rfl ⟨0, rfl, h_z57.1, (show WantsOk nt from by omega), by omega, (show u54.1 0 = i 0 ∧ u54.1 3 = i 3 from by omega)⟩ (bw_subP (isC := [2, 3, 4, 5, 0, 1]) hP rfl) (hD.sub [2, 3, 4, 5, 0, 1] (by decide) rfl) hS (Nat.le_of_ble_eq_true rfl) (Nat.le_of_ble_eq_true rfl) dX3_readWant_59
          · refine lv_aload_n hx hb dX3_readWant_38 rfl (lv_at hl 1 rfl) ?_
            refine lv_iconst (v := zI 1) hx hb dX3_readWant_39 rfl ?_
            refine r_callVi (As := [.int (zI 1)]) (rest := []) (wr := [((q 4), .inr (7, [.int (zI nt), .ref (qt 0)])), ((qt 0), .inl (cI, 30, .inl (fun k => zI ((gg 0) k))))]) F hK hP hD hS hA hO hE (c_X3_fail hO b q ii g hG 1) k_575 kv_X3_fail 1 rfl (by decide +kernel) ⟨Nat.le_of_ble_eq_true rfl, Nat.le_of_ble_eq_true rfl⟩ [0, 1, 2, 3] [4, 5] rfl rfl (by decide) (by decide) (by decide) 0 3 rfl rfl rfl hl.1 rfl (Nat.le_of_ble_eq_true rfl) dX3_readWant_40 ⟨Nat.le_of_ble_eq_true rfl, Nat.le_of_ble_eq_true rfl⟩ (w1 := fun u68 => [((q 4), .inr (7, [.int (zI nt), .ref (qt 0)])), ((qt 0), .inl (cI, 30, .inl (fun k => zI ((gg 0) k)))), (b, .inr (3, [.ref (q 0), .int (zI (u68.1 0)), .ref (q 3), .ref (q 4), .int (zI (u68.1 1)), .int (zI (u68.1 2)), .ref (q 1), .ref (q 2), .int (zI (u68.1 3)), .int (zI (u68.1 4)), .int (zI (u68.1 5)), .int (zI (u68.1 6)), .long (zL (u68.1 7)), .int (zI (u68.1 8))])), ((q 0), .inl (cB, 900, .inl (fun k => zI ((g 0) k)))), ((q 1), .inl (cJ, 19, .inr (.inl (fun k => zL ((g 1) k))))), ((q 2), .inl (cJ, 10, .inr (.inl (fun k => zL ((g 2) k)))))]) (fun _ => rfl) (fun r69 u68 H locs hp70 hP hD hS => ?_)
            obtain ⟨z71, rfl, h_z71⟩ := hp70
            have hx72 := h_z71.2
            have hf73 := h_z71.1
            exact ret (zI z71) (uC u68.1 (fun _ => nt), gg) _ _ _ _ _ _ (zI_nz (by omega)) ⟨z71, rfl, h_z71.1, (show WantsOk nt from by omega), by omega, (show u68.1 0 = i 0 ∧ u68.1 3 = i 3 from by omega)⟩ (bw_subP (isC := [2, 3, 4, 5, 0, 1]) hP rfl) (hD.sub [2, 3, 4, 5, 0, 1] (by decide) rfl) hS (Nat.le_of_ble_eq_true rfl) (Nat.le_of_ble_eq_true rfl) dX3_readWant_43
  · refine lv_aload_n hx hb dX3_readWant_12 rfl (lv_at hl 0 rfl) ?_
    refine lv_iconst (v := zI 5) hx hb dX3_readWant_13 rfl ?_
    refine r_callVi (As := [.int (zI 5)]) (rest := []) (wr := [((q 4), .inr (7, [.int (zI nt), .ref (qt 0)])), ((qt 0), .inl (cI, 30, .inl (fun k => zI ((gt 0) k))))]) F hK hP hD hS hA hO hE (c_X3_fail hO b q i g hY 5) k_575 kv_X3_fail 1 rfl (by decide +kernel) ⟨Nat.le_of_ble_eq_true rfl, Nat.le_of_ble_eq_true rfl⟩ [0, 1, 2, 3] [4, 5] rfl rfl (by decide) (by decide) (by decide) 0 3 rfl rfl rfl hl.1 rfl (Nat.le_of_ble_eq_true rfl) dX3_readWant_14 ⟨Nat.le_of_ble_eq_true rfl, Nat.le_of_ble_eq_true rfl⟩ (w1 := fun u74 => [((q 4), .inr (7, [.int (zI nt), .ref (qt 0)])), ((qt 0), .inl (cI, 30, .inl (fun k => zI ((gt 0) k)))), (b, .inr (3, [.ref (q 0), .int (zI (u74.1 0)), .ref (q 3), .ref (q 4), .int (zI (u74.1 1)), .int (zI (u74.1 2)), .ref (q 1), .ref (q 2), .int (zI (u74.1 3)), .int (zI (u74.1 4)), .int (zI (u74.1 5)), .int (zI (u74.1 6)), .long (zL (u74.1 7)), .int (zI (u74.1 8))])), ((q 0), .inl (cB, 900, .inl (fun k => zI ((g 0) k)))), ((q 1), .inl (cJ, 19, .inr (.inl (fun k => zL ((g 1) k))))), ((q 2), .inl (cJ, 10, .inr (.inl (fun k => zL ((g 2) k)))))]) (fun _ => rfl) (fun r75 u74 H locs hp76 hP hD hS => ?_)
    obtain ⟨z77, rfl, h_z77⟩ := hp76
    have hx78 := h_z77.2
    have hf79 := h_z77.1
    exact ret (zI z77) (uC u74.1 (fun _ => nt), gt) _ _ _ _ _ _ (zI_nz (by omega)) ⟨z77, rfl, h_z77.1, (show WantsOk nt from by omega), by omega, (show u74.1 0 = i 0 ∧ u74.1 3 = i 3 from by omega)⟩ (bw_subP (isC := [2, 3, 4, 5, 0, 1]) hP rfl) (hD.sub [2, 3, 4, 5, 0, 1] (by decide) rfl) hS (Nat.le_of_ble_eq_true rfl) (Nat.le_of_ble_eq_true rfl) dX3_readWant_17
