theorem dX3_readActs_0 : decode cX3_readActs 0 = .ok (.iconst 0, 1) := by decide +kernel
theorem dX3_readActs_1 : decode cX3_readActs 1 = .ok (.istore_n 2, 1) := by decide +kernel
theorem dX3_readActs_2 : decode cX3_readActs 2 = .ok (.iload_n 2, 1) := by decide +kernel
theorem dX3_readActs_3 : decode cX3_readActs 3 = .ok (.iconst 4, 1) := by decide +kernel
theorem dX3_readActs_4 : decode cX3_readActs 4 = .ok (.if_icmp .gt 86, 3) := by decide +kernel
theorem dX3_readActs_90 : decode cX3_readActs 90 = .ok (.iconst 1, 1) := by decide +kernel
theorem dX3_readActs_91 : decode cX3_readActs 91 = .ok (.ireturn, 1) := by decide +kernel
theorem dX3_readActs_7 : decode cX3_readActs 7 = .ok (.aload_n 0, 1) := by decide +kernel
theorem dX3_readActs_8 : decode cX3_readActs 8 = .ok (.invokevirtual 85, 3) := by decide +kernel
theorem dX3_readActs_11 : decode cX3_readActs 11 = .ok (.aload_n 0, 1) := by decide +kernel
theorem dX3_readActs_12 : decode cX3_readActs 12 = .ok (.getfield 49, 3) := by decide +kernel
theorem dX3_readActs_15 : decode cX3_readActs 15 = .ok (.iconst 4, 1) := by decide +kernel
theorem dX3_readActs_16 : decode cX3_readActs 16 = .ok (.if_icmp .lt 12, 3) := by decide +kernel
theorem dX3_readActs_28 : decode cX3_readActs 28 = .ok (.aload_n 0, 1) := by decide +kernel
theorem dX3_readActs_29 : decode cX3_readActs 29 = .ok (.iconst 1, 1) := by decide +kernel
theorem dX3_readActs_30 : decode cX3_readActs 30 = .ok (.invokevirtual 98, 3) := by decide +kernel
theorem dX3_readActs_33 : decode cX3_readActs 33 = .ok (.ireturn, 1) := by decide +kernel
theorem dX3_readActs_19 : decode cX3_readActs 19 = .ok (.aload_n 0, 1) := by decide +kernel
theorem dX3_readActs_20 : decode cX3_readActs 20 = .ok (.getfield 49, 3) := by decide +kernel
theorem dX3_readActs_23 : decode cX3_readActs 23 = .ok (.bipush 7, 2) := by decide +kernel
theorem dX3_readActs_25 : decode cX3_readActs 25 = .ok (.if_icmp .le 9, 3) := by decide +kernel
theorem dX3_readActs_34 : decode cX3_readActs 34 = .ok (.iload_n 2, 1) := by decide +kernel
theorem dX3_readActs_35 : decode cX3_readActs 35 = .ok (.iconst 4, 1) := by decide +kernel
theorem dX3_readActs_36 : decode cX3_readActs 36 = .ok (.if_icmp .lt 9, 3) := by decide +kernel
theorem dX3_readActs_45 : decode cX3_readActs 45 = .ok (.aload_n 0, 1) := by decide +kernel
theorem dX3_readActs_46 : decode cX3_readActs 46 = .ok (.iload_n 1, 1) := by decide +kernel
theorem dX3_readActs_47 : decode cX3_readActs 47 = .ok (.iconst 4, 1) := by decide +kernel
theorem dX3_readActs_48 : decode cX3_readActs 48 = .ok (.imul, 1) := by decide +kernel
theorem dX3_readActs_49 : decode cX3_readActs 49 = .ok (.iload_n 2, 1) := by decide +kernel
theorem dX3_readActs_50 : decode cX3_readActs 50 = .ok (.iadd, 1) := by decide +kernel
theorem dX3_readActs_51 : decode cX3_readActs 51 = .ok (.invokevirtual 123, 3) := by decide +kernel
theorem k_599 : Cond.methodLink RX3 123 yX3_readAct ∈ bw_T := bw_m 599 (by decide +kernel) rfl
theorem kv_X3_readAct : bw_KV RX3 yX3_readAct (Cond.code yX3_readAct cX3_readAct 3 (some .boolean)) := ⟨bw_m 601 (by decide +kernel) rfl, bw_m 11 (by decide +kernel) rfl, bw_m 95 (by decide +kernel) rfl, bw_m 602 (by decide +kernel) rfl⟩
theorem dX3_readActs_54 : decode cX3_readActs 54 = .ok (.ifCond .ne 5, 3) := by decide +kernel
theorem dX3_readActs_59 : decode cX3_readActs 59 = .ok (.aload_n 0, 1) := by decide +kernel
theorem dX3_readActs_60 : decode cX3_readActs 60 = .ok (.getfield 22, 3) := by decide +kernel
theorem dX3_readActs_63 : decode cX3_readActs 63 = .ok (.getfield 126, 3) := by decide +kernel
theorem k_155 : Cond.fieldLink RX3 126 "BurntWays$Net" "actCounts" "[I" ∈ bw_T := bw_m 155 (by decide +kernel) rfl
theorem dX3_readActs_66 : decode cX3_readActs 66 = .ok (.iload_n 1, 1) := by decide +kernel
theorem dX3_readActs_67 : decode cX3_readActs 67 = .ok (.dup2, 1) := by decide +kernel
theorem dX3_readActs_68 : decode cX3_readActs 68 = .ok (.iaload, 1) := by decide +kernel
theorem dX3_readActs_69 : decode cX3_readActs 69 = .ok (.iconst 1, 1) := by decide +kernel
theorem dX3_readActs_70 : decode cX3_readActs 70 = .ok (.iadd, 1) := by decide +kernel
theorem dX3_readActs_71 : decode cX3_readActs 71 = .ok (.iastore, 1) := by decide +kernel
theorem dX3_readActs_72 : decode cX3_readActs 72 = .ok (.aload_n 0, 1) := by decide +kernel
theorem dX3_readActs_73 : decode cX3_readActs 73 = .ok (.getfield 49, 3) := by decide +kernel
theorem dX3_readActs_76 : decode cX3_readActs 76 = .ok (.bipush 22, 2) := by decide +kernel
theorem dX3_readActs_78 : decode cX3_readActs 78 = .ok (.if_icmp .eq 6, 3) := by decide +kernel
theorem dX3_readActs_84 : decode cX3_readActs 84 = .ok (.iinc 2 1, 3) := by decide +kernel
theorem dX3_readActs_87 : decode cX3_readActs 87 = .ok (.goto (-85), 3) := by decide +kernel
theorem dX3_readActs_81 : decode cX3_readActs 81 = .ok (.goto 9, 3) := by decide +kernel
theorem dX3_readActs_57 : decode cX3_readActs 57 = .ok (.iconst 0, 1) := by decide +kernel
theorem dX3_readActs_58 : decode cX3_readActs 58 = .ok (.ireturn, 1) := by decide +kernel
theorem dX3_readActs_39 : decode cX3_readActs 39 = .ok (.aload_n 0, 1) := by decide +kernel
theorem dX3_readActs_40 : decode cX3_readActs 40 = .ok (.iconst 5, 1) := by decide +kernel
theorem dX3_readActs_41 : decode cX3_readActs 41 = .ok (.invokevirtual 98, 3) := by decide +kernel
theorem dX3_readActs_44 : decode cX3_readActs 44 = .ok (.ireturn, 1) := by decide +kernel
abbrev rm_X3_readActs : Room := { frames := 3, cells := 0, slots := 0, locals := 65 }
set_option maxRecDepth 100000 in
set_option maxHeartbeats 8000000 in
theorem c_X3_readActs {l : Launch} {E : (Nat → Prop) → State → Prop} (hO : bw_Ok E) {G : va_G} {cI cB cJ cN cW : ClassId} (b : Nat) (q : Nat → Nat) (i : Nat → Int) (g : Nat → Nat → Int) (hY : ReaderOk i) (qn : Nat → Nat) (n : Int) (gn : Nat → Nat → Int) (hN : NetW n gn) (x : Int) (hx9 : 0 ≤ x ∧ x < 10) (hc9 : gn 2 x.toNat = 0) : bw_Ci (S := zU) l yX3_readActs (bw_ws (Cond.code yX3_readActs cX3_readActs 3 (some .boolean))) rm_X3_readActs E G (bw_kt cI cB cJ cN cW) [.ref b, .int (zI x)] [(b, .inr (3, [.ref (q 0), .int (zI (i 0)), .ref (q 3), .ref (q 4), .int (zI (i 1)), .int (zI (i 2)), .ref (q 1), .ref (q 2), .int (zI (i 3)), .int (zI (i 4)), .int (zI (i 5)), .int (zI (i 6)), .long (zL (i 7)), .int (zI (i 8))])), ((q 0), .inl (cB, 900, .inl (fun k => zI ((g 0) k)))), ((q 1), .inl (cJ, 19, .inr (.inl (fun k => zL ((g 1) k))))), ((q 2), .inl (cJ, 10, .inr (.inl (fun k => zL ((g 2) k))))), ((q 3), .inr (2, [.int (zI n), .ref (qn 0), .ref (qn 1), .ref (qn 2), .ref (qn 3), .ref (qn 4), .ref (qn 5), .ref (qn 6), .ref (qn 7)])), ((qn 0), .inl (cI, 10, .inl (fun k => zI ((gn 0) k)))), ((qn 1), .inl (cI, 10, .inl (fun k => zI ((gn 1) k)))), ((qn 2), .inl (cI, 10, .inl (fun k => zI ((gn 2) k)))), ((qn 3), .inl (cI, 40, .inl (fun k => zI ((gn 3) k)))), ((qn 4), .inl (cI, 40, .inl (fun k => zI ((gn 4) k)))), ((qn 5), .inl (cI, 40, .inl (fun k => zI ((gn 5) k)))), ((qn 6), .inl (cI, 20, .inl (fun k => zI ((gn 6) k)))), ((qn 7), .inl (cI, 20, .inl (fun k => zI ((gn 7) k))))] (fun r u => ∃ z : Int, r = zI z ∧ ReaderOk u.1 ∧ NetW n u.2 ∧ (z = 0 ∨ z = 1) ∧ (u.1 0 = i 0 ∧ u.1 3 = i 3) ∧ (u.2 0 = gn 0 ∧ u.2 1 = gn 1 ∧ ∀ k, k ≠ x.toNat → u.2 2 k = gn 2 k)) (fun u => [(b, .inr (3, [.ref (q 0), .int (zI (u.1 0)), .ref (q 3), .ref (q 4), .int (zI (u.1 1)), .int (zI (u.1 2)), .ref (q 1), .ref (q 2), .int (zI (u.1 3)), .int (zI (u.1 4)), .int (zI (u.1 5)), .int (zI (u.1 6)), .long (zL (u.1 7)), .int (zI (u.1 8))])), ((q 0), .inl (cB, 900, .inl (fun k => zI ((g 0) k)))), ((q 1), .inl (cJ, 19, .inr (.inl (fun k => zL ((g 1) k))))), ((q 2), .inl (cJ, 10, .inr (.inl (fun k => zL ((g 2) k))))), ((q 3), .inr (2, [.int (zI n), .ref (qn 0), .ref (qn 1), .ref (qn 2), .ref (qn 3), .ref (qn 4), .ref (qn 5), .ref (qn 6), .ref (qn 7)])), ((qn 0), .inl (cI, 10, .inl (fun k => zI ((u.2 0) k)))), ((qn 1), .inl (cI, 10, .inl (fun k => zI ((u.2 1) k)))), ((qn 2), .inl (cI, 10, .inl (fun k => zI ((u.2 2) k)))), ((qn 3), .inl (cI, 40, .inl (fun k => zI ((u.2 3) k)))), ((qn 4), .inl (cI, 40, .inl (fun k => zI ((u.2 4) k)))), ((qn 5), .inl (cI, 40, .inl (fun k => zI ((u.2 5) k)))), ((qn 6), .inl (cI, 20, .inl (fun k => zI ((u.2 6) k)))), ((qn 7), .inl (cI, 20, .inl (fun k => zI ((u.2 7) k))))]) := by
  refine bw_Ci.of (cc := cX3_readActs) (maxL := 3) (ty := .boolean) (by decide) rfl (Nat.le_of_ble_eq_true rfl) ?_
  intro p e s m below meth c A Q hx hb hml hts hown hin hK hA hS hP hD hE ret ls hl
  have F : CallFix p m c cX3_readActs 3 s ([.ref b, .int (zI x)] : List Value).toArray bw_T RX3 := ⟨hx, hb, hml, hown, fun w h => hts w (List.mem_cons_of_mem _ h)⟩
  replace hl : lv_has ls 3 [(0, .ref b), (1, .int (zI x))] := hl
  have hN0 := hN.1
  refine lv_iconst (v := zI 0) hx hb dX3_readActs_0 rfl ?_
  refine lv_istore_n (lv' := [(2, .int (zI 0)), (0, .ref b), (1, .int (zI x))]) hx hb dX3_readActs_1 rfl hl (by decide) rfl (fun ls hl => ?_)
  refine W.widen (k := 0) (n := 0) (Nat.le_of_ble_eq_true rfl) (Nat.le_of_ble_eq_true rfl) ?_
  refine (?_ : ∀ (n9_1 : Nat) (v2 : Int) (ii : Nat → Int) (gg : Nat → Nat → Int) (H : Heap) (locs : List Loc), (0 ≤ v2 ∧ v2 ≤ 5 ∧ ii 0 = i 0 ∧ ii 3 = i 3) → (5 - v2 : Int).toNat < n9_1 → (ReaderOk ii) → (NetW n gg) → (gg 2 x.toNat = v2 ∧ gg 0 = gn 0 ∧ gg 1 = gn 1 ∧ ∀ k, k ≠ x.toNat → gg 2 k = gn 2 k) → va_P G vwCl [(b, .inr (3, [.ref (q 0), .int (zI (ii 0)), .ref (q 3), .ref (q 4), .int (zI (ii 1)), .int (zI (ii 2)), .ref (q 1), .ref (q 2), .int (zI (ii 3)), .int (zI (ii 4)), .int (zI (ii 5)), .int (zI (ii 6)), .long (zL (ii 7)), .int (zI (ii 8))])), ((q 0), .inl (cB, 900, .inl (fun k => zI ((g 0) k)))), ((q 1), .inl (cJ, 19, .inr (.inl (fun k => zL ((g 1) k))))), ((q 2), .inl (cJ, 10, .inr (.inl (fun k => zL ((g 2) k))))), ((q 3), .inr (2, [.int (zI n), .ref (qn 0), .ref (qn 1), .ref (qn 2), .ref (qn 3), .ref (qn 4), .ref (qn 5), .ref (qn 6), .ref (qn 7)])), ((qn 0), .inl (cI, 10, .inl (fun k => zI ((gg 0) k)))), ((qn 1), .inl (cI, 10, .inl (fun k => zI ((gg 1) k)))), ((qn 2), .inl (cI, 10, .inl (fun k => zI ((gg 2) k)))), ((qn 3), .inl (cI, 40, .inl (fun k => zI ((gg 3) k)))), ((qn 4), .inl (cI, 40, .inl (fun k => zI ((gg 4) k)))), ((qn 5), .inl (cI, 40, .inl (fun k => zI ((gg 5) k)))), ((qn 6), .inl (cI, 20, .inl (fun k => zI ((gg 6) k)))), ((qn 7), .inl (cI, 20, .inl (fun k => zI ((gg 7) k))))] H → va_D A [(b, .inr (3, [.ref (q 0), .int (zI (ii 0)), .ref (q 3), .ref (q 4), .int (zI (ii 1)), .int (zI (ii 2)), .ref (q 1), .ref (q 2), .int (zI (ii 3)), .int (zI (ii 4)), .int (zI (ii 5)), .int (zI (ii 6)), .long (zL (ii 7)), .int (zI (ii 8))])), ((q 0), .inl (cB, 900, .inl (fun k => zI ((g 0) k)))), ((q 1), .inl (cJ, 19, .inr (.inl (fun k => zL ((g 1) k))))), ((q 2), .inl (cJ, 10, .inr (.inl (fun k => zL ((g 2) k))))), ((q 3), .inr (2, [.int (zI n), .ref (qn 0), .ref (qn 1), .ref (qn 2), .ref (qn 3), .ref (qn 4), .ref (qn 5), .ref (qn 6), .ref (qn 7)])), ((qn 0), .inl (cI, 10, .inl (fun k => zI ((gg 0) k)))), ((qn 1), .inl (cI, 10, .inl (fun k => zI ((gg 1) k)))), ((qn 2), .inl (cI, 10, .inl (fun k => zI ((gg 2) k)))), ((qn 3), .inl (cI, 40, .inl (fun k => zI ((gg 3) k)))), ((qn 4), .inl (cI, 40, .inl (fun k => zI ((gg 4) k)))), ((qn 5), .inl (cI, 40, .inl (fun k => zI ((gg 5) k)))), ((qn 6), .inl (cI, 20, .inl (fun k => zI ((gg 6) k)))), ((qn 7), .inl (cI, 20, .inl (fun k => zI ((gg 7) k))))] → va_S A s.heap H locs → ∀ ls : Array Slot, lv_has ls 3 [(2, .int (zI v2)), (0, .ref b), (1, .int (zI x))] → W p l e rm_X3_readActs s m ([.ref b, .int (zI x)] : List Value).toArray below meth c H locs 0 0 Q (F0 m 2 ls [])) ((5 - 0 : Int).toNat + 1) 0 i gn _ _ (by omega) (by omega) hY hN ⟨hc9, rfl, rfl, fun _ _ => rfl⟩ hP hD hS ls hl
  clear hP hD hS hl ls
  intro n9_1
  induction n9_1 with
  | zero =>
    intro v2 ii gg H locs hI hM
    exact absurd hM (by omega)
  | succ n9_1 ih1 =>
    intro v2 ii gg H locs hI1 hM1 hG hW9 hct hP hD hS ls hl
    have hf1 := hG
    refine lv_iload_n hx hb dX3_readActs_2 rfl (lv_at hl 0 rfl) ?_
    refine lv_iconst (v := zI 4) hx hb dX3_readActs_3 rfl ?_
    refine rz_icmp_gt (tgt := 90) F (by omega) (by omega) dX3_readActs_4 (by decide) (fun h4_1 => ?_) (fun h4_1 => ?_)
    · refine lv_iconst (v := zI 1) hx hb dX3_readActs_90 rfl ?_
      exact ret (zI 1) (ii, gg) _ _ _ _ _ _ rfl ⟨1, rfl, hG, hW9, by omega, (show ii 0 = i 0 ∧ ii 3 = i 3 by omega), ⟨hct.2.1, hct.2.2.1, hct.2.2.2⟩⟩ (bw_subP (isC := [0, 1, 2, 3, 4, 5, 6, 7, 8, 9, 10, 11, 12]) hP rfl) (hD.sub [0, 1, 2, 3, 4, 5, 6, 7, 8, 9, 10, 11, 12] (by decide) rfl) hS (Nat.le_of_ble_eq_true rfl) (Nat.le_of_ble_eq_true rfl) dX3_readActs_91
    · refine lv_aload_n hx hb dX3_readActs_7 rfl (lv_at hl 1 rfl) ?_
      refine r_callVv (As := []) (rest := []) (wr := [((q 3), .inr (2, [.int (zI n), .ref (qn 0), .ref (qn 1), .ref (qn 2), .ref (qn 3), .ref (qn 4), .ref (qn 5), .ref (qn 6), .ref (qn 7)])), ((qn 0), .inl (cI, 10, .inl (fun k => zI ((gg 0) k)))), ((qn 1), .inl (cI, 10, .inl (fun k => zI ((gg 1) k)))), ((qn 2), .inl (cI, 10, .inl (fun k => zI ((gg 2) k)))), ((qn 3), .inl (cI, 40, .inl (fun k => zI ((gg 3) k)))), ((qn 4), .inl (cI, 40, .inl (fun k => zI ((gg 4) k)))), ((qn 5), .inl (cI, 40, .inl (fun k => zI ((gg 5) k)))), ((qn 6), .inl (cI, 20, .inl (fun k => zI ((gg 6) k)))), ((qn 7), .inl (cI, 20, .inl (fun k => zI ((gg 7) k))))]) F hK hP hD hS hA hO hE (c_X3_advance hO b q ii g hG) k_559 kv_X3_advance 0 rfl (by decide +kernel) ⟨Nat.le_of_ble_eq_true rfl, Nat.le_of_ble_eq_true rfl⟩ [0, 1, 2, 3] [4, 5, 6, 7, 8, 9, 10, 11, 12] rfl rfl (by decide) (by decide) (by decide) 0 3 rfl rfl rfl hl.1 rfl (Nat.le_of_ble_eq_true rfl) dX3_readActs_8 ⟨Nat.le_of_ble_eq_true rfl, Nat.le_of_ble_eq_true rfl⟩ (w1 := fun u3 => [((q 3), .inr (2, [.int (zI n), .ref (qn 0), .ref (qn 1), .ref (qn 2), .ref (qn 3), .ref (qn 4), .ref (qn 5), .ref (qn 6), .ref (qn 7)])), ((qn 0), .inl (cI, 10, .inl (fun k => zI ((gg 0) k)))), ((qn 1), .inl (cI, 10, .inl (fun k => zI ((gg 1) k)))), ((qn 2), .inl (cI, 10, .inl (fun k => zI ((gg 2) k)))), ((qn 3), .inl (cI, 40, .inl (fun k => zI ((gg 3) k)))), ((qn 4), .inl (cI, 40, .inl (fun k => zI ((gg 4) k)))), ((qn 5), .inl (cI, 40, .inl (fun k => zI ((gg 5) k)))), ((qn 6), .inl (cI, 20, .inl (fun k => zI ((gg 6) k)))), ((qn 7), .inl (cI, 20, .inl (fun k => zI ((gg 7) k)))), (b, .inr (3, [.ref (q 0), .int (zI (u3.1 0)), .ref (q 3), .ref (q 4), .int (zI (u3.1 1)), .int (zI (u3.1 2)), .ref (q 1), .ref (q 2), .int (zI (u3.1 3)), .int (zI (u3.1 4)), .int (zI (u3.1 5)), .int (zI (u3.1 6)), .long (zL (u3.1 7)), .int (zI (u3.1 8))])), ((q 0), .inl (cB, 900, .inl (fun k => zI ((g 0) k)))), ((q 1), .inl (cJ, 19, .inr (.inl (fun k => zL ((g 1) k))))), ((q 2), .inl (cJ, 10, .inr (.inl (fun k => zL ((g 2) k)))))]) (fun _ => rfl) (fun  u3 H locs hp4 hP hD hS => ?_)
      have hx5 := hp4.2
      have hf6 := hp4.1
      refine lv_aload_n hx hb dX3_readActs_11 rfl (lv_at hl 1 rfl) ?_
      refine r_get F hK hP 9 9 rfl rfl in_X3 (by decide) k_275 rfl dX3_readActs_12 ?_
      refine lv_iconst (v := zI 4) hx hb dX3_readActs_15 rfl ?_
      refine rz_icmp_lt (tgt := 28) F (by omega) (by omega) dX3_readActs_16 (by decide) (fun h16_6 => ?_) (fun h16_6 => ?_)
      · refine lv_aload_n hx hb dX3_readActs_28 rfl (lv_at hl 1 rfl) ?_
        refine lv_iconst (v := zI 1) hx hb dX3_readActs_29 rfl ?_
        refine r_callVi (As := [.int (zI 1)]) (rest := []) (wr := [((q 3), .inr (2, [.int (zI n), .ref (qn 0), .ref (qn 1), .ref (qn 2), .ref (qn 3), .ref (qn 4), .ref (qn 5), .ref (qn 6), .ref (qn 7)])), ((qn 0), .inl (cI, 10, .inl (fun k => zI ((gg 0) k)))), ((qn 1), .inl (cI, 10, .inl (fun k => zI ((gg 1) k)))), ((qn 2), .inl (cI, 10, .inl (fun k => zI ((gg 2) k)))), ((qn 3), .inl (cI, 40, .inl (fun k => zI ((gg 3) k)))), ((qn 4), .inl (cI, 40, .inl (fun k => zI ((gg 4) k)))), ((qn 5), .inl (cI, 40, .inl (fun k => zI ((gg 5) k)))), ((qn 6), .inl (cI, 20, .inl (fun k => zI ((gg 6) k)))), ((qn 7), .inl (cI, 20, .inl (fun k => zI ((gg 7) k))))]) F hK hP hD hS hA hO hE (c_X3_fail hO b q u3.1 g hp4.1 1) k_575 kv_X3_fail 1 rfl (by decide +kernel) ⟨Nat.le_of_ble_eq_true rfl, Nat.le_of_ble_eq_true rfl⟩ [9, 10, 11, 12] [0, 1, 2, 3, 4, 5, 6, 7, 8] rfl rfl (by decide) (by decide) (by decide) 0 3 rfl rfl rfl hl.1 rfl (Nat.le_of_ble_eq_true rfl) dX3_readActs_30 ⟨Nat.le_of_ble_eq_true rfl, Nat.le_of_ble_eq_true rfl⟩ (w1 := fun u8 => [((q 3), .inr (2, [.int (zI n), .ref (qn 0), .ref (qn 1), .ref (qn 2), .ref (qn 3), .ref (qn 4), .ref (qn 5), .ref (qn 6), .ref (qn 7)])), ((qn 0), .inl (cI, 10, .inl (fun k => zI ((gg 0) k)))), ((qn 1), .inl (cI, 10, .inl (fun k => zI ((gg 1) k)))), ((qn 2), .inl (cI, 10, .inl (fun k => zI ((gg 2) k)))), ((qn 3), .inl (cI, 40, .inl (fun k => zI ((gg 3) k)))), ((qn 4), .inl (cI, 40, .inl (fun k => zI ((gg 4) k)))), ((qn 5), .inl (cI, 40, .inl (fun k => zI ((gg 5) k)))), ((qn 6), .inl (cI, 20, .inl (fun k => zI ((gg 6) k)))), ((qn 7), .inl (cI, 20, .inl (fun k => zI ((gg 7) k)))), (b, .inr (3, [.ref (q 0), .int (zI (u8.1 0)), .ref (q 3), .ref (q 4), .int (zI (u8.1 1)), .int (zI (u8.1 2)), .ref (q 1), .ref (q 2), .int (zI (u8.1 3)), .int (zI (u8.1 4)), .int (zI (u8.1 5)), .int (zI (u8.1 6)), .long (zL (u8.1 7)), .int (zI (u8.1 8))])), ((q 0), .inl (cB, 900, .inl (fun k => zI ((g 0) k)))), ((q 1), .inl (cJ, 19, .inr (.inl (fun k => zL ((g 1) k))))), ((q 2), .inl (cJ, 10, .inr (.inl (fun k => zL ((g 2) k)))))]) (fun _ => rfl) (fun r9 u8 H locs hp10 hP hD hS => ?_)
        obtain ⟨z11, rfl, h_z11⟩ := hp10
        have hx12 := h_z11.2
        have hf13 := h_z11.1
        exact ret (zI z11) (u8.1, gg) _ _ _ _ _ _ (zI_nz (by omega)) ⟨z11, rfl, h_z11.1, hW9, by omega, (show u8.1 0 = i 0 ∧ u8.1 3 = i 3 by omega), ⟨hct.2.1, hct.2.2.1, hct.2.2.2⟩⟩ (bw_subP (isC := [9, 10, 11, 12, 0, 1, 2, 3, 4, 5, 6, 7, 8]) hP rfl) (hD.sub [9, 10, 11, 12, 0, 1, 2, 3, 4, 5, 6, 7, 8] (by decide) rfl) hS (Nat.le_of_ble_eq_true rfl) (Nat.le_of_ble_eq_true rfl) dX3_readActs_33
      · refine lv_aload_n hx hb dX3_readActs_19 rfl (lv_at hl 1 rfl) ?_
        refine r_get F hK hP 9 9 rfl rfl in_X3 (by decide) k_275 rfl dX3_readActs_20 ?_
        refine lv_bipush (v := zI 7) hx hb dX3_readActs_23 (by decide) ?_
        refine rz_icmp_le (tgt := 34) F (by omega) (by omega) dX3_readActs_25 (by decide) (fun h25_13 => ?_) (fun h25_13 => ?_)
        · refine lv_iload_n hx hb dX3_readActs_34 rfl (lv_at hl 0 rfl) ?_
          refine lv_iconst (v := zI 4) hx hb dX3_readActs_35 rfl ?_
          refine rz_icmp_lt (tgt := 45) F (by omega) (by omega) dX3_readActs_36 (by decide) (fun h36_14 => ?_) (fun h36_14 => ?_)
          · refine lv_aload_n hx hb dX3_readActs_45 rfl (lv_at hl 1 rfl) ?_
            refine lv_iload_n hx hb dX3_readActs_46 rfl (lv_at hl 2 rfl) ?_
            refine lv_iconst (v := zI 4) hx hb dX3_readActs_47 rfl ?_
            refine r_imul (v := zI (x * 4)) F dX3_readActs_48 (zI_mul _ _) ?_
            refine lv_iload_n hx hb dX3_readActs_49 rfl (lv_at hl 0 rfl) ?_
            refine r_iadd (v := zI ((x * 4) + v2)) F dX3_readActs_50 (zI_add _ _) ?_
            refine r_callVi (As := [.int (zI ((x * 4) + v2))]) (rest := []) (wr := []) F hK hP hD hS hA hO hE (c_X3_readAct hO b q u3.1 g hp4.1 qn n gg hW9 ((x * 4) + v2) (by omega) (by omega)) k_599 kv_X3_readAct 1 rfl (by decide +kernel) ⟨Nat.le_of_ble_eq_true rfl, Nat.le_of_ble_eq_true rfl⟩ [9, 10, 11, 12, 0, 1, 2, 3, 4, 5, 6, 7, 8] [] rfl rfl (by decide) (by decide) (by decide) 0 3 rfl rfl rfl hl.1 rfl (Nat.le_of_ble_eq_true rfl) dX3_readActs_51 ⟨Nat.le_of_ble_eq_true rfl, Nat.le_of_ble_eq_true rfl⟩ (w1 := fun u16 => [(b, .inr (3, [.ref (q 0), .int (zI (u16.1 0)), .ref (q 3), .ref (q 4), .int (zI (u16.1 1)), .int (zI (u16.1 2)), .ref (q 1), .ref (q 2), .int (zI (u16.1 3)), .int (zI (u16.1 4)), .int (zI (u16.1 5)), .int (zI (u16.1 6)), .long (zL (u16.1 7)), .int (zI (u16.1 8))])), ((q 0), .inl (cB, 900, .inl (fun k => zI ((g 0) k)))), ((q 1), .inl (cJ, 19, .inr (.inl (fun k => zL ((g 1) k))))), ((q 2), .inl (cJ, 10, .inr (.inl (fun k => zL ((g 2) k))))), ((q 3), .inr (2, [.int (zI n), .ref (qn 0), .ref (qn 1), .ref (qn 2), .ref (qn 3), .ref (qn 4), .ref (qn 5), .ref (qn 6), .ref (qn 7)])), ((qn 0), .inl (cI, 10, .inl (fun k => zI ((u16.2 0) k)))), ((qn 1), .inl (cI, 10, .inl (fun k => zI ((u16.2 1) k)))), ((qn 2), .inl (cI, 10, .inl (fun k => zI ((u16.2 2) k)))), ((qn 3), .inl (cI, 40, .inl (fun k => zI ((u16.2 3) k)))), ((qn 4), .inl (cI, 40, .inl (fun k => zI ((u16.2 4) k)))), ((qn 5), .inl (cI, 40, .inl (fun k => zI ((u16.2 5) k)))), ((qn 6), .inl (cI, 20, .inl (fun k => zI ((u16.2 6) k)))), ((qn 7), .inl (cI, 20, .inl (fun k => zI ((u16.2 7) k))))]) (fun _ => rfl) (fun r17 u16 H locs hp18 hP hD hS => ?_)
            obtain ⟨z19, rfl, h_z19⟩ := hp18
            have hx20 := h_z19.2.2.1
            have hx21 := h_z19.2.2.2.1
            have hf22 := h_z19.1
            refine rz_if_ne (tgt := 59) F (by omega) dX3_readActs_54 (by decide) (fun h54_22 => ?_) (fun h54_22 => ?_)
            · refine lv_aload_n hx hb dX3_readActs_59 rfl (lv_at hl 1 rfl) ?_
              refine r_get F hK hP 0 2 rfl rfl in_X3 (by decide) k_264 rfl dX3_readActs_60 ?_
              refine r_get F hK hP 4 3 rfl rfl in_X2 (by decide) k_155 rfl dX3_readActs_63 ?_
              refine lv_iload_n hx hb dX3_readActs_66 rfl (lv_at hl 2 rfl) ?_
              refine lv_dup2_11 hx hb dX3_readActs_67 rfl rfl ?_
              refine rz_iald F hK hP 7 0 rfl rfl (by omega) (by omega) dX3_readActs_68 ?_
              have h_l68_23 := h_z19.2.1.2.2.2.1 (x).toNat (by omega)
              have hq8 : u16.2 2 (x).toNat = v2 := by rw [h_z19.2.2.2.2.2.2]; exact hct.1
              refine lv_iconst (v := zI 1) hx hb dX3_readActs_69 rfl ?_
              refine r_iadd (v := zI (((u16.2 2) (x).toNat) + 1)) F dX3_readActs_70 (zI_add _ _) ?_
              refine rz_iastG F hK hP hD hS 7 0 rfl rfl (by omega) (by omega) dX3_readActs_71 (w1 := fun g25 => [(b, .inr (3, [.ref (q 0), .int (zI (u16.1 0)), .ref (q 3), .ref (q 4), .int (zI (u16.1 1)), .int (zI (u16.1 2)), .ref (q 1), .ref (q 2), .int (zI (u16.1 3)), .int (zI (u16.1 4)), .int (zI (u16.1 5)), .int (zI (u16.1 6)), .long (zL (u16.1 7)), .int (zI (u16.1 8))])), ((q 0), .inl (cB, 900, .inl (fun k => zI ((g 0) k)))), ((q 1), .inl (cJ, 19, .inr (.inl (fun k => zL ((g 1) k))))), ((q 2), .inl (cJ, 10, .inr (.inl (fun k => zL ((g 2) k))))), ((q 3), .inr (2, [.int (zI n), .ref (qn 0), .ref (qn 1), .ref (qn 2), .ref (qn 3), .ref (qn 4), .ref (qn 5), .ref (qn 6), .ref (qn 7)])), ((qn 0), .inl (cI, 10, .inl (fun k => zI ((u16.2 0) k)))), ((qn 1), .inl (cI, 10, .inl (fun k => zI ((u16.2 1) k)))), ((qn 2), .inl (cI, 10, .inl (fun k => zI (g25 k)))), ((qn 3), .inl (cI, 40, .inl (fun k => zI ((u16.2 3) k)))), ((qn 4), .inl (cI, 40, .inl (fun k => zI ((u16.2 4) k)))), ((qn 5), .inl (cI, 40, .inl (fun k => zI ((u16.2 5) k)))), ((qn 6), .inl (cI, 20, .inl (fun k => zI ((u16.2 6) k)))), ((qn 7), .inl (cI, 20, .inl (fun k => zI ((u16.2 7) k))))]) (fun _ => rfl) (fun g25 e_g25 H locs hP hD hS => ?_)
              have hN26 : NetW n (nSet u16.2 2 g25) := NetW.set2 h_z19.2.1 e_g25 (by omega)
              refine lv_aload_n hx hb dX3_readActs_72 rfl (lv_at hl 1 rfl) ?_
              refine r_get F hK hP 0 9 rfl rfl in_X3 (by decide) k_275 rfl dX3_readActs_73 ?_
              refine lv_bipush (v := zI 22) hx hb dX3_readActs_76 (by decide) ?_
              refine rz_icmp_eq (tgt := 84) F (by omega) (by omega) dX3_readActs_78 (by decide) (fun h78_26 => ?_) (fun h78_26 => ?_)
              · refine lv_iinc (v := zI (v2 + 1)) (lv' := [(2, .int (zI (v2 + 1))), (0, .ref b), (1, .int (zI x))]) hx hb dX3_readActs_84 hl (k := 0) rfl (zI_add _ _) (by decide) rfl (fun ls hl => ?_)
                refine lv_goto (tgt := 2) hx hb dX3_readActs_87 (by decide) ?_
                exact ih1 (v2 + 1) u16.1 (nSet u16.2 2 g25) _ _ (by omega) (by omega) h_z19.1 hN26 ⟨by show g25 x.toNat = _; rw [e_g25]; simp only [uZ, if_true]; omega, h_z19.2.2.2.2.1.trans hct.2.1, h_z19.2.2.2.2.2.1.trans hct.2.2.1, fun k hk => by show g25 k = _; rw [e_g25]; simp only [uZ, if_neg hk]; rw [h_z19.2.2.2.2.2.2]; exact hct.2.2.2 k hk⟩ hP hD hS ls (lv_sub hl [0, 1, 2] rfl)
              · refine lv_goto (tgt := 90) hx hb dX3_readActs_81 (by decide) ?_
                refine lv_iconst (v := zI 1) hx hb dX3_readActs_90 rfl ?_
                exact ret (zI 1) (u16.1, (nSet u16.2 2 g25)) _ _ _ _ _ _ rfl ⟨1, rfl, h_z19.1, hN26, by omega, (show u16.1 0 = i 0 ∧ u16.1 3 = i 3 by omega), ⟨h_z19.2.2.2.2.1.trans hct.2.1, h_z19.2.2.2.2.2.1.trans hct.2.2.1, fun k hk => by show g25 k = _; rw [e_g25]; simp only [uZ, if_neg hk]; rw [h_z19.2.2.2.2.2.2]; exact hct.2.2.2 k hk⟩⟩ (bw_subP (isC := [0, 1, 2, 3, 4, 5, 6, 7, 8, 9, 10, 11, 12]) hP rfl) (hD.sub [0, 1, 2, 3, 4, 5, 6, 7, 8, 9, 10, 11, 12] (by decide) rfl) hS (Nat.le_of_ble_eq_true rfl) (Nat.le_of_ble_eq_true rfl) dX3_readActs_91
            · refine lv_iconst (v := zI 0) hx hb dX3_readActs_57 rfl ?_
              exact ret (zI 0) (u16.1, u16.2) _ _ _ _ _ _ rfl ⟨0, rfl, h_z19.1, h_z19.2.1, by omega, (show u16.1 0 = i 0 ∧ u16.1 3 = i 3 by omega), ⟨h_z19.2.2.2.2.1.trans hct.2.1, h_z19.2.2.2.2.2.1.trans hct.2.2.1, fun k hk => (congrFun h_z19.2.2.2.2.2.2 k).trans (hct.2.2.2 k hk)⟩⟩ (bw_subP (isC := [0, 1, 2, 3, 4, 5, 6, 7, 8, 9, 10, 11, 12]) hP rfl) (hD.sub [0, 1, 2, 3, 4, 5, 6, 7, 8, 9, 10, 11, 12] (by decide) rfl) hS (Nat.le_of_ble_eq_true rfl) (Nat.le_of_ble_eq_true rfl) dX3_readActs_58
          · refine lv_aload_n hx hb dX3_readActs_39 rfl (lv_at hl 1 rfl) ?_
            refine lv_iconst (v := zI 5) hx hb dX3_readActs_40 rfl ?_
            refine r_callVi (As := [.int (zI 5)]) (rest := []) (wr := [((q 3), .inr (2, [.int (zI n), .ref (qn 0), .ref (qn 1), .ref (qn 2), .ref (qn 3), .ref (qn 4), .ref (qn 5), .ref (qn 6), .ref (qn 7)])), ((qn 0), .inl (cI, 10, .inl (fun k => zI ((gg 0) k)))), ((qn 1), .inl (cI, 10, .inl (fun k => zI ((gg 1) k)))), ((qn 2), .inl (cI, 10, .inl (fun k => zI ((gg 2) k)))), ((qn 3), .inl (cI, 40, .inl (fun k => zI ((gg 3) k)))), ((qn 4), .inl (cI, 40, .inl (fun k => zI ((gg 4) k)))), ((qn 5), .inl (cI, 40, .inl (fun k => zI ((gg 5) k)))), ((qn 6), .inl (cI, 20, .inl (fun k => zI ((gg 6) k)))), ((qn 7), .inl (cI, 20, .inl (fun k => zI ((gg 7) k))))]) F hK hP hD hS hA hO hE (c_X3_fail hO b q u3.1 g hp4.1 5) k_575 kv_X3_fail 1 rfl (by decide +kernel) ⟨Nat.le_of_ble_eq_true rfl, Nat.le_of_ble_eq_true rfl⟩ [9, 10, 11, 12] [0, 1, 2, 3, 4, 5, 6, 7, 8] rfl rfl (by decide) (by decide) (by decide) 0 3 rfl rfl rfl hl.1 rfl (Nat.le_of_ble_eq_true rfl) dX3_readActs_41 ⟨Nat.le_of_ble_eq_true rfl, Nat.le_of_ble_eq_true rfl⟩ (w1 := fun u28 => [((q 3), .inr (2, [.int (zI n), .ref (qn 0), .ref (qn 1), .ref (qn 2), .ref (qn 3), .ref (qn 4), .ref (qn 5), .ref (qn 6), .ref (qn 7)])), ((qn 0), .inl (cI, 10, .inl (fun k => zI ((gg 0) k)))), ((qn 1), .inl (cI, 10, .inl (fun k => zI ((gg 1) k)))), ((qn 2), .inl (cI, 10, .inl (fun k => zI ((gg 2) k)))), ((qn 3), .inl (cI, 40, .inl (fun k => zI ((gg 3) k)))), ((qn 4), .inl (cI, 40, .inl (fun k => zI ((gg 4) k)))), ((qn 5), .inl (cI, 40, .inl (fun k => zI ((gg 5) k)))), ((qn 6), .inl (cI, 20, .inl (fun k => zI ((gg 6) k)))), ((qn 7), .inl (cI, 20, .inl (fun k => zI ((gg 7) k)))), (b, .inr (3, [.ref (q 0), .int (zI (u28.1 0)), .ref (q 3), .ref (q 4), .int (zI (u28.1 1)), .int (zI (u28.1 2)), .ref (q 1), .ref (q 2), .int (zI (u28.1 3)), .int (zI (u28.1 4)), .int (zI (u28.1 5)), .int (zI (u28.1 6)), .long (zL (u28.1 7)), .int (zI (u28.1 8))])), ((q 0), .inl (cB, 900, .inl (fun k => zI ((g 0) k)))), ((q 1), .inl (cJ, 19, .inr (.inl (fun k => zL ((g 1) k))))), ((q 2), .inl (cJ, 10, .inr (.inl (fun k => zL ((g 2) k)))))]) (fun _ => rfl) (fun r29 u28 H locs hp30 hP hD hS => ?_)
            obtain ⟨z31, rfl, h_z31⟩ := hp30
            have hx32 := h_z31.2
            have hf33 := h_z31.1
            exact ret (zI z31) (u28.1, gg) _ _ _ _ _ _ (zI_nz (by omega)) ⟨z31, rfl, h_z31.1, hW9, by omega, (show u28.1 0 = i 0 ∧ u28.1 3 = i 3 by omega), ⟨hct.2.1, hct.2.2.1, hct.2.2.2⟩⟩ (bw_subP (isC := [9, 10, 11, 12, 0, 1, 2, 3, 4, 5, 6, 7, 8]) hP rfl) (hD.sub [9, 10, 11, 12, 0, 1, 2, 3, 4, 5, 6, 7, 8] (by decide) rfl) hS (Nat.le_of_ble_eq_true rfl) (Nat.le_of_ble_eq_true rfl) dX3_readActs_44
        · refine lv_aload_n hx hb dX3_readActs_28 rfl (lv_at hl 1 rfl) ?_
          refine lv_iconst (v := zI 1) hx hb dX3_readActs_29 rfl ?_
          refine r_callVi (As := [.int (zI 1)]) (rest := []) (wr := [((q 3), .inr (2, [.int (zI n), .ref (qn 0), .ref (qn 1), .ref (qn 2), .ref (qn 3), .ref (qn 4), .ref (qn 5), .ref (qn 6), .ref (qn 7)])), ((qn 0), .inl (cI, 10, .inl (fun k => zI ((gg 0) k)))), ((qn 1), .inl (cI, 10, .inl (fun k => zI ((gg 1) k)))), ((qn 2), .inl (cI, 10, .inl (fun k => zI ((gg 2) k)))), ((qn 3), .inl (cI, 40, .inl (fun k => zI ((gg 3) k)))), ((qn 4), .inl (cI, 40, .inl (fun k => zI ((gg 4) k)))), ((qn 5), .inl (cI, 40, .inl (fun k => zI ((gg 5) k)))), ((qn 6), .inl (cI, 20, .inl (fun k => zI ((gg 6) k)))), ((qn 7), .inl (cI, 20, .inl (fun k => zI ((gg 7) k))))]) F hK hP hD hS hA hO hE (c_X3_fail hO b q u3.1 g hp4.1 1) k_575 kv_X3_fail 1 rfl (by decide +kernel) ⟨Nat.le_of_ble_eq_true rfl, Nat.le_of_ble_eq_true rfl⟩ [9, 10, 11, 12] [0, 1, 2, 3, 4, 5, 6, 7, 8] rfl rfl (by decide) (by decide) (by decide) 0 3 rfl rfl rfl hl.1 rfl (Nat.le_of_ble_eq_true rfl) dX3_readActs_30 ⟨Nat.le_of_ble_eq_true rfl, Nat.le_of_ble_eq_true rfl⟩ (w1 := fun u34 => [((q 3), .inr (2, [.int (zI n), .ref (qn 0), .ref (qn 1), .ref (qn 2), .ref (qn 3), .ref (qn 4), .ref (qn 5), .ref (qn 6), .ref (qn 7)])), ((qn 0), .inl (cI, 10, .inl (fun k => zI ((gg 0) k)))), ((qn 1), .inl (cI, 10, .inl (fun k => zI ((gg 1) k)))), ((qn 2), .inl (cI, 10, .inl (fun k => zI ((gg 2) k)))), ((qn 3), .inl (cI, 40, .inl (fun k => zI ((gg 3) k)))), ((qn 4), .inl (cI, 40, .inl (fun k => zI ((gg 4) k)))), ((qn 5), .inl (cI, 40, .inl (fun k => zI ((gg 5) k)))), ((qn 6), .inl (cI, 20, .inl (fun k => zI ((gg 6) k)))), ((qn 7), .inl (cI, 20, .inl (fun k => zI ((gg 7) k)))), (b, .inr (3, [.ref (q 0), .int (zI (u34.1 0)), .ref (q 3), .ref (q 4), .int (zI (u34.1 1)), .int (zI (u34.1 2)), .ref (q 1), .ref (q 2), .int (zI (u34.1 3)), .int (zI (u34.1 4)), .int (zI (u34.1 5)), .int (zI (u34.1 6)), .long (zL (u34.1 7)), .int (zI (u34.1 8))])), ((q 0), .inl (cB, 900, .inl (fun k => zI ((g 0) k)))), ((q 1), .inl (cJ, 19, .inr (.inl (fun k => zL ((g 1) k))))), ((q 2), .inl (cJ, 10, .inr (.inl (fun k => zL ((g 2) k)))))]) (fun _ => rfl) (fun r35 u34 H locs hp36 hP hD hS => ?_)
          obtain ⟨z37, rfl, h_z37⟩ := hp36
          have hx38 := h_z37.2
          have hf39 := h_z37.1
          exact ret (zI z37) (u34.1, gg) _ _ _ _ _ _ (zI_nz (by omega)) ⟨z37, rfl, h_z37.1, hW9, by omega, (show u34.1 0 = i 0 ∧ u34.1 3 = i 3 by omega), ⟨hct.2.1, hct.2.2.1, hct.2.2.2⟩⟩ (bw_subP (isC := [9, 10, 11, 12, 0, 1, 2, 3, 4, 5, 6, 7, 8]) hP rfl) (hD.sub [9, 10, 11, 12, 0, 1, 2, 3, 4, 5, 6, 7, 8] (by decide) rfl) hS (Nat.le_of_ble_eq_true rfl) (Nat.le_of_ble_eq_true rfl) dX3_readActs_33
