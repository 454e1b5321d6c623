theorem ProgOk.tgtA {g g' : Nat → Int} {k : Nat} {i n v : Int} (h : ProgOk g) (e : g' = uZ g k v) (hi : 0 ≤ i ∧ i < 10) (hn : 0 ≤ n ∧ n < 4) (hk : (k : Int) = 20 * i + 2 + 3 * n + 1) (hv : 0 ≤ v ∧ v ≤ 3) : ProgOk g' := by
  refine ⟨h.1.setA e (j := 1) hi hn (by omega) (by omega) (by omega), h.2.tgt e ?_ hv.2⟩
  rcases (show n = 0 ∨ n = 1 ∨ n = 2 ∨ n = 3 by omega) with rfl | rfl | rfl | rfl <;> omega
theorem ProgOk.valA {g g' : Nat → Int} {k : Nat} {i n v : Int} (h : ProgOk g) (e : g' = uZ g k v) (hi : 0 ≤ i ∧ i < 10) (hn : 0 ≤ n ∧ n < 4) (hk : (k : Int) = 20 * i + 2 + 3 * n + 2) (hv : 0 ≤ v ∧ v ≤ 9) : ProgOk g' := by
  refine ⟨h.1.setA e (j := 2) hi hn (by omega) (by omega) (by omega), h.2.set e ?_⟩
  rcases (show n = 0 ∨ n = 1 ∨ n = 2 ∨ n = 3 by omega) with rfl | rfl | rfl | rfl <;> omega
theorem ProgOk.pairA {g g1 g2 : Nat → Int} {k k1 : Nat} {i n v w : Int} (h : ProgOk g) (e1 : g1 = uZ g k v) (e2 : g2 = uZ g1 k1 w) (hi : 0 ≤ i ∧ i < 10) (hn : 0 ≤ n ∧ n < 4) (hk : (k : Int) = 20 * i + 2 + 3 * n) (hk1 : k1 = k + 1) (hv : 0 ≤ v ∧ v ≤ 3) (hw : 0 ≤ w ∧ w ≤ 9) (hvw : v = 3 ∨ w ≤ 3) : ProgOk g2 := by
  refine ⟨(h.1.setA e1 (j := 0) hi hn (by omega) (by omega) (by omega)).setA e2 (j := 1) hi hn (by omega) (by omega) (by omega), h.2.pair e1 e2 ?_ hk1 hvw⟩
  rcases (show n = 0 ∨ n = 1 ∨ n = 2 ∨ n = 3 by omega) with rfl | rfl | rfl | rfl <;> omega
theorem dX9_wrong_0 : decode cX9_wrong 0 = .ok (.aload_n 0, 1) := by decide +kernel
theorem dX9_wrong_1 : decode cX9_wrong 1 = .ok (.getfield 115, 3) := by decide +kernel
theorem k_1176 : Cond.fieldLink RX9 115 "BurntWaysModel" "failed" "Z" ∈ bw_T := bw_m 1176 (by decide +kernel) rfl
theorem dX9_wrong_4 : decode cX9_wrong 4 = .ok (.ifCond .eq 4, 3) := by decide +kernel
theorem dX9_wrong_8 : decode cX9_wrong 8 = .ok (.aload_n 0, 1) := by decide +kernel
theorem dX9_wrong_9 : decode cX9_wrong 9 = .ok (.iconst 1, 1) := by decide +kernel
theorem dX9_wrong_10 : decode cX9_wrong 10 = .ok (.putfield 115, 3) := by decide +kernel
theorem dX9_wrong_13 : decode cX9_wrong 13 = .ok (.aload_n 0, 1) := by decide +kernel
theorem dX9_wrong_14 : decode cX9_wrong 14 = .ok (.iload_n 1, 1) := by decide +kernel
theorem dX9_wrong_15 : decode cX9_wrong 15 = .ok (.putfield 119, 3) := by decide +kernel
theorem dX9_wrong_18 : decode cX9_wrong 18 = .ok (.aload_n 0, 1) := by decide +kernel
theorem dX9_wrong_19 : decode cX9_wrong 19 = .ok (.iload_n 2, 1) := by decide +kernel
theorem dX9_wrong_20 : decode cX9_wrong 20 = .ok (.putfield 13, 3) := by decide +kernel
theorem dX9_wrong_23 : decode cX9_wrong 23 = .ok (.return_, 1) := by decide +kernel
theorem dX9_isWord_0 : decode cX9_isWord 0 = .ok (.aload_n 0, 1) := by decide +kernel
theorem dX9_isWord_1 : decode cX9_isWord 1 = .ok (.getfield 115, 3) := by decide +kernel
theorem dX9_isWord_4 : decode cX9_isWord 4 = .ok (.ifCond .ne 22, 3) := by decide +kernel
theorem dX9_isWord_26 : decode cX9_isWord 26 = .ok (.iconst 0, 1) := by decide +kernel
theorem dX9_isWord_27 : decode cX9_isWord 27 = .ok (.ireturn, 1) := by decide +kernel
theorem dX9_isWord_7 : decode cX9_isWord 7 = .ok (.aload_n 0, 1) := by decide +kernel
theorem dX9_isWord_8 : decode cX9_isWord 8 = .ok (.getfield 105, 3) := by decide +kernel
theorem dX9_isWord_11 : decode cX9_isWord 11 = .ok (.iconst 2, 1) := by decide +kernel
theorem dX9_isWord_12 : decode cX9_isWord 12 = .ok (.if_icmp .ne 14, 3) := by decide +kernel
theorem dX9_isWord_15 : decode cX9_isWord 15 = .ok (.aload_n 0, 1) := by decide +kernel
theorem dX9_isWord_16 : decode cX9_isWord 16 = .ok (.getfield 99, 3) := by decide +kernel
theorem dX9_isWord_19 : decode cX9_isWord 19 = .ok (.aload_n 1, 1) := by decide +kernel
theorem dX9_isWord_20 : decode cX9_isWord 20 = .ok (.invokevirtual 122, 3) := by decide +kernel
theorem kv_J0_length_8abf5 : bw_KV RJ0 yJ0_length_8abf5 (Cond.code yJ0_length_8abf5 cJ0_length_8abf5 1 (some .int)) := ⟨bw_m 213 (by decide +kernel) rfl, bw_m 214 (by decide +kernel) rfl, bw_m 98 (by decide +kernel) rfl, bw_m 215 (by decide +kernel) rfl⟩
theorem k_1326 : Cond.methodLink RX9 122 yJ0_length_8abf5 ∈ bw_T := bw_m 1326 (by decide +kernel) rfl
theorem dX9_isWord_23 : decode cX9_isWord 23 = .ok (.if_icmp .eq 5, 3) := by decide +kernel
theorem dX9_isWord_28 : decode cX9_isWord 28 = .ok (.iconst 1, 1) := by decide +kernel
theorem dX9_isWord_29 : decode cX9_isWord 29 = .ok (.istore_n 2, 1) := by decide +kernel
theorem dX9_isWord_30 : decode cX9_isWord 30 = .ok (.iconst 0, 1) := by decide +kernel
theorem dX9_isWord_31 : decode cX9_isWord 31 = .ok (.istore_n 3, 1) := by decide +kernel
theorem dX9_isWord_32 : decode cX9_isWord 32 = .ok (.iload_n 3, 1) := by decide +kernel
theorem dX9_isWord_33 : decode cX9_isWord 33 = .ok (.aload_n 0, 1) := by decide +kernel
theorem dX9_isWord_34 : decode cX9_isWord 34 = .ok (.getfield 99, 3) := by decide +kernel
theorem dX9_isWord_37 : decode cX9_isWord 37 = .ok (.if_icmp .ge 33, 3) := by decide +kernel
theorem dX9_isWord_70 : decode cX9_isWord 70 = .ok (.iload_n 2, 1) := by decide +kernel
theorem dX9_isWord_71 : decode cX9_isWord 71 = .ok (.ireturn, 1) := by decide +kernel
theorem dX9_isWord_40 : decode cX9_isWord 40 = .ok (.iload_n 2, 1) := by decide +kernel
theorem dX9_isWord_41 : decode cX9_isWord 41 = .ok (.ifCond .eq 21, 3) := by decide +kernel
theorem dX9_isWord_62 : decode cX9_isWord 62 = .ok (.iconst 0, 1) := by decide +kernel
theorem dX9_isWord_63 : decode cX9_isWord 63 = .ok (.istore_n 2, 1) := by decide +kernel
theorem dX9_isWord_64 : decode cX9_isWord 64 = .ok (.iinc 3 1, 3) := by decide +kernel
theorem dX9_isWord_67 : decode cX9_isWord 67 = .ok (.goto (-35), 3) := by decide +kernel
theorem dX9_isWord_44 : decode cX9_isWord 44 = .ok (.aload_n 0, 1) := by decide +kernel
theorem dX9_isWord_45 : decode cX9_isWord 45 = .ok (.getfield 17, 3) := by decide +kernel
theorem dX9_isWord_48 : decode cX9_isWord 48 = .ok (.iload_n 3, 1) := by decide +kernel
theorem dX9_isWord_49 : decode cX9_isWord 49 = .ok (.iaload, 1) := by decide +kernel
theorem dX9_isWord_50 : decode cX9_isWord 50 = .ok (.aload_n 1, 1) := by decide +kernel
theorem dX9_isWord_51 : decode cX9_isWord 51 = .ok (.iload_n 3, 1) := by decide +kernel
theorem dX9_isWord_52 : decode cX9_isWord 52 = .ok (.invokevirtual 128, 3) := by decide +kernel
theorem kv_J0_charAt_5068e : bw_KV RJ0 yJ0_charAt_5068e (Cond.code yJ0_charAt_5068e cJ0_charAt_5068e 2 (some .char)) := ⟨bw_m 223 (by decide +kernel) rfl, bw_m 224 (by decide +kernel) rfl, bw_m 98 (by decide +kernel) rfl, bw_m 225 (by decide +kernel) rfl⟩
theorem k_1327 : Cond.methodLink RX9 128 yJ0_charAt_5068e ∈ bw_T := bw_m 1327 (by decide +kernel) rfl
theorem dX9_isWord_55 : decode cX9_isWord 55 = .ok (.if_icmp .ne 7, 3) := by decide +kernel
theorem dX9_isWord_58 : decode cX9_isWord 58 = .ok (.iconst 1, 1) := by decide +kernel
theorem dX9_isWord_59 : decode cX9_isWord 59 = .ok (.goto 4, 3) := by decide +kernel
theorem dX9_takes_0 : decode cX9_takes 0 = .ok (.aload_n 0, 1) := by decide +kernel
theorem dX9_takes_1 : decode cX9_takes 1 = .ok (.aload_n 1, 1) := by decide +kernel
theorem dX9_takes_2 : decode cX9_takes 2 = .ok (.invokevirtual 132, 3) := by decide +kernel
theorem k_1322 : Cond.methodLink RX9 132 yX9_isWord ∈ bw_T := bw_m 1322 (by decide +kernel) rfl
theorem kv_X9_isWord : bw_KV RX9 yX9_isWord (Cond.code yX9_isWord cX9_isWord 4 (some .boolean)) := ⟨bw_m 1324 (by decide +kernel) rfl, bw_m 49 (by decide +kernel) rfl, bw_m 107 (by decide +kernel) rfl, bw_m 1325 (by decide +kernel) rfl⟩
theorem dX9_takes_5 : decode cX9_takes 5 = .ok (.ifCond .ne 5, 3) := by decide +kernel
theorem dX9_takes_10 : decode cX9_takes 10 = .ok (.aload_n 0, 1) := by decide +kernel
theorem dX9_takes_11 : decode cX9_takes 11 = .ok (.invokevirtual 136, 3) := by decide +kernel
theorem k_1303 : Cond.methodLink RX9 136 yX9_next ∈ bw_T := bw_m 1303 (by decide +kernel) rfl
theorem kv_X9_next : bw_KV RX9 yX9_next (Cond.code yX9_next cX9_next 4 none) := ⟨bw_m 1305 (by decide +kernel) rfl, bw_m 46 (by decide +kernel) rfl, bw_m 107 (by decide +kernel) rfl, bw_m 1306 (by decide +kernel) rfl⟩
theorem dX9_takes_14 : decode cX9_takes 14 = .ok (.iconst 1, 1) := by decide +kernel
theorem dX9_takes_15 : decode cX9_takes 15 = .ok (.ireturn, 1) := by decide +kernel
theorem dX9_takes_8 : decode cX9_takes 8 = .ok (.iconst 0, 1) := by decide +kernel
theorem dX9_takes_9 : decode cX9_takes 9 = .ok (.ireturn, 1) := by decide +kernel
theorem dX9_pass_0 : decode cX9_pass 0 = .ok (.aload_n 0, 1) := by decide +kernel
theorem dX9_pass_1 : decode cX9_pass 1 = .ok (.getfield 115, 3) := by decide +kernel
theorem dX9_pass_4 : decode cX9_pass 4 = .ok (.ifCond .ne 20, 3) := by decide +kernel
theorem dX9_pass_24 : decode cX9_pass 24 = .ok (.return_, 1) := by decide +kernel
theorem dX9_pass_7 : decode cX9_pass 7 = .ok (.aload_n 0, 1) := by decide +kernel
theorem dX9_pass_8 : decode cX9_pass 8 = .ok (.aload_n 1, 1) := by decide +kernel
theorem dX9_pass_9 : decode cX9_pass 9 = .ok (.invokevirtual 139, 3) := by decide +kernel
theorem k_1374 : Cond.methodLink RX9 139 yX9_takes ∈ bw_T := bw_m 1374 (by decide +kernel) rfl
theorem kv_X9_takes : bw_KV RX9 yX9_takes (Cond.code yX9_takes cX9_takes 2 (some .boolean)) := ⟨bw_m 1376 (by decide +kernel) rfl, bw_m 58 (by decide +kernel) rfl, bw_m 107 (by decide +kernel) rfl, bw_m 1377 (by decide +kernel) rfl⟩
theorem dX9_pass_12 : decode cX9_pass 12 = .ok (.ifCond .ne 12, 3) := by decide +kernel
theorem dX9_pass_15 : decode cX9_pass 15 = .ok (.aload_n 0, 1) := by decide +kernel
theorem dX9_pass_16 : decode cX9_pass 16 = .ok (.iconst 1, 1) := by decide +kernel
theorem dX9_pass_17 : decode cX9_pass 17 = .ok (.aload_n 0, 1) := by decide +kernel
theorem dX9_pass_18 : decode cX9_pass 18 = .ok (.getfield 96, 3) := by decide +kernel
theorem dX9_pass_21 : decode cX9_pass 21 = .ok (.invokevirtual 142, 3) := by decide +kernel
theorem k_1332 : Cond.methodLink RX9 142 yX9_wrong ∈ bw_T := bw_m 1332 (by decide +kernel) rfl
theorem kv_X9_wrong : bw_KV RX9 yX9_wrong (Cond.code yX9_wrong cX9_wrong 3 none) := ⟨bw_m 1334 (by decide +kernel) rfl, bw_m 51 (by decide +kernel) rfl, bw_m 107 (by decide +kernel) rfl, bw_m 1335 (by decide +kernel) rfl⟩
theorem dX9_isCounter_0 : decode cX9_isCounter 0 = .ok (.aload_n 0, 1) := by decide +kernel
theorem dX9_isCounter_1 : decode cX9_isCounter 1 = .ok (.getfield 105, 3) := by decide +kernel
theorem dX9_isCounter_4 : decode cX9_isCounter 4 = .ok (.iconst 2, 1) := by decide +kernel
theorem dX9_isCounter_5 : decode cX9_isCounter 5 = .ok (.if_icmp .ne 31, 3) := by decide +kernel
theorem dX9_isCounter_36 : decode cX9_isCounter 36 = .ok (.iconst 0, 1) := by decide +kernel
theorem dX9_isCounter_37 : decode cX9_isCounter 37 = .ok (.ireturn, 1) := by decide +kernel
theorem dX9_isCounter_8 : decode cX9_isCounter 8 = .ok (.aload_n 0, 1) := by decide +kernel
theorem dX9_isCounter_9 : decode cX9_isCounter 9 = .ok (.getfield 99, 3) := by decide +kernel
theorem dX9_isCounter_12 : decode cX9_isCounter 12 = .ok (.iconst 1, 1) := by decide +kernel
theorem dX9_isCounter_13 : decode cX9_isCounter 13 = .ok (.if_icmp .ne 23, 3) := by decide +kernel
theorem dX9_isCounter_16 : decode cX9_isCounter 16 = .ok (.aload_n 0, 1) := by decide +kernel
theorem dX9_isCounter_17 : decode cX9_isCounter 17 = .ok (.getfield 17, 3) := by decide +kernel
theorem dX9_isCounter_20 : decode cX9_isCounter 20 = .ok (.iconst 0, 1) := by decide +kernel
theorem dX9_isCounter_21 : decode cX9_isCounter 21 = .ok (.iaload, 1) := by decide +kernel
theorem dX9_isCounter_22 : decode cX9_isCounter 22 = .ok (.bipush 97, 2) := by decide +kernel
theorem dX9_isCounter_24 : decode cX9_isCounter 24 = .ok (.bipush 100, 2) := by decide +kernel
theorem dX9_isCounter_26 : decode cX9_isCounter 26 = .ok (.invokestatic 146, 3) := by decide +kernel
theorem dX9_isCounter_29 : decode cX9_isCounter 29 = .ok (.ifCond .eq 7, 3) := by decide +kernel
theorem dX9_isCounter_32 : decode cX9_isCounter 32 = .ok (.iconst 1, 1) := by decide +kernel
theorem dX9_isCounter_33 : decode cX9_isCounter 33 = .ok (.goto 4, 3) := by decide +kernel
theorem dX9_mustName_147 : decode cX9_mustName 147 = .ok (.istore_n 1, 1) := by decide +kernel
theorem dX9_mustName_148 : decode cX9_mustName 148 = .ok (.aload_n 0, 1) := by decide +kernel
theorem dX9_mustName_149 : decode cX9_mustName 149 = .ok (.getfield 105, 3) := by decide +kernel
theorem dX9_mustName_152 : decode cX9_mustName 152 = .ok (.iconst 2, 1) := by decide +kernel
theorem dX9_mustName_153 : decode cX9_mustName 153 = .ok (.if_icmp .ne 7, 3) := by decide +kernel
theorem dX9_mustName_160 : decode cX9_mustName 160 = .ok (.aload_n 0, 1) := by decide +kernel
theorem dX9_mustName_161 : decode cX9_mustName 161 = .ok (.iconst 1, 1) := by decide +kernel
theorem dX9_mustName_162 : decode cX9_mustName 162 = .ok (.aload_n 0, 1) := by decide +kernel
theorem dX9_mustName_163 : decode cX9_mustName 163 = .ok (.getfield 96, 3) := by decide +kernel
theorem dX9_mustName_166 : decode cX9_mustName 166 = .ok (.invokevirtual 142, 3) := by decide +kernel
theorem dX9_mustName_169 : decode cX9_mustName 169 = .ok (.return_, 1) := by decide +kernel
theorem dX9_mustName_156 : decode cX9_mustName 156 = .ok (.iload_n 1, 1) := by decide +kernel
theorem dX9_mustName_157 : decode cX9_mustName 157 = .ok (.ifCond .eq 12, 3) := by decide +kernel
theorem dX9_mustName_0 : decode cX9_mustName 0 = .ok (.aload_n 0, 1) := by decide +kernel
theorem dX9_mustName_1 : decode cX9_mustName 1 = .ok (.invokevirtual 150, 3) := by decide +kernel
theorem k_1340 : Cond.methodLink RX9 150 yX9_isCounter ∈ bw_T := bw_m 1340 (by decide +kernel) rfl
theorem kv_X9_isCounter : bw_KV RX9 yX9_isCounter (Cond.code yX9_isCounter cX9_isCounter 1 (some .boolean)) := ⟨bw_m 1342 (by decide +kernel) rfl, bw_m 53 (by decide +kernel) rfl, bw_m 107 (by decide +kernel) rfl, bw_m 1343 (by decide +kernel) rfl⟩
theorem dX9_mustName_4 : decode cX9_mustName 4 = .ok (.ifCond .ne 138, 3) := by decide +kernel
theorem dX9_mustName_142 : decode cX9_mustName 142 = .ok (.iconst 1, 1) := by decide +kernel
theorem dX9_mustName_143 : decode cX9_mustName 143 = .ok (.goto 4, 3) := by decide +kernel
theorem dX9_mustName_7 : decode cX9_mustName 7 = .ok (.aload_n 0, 1) := by decide +kernel
theorem dX9_mustName_8 : decode cX9_mustName 8 = .ok (.ldc 154, 2) := by decide +kernel
theorem dX9_mustName_10 : decode cX9_mustName 10 = .ok (.invokevirtual 132, 3) := by decide +kernel
theorem dX9_mustName_13 : decode cX9_mustName 13 = .ok (.ifCond .ne 129, 3) := by decide +kernel
theorem dX9_mustName_16 : decode cX9_mustName 16 = .ok (.aload_n 0, 1) := by decide +kernel
theorem dX9_mustName_17 : decode cX9_mustName 17 = .ok (.ldc 156, 2) := by decide +kernel
theorem dX9_mustName_19 : decode cX9_mustName 19 = .ok (.invokevirtual 132, 3) := by decide +kernel
theorem dX9_mustName_22 : decode cX9_mustName 22 = .ok (.ifCond .ne 120, 3) := by decide +kernel
theorem dX9_mustName_25 : decode cX9_mustName 25 = .ok (.aload_n 0, 1) := by decide +kernel
theorem dX9_mustName_26 : decode cX9_mustName 26 = .ok (.ldc 158, 2) := by decide +kernel
theorem dX9_mustName_28 : decode cX9_mustName 28 = .ok (.invokevirtual 132, 3) := by decide +kernel
theorem dX9_mustName_31 : decode cX9_mustName 31 = .ok (.ifCond .ne 111, 3) := by decide +kernel
theorem dX9_mustName_34 : decode cX9_mustName 34 = .ok (.aload_n 0, 1) := by decide +kernel
theorem dX9_mustName_35 : decode cX9_mustName 35 = .ok (.ldc 159, 2) := by decide +kernel
theorem dX9_mustName_37 : decode cX9_mustName 37 = .ok (.invokevirtual 132, 3) := by decide +kernel
theorem dX9_mustName_40 : decode cX9_mustName 40 = .ok (.ifCond .ne 102, 3) := by decide +kernel
theorem dX9_mustName_43 : decode cX9_mustName 43 = .ok (.aload_n 0, 1) := by decide +kernel
theorem dX9_mustName_44 : decode cX9_mustName 44 = .ok (.ldc 161, 2) := by decide +kernel
theorem dX9_mustName_46 : decode cX9_mustName 46 = .ok (.invokevirtual 132, 3) := by decide +kernel
theorem dX9_mustName_49 : decode cX9_mustName 49 = .ok (.ifCond .ne 93, 3) := by decide +kernel
theorem dX9_mustName_52 : decode cX9_mustName 52 = .ok (.aload_n 0, 1) := by decide +kernel
theorem dX9_mustName_53 : decode cX9_mustName 53 = .ok (.ldc 163, 2) := by decide +kernel
theorem dX9_mustName_55 : decode cX9_mustName 55 = .ok (.invokevirtual 132, 3) := by decide +kernel
theorem dX9_mustName_58 : decode cX9_mustName 58 = .ok (.ifCond .ne 84, 3) := by decide +kernel
theorem dX9_mustName_61 : decode cX9_mustName 61 = .ok (.aload_n 0, 1) := by decide +kernel
theorem dX9_mustName_62 : decode cX9_mustName 62 = .ok (.ldc 165, 2) := by decide +kernel
theorem dX9_mustName_64 : decode cX9_mustName 64 = .ok (.invokevirtual 132, 3) := by decide +kernel
theorem dX9_mustName_67 : decode cX9_mustName 67 = .ok (.ifCond .ne 75, 3) := by decide +kernel
theorem dX9_mustName_70 : decode cX9_mustName 70 = .ok (.aload_n 0, 1) := by decide +kernel
theorem dX9_mustName_71 : decode cX9_mustName 71 = .ok (.ldc 167, 2) := by decide +kernel
theorem dX9_mustName_73 : decode cX9_mustName 73 = .ok (.invokevirtual 132, 3) := by decide +kernel
theorem dX9_mustName_76 : decode cX9_mustName 76 = .ok (.ifCond .ne 66, 3) := by decide +kernel
theorem dX9_mustName_79 : decode cX9_mustName 79 = .ok (.aload_n 0, 1) := by decide +kernel
theorem dX9_mustName_80 : decode cX9_mustName 80 = .ok (.ldc 169, 2) := by decide +kernel
theorem dX9_mustName_82 : decode cX9_mustName 82 = .ok (.invokevirtual 132, 3) := by decide +kernel
theorem dX9_mustName_85 : decode cX9_mustName 85 = .ok (.ifCond .ne 57, 3) := by decide +kernel
theorem dX9_mustName_88 : decode cX9_mustName 88 = .ok (.aload_n 0, 1) := by decide +kernel
theorem dX9_mustName_89 : decode cX9_mustName 89 = .ok (.ldc 171, 2) := by decide +kernel
theorem dX9_mustName_91 : decode cX9_mustName 91 = .ok (.invokevirtual 132, 3) := by decide +kernel
theorem dX9_mustName_94 : decode cX9_mustName 94 = .ok (.ifCond .ne 48, 3) := by decide +kernel
theorem dX9_mustName_97 : decode cX9_mustName 97 = .ok (.aload_n 0, 1) := by decide +kernel
theorem dX9_mustName_98 : decode cX9_mustName 98 = .ok (.ldc 172, 2) := by decide +kernel
theorem dX9_mustName_100 : decode cX9_mustName 100 = .ok (.invokevirtual 132, 3) := by decide +kernel
theorem dX9_mustName_103 : decode cX9_mustName 103 = .ok (.ifCond .ne 39, 3) := by decide +kernel
theorem dX9_mustName_106 : decode cX9_mustName 106 = .ok (.aload_n 0, 1) := by decide +kernel
theorem dX9_mustName_107 : decode cX9_mustName 107 = .ok (.ldc 174, 2) := by decide +kernel
theorem dX9_mustName_109 : decode cX9_mustName 109 = .ok (.invokevirtual 132, 3) := by decide +kernel
theorem dX9_mustName_112 : decode cX9_mustName 112 = .ok (.ifCond .ne 30, 3) := by decide +kernel
theorem dX9_mustName_115 : decode cX9_mustName 115 = .ok (.aload_n 0, 1) := by decide +kernel
theorem dX9_mustName_116 : decode cX9_mustName 116 = .ok (.ldc 176, 2) := by decide +kernel
theorem dX9_mustName_118 : decode cX9_mustName 118 = .ok (.invokevirtual 132, 3) := by decide +kernel
theorem dX9_mustName_121 : decode cX9_mustName 121 = .ok (.ifCond .ne 21, 3) := by decide +kernel
theorem dX9_mustName_124 : decode cX9_mustName 124 = .ok (.aload_n 0, 1) := by decide +kernel
theorem dX9_mustName_125 : decode cX9_mustName 125 = .ok (.ldc 178, 2) := by decide +kernel
theorem dX9_mustName_127 : decode cX9_mustName 127 = .ok (.invokevirtual 132, 3) := by decide +kernel
theorem dX9_mustName_130 : decode cX9_mustName 130 = .ok (.ifCond .ne 12, 3) := by decide +kernel
theorem dX9_mustName_133 : decode cX9_mustName 133 = .ok (.aload_n 0, 1) := by decide +kernel
theorem dX9_mustName_134 : decode cX9_mustName 134 = .ok (.ldc 180, 2) := by decide +kernel
theorem dX9_mustName_136 : decode cX9_mustName 136 = .ok (.invokevirtual 132, 3) := by decide +kernel
theorem dX9_mustName_139 : decode cX9_mustName 139 = .ok (.ifCond .eq 7, 3) := by decide +kernel
theorem dX9_mustName_146 : decode cX9_mustName 146 = .ok (.iconst 0, 1) := by decide +kernel
theorem dX9_find_0 : decode cX9_find 0 = .ok (.iconst 0, 1) := by decide +kernel
theorem dX9_find_1 : decode cX9_find 1 = .ok (.istore_n 1, 1) := by decide +kernel
theorem dX9_find_2 : decode cX9_find 2 = .ok (.iload_n 1, 1) := by decide +kernel
theorem dX9_find_3 : decode cX9_find 3 = .ok (.aload_n 0, 1) := by decide +kernel
theorem dX9_find_4 : decode cX9_find 4 = .ok (.getfield 182, 3) := by decide +kernel
theorem k_1194 : Cond.fieldLink RX9 182 "BurntWaysModel" "newLines" "I" ∈ bw_T := bw_m 1194 (by decide +kernel) rfl
theorem dX9_find_7 : decode cX9_find 7 = .ok (.if_icmp .ge 80, 3) := by decide +kernel
theorem dX9_find_87 : decode cX9_find 87 = .ok (.iconst (-1), 1) := by decide +kernel
theorem dX9_find_88 : decode cX9_find 88 = .ok (.ireturn, 1) := by decide +kernel
theorem dX9_find_10 : decode cX9_find 10 = .ok (.aload_n 0, 1) := by decide +kernel
theorem dX9_find_11 : decode cX9_find 11 = .ok (.getfield 44, 3) := by decide +kernel
theorem k_1186 : Cond.fieldLink RX9 44 "BurntWaysModel" "newSizes" "[I" ∈ bw_T := bw_m 1186 (by decide +kernel) rfl
theorem dX9_find_14 : decode cX9_find 14 = .ok (.iload_n 1, 1) := by decide +kernel
theorem dX9_find_15 : decode cX9_find 15 = .ok (.iaload, 1) := by decide +kernel
theorem dX9_find_16 : decode cX9_find 16 = .ok (.aload_n 0, 1) := by decide +kernel
theorem dX9_find_17 : decode cX9_find 17 = .ok (.getfield 99, 3) := by decide +kernel
theorem dX9_find_20 : decode cX9_find 20 = .ok (.if_icmp .ne 7, 3) := by decide +kernel
theorem dX9_find_27 : decode cX9_find 27 = .ok (.iconst 0, 1) := by decide +kernel
theorem dX9_find_28 : decode cX9_find 28 = .ok (.istore_n 2, 1) := by decide +kernel
theorem dX9_find_29 : decode cX9_find 29 = .ok (.iconst 0, 1) := by decide +kernel
theorem dX9_find_30 : decode cX9_find 30 = .ok (.istore_n 3, 1) := by decide +kernel
theorem dX9_find_31 : decode cX9_find 31 = .ok (.iload_n 3, 1) := by decide +kernel
theorem dX9_find_32 : decode cX9_find 32 = .ok (.aload_n 0, 1) := by decide +kernel
theorem dX9_find_33 : decode cX9_find 33 = .ok (.getfield 99, 3) := by decide +kernel
theorem dX9_find_36 : decode cX9_find 36 = .ok (.if_icmp .ge 39, 3) := by decide +kernel
theorem dX9_find_75 : decode cX9_find 75 = .ok (.iload_n 2, 1) := by decide +kernel
theorem dX9_find_76 : decode cX9_find 76 = .ok (.ifCond .eq 5, 3) := by decide +kernel
theorem dX9_find_81 : decode cX9_find 81 = .ok (.iinc 1 1, 3) := by decide +kernel
theorem dX9_find_84 : decode cX9_find 84 = .ok (.goto (-82), 3) := by decide +kernel
theorem dX9_find_79 : decode cX9_find 79 = .ok (.iload_n 1, 1) := by decide +kernel
theorem dX9_find_80 : decode cX9_find 80 = .ok (.ireturn, 1) := by decide +kernel
theorem dX9_find_39 : decode cX9_find 39 = .ok (.iload_n 2, 1) := by decide +kernel
theorem dX9_find_40 : decode cX9_find 40 = .ok (.ifCond .eq 35, 3) := by decide +kernel
theorem dX9_find_43 : decode cX9_find 43 = .ok (.aload_n 0, 1) := by decide +kernel
theorem dX9_find_44 : decode cX9_find 44 = .ok (.getfield 41, 3) := by decide +kernel
theorem k_1185 : Cond.fieldLink RX9 41 "BurntWaysModel" "newNames" "[I" ∈ bw_T := bw_m 1185 (by decide +kernel) rfl
theorem dX9_find_47 : decode cX9_find 47 = .ok (.bipush 8, 2) := by decide +kernel
theorem dX9_find_49 : decode cX9_find 49 = .ok (.iload_n 1, 1) := by decide +kernel
theorem dX9_find_50 : decode cX9_find 50 = .ok (.imul, 1) := by decide +kernel
theorem dX9_find_51 : decode cX9_find 51 = .ok (.iload_n 3, 1) := by decide +kernel
theorem dX9_find_52 : decode cX9_find 52 = .ok (.iadd, 1) := by decide +kernel
theorem dX9_find_53 : decode cX9_find 53 = .ok (.iaload, 1) := by decide +kernel
theorem dX9_find_54 : decode cX9_find 54 = .ok (.aload_n 0, 1) := by decide +kernel
theorem dX9_find_55 : decode cX9_find 55 = .ok (.getfield 17, 3) := by decide +kernel
theorem dX9_find_58 : decode cX9_find 58 = .ok (.iload_n 3, 1) := by decide +kernel
theorem dX9_find_59 : decode cX9_find 59 = .ok (.iaload, 1) := by decide +kernel
theorem dX9_find_60 : decode cX9_find 60 = .ok (.if_icmp .ne 7, 3) := by decide +kernel
theorem dX9_find_67 : decode cX9_find 67 = .ok (.iconst 0, 1) := by decide +kernel
theorem dX9_find_68 : decode cX9_find 68 = .ok (.istore_n 2, 1) := by decide +kernel
theorem dX9_find_69 : decode cX9_find 69 = .ok (.iinc 3 1, 3) := by decide +kernel
theorem dX9_find_72 : decode cX9_find 72 = .ok (.goto (-41), 3) := by decide +kernel
theorem dX9_find_63 : decode cX9_find 63 = .ok (.iconst 1, 1) := by decide +kernel
theorem dX9_find_64 : decode cX9_find 64 = .ok (.goto 4, 3) := by decide +kernel
theorem dX9_find_23 : decode cX9_find 23 = .ok (.iconst 1, 1) := by decide +kernel
theorem dX9_find_24 : decode cX9_find 24 = .ok (.goto 4, 3) := by decide +kernel