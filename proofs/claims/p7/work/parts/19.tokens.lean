abbrev ReaderOk (i : Nat → Int) : Prop := (0 ≤ i 0 ∧ i 0 ≤ 900) ∧ (0 ≤ i 3 ∧ i 3 ≤ 900) ∧ (0 ≤ i 4 ∧ i 4 ≤ 24) ∧ (0 ≤ i 5 ∧ i 5 ≤ 900) ∧ (0 ≤ i 6 ∧ i 6 ≤ 900) ∧ zR (i 8)
theorem dX3_put_0 : decode cX3_put 0 = .ok (.bipush 24, 2) := by decide +kernel
theorem dX3_put_2 : decode cX3_put 2 = .ok (.istore_n 2, 1) := by decide +kernel
theorem dX3_put_3 : decode cX3_put 3 = .ok (.iload_n 2, 1) := by decide +kernel
theorem dX3_put_4 : decode cX3_put 4 = .ok (.ifCond .lt 32, 3) := by decide +kernel
theorem dX3_put_36 : decode cX3_put 36 = .ok (.return_, 1) := by decide +kernel
theorem dX3_put_7 : decode cX3_put 7 = .ok (.aload_n 0, 1) := by decide +kernel
theorem dX3_put_8 : decode cX3_put 8 = .ok (.getfield 9, 3) := by decide +kernel
theorem k_261 : Cond.fieldLink RX3 9 "BurntWays$Reader" "tape" "[B" ∈ bw_T := bw_m 261 (by decide +kernel) rfl
theorem in_X3 : ∀ w ∈ wsX30, w ∈ bw_T := bw_ms _ [280, 282, 284, 286, 288, 290, 292, 294, 296, 298, 300, 302, 304, 306] (by decide +kernel) (by decide +kernel)
theorem dX3_put_11 : decode cX3_put 11 = .ok (.aload_n 0, 1) := by decide +kernel
theorem dX3_put_12 : decode cX3_put 12 = .ok (.getfield 15, 3) := by decide +kernel
theorem k_262 : Cond.fieldLink RX3 15 "BurntWays$Reader" "tapeLength" "I" ∈ bw_T := bw_m 262 (by decide +kernel) rfl
theorem dX3_put_15 : decode cX3_put 15 = .ok (.iload_n 1, 1) := by decide +kernel
theorem dX3_put_16 : decode cX3_put 16 = .ok (.iload_n 2, 1) := by decide +kernel
theorem dX3_put_17 : decode cX3_put 17 = .ok (.ishr, 1) := by decide +kernel
theorem dX3_put_18 : decode cX3_put 18 = .ok (.i2b, 1) := by decide +kernel
theorem dX3_put_19 : decode cX3_put 19 = .ok (.bastore, 1) := by decide +kernel
theorem dX3_put_20 : decode cX3_put 20 = .ok (.aload_n 0, 1) := by decide +kernel
theorem dX3_put_21 : decode cX3_put 21 = .ok (.dup, 1) := by decide +kernel
theorem dX3_put_22 : decode cX3_put 22 = .ok (.getfield 15, 3) := by decide +kernel
theorem dX3_put_25 : decode cX3_put 25 = .ok (.iconst 1, 1) := by decide +kernel
theorem dX3_put_26 : decode cX3_put 26 = .ok (.iadd, 1) := by decide +kernel
theorem dX3_put_27 : decode cX3_put 27 = .ok (.putfield 15, 3) := by decide +kernel
theorem dX3_put_30 : decode cX3_put 30 = .ok (.iinc 2 (-8), 3) := by decide +kernel
theorem dX3_put_33 : decode cX3_put 33 = .ok (.goto (-30), 3) := by decide +kernel
theorem dX3_fail_0 : decode cX3_fail 0 = .ok (.aload_n 0, 1) := by decide +kernel
theorem dX3_fail_1 : decode cX3_fail 1 = .ok (.iload_n 1, 1) := by decide +kernel
theorem dX3_fail_2 : decode cX3_fail 2 = .ok (.putfield 33, 3) := by decide +kernel
theorem k_268 : Cond.fieldLink RX3 33 "BurntWays$Reader" "fault" "I" ∈ bw_T := bw_m 268 (by decide +kernel) rfl
theorem dX3_fail_5 : decode cX3_fail 5 = .ok (.aload_n 0, 1) := by decide +kernel
theorem dX3_fail_6 : decode cX3_fail 6 = .ok (.aload_n 0, 1) := by decide +kernel
theorem dX3_fail_7 : decode cX3_fail 7 = .ok (.getfield 52, 3) := by decide +kernel
theorem k_276 : Cond.fieldLink RX3 52 "BurntWays$Reader" "place" "I" ∈ bw_T := bw_m 276 (by decide +kernel) rfl
theorem dX3_fail_10 : decode cX3_fail 10 = .ok (.putfield 36, 3) := by decide +kernel
theorem k_270 : Cond.fieldLink RX3 36 "BurntWays$Reader" "faultPlace" "I" ∈ bw_T := bw_m 270 (by decide +kernel) rfl
theorem dX3_fail_13 : decode cX3_fail 13 = .ok (.iconst 0, 1) := by decide +kernel
theorem dX3_fail_14 : decode cX3_fail 14 = .ok (.ireturn, 1) := by decide +kernel
theorem dX3_isWord_0 : decode cX3_isWord 0 = .ok (.aload_n 0, 1) := by decide +kernel
theorem dX3_isWord_1 : decode cX3_isWord 1 = .ok (.getfield 49, 3) := by decide +kernel
theorem k_275 : Cond.fieldLink RX3 49 "BurntWays$Reader" "kind" "I" ∈ bw_T := bw_m 275 (by decide +kernel) rfl
theorem dX3_isWord_4 : decode cX3_isWord 4 = .ok (.iload_n 1, 1) := by decide +kernel
theorem dX3_isWord_5 : decode cX3_isWord 5 = .ok (.if_icmp .eq 11, 3) := by decide +kernel
theorem dX3_isWord_16 : decode cX3_isWord 16 = .ok (.iconst 1, 1) := by decide +kernel
theorem dX3_isWord_17 : decode cX3_isWord 17 = .ok (.goto 4, 3) := by decide +kernel
theorem dX3_isWord_21 : decode cX3_isWord 21 = .ok (.ireturn, 1) := by decide +kernel
theorem dX3_isWord_8 : decode cX3_isWord 8 = .ok (.aload_n 0, 1) := by decide +kernel
theorem dX3_isWord_9 : decode cX3_isWord 9 = .ok (.iconst 1, 1) := by decide +kernel
theorem dX3_isWord_10 : decode cX3_isWord 10 = .ok (.invokevirtual 98, 3) := by decide +kernel
theorem k_575 : Cond.methodLink RX3 98 yX3_fail ∈ bw_T := bw_m 575 (by decide +kernel) rfl
theorem kv_X3_fail : bw_KV RX3 yX3_fail (Cond.code yX3_fail cX3_fail 2 (some .boolean)) := ⟨bw_m 577 (by decide +kernel) rfl, bw_m 6 (by decide +kernel) rfl, bw_m 95 (by decide +kernel) rfl, bw_m 578 (by decide +kernel) rfl⟩
theorem dX3_isWord_13 : decode cX3_isWord 13 = .ok (.ifCond .eq 7, 3) := by decide +kernel
theorem dX3_isWord_20 : decode cX3_isWord 20 = .ok (.iconst 0, 1) := by decide +kernel
theorem dX3_isCounter_0 : decode cX3_isCounter 0 = .ok (.aload_n 0, 1) := by decide +kernel
theorem dX3_isCounter_1 : decode cX3_isCounter 1 = .ok (.getfield 49, 3) := by decide +kernel
theorem dX3_isCounter_4 : decode cX3_isCounter 4 = .ok (.bipush 15, 2) := by decide +kernel
theorem dX3_isCounter_6 : decode cX3_isCounter 6 = .ok (.if_icmp .lt 12, 3) := by decide +kernel
theorem dX3_isCounter_18 : decode cX3_isCounter 18 = .ok (.aload_n 0, 1) := by decide +kernel
theorem dX3_isCounter_19 : decode cX3_isCounter 19 = .ok (.iconst 1, 1) := by decide +kernel
theorem dX3_isCounter_20 : decode cX3_isCounter 20 = .ok (.invokevirtual 98, 3) := by decide +kernel
theorem dX3_isCounter_23 : decode cX3_isCounter 23 = .ok (.ifCond .eq 7, 3) := by decide +kernel
theorem dX3_isCounter_30 : decode cX3_isCounter 30 = .ok (.iconst 0, 1) := by decide +kernel
theorem dX3_isCounter_31 : decode cX3_isCounter 31 = .ok (.ireturn, 1) := by decide +kernel
theorem dX3_isCounter_26 : decode cX3_isCounter 26 = .ok (.iconst 1, 1) := by decide +kernel
theorem dX3_isCounter_27 : decode cX3_isCounter 27 = .ok (.goto 4, 3) := by decide +kernel
theorem dX3_isCounter_9 : decode cX3_isCounter 9 = .ok (.aload_n 0, 1) := by decide +kernel
theorem dX3_isCounter_10 : decode cX3_isCounter 10 = .ok (.getfield 49, 3) := by decide +kernel
theorem dX3_isCounter_13 : decode cX3_isCounter 13 = .ok (.bipush 19, 2) := by decide +kernel
theorem dX3_isCounter_15 : decode cX3_isCounter 15 = .ok (.if_icmp .lt 11, 3) := by decide +kernel
theorem dX3_isWhole_0 : decode cX3_isWhole 0 = .ok (.aload_n 0, 1) := by decide +kernel
theorem dX3_isWhole_1 : decode cX3_isWhole 1 = .ok (.getfield 49, 3) := by decide +kernel
theorem dX3_isWhole_4 : decode cX3_isWhole 4 = .ok (.bipush 20, 2) := by decide +kernel
theorem dX3_isWhole_6 : decode cX3_isWhole 6 = .ok (.if_icmp .eq 9, 3) := by decide +kernel
theorem dX3_isWhole_15 : decode cX3_isWhole 15 = .ok (.aload_n 0, 1) := by decide +kernel
theorem dX3_isWhole_16 : decode cX3_isWhole 16 = .ok (.getfield 62, 3) := by decide +kernel
theorem k_279 : Cond.fieldLink RX3 62 "BurntWays$Reader" "number" "I" ∈ bw_T := bw_m 279 (by decide +kernel) rfl
theorem dX3_isWhole_19 : decode cX3_isWhole 19 = .ok (.iload_n 1, 1) := by decide +kernel
theorem dX3_isWhole_20 : decode cX3_isWhole 20 = .ok (.if_icmp .lt 11, 3) := by decide +kernel
theorem dX3_isWhole_31 : decode cX3_isWhole 31 = .ok (.aload_n 0, 1) := by decide +kernel
theorem dX3_isWhole_32 : decode cX3_isWhole 32 = .ok (.iconst 4, 1) := by decide +kernel
theorem dX3_isWhole_33 : decode cX3_isWhole 33 = .ok (.invokevirtual 98, 3) := by decide +kernel
theorem dX3_isWhole_36 : decode cX3_isWhole 36 = .ok (.ifCond .eq 7, 3) := by decide +kernel
theorem dX3_isWhole_43 : decode cX3_isWhole 43 = .ok (.iconst 0, 1) := by decide +kernel
theorem dX3_isWhole_44 : decode cX3_isWhole 44 = .ok (.ireturn, 1) := by decide +kernel
theorem dX3_isWhole_39 : decode cX3_isWhole 39 = .ok (.iconst 1, 1) := by decide +kernel
theorem dX3_isWhole_40 : decode cX3_isWhole 40 = .ok (.goto 4, 3) := by decide +kernel
theorem dX3_isWhole_23 : decode cX3_isWhole 23 = .ok (.aload_n 0, 1) := by decide +kernel
theorem dX3_isWhole_24 : decode cX3_isWhole 24 = .ok (.getfield 62, 3) := by decide +kernel
theorem dX3_isWhole_27 : decode cX3_isWhole 27 = .ok (.iload_n 2, 1) := by decide +kernel
theorem dX3_isWhole_28 : decode cX3_isWhole 28 = .ok (.if_icmp .le 11, 3) := by decide +kernel
theorem dX3_isWhole_9 : decode cX3_isWhole 9 = .ok (.aload_n 0, 1) := by decide +kernel
theorem dX3_isWhole_10 : decode cX3_isWhole 10 = .ok (.iconst 1, 1) := by decide +kernel
theorem dX3_isWhole_11 : decode cX3_isWhole 11 = .ok (.invokevirtual 98, 3) := by decide +kernel
theorem dX3_isWhole_14 : decode cX3_isWhole 14 = .ok (.ireturn, 1) := by decide +kernel
theorem dX3_lookAtWhole_0 : decode cX3_lookAtWhole 0 = .ok (.aload_n 0, 1) := by decide +kernel
theorem dX3_lookAtWhole_1 : decode cX3_lookAtWhole 1 = .ok (.iconst 0, 1) := by decide +kernel
theorem dX3_lookAtWhole_2 : decode cX3_lookAtWhole 2 = .ok (.putfield 62, 3) := by decide +kernel
theorem dX3_lookAtWhole_5 : decode cX3_lookAtWhole 5 = .ok (.aload_n 0, 1) := by decide +kernel
theorem dX3_lookAtWhole_6 : decode cX3_lookAtWhole 6 = .ok (.getfield 55, 3) := by decide +kernel
theorem k_277 : Cond.fieldLink RX3 55 "BurntWays$Reader" "behind" "I" ∈ bw_T := bw_m 277 (by decide +kernel) rfl
theorem dX3_lookAtWhole_9 : decode cX3_lookAtWhole 9 = .ok (.aload_n 0, 1) := by decide +kernel
theorem dX3_lookAtWhole_10 : decode cX3_lookAtWhole 10 = .ok (.getfield 46, 3) := by decide +kernel
theorem k_274 : Cond.fieldLink RX3 46 "BurntWays$Reader" "textLength" "I" ∈ bw_T := bw_m 274 (by decide +kernel) rfl
theorem dX3_lookAtWhole_13 : decode cX3_lookAtWhole 13 = .ok (.if_icmp .ge 68, 3) := by decide +kernel
theorem dX3_lookAtWhole_81 : decode cX3_lookAtWhole 81 = .ok (.aload_n 0, 1) := by decide +kernel
theorem dX3_lookAtWhole_82 : decode cX3_lookAtWhole 82 = .ok (.aload_n 0, 1) := by decide +kernel
theorem dX3_lookAtWhole_83 : decode cX3_lookAtWhole 83 = .ok (.getfield 55, 3) := by decide +kernel
theorem dX3_lookAtWhole_86 : decode cX3_lookAtWhole 86 = .ok (.aload_n 0, 1) := by decide +kernel
theorem dX3_lookAtWhole_87 : decode cX3_lookAtWhole 87 = .ok (.getfield 52, 3) := by decide +kernel
theorem dX3_lookAtWhole_90 : decode cX3_lookAtWhole 90 = .ok (.isub, 1) := by decide +kernel
theorem dX3_lookAtWhole_91 : decode cX3_lookAtWhole 91 = .ok (.iconst 3, 1) := by decide +kernel
theorem dX3_lookAtWhole_92 : decode cX3_lookAtWhole 92 = .ok (.if_icmp .gt 8, 3) := by decide +kernel
theorem dX3_lookAtWhole_100 : decode cX3_lookAtWhole 100 = .ok (.bipush 23, 2) := by decide +kernel
theorem dX3_lookAtWhole_102 : decode cX3_lookAtWhole 102 = .ok (.putfield 49, 3) := by decide +kernel
theorem dX3_lookAtWhole_105 : decode cX3_lookAtWhole 105 = .ok (.return_, 1) := by decide +kernel
theorem dX3_lookAtWhole_95 : decode cX3_lookAtWhole 95 = .ok (.bipush 20, 2) := by decide +kernel
theorem dX3_lookAtWhole_97 : decode cX3_lookAtWhole 97 = .ok (.goto 5, 3) := by decide +kernel
theorem dX3_lookAtWhole_16 : decode cX3_lookAtWhole 16 = .ok (.aload_n 0, 1) := by decide +kernel
theorem dX3_lookAtWhole_17 : decode cX3_lookAtWhole 17 = .ok (.getfield 9, 3) := by decide +kernel
theorem dX3_lookAtWhole_20 : decode cX3_lookAtWhole 20 = .ok (.aload_n 0, 1) := by decide +kernel
theorem dX3_lookAtWhole_21 : decode cX3_lookAtWhole 21 = .ok (.getfield 55, 3) := by decide +kernel
theorem dX3_lookAtWhole_24 : decode cX3_lookAtWhole 24 = .ok (.baload, 1) := by decide +kernel
theorem dX3_lookAtWhole_25 : decode cX3_lookAtWhole 25 = .ok (.bipush 48, 2) := by decide +kernel
theorem dX3_lookAtWhole_27 : decode cX3_lookAtWhole 27 = .ok (.if_icmp .lt 54, 3) := by decide +kernel
theorem dX3_lookAtWhole_30 : decode cX3_lookAtWhole 30 = .ok (.aload_n 0, 1) := by decide +kernel
theorem dX3_lookAtWhole_31 : decode cX3_lookAtWhole 31 = .ok (.getfield 9, 3) := by decide +kernel
theorem dX3_lookAtWhole_34 : decode cX3_lookAtWhole 34 = .ok (.aload_n 0, 1) := by decide +kernel
theorem dX3_lookAtWhole_35 : decode cX3_lookAtWhole 35 = .ok (.getfield 55, 3) := by decide +kernel
theorem dX3_lookAtWhole_38 : decode cX3_lookAtWhole 38 = .ok (.baload, 1) := by decide +kernel
theorem dX3_lookAtWhole_39 : decode cX3_lookAtWhole 39 = .ok (.bipush 57, 2) := by decide +kernel
theorem dX3_lookAtWhole_41 : decode cX3_lookAtWhole 41 = .ok (.if_icmp .gt 40, 3) := by decide +kernel
theorem dX3_lookAtWhole_44 : decode cX3_lookAtWhole 44 = .ok (.aload_n 0, 1) := by decide +kernel
theorem dX3_lookAtWhole_45 : decode cX3_lookAtWhole 45 = .ok (.aload_n 0, 1) := by decide +kernel
theorem dX3_lookAtWhole_46 : decode cX3_lookAtWhole 46 = .ok (.getfield 62, 3) := by decide +kernel
theorem dX3_lookAtWhole_49 : decode cX3_lookAtWhole 49 = .ok (.bipush 10, 2) := by decide +kernel
theorem dX3_lookAtWhole_51 : decode cX3_lookAtWhole 51 = .ok (.imul, 1) := by decide +kernel
theorem dX3_lookAtWhole_52 : decode cX3_lookAtWhole 52 = .ok (.aload_n 0, 1) := by decide +kernel
theorem dX3_lookAtWhole_53 : decode cX3_lookAtWhole 53 = .ok (.getfield 9, 3) := by decide +kernel
theorem dX3_lookAtWhole_56 : decode cX3_lookAtWhole 56 = .ok (.aload_n 0, 1) := by decide +kernel
theorem dX3_lookAtWhole_57 : decode cX3_lookAtWhole 57 = .ok (.getfield 55, 3) := by decide +kernel
theorem dX3_lookAtWhole_60 : decode cX3_lookAtWhole 60 = .ok (.baload, 1) := by decide +kernel
theorem dX3_lookAtWhole_61 : decode cX3_lookAtWhole 61 = .ok (.bipush 48, 2) := by decide +kernel
theorem dX3_lookAtWhole_63 : decode cX3_lookAtWhole 63 = .ok (.isub, 1) := by decide +kernel
theorem dX3_lookAtWhole_64 : decode cX3_lookAtWhole 64 = .ok (.iadd, 1) := by decide +kernel
theorem dX3_lookAtWhole_65 : decode cX3_lookAtWhole 65 = .ok (.putfield 62, 3) := by decide +kernel
theorem dX3_lookAtWhole_68 : decode cX3_lookAtWhole 68 = .ok (.aload_n 0, 1) := by decide +kernel
theorem dX3_lookAtWhole_69 : decode cX3_lookAtWhole 69 = .ok (.dup, 1) := by decide +kernel
theorem dX3_lookAtWhole_70 : decode cX3_lookAtWhole 70 = .ok (.getfield 55, 3) := by decide +kernel
theorem dX3_lookAtWhole_73 : decode cX3_lookAtWhole 73 = .ok (.iconst 1, 1) := by decide +kernel
theorem dX3_lookAtWhole_74 : decode cX3_lookAtWhole 74 = .ok (.iadd, 1) := by decide +kernel
theorem dX3_lookAtWhole_75 : decode cX3_lookAtWhole 75 = .ok (.putfield 55, 3) := by decide +kernel
theorem dX3_lookAtWhole_78 : decode cX3_lookAtWhole 78 = .ok (.goto (-73), 3) := by decide +kernel
theorem dX3_lookAtWord_0 : decode cX3_lookAtWord 0 = .ok (.aload_n 0, 1) := by decide +kernel
theorem dX3_lookAtWord_1 : decode cX3_lookAtWord 1 = .ok (.lconst 0, 1) := by decide +kernel
theorem dX3_lookAtWord_2 : decode cX3_lookAtWord 2 = .ok (.putfield 58, 3) := by decide +kernel
theorem k_278 : Cond.fieldLink RX3 58 "BurntWays$Reader" "word" "J" ∈ bw_T := bw_m 278 (by decide +kernel) rfl
theorem dX3_lookAtWord_5 : decode cX3_lookAtWord 5 = .ok (.aload_n 0, 1) := by decide +kernel
theorem dX3_lookAtWord_6 : decode cX3_lookAtWord 6 = .ok (.getfield 55, 3) := by decide +kernel
theorem dX3_lookAtWord_9 : decode cX3_lookAtWord 9 = .ok (.aload_n 0, 1) := by decide +kernel
theorem dX3_lookAtWord_10 : decode cX3_lookAtWord 10 = .ok (.getfield 46, 3) := by decide +kernel
theorem dX3_lookAtWord_13 : decode cX3_lookAtWord 13 = .ok (.if_icmp .ge 70, 3) := by decide +kernel
theorem dX3_lookAtWord_83 : decode cX3_lookAtWord 83 = .ok (.aload_n 0, 1) := by decide +kernel
theorem dX3_lookAtWord_84 : decode cX3_lookAtWord 84 = .ok (.aload_n 0, 1) := by decide +kernel
theorem dX3_lookAtWord_85 : decode cX3_lookAtWord 85 = .ok (.getfield 55, 3) := by decide +kernel
theorem dX3_lookAtWord_88 : decode cX3_lookAtWord 88 = .ok (.aload_n 0, 1) := by decide +kernel
theorem dX3_lookAtWord_89 : decode cX3_lookAtWord 89 = .ok (.getfield 52, 3) := by decide +kernel
theorem dX3_lookAtWord_92 : decode cX3_lookAtWord 92 = .ok (.isub, 1) := by decide +kernel
theorem dX3_lookAtWord_93 : decode cX3_lookAtWord 93 = .ok (.bipush 8, 2) := by decide +kernel
theorem dX3_lookAtWord_95 : decode cX3_lookAtWord 95 = .ok (.if_icmp .gt 8, 3) := by decide +kernel
theorem dX3_lookAtWord_103 : decode cX3_lookAtWord 103 = .ok (.bipush 23, 2) := by decide +kernel
theorem dX3_lookAtWord_105 : decode cX3_lookAtWord 105 = .ok (.putfield 49, 3) := by decide +kernel
theorem dX3_lookAtWord_108 : decode cX3_lookAtWord 108 = .ok (.iconst 0, 1) := by decide +kernel
theorem dX3_lookAtWord_109 : decode cX3_lookAtWord 109 = .ok (.istore_n 1, 1) := by decide +kernel
theorem dX3_lookAtWord_110 : decode cX3_lookAtWord 110 = .ok (.iload_n 1, 1) := by decide +kernel
theorem dX3_lookAtWord_111 : decode cX3_lookAtWord 111 = .ok (.bipush 19, 2) := by decide +kernel
theorem dX3_lookAtWord_113 : decode cX3_lookAtWord 113 = .ok (.if_icmp .ge 44, 3) := by decide +kernel
theorem dX3_lookAtWord_157 : decode cX3_lookAtWord 157 = .ok (.return_, 1) := by decide +kernel
theorem dX3_lookAtWord_116 : decode cX3_lookAtWord 116 = .ok (.aload_n 0, 1) := by decide +kernel
theorem dX3_lookAtWord_117 : decode cX3_lookAtWord 117 = .ok (.getfield 49, 3) := by decide +kernel
theorem dX3_lookAtWord_120 : decode cX3_lookAtWord 120 = .ok (.bipush 19, 2) := by decide +kernel
theorem dX3_lookAtWord_122 : decode cX3_lookAtWord 122 = .ok (.if_icmp .ne 35, 3) := by decide +kernel
theorem dX3_lookAtWord_125 : decode cX3_lookAtWord 125 = .ok (.aload_n 0, 1) := by decide +kernel
theorem dX3_lookAtWord_126 : decode cX3_lookAtWord 126 = .ok (.aload_n 0, 1) := by decide +kernel
theorem dX3_lookAtWord_127 : decode cX3_lookAtWord 127 = .ok (.getfield 39, 3) := by decide +kernel
theorem k_272 : Cond.fieldLink RX3 39 "BurntWays$Reader" "reserved" "[J" ∈ bw_T := bw_m 272 (by decide +kernel) rfl
theorem dX3_lookAtWord_130 : decode cX3_lookAtWord 130 = .ok (.iload_n 1, 1) := by decide +kernel
theorem dX3_lookAtWord_131 : decode cX3_lookAtWord 131 = .ok (.laload, 1) := by decide +kernel
theorem dX3_lookAtWord_132 : decode cX3_lookAtWord 132 = .ok (.aload_n 0, 1) := by decide +kernel
theorem dX3_lookAtWord_133 : decode cX3_lookAtWord 133 = .ok (.getfield 58, 3) := by decide +kernel
theorem dX3_lookAtWord_136 : decode cX3_lookAtWord 136 = .ok (.lcmp, 1) := by decide +kernel
theorem dX3_lookAtWord_137 : decode cX3_lookAtWord 137 = .ok (.ifCond .ne 7, 3) := by decide +kernel
theorem dX3_lookAtWord_144 : decode cX3_lookAtWord 144 = .ok (.aload_n 0, 1) := by decide +kernel
theorem dX3_lookAtWord_145 : decode cX3_lookAtWord 145 = .ok (.getfield 49, 3) := by decide +kernel
theorem dX3_lookAtWord_148 : decode cX3_lookAtWord 148 = .ok (.putfield 49, 3) := by decide +kernel
theorem dX3_lookAtWord_151 : decode cX3_lookAtWord 151 = .ok (.iinc 1 1, 3) := by decide +kernel
theorem dX3_lookAtWord_154 : decode cX3_lookAtWord 154 = .ok (.goto (-44), 3) := by decide +kernel
theorem dX3_lookAtWord_140 : decode cX3_lookAtWord 140 = .ok (.iload_n 1, 1) := by decide +kernel
theorem dX3_lookAtWord_141 : decode cX3_lookAtWord 141 = .ok (.goto 7, 3) := by decide +kernel
theorem dX3_lookAtWord_98 : decode cX3_lookAtWord 98 = .ok (.bipush 19, 2) := by decide +kernel
theorem dX3_lookAtWord_100 : decode cX3_lookAtWord 100 = .ok (.goto 5, 3) := by decide +kernel
theorem dX3_lookAtWord_16 : decode cX3_lookAtWord 16 = .ok (.aload_n 0, 1) := by decide +kernel
theorem dX3_lookAtWord_17 : decode cX3_lookAtWord 17 = .ok (.getfield 9, 3) := by decide +kernel
theorem dX3_lookAtWord_20 : decode cX3_lookAtWord 20 = .ok (.aload_n 0, 1) := by decide +kernel
theorem dX3_lookAtWord_21 : decode cX3_lookAtWord 21 = .ok (.getfield 55, 3) := by decide +kernel
theorem dX3_lookAtWord_24 : decode cX3_lookAtWord 24 = .ok (.baload, 1) := by decide +kernel
theorem dX3_lookAtWord_25 : decode cX3_lookAtWord 25 = .ok (.bipush 97, 2) := by decide +kernel
theorem dX3_lookAtWord_27 : decode cX3_lookAtWord 27 = .ok (.if_icmp .lt 56, 3) := by decide +kernel
theorem dX3_lookAtWord_30 : decode cX3_lookAtWord 30 = .ok (.aload_n 0, 1) := by decide +kernel
theorem dX3_lookAtWord_31 : decode cX3_lookAtWord 31 = .ok (.getfield 9, 3) := by decide +kernel
theorem dX3_lookAtWord_34 : decode cX3_lookAtWord 34 = .ok (.aload_n 0, 1) := by decide +kernel
theorem dX3_lookAtWord_35 : decode cX3_lookAtWord 35 = .ok (.getfield 55, 3) := by decide +kernel
theorem dX3_lookAtWord_38 : decode cX3_lookAtWord 38 = .ok (.baload, 1) := by decide +kernel
theorem dX3_lookAtWord_39 : decode cX3_lookAtWord 39 = .ok (.bipush 122, 2) := by decide +kernel
theorem dX3_lookAtWord_41 : decode cX3_lookAtWord 41 = .ok (.if_icmp .gt 42, 3) := by decide +kernel
theorem dX3_lookAtWord_44 : decode cX3_lookAtWord 44 = .ok (.aload_n 0, 1) := by decide +kernel
theorem dX3_lookAtWord_45 : decode cX3_lookAtWord 45 = .ok (.aload_n 0, 1) := by decide +kernel
theorem dX3_lookAtWord_46 : decode cX3_lookAtWord 46 = .ok (.getfield 58, 3) := by decide +kernel
theorem dX3_lookAtWord_49 : decode cX3_lookAtWord 49 = .ok (.ldc2_w 77, 3) := by decide +kernel
theorem k_260 : Cond.constantLong RX3 77 (32) ∈ bw_T := bw_m 260 (by decide +kernel) rfl
theorem dX3_lookAtWord_52 : decode cX3_lookAtWord 52 = .ok (.lmul, 1) := by decide +kernel
theorem dX3_lookAtWord_53 : decode cX3_lookAtWord 53 = .ok (.aload_n 0, 1) := by decide +kernel
theorem dX3_lookAtWord_54 : decode cX3_lookAtWord 54 = .ok (.getfield 9, 3) := by decide +kernel
theorem dX3_lookAtWord_57 : decode cX3_lookAtWord 57 = .ok (.aload_n 0, 1) := by decide +kernel
theorem dX3_lookAtWord_58 : decode cX3_lookAtWord 58 = .ok (.getfield 55, 3) := by decide +kernel
theorem dX3_lookAtWord_61 : decode cX3_lookAtWord 61 = .ok (.baload, 1) := by decide +kernel
theorem dX3_lookAtWord_62 : decode cX3_lookAtWord 62 = .ok (.bipush 96, 2) := by decide +kernel
theorem dX3_lookAtWord_64 : decode cX3_lookAtWord 64 = .ok (.isub, 1) := by decide +kernel
theorem dX3_lookAtWord_65 : decode cX3_lookAtWord 65 = .ok (.i2l, 1) := by decide +kernel
theorem dX3_lookAtWord_66 : decode cX3_lookAtWord 66 = .ok (.ladd, 1) := by decide +kernel
theorem dX3_lookAtWord_67 : decode cX3_lookAtWord 67 = .ok (.putfield 58, 3) := by decide +kernel
theorem dX3_lookAtWord_70 : decode cX3_lookAtWord 70 = .ok (.aload_n 0, 1) := by decide +kernel
theorem dX3_lookAtWord_71 : decode cX3_lookAtWord 71 = .ok (.dup, 1) := by decide +kernel
theorem dX3_lookAtWord_72 : decode cX3_lookAtWord 72 = .ok (.getfield 55, 3) := by decide +kernel
theorem dX3_lookAtWord_75 : decode cX3_lookAtWord 75 = .ok (.iconst 1, 1) := by decide +kernel
theorem dX3_lookAtWord_76 : decode cX3_lookAtWord 76 = .ok (.iadd, 1) := by decide +kernel
theorem dX3_lookAtWord_77 : decode cX3_lookAtWord 77 = .ok (.putfield 55, 3) := by decide +kernel
theorem dX3_lookAtWord_80 : decode cX3_lookAtWord 80 = .ok (.goto (-75), 3) := by decide +kernel
theorem dX3_advance_0 : decode cX3_advance 0 = .ok (.aload_n 0, 1) := by decide +kernel
theorem dX3_advance_1 : decode cX3_advance 1 = .ok (.aload_n 0, 1) := by decide +kernel
theorem dX3_advance_2 : decode cX3_advance 2 = .ok (.getfield 55, 3) := by decide +kernel
theorem dX3_advance_5 : decode cX3_advance 5 = .ok (.putfield 52, 3) := by decide +kernel
theorem dX3_advance_8 : decode cX3_advance 8 = .ok (.aload_n 0, 1) := by decide +kernel
theorem dX3_advance_9 : decode cX3_advance 9 = .ok (.getfield 52, 3) := by decide +kernel
theorem dX3_advance_12 : decode cX3_advance 12 = .ok (.aload_n 0, 1) := by decide +kernel
theorem dX3_advance_13 : decode cX3_advance 13 = .ok (.getfield 46, 3) := by decide +kernel
theorem dX3_advance_16 : decode cX3_advance 16 = .ok (.if_icmp .ge 30, 3) := by decide +kernel
theorem dX3_advance_46 : decode cX3_advance 46 = .ok (.aload_n 0, 1) := by decide +kernel
theorem dX3_advance_47 : decode cX3_advance 47 = .ok (.aload_n 0, 1) := by decide +kernel
theorem dX3_advance_48 : decode cX3_advance 48 = .ok (.getfield 52, 3) := by decide +kernel
theorem dX3_advance_51 : decode cX3_advance 51 = .ok (.putfield 55, 3) := by decide +kernel
theorem dX3_advance_54 : decode cX3_advance 54 = .ok (.aload_n 0, 1) := by decide +kernel
theorem dX3_advance_55 : decode cX3_advance 55 = .ok (.getfield 52, 3) := by decide +kernel
theorem dX3_advance_58 : decode cX3_advance 58 = .ok (.aload_n 0, 1) := by decide +kernel
theorem dX3_advance_59 : decode cX3_advance 59 = .ok (.getfield 46, 3) := by decide +kernel
theorem dX3_advance_62 : decode cX3_advance 62 = .ok (.if_icmp .lt 10, 3) := by decide +kernel
theorem dX3_advance_72 : decode cX3_advance 72 = .ok (.aload_n 0, 1) := by decide +kernel
theorem dX3_advance_73 : decode cX3_advance 73 = .ok (.getfield 9, 3) := by decide +kernel
theorem dX3_advance_76 : decode cX3_advance 76 = .ok (.aload_n 0, 1) := by decide +kernel
theorem dX3_advance_77 : decode cX3_advance 77 = .ok (.getfield 52, 3) := by decide +kernel
theorem dX3_advance_80 : decode cX3_advance 80 = .ok (.baload, 1) := by decide +kernel
theorem dX3_advance_81 : decode cX3_advance 81 = .ok (.istore_n 1, 1) := by decide +kernel
theorem dX3_advance_82 : decode cX3_advance 82 = .ok (.iload_n 1, 1) := by decide +kernel
theorem dX3_advance_83 : decode cX3_advance 83 = .ok (.bipush 97, 2) := by decide +kernel
theorem dX3_advance_85 : decode cX3_advance 85 = .ok (.if_icmp .lt 16, 3) := by decide +kernel
theorem dX3_advance_101 : decode cX3_advance 101 = .ok (.iload_n 1, 1) := by decide +kernel
theorem dX3_advance_102 : decode cX3_advance 102 = .ok (.bipush 48, 2) := by decide +kernel
theorem dX3_advance_104 : decode cX3_advance 104 = .ok (.if_icmp .lt 16, 3) := by decide +kernel
theorem dX3_advance_120 : decode cX3_advance 120 = .ok (.aload_n 0, 1) := by decide +kernel
theorem dX3_advance_121 : decode cX3_advance 121 = .ok (.iload_n 1, 1) := by decide +kernel
theorem dX3_advance_122 : decode cX3_advance 122 = .ok (.bipush 59, 2) := by decide +kernel
theorem dX3_advance_124 : decode cX3_advance 124 = .ok (.if_icmp .ne 8, 3) := by decide +kernel
theorem dX3_advance_132 : decode cX3_advance 132 = .ok (.iload_n 1, 1) := by decide +kernel
theorem dX3_advance_133 : decode cX3_advance 133 = .ok (.bipush 44, 2) := by decide +kernel
theorem dX3_advance_135 : decode cX3_advance 135 = .ok (.if_icmp .ne 8, 3) := by decide +kernel
theorem dX3_advance_143 : decode cX3_advance 143 = .ok (.bipush 23, 2) := by decide +kernel
theorem dX3_advance_145 : decode cX3_advance 145 = .ok (.putfield 49, 3) := by decide +kernel
theorem dX3_advance_148 : decode cX3_advance 148 = .ok (.aload_n 0, 1) := by decide +kernel
theorem dX3_advance_149 : decode cX3_advance 149 = .ok (.dup, 1) := by decide +kernel
theorem dX3_advance_150 : decode cX3_advance 150 = .ok (.getfield 55, 3) := by decide +kernel
theorem dX3_advance_153 : decode cX3_advance 153 = .ok (.iconst 1, 1) := by decide +kernel
theorem dX3_advance_154 : decode cX3_advance 154 = .ok (.iadd, 1) := by decide +kernel
theorem dX3_advance_155 : decode cX3_advance 155 = .ok (.putfield 55, 3) := by decide +kernel
theorem dX3_advance_158 : decode cX3_advance 158 = .ok (.return_, 1) := by decide +kernel
theorem dX3_advance_138 : decode cX3_advance 138 = .ok (.bipush 22, 2) := by decide +kernel
theorem dX3_advance_140 : decode cX3_advance 140 = .ok (.goto 5, 3) := by decide +kernel
theorem dX3_advance_127 : decode cX3_advance 127 = .ok (.bipush 21, 2) := by decide +kernel
theorem dX3_advance_129 : decode cX3_advance 129 = .ok (.goto 16, 3) := by decide +kernel
theorem dX3_advance_107 : decode cX3_advance 107 = .ok (.iload_n 1, 1) := by decide +kernel
theorem dX3_advance_108 : decode cX3_advance 108 = .ok (.bipush 57, 2) := by decide +kernel
theorem dX3_advance_110 : decode cX3_advance 110 = .ok (.if_icmp .gt 10, 3) := by decide +kernel
theorem dX3_advance_113 : decode cX3_advance 113 = .ok (.aload_n 0, 1) := by decide +kernel
theorem dX3_advance_114 : decode cX3_advance 114 = .ok (.invokevirtual 171, 3) := by decide +kernel
theorem k_567 : Cond.methodLink RX3 171 yX3_lookAtWhole ∈ bw_T := bw_m 567 (by decide +kernel) rfl
theorem kv_X3_lookAtWhole : bw_KV RX3 yX3_lookAtWhole (Cond.code yX3_lookAtWhole cX3_lookAtWhole 1 none) := ⟨bw_m 569 (by decide +kernel) rfl, bw_m 4 (by decide +kernel) rfl, bw_m 95 (by decide +kernel) rfl, bw_m 570 (by decide +kernel) rfl⟩
theorem dX3_advance_117 : decode cX3_advance 117 = .ok (.goto 41, 3) := by decide +kernel
theorem dX3_advance_88 : decode cX3_advance 88 = .ok (.iload_n 1, 1) := by decide +kernel
theorem dX3_advance_89 : decode cX3_advance 89 = .ok (.bipush 122, 2) := by decide +kernel
theorem dX3_advance_91 : decode cX3_advance 91 = .ok (.if_icmp .gt 10, 3) := by decide +kernel
theorem dX3_advance_94 : decode cX3_advance 94 = .ok (.aload_n 0, 1) := by decide +kernel
theorem dX3_advance_95 : decode cX3_advance 95 = .ok (.invokevirtual 168, 3) := by decide +kernel
theorem k_563 : Cond.methodLink RX3 168 yX3_lookAtWord ∈ bw_T := bw_m 563 (by decide +kernel) rfl
theorem kv_X3_lookAtWord : bw_KV RX3 yX3_lookAtWord (Cond.code yX3_lookAtWord cX3_lookAtWord 2 none) := ⟨bw_m 565 (by decide +kernel) rfl, bw_m 3 (by decide +kernel) rfl, bw_m 95 (by decide +kernel) rfl, bw_m 566 (by decide +kernel) rfl⟩
theorem dX3_advance_98 : decode cX3_advance 98 = .ok (.goto 60, 3) := by decide +kernel
theorem dX3_advance_65 : decode cX3_advance 65 = .ok (.aload_n 0, 1) := by decide +kernel
theorem dX3_advance_66 : decode cX3_advance 66 = .ok (.bipush 24, 2) := by decide +kernel
theorem dX3_advance_68 : decode cX3_advance 68 = .ok (.putfield 49, 3) := by decide +kernel
theorem dX3_advance_71 : decode cX3_advance 71 = .ok (.return_, 1) := by decide +kernel
theorem dX3_advance_19 : decode cX3_advance 19 = .ok (.aload_n 0, 1) := by decide +kernel
theorem dX3_advance_20 : decode cX3_advance 20 = .ok (.getfield 9, 3) := by decide +kernel
theorem dX3_advance_23 : decode cX3_advance 23 = .ok (.aload_n 0, 1) := by decide +kernel
theorem dX3_advance_24 : decode cX3_advance 24 = .ok (.getfield 52, 3) := by decide +kernel
theorem dX3_advance_27 : decode cX3_advance 27 = .ok (.baload, 1) := by decide +kernel
theorem dX3_advance_28 : decode cX3_advance 28 = .ok (.bipush 32, 2) := by decide +kernel
theorem dX3_advance_30 : decode cX3_advance 30 = .ok (.if_icmp .ne 16, 3) := by decide +kernel
theorem dX3_advance_33 : decode cX3_advance 33 = .ok (.aload_n 0, 1) := by decide +kernel
theorem dX3_advance_34 : decode cX3_advance 34 = .ok (.dup, 1) := by decide +kernel
theorem dX3_advance_35 : decode cX3_advance 35 = .ok (.getfield 52, 3) := by decide +kernel
theorem dX3_advance_38 : decode cX3_advance 38 = .ok (.iconst 1, 1) := by decide +kernel
theorem dX3_advance_39 : decode cX3_advance 39 = .ok (.iadd, 1) := by decide +kernel
theorem dX3_advance_40 : decode cX3_advance 40 = .ok (.putfield 52, 3) := by decide +kernel
theorem dX3_advance_43 : decode cX3_advance 43 = .ok (.goto (-35), 3) := by decide +kernel