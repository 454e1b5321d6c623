theorem dX9_lineLine_0 : decode cX9_lineLine 0 = .ok (.aload_n 0, 1) := by decide +kernel
theorem dX9_lineLine_1 : decode cX9_lineLine 1 = .ok (.getfield 182, 3) := by decide +kernel
theorem dX9_lineLine_4 : decode cX9_lineLine 4 = .ok (.ifCond .ne 13, 3) := by decide +kernel
theorem dX9_lineLine_17 : decode cX9_lineLine 17 = .ok (.aload_n 0, 1) := by decide +kernel
theorem dX9_lineLine_18 : decode cX9_lineLine 18 = .ok (.getfield 115, 3) := by decide +kernel
theorem dX9_lineLine_21 : decode cX9_lineLine 21 = .ok (.ifCond .ne 7, 3) := by decide +kernel
theorem dX9_lineLine_28 : decode cX9_lineLine 28 = .ok (.aload_n 0, 1) := by decide +kernel
theorem dX9_lineLine_29 : decode cX9_lineLine 29 = .ok (.invokevirtual 191, 3) := by decide +kernel
theorem dX9_lineLine_32 : decode cX9_lineLine 32 = .ok (.istore_n 1, 1) := by decide +kernel
theorem dX9_lineLine_33 : decode cX9_lineLine 33 = .ok (.aload_n 0, 1) := by decide +kernel
theorem dX9_lineLine_34 : decode cX9_lineLine 34 = .ok (.getfield 115, 3) := by decide +kernel
theorem dX9_lineLine_37 : decode cX9_lineLine 37 = .ok (.ifCond .ne 27, 3) := by decide +kernel
theorem dX9_lineLine_64 : decode cX9_lineLine 64 = .ok (.aload_n 0, 1) := by decide +kernel
theorem dX9_lineLine_65 : decode cX9_lineLine 65 = .ok (.getfield 115, 3) := by decide +kernel
theorem dX9_lineLine_68 : decode cX9_lineLine 68 = .ok (.ifCond .eq 4, 3) := by decide +kernel
theorem dX9_lineLine_71 : decode cX9_lineLine 71 = .ok (.return_, 1) := by decide +kernel
theorem dX9_lineLine_24 : decode cX9_lineLine 24 = .ok (.aload_n 0, 1) := by decide +kernel
theorem dX9_lineLine_25 : decode cX9_lineLine 25 = .ok (.invokevirtual 136, 3) := by decide +kernel
theorem dX9_lineLine_40 : decode cX9_lineLine 40 = .ok (.aload_n 0, 1) := by decide +kernel
theorem dX9_lineLine_41 : decode cX9_lineLine 41 = .ok (.getfield 20, 3) := by decide +kernel
theorem dX9_lineLine_44 : decode cX9_lineLine 44 = .ok (.bipush 20, 2) := by decide +kernel
theorem dX9_lineLine_46 : decode cX9_lineLine 46 = .ok (.iload_n 1, 1) := by decide +kernel
theorem dX9_lineLine_47 : decode cX9_lineLine 47 = .ok (.imul, 1) := by decide +kernel
theorem dX9_lineLine_48 : decode cX9_lineLine 48 = .ok (.iconst 0, 1) := by decide +kernel
theorem dX9_lineLine_49 : decode cX9_lineLine 49 = .ok (.iadd, 1) := by decide +kernel
theorem dX9_lineLine_50 : decode cX9_lineLine 50 = .ok (.iaload, 1) := by decide +kernel
theorem dX9_lineLine_51 : decode cX9_lineLine 51 = .ok (.iconst 1, 1) := by decide +kernel
theorem dX9_lineLine_52 : decode cX9_lineLine 52 = .ok (.if_icmp .ne 12, 3) := by decide +kernel
theorem dX9_lineLine_72 : decode cX9_lineLine 72 = .ok (.aload_n 0, 1) := by decide +kernel
theorem dX9_lineLine_73 : decode cX9_lineLine 73 = .ok (.invokevirtual 136, 3) := by decide +kernel
theorem dX9_lineLine_76 : decode cX9_lineLine 76 = .ok (.bipush 20, 2) := by decide +kernel
theorem dX9_lineLine_78 : decode cX9_lineLine 78 = .ok (.iload_n 1, 1) := by decide +kernel
theorem dX9_lineLine_79 : decode cX9_lineLine 79 = .ok (.imul, 1) := by decide +kernel
theorem dX9_lineLine_80 : decode cX9_lineLine 80 = .ok (.istore_n 2, 1) := by decide +kernel
theorem dX9_lineLine_81 : decode cX9_lineLine 81 = .ok (.aload_n 0, 1) := by decide +kernel
theorem dX9_lineLine_82 : decode cX9_lineLine 82 = .ok (.ldc 159, 2) := by decide +kernel
theorem dX9_lineLine_84 : decode cX9_lineLine 84 = .ok (.invokevirtual 139, 3) := by decide +kernel
theorem dX9_lineLine_87 : decode cX9_lineLine 87 = .ok (.ifCond .eq 46, 3) := by decide +kernel
theorem dX9_lineLine_133 : decode cX9_lineLine 133 = .ok (.aload_n 0, 1) := by decide +kernel
theorem dX9_lineLine_134 : decode cX9_lineLine 134 = .ok (.ldc 169, 2) := by decide +kernel
theorem dX9_lineLine_136 : decode cX9_lineLine 136 = .ok (.invokevirtual 241, 3) := by decide +kernel
theorem dX9_lineLine_139 : decode cX9_lineLine 139 = .ok (.aload_n 0, 1) := by decide +kernel
theorem dX9_lineLine_140 : decode cX9_lineLine 140 = .ok (.iload_n 2, 1) := by decide +kernel
theorem dX9_lineLine_141 : decode cX9_lineLine 141 = .ok (.invokevirtual 245, 3) := by decide +kernel
theorem k_1398 : Cond.methodLink RX9 245 yX9_readGoal ∈ bw_T := bw_m 1398 (by decide +kernel) rfl
theorem kv_X9_readGoal : bw_KV RX9 yX9_readGoal (Cond.code yX9_readGoal cX9_readGoal 2 none) := ⟨bw_m 1400 (by decide +kernel) rfl, bw_m 64 (by decide +kernel) rfl, bw_m 107 (by decide +kernel) rfl, bw_m 1401 (by decide +kernel) rfl⟩
theorem dX9_lineLine_144 : decode cX9_lineLine 144 = .ok (.aload_n 0, 1) := by decide +kernel
theorem dX9_lineLine_145 : decode cX9_lineLine 145 = .ok (.getfield 115, 3) := by decide +kernel
theorem dX9_lineLine_148 : decode cX9_lineLine 148 = .ok (.ifCond .ne 12, 3) := by decide +kernel
theorem dX9_lineLine_160 : decode cX9_lineLine 160 = .ok (.return_, 1) := by decide +kernel
theorem dX9_lineLine_151 : decode cX9_lineLine 151 = .ok (.aload_n 0, 1) := by decide +kernel
theorem dX9_lineLine_152 : decode cX9_lineLine 152 = .ok (.getfield 20, 3) := by decide +kernel
theorem dX9_lineLine_155 : decode cX9_lineLine 155 = .ok (.iload_n 2, 1) := by decide +kernel
theorem dX9_lineLine_156 : decode cX9_lineLine 156 = .ok (.iconst 0, 1) := by decide +kernel
theorem dX9_lineLine_157 : decode cX9_lineLine 157 = .ok (.iadd, 1) := by decide +kernel
theorem dX9_lineLine_158 : decode cX9_lineLine 158 = .ok (.iconst 1, 1) := by decide +kernel
theorem dX9_lineLine_159 : decode cX9_lineLine 159 = .ok (.iastore, 1) := by decide +kernel
theorem dX9_lineLine_90 : decode cX9_lineLine 90 = .ok (.iconst 0, 1) := by decide +kernel
theorem dX9_lineLine_91 : decode cX9_lineLine 91 = .ok (.istore_n 3, 1) := by decide +kernel
theorem dX9_lineLine_92 : decode cX9_lineLine 92 = .ok (.iconst 1, 1) := by decide +kernel
theorem dX9_lineLine_93 : decode cX9_lineLine 93 = .ok (.istore 4, 2) := by decide +kernel
theorem dX9_lineLine_95 : decode cX9_lineLine 95 = .ok (.iload 4, 2) := by decide +kernel
theorem dX9_lineLine_97 : decode cX9_lineLine 97 = .ok (.ifCond .eq 27, 3) := by decide +kernel
theorem dX9_lineLine_124 : decode cX9_lineLine 124 = .ok (.aload_n 0, 1) := by decide +kernel
theorem dX9_lineLine_125 : decode cX9_lineLine 125 = .ok (.getfield 20, 3) := by decide +kernel
theorem dX9_lineLine_128 : decode cX9_lineLine 128 = .ok (.iload_n 2, 1) := by decide +kernel
theorem dX9_lineLine_129 : decode cX9_lineLine 129 = .ok (.iconst 1, 1) := by decide +kernel
theorem dX9_lineLine_130 : decode cX9_lineLine 130 = .ok (.iadd, 1) := by decide +kernel
theorem dX9_lineLine_131 : decode cX9_lineLine 131 = .ok (.iload_n 3, 1) := by decide +kernel
theorem dX9_lineLine_132 : decode cX9_lineLine 132 = .ok (.iastore, 1) := by decide +kernel
theorem dX9_lineLine_100 : decode cX9_lineLine 100 = .ok (.aload_n 0, 1) := by decide +kernel
theorem dX9_lineLine_101 : decode cX9_lineLine 101 = .ok (.iload_n 2, 1) := by decide +kernel
theorem dX9_lineLine_102 : decode cX9_lineLine 102 = .ok (.iconst 2, 1) := by decide +kernel
theorem dX9_lineLine_103 : decode cX9_lineLine 103 = .ok (.iadd, 1) := by decide +kernel
theorem dX9_lineLine_104 : decode cX9_lineLine 104 = .ok (.iconst 3, 1) := by decide +kernel
theorem dX9_lineLine_105 : decode cX9_lineLine 105 = .ok (.iload_n 3, 1) := by decide +kernel
theorem dX9_lineLine_106 : decode cX9_lineLine 106 = .ok (.imul, 1) := by decide +kernel
theorem dX9_lineLine_107 : decode cX9_lineLine 107 = .ok (.iadd, 1) := by decide +kernel
theorem dX9_lineLine_108 : decode cX9_lineLine 108 = .ok (.iload_n 3, 1) := by decide +kernel
theorem dX9_lineLine_109 : decode cX9_lineLine 109 = .ok (.invokevirtual 238, 3) := by decide +kernel
theorem k_1378 : Cond.methodLink RX9 238 yX9_readAct ∈ bw_T := bw_m 1378 (by decide +kernel) rfl
theorem kv_X9_readAct : bw_KV RX9 yX9_readAct (Cond.code yX9_readAct cX9_readAct 4 none) := ⟨bw_m 1380 (by decide +kernel) rfl, bw_m 59 (by decide +kernel) rfl, bw_m 107 (by decide +kernel) rfl, bw_m 1381 (by decide +kernel) rfl⟩
theorem dX9_lineLine_112 : decode cX9_lineLine 112 = .ok (.iinc 3 1, 3) := by decide +kernel
theorem dX9_lineLine_115 : decode cX9_lineLine 115 = .ok (.aload_n 0, 1) := by decide +kernel
theorem dX9_lineLine_116 : decode cX9_lineLine 116 = .ok (.invokevirtual 194, 3) := by decide +kernel
theorem dX9_lineLine_119 : decode cX9_lineLine 119 = .ok (.istore 4, 2) := by decide +kernel
theorem dX9_lineLine_121 : decode cX9_lineLine 121 = .ok (.goto (-26), 3) := by decide +kernel
theorem dX9_lineLine_55 : decode cX9_lineLine 55 = .ok (.aload_n 0, 1) := by decide +kernel
theorem dX9_lineLine_56 : decode cX9_lineLine 56 = .ok (.iconst 3, 1) := by decide +kernel
theorem dX9_lineLine_57 : decode cX9_lineLine 57 = .ok (.aload_n 0, 1) := by decide +kernel
theorem dX9_lineLine_58 : decode cX9_lineLine 58 = .ok (.getfield 96, 3) := by decide +kernel
theorem dX9_lineLine_61 : decode cX9_lineLine 61 = .ok (.invokevirtual 142, 3) := by decide +kernel
theorem dX9_lineLine_7 : decode cX9_lineLine 7 = .ok (.aload_n 0, 1) := by decide +kernel
theorem dX9_lineLine_8 : decode cX9_lineLine 8 = .ok (.bipush 6, 2) := by decide +kernel
theorem dX9_lineLine_10 : decode cX9_lineLine 10 = .ok (.aload_n 0, 1) := by decide +kernel
theorem dX9_lineLine_11 : decode cX9_lineLine 11 = .ok (.getfield 96, 3) := by decide +kernel
theorem dX9_lineLine_14 : decode cX9_lineLine 14 = .ok (.invokevirtual 142, 3) := by decide +kernel
theorem dX9_readLine_0 : decode cX9_readLine 0 = .ok (.aload_n 0, 1) := by decide +kernel
theorem dX9_readLine_1 : decode cX9_readLine 1 = .ok (.ldc 154, 2) := by decide +kernel
theorem dX9_readLine_3 : decode cX9_readLine 3 = .ok (.invokevirtual 132, 3) := by decide +kernel
theorem dX9_readLine_6 : decode cX9_readLine 6 = .ok (.ifCond .eq 10, 3) := by decide +kernel
theorem dX9_readLine_16 : decode cX9_readLine 16 = .ok (.aload_n 0, 1) := by decide +kernel
theorem dX9_readLine_17 : decode cX9_readLine 17 = .ok (.ldc 156, 2) := by decide +kernel
theorem dX9_readLine_19 : decode cX9_readLine 19 = .ok (.invokevirtual 132, 3) := by decide +kernel
theorem dX9_readLine_22 : decode cX9_readLine 22 = .ok (.ifCond .eq 10, 3) := by decide +kernel
theorem dX9_readLine_32 : decode cX9_readLine 32 = .ok (.aload_n 0, 1) := by decide +kernel
theorem dX9_readLine_33 : decode cX9_readLine 33 = .ok (.ldc 158, 2) := by decide +kernel
theorem dX9_readLine_35 : decode cX9_readLine 35 = .ok (.invokevirtual 132, 3) := by decide +kernel
theorem dX9_readLine_38 : decode cX9_readLine 38 = .ok (.ifCond .eq 10, 3) := by decide +kernel
theorem dX9_readLine_48 : decode cX9_readLine 48 = .ok (.aload_n 0, 1) := by decide +kernel
theorem dX9_readLine_49 : decode cX9_readLine 49 = .ok (.iconst 1, 1) := by decide +kernel
theorem dX9_readLine_50 : decode cX9_readLine 50 = .ok (.aload_n 0, 1) := by decide +kernel
theorem dX9_readLine_51 : decode cX9_readLine 51 = .ok (.getfield 96, 3) := by decide +kernel
theorem dX9_readLine_54 : decode cX9_readLine 54 = .ok (.invokevirtual 142, 3) := by decide +kernel
theorem dX9_readLine_57 : decode cX9_readLine 57 = .ok (.return_, 1) := by decide +kernel
theorem dX9_readLine_41 : decode cX9_readLine 41 = .ok (.aload_n 0, 1) := by decide +kernel
theorem dX9_readLine_42 : decode cX9_readLine 42 = .ok (.invokevirtual 235, 3) := by decide +kernel
theorem k_1406 : Cond.methodLink RX9 235 yX9_wantLine ∈ bw_T := bw_m 1406 (by decide +kernel) rfl
theorem kv_X9_wantLine : bw_KV RX9 yX9_wantLine (Cond.code yX9_wantLine cX9_wantLine 3 none) := ⟨bw_m 1408 (by decide +kernel) rfl, bw_m 66 (by decide +kernel) rfl, bw_m 107 (by decide +kernel) rfl, bw_m 1409 (by decide +kernel) rfl⟩
theorem dX9_readLine_45 : decode cX9_readLine 45 = .ok (.goto 12, 3) := by decide +kernel
theorem dX9_readLine_25 : decode cX9_readLine 25 = .ok (.aload_n 0, 1) := by decide +kernel
theorem dX9_readLine_26 : decode cX9_readLine 26 = .ok (.invokevirtual 232, 3) := by decide +kernel
theorem k_1366 : Cond.methodLink RX9 232 yX9_lineLine ∈ bw_T := bw_m 1366 (by decide +kernel) rfl
theorem kv_X9_lineLine : bw_KV RX9 yX9_lineLine (Cond.code yX9_lineLine cX9_lineLine 5 none) := ⟨bw_m 1368 (by decide +kernel) rfl, bw_m 56 (by decide +kernel) rfl, bw_m 107 (by decide +kernel) rfl, bw_m 1369 (by decide +kernel) rfl⟩
theorem dX9_readLine_29 : decode cX9_readLine 29 = .ok (.goto 28, 3) := by decide +kernel
theorem dX9_readLine_9 : decode cX9_readLine 9 = .ok (.aload_n 0, 1) := by decide +kernel
theorem dX9_readLine_10 : decode cX9_readLine 10 = .ok (.invokevirtual 229, 3) := by decide +kernel
theorem k_1328 : Cond.methodLink RX9 229 yX9_programLine ∈ bw_T := bw_m 1328 (by decide +kernel) rfl
theorem kv_X9_programLine : bw_KV RX9 yX9_programLine (Cond.code yX9_programLine cX9_programLine 3 none) := ⟨bw_m 1330 (by decide +kernel) rfl, bw_m 50 (by decide +kernel) rfl, bw_m 107 (by decide +kernel) rfl, bw_m 1331 (by decide +kernel) rfl⟩
theorem dX9_readLine_13 : decode cX9_readLine 13 = .ok (.goto 44, 3) := by decide +kernel