theorem dX9_programLine_0 : decode cX9_programLine 0 = .ok (.aload_n 0, 1) := by decide +kernel
theorem dX9_programLine_1 : decode cX9_programLine 1 = .ok (.getfield 182, 3) := by decide +kernel
theorem dX9_programLine_4 : decode cX9_programLine 4 = .ok (.ifCond .le 12, 3) := by decide +kernel
theorem dX9_programLine_16 : decode cX9_programLine 16 = .ok (.aload_n 0, 1) := by decide +kernel
theorem dX9_programLine_17 : decode cX9_programLine 17 = .ok (.getfield 115, 3) := by decide +kernel
theorem dX9_programLine_20 : decode cX9_programLine 20 = .ok (.ifCond .ne 7, 3) := by decide +kernel
theorem dX9_programLine_27 : decode cX9_programLine 27 = .ok (.aload_n 0, 1) := by decide +kernel
theorem dX9_programLine_28 : decode cX9_programLine 28 = .ok (.getfield 115, 3) := by decide +kernel
theorem dX9_programLine_31 : decode cX9_programLine 31 = .ok (.ifCond .ne 7, 3) := by decide +kernel
theorem dX9_programLine_38 : decode cX9_programLine 38 = .ok (.iconst 0, 1) := by decide +kernel
theorem dX9_programLine_39 : decode cX9_programLine 39 = .ok (.istore_n 1, 1) := by decide +kernel
theorem dX9_programLine_40 : decode cX9_programLine 40 = .ok (.iload_n 1, 1) := by decide +kernel
theorem dX9_programLine_41 : decode cX9_programLine 41 = .ok (.ifCond .eq 134, 3) := by decide +kernel
theorem dX9_programLine_175 : decode cX9_programLine 175 = .ok (.return_, 1) := by decide +kernel
theorem dX9_programLine_44 : decode cX9_programLine 44 = .ok (.aload_n 0, 1) := by decide +kernel
theorem dX9_programLine_45 : decode cX9_programLine 45 = .ok (.invokevirtual 185, 3) := by decide +kernel
theorem dX9_programLine_48 : decode cX9_programLine 48 = .ok (.aload_n 0, 1) := by decide +kernel
theorem dX9_programLine_49 : decode cX9_programLine 49 = .ok (.getfield 115, 3) := by decide +kernel
theorem dX9_programLine_52 : decode cX9_programLine 52 = .ok (.ifCond .ne 19, 3) := by decide +kernel
theorem dX9_programLine_71 : decode cX9_programLine 71 = .ok (.aload_n 0, 1) := by decide +kernel
theorem dX9_programLine_72 : decode cX9_programLine 72 = .ok (.getfield 115, 3) := by decide +kernel
theorem dX9_programLine_75 : decode cX9_programLine 75 = .ok (.ifCond .ne 21, 3) := by decide +kernel
theorem dX9_programLine_96 : decode cX9_programLine 96 = .ok (.aload_n 0, 1) := by decide +kernel
theorem dX9_programLine_97 : decode cX9_programLine 97 = .ok (.getfield 115, 3) := by decide +kernel
theorem dX9_programLine_100 : decode cX9_programLine 100 = .ok (.ifCond .eq 4, 3) := by decide +kernel
theorem dX9_programLine_103 : decode cX9_programLine 103 = .ok (.return_, 1) := by decide +kernel
theorem dX9_programLine_55 : decode cX9_programLine 55 = .ok (.aload_n 0, 1) := by decide +kernel
theorem dX9_programLine_56 : decode cX9_programLine 56 = .ok (.invokevirtual 188, 3) := by decide +kernel
theorem dX9_programLine_59 : decode cX9_programLine 59 = .ok (.ifCond .lt 12, 3) := by decide +kernel
theorem dX9_programLine_78 : decode cX9_programLine 78 = .ok (.aload_n 0, 1) := by decide +kernel
theorem dX9_programLine_79 : decode cX9_programLine 79 = .ok (.getfield 182, 3) := by decide +kernel
theorem dX9_programLine_82 : decode cX9_programLine 82 = .ok (.bipush 10, 2) := by decide +kernel
theorem dX9_programLine_84 : decode cX9_programLine 84 = .ok (.if_icmp .ne 12, 3) := by decide +kernel
theorem dX9_programLine_104 : decode cX9_programLine 104 = .ok (.iconst 0, 1) := by decide +kernel
theorem dX9_programLine_105 : decode cX9_programLine 105 = .ok (.istore_n 2, 1) := by decide +kernel
theorem dX9_programLine_106 : decode cX9_programLine 106 = .ok (.iload_n 2, 1) := by decide +kernel
theorem dX9_programLine_107 : decode cX9_programLine 107 = .ok (.aload_n 0, 1) := by decide +kernel
theorem dX9_programLine_108 : decode cX9_programLine 108 = .ok (.getfield 99, 3) := by decide +kernel
theorem dX9_programLine_111 : decode cX9_programLine 111 = .ok (.if_icmp .ge 29, 3) := by decide +kernel
theorem dX9_programLine_140 : decode cX9_programLine 140 = .ok (.aload_n 0, 1) := by decide +kernel
theorem dX9_programLine_141 : decode cX9_programLine 141 = .ok (.getfield 44, 3) := by decide +kernel
theorem dX9_programLine_144 : decode cX9_programLine 144 = .ok (.aload_n 0, 1) := by decide +kernel
theorem dX9_programLine_145 : decode cX9_programLine 145 = .ok (.getfield 182, 3) := by decide +kernel
theorem dX9_programLine_148 : decode cX9_programLine 148 = .ok (.aload_n 0, 1) := by decide +kernel
theorem dX9_programLine_149 : decode cX9_programLine 149 = .ok (.getfield 99, 3) := by decide +kernel
theorem dX9_programLine_152 : decode cX9_programLine 152 = .ok (.iastore, 1) := by decide +kernel
theorem dX9_programLine_153 : decode cX9_programLine 153 = .ok (.aload_n 0, 1) := by decide +kernel
theorem dX9_programLine_154 : decode cX9_programLine 154 = .ok (.dup, 1) := by decide +kernel
theorem dX9_programLine_155 : decode cX9_programLine 155 = .ok (.getfield 182, 3) := by decide +kernel
theorem dX9_programLine_158 : decode cX9_programLine 158 = .ok (.iconst 1, 1) := by decide +kernel
theorem dX9_programLine_159 : decode cX9_programLine 159 = .ok (.iadd, 1) := by decide +kernel
theorem dX9_programLine_160 : decode cX9_programLine 160 = .ok (.putfield 182, 3) := by decide +kernel
theorem dX9_programLine_163 : decode cX9_programLine 163 = .ok (.aload_n 0, 1) := by decide +kernel
theorem dX9_programLine_164 : decode cX9_programLine 164 = .ok (.invokevirtual 136, 3) := by decide +kernel
theorem dX9_programLine_167 : decode cX9_programLine 167 = .ok (.aload_n 0, 1) := by decide +kernel
theorem dX9_programLine_168 : decode cX9_programLine 168 = .ok (.invokevirtual 194, 3) := by decide +kernel
theorem dX9_programLine_171 : decode cX9_programLine 171 = .ok (.istore_n 1, 1) := by decide +kernel
theorem dX9_programLine_172 : decode cX9_programLine 172 = .ok (.goto (-132), 3) := by decide +kernel
theorem dX9_programLine_114 : decode cX9_programLine 114 = .ok (.aload_n 0, 1) := by decide +kernel
theorem dX9_programLine_115 : decode cX9_programLine 115 = .ok (.getfield 41, 3) := by decide +kernel
theorem dX9_programLine_118 : decode cX9_programLine 118 = .ok (.bipush 8, 2) := by decide +kernel
theorem dX9_programLine_120 : decode cX9_programLine 120 = .ok (.aload_n 0, 1) := by decide +kernel
theorem dX9_programLine_121 : decode cX9_programLine 121 = .ok (.getfield 182, 3) := by decide +kernel
theorem dX9_programLine_124 : decode cX9_programLine 124 = .ok (.imul, 1) := by decide +kernel
theorem dX9_programLine_125 : decode cX9_programLine 125 = .ok (.iload_n 2, 1) := by decide +kernel
theorem dX9_programLine_126 : decode cX9_programLine 126 = .ok (.iadd, 1) := by decide +kernel
theorem dX9_programLine_127 : decode cX9_programLine 127 = .ok (.aload_n 0, 1) := by decide +kernel
theorem dX9_programLine_128 : decode cX9_programLine 128 = .ok (.getfield 17, 3) := by decide +kernel
theorem dX9_programLine_131 : decode cX9_programLine 131 = .ok (.iload_n 2, 1) := by decide +kernel
theorem dX9_programLine_132 : decode cX9_programLine 132 = .ok (.iaload, 1) := by decide +kernel
theorem dX9_programLine_133 : decode cX9_programLine 133 = .ok (.iastore, 1) := by decide +kernel
theorem dX9_programLine_134 : decode cX9_programLine 134 = .ok (.iinc 2 1, 3) := by decide +kernel
theorem dX9_programLine_137 : decode cX9_programLine 137 = .ok (.goto (-31), 3) := by decide +kernel
theorem dX9_programLine_87 : decode cX9_programLine 87 = .ok (.aload_n 0, 1) := by decide +kernel
theorem dX9_programLine_88 : decode cX9_programLine 88 = .ok (.iconst 5, 1) := by decide +kernel
theorem dX9_programLine_89 : decode cX9_programLine 89 = .ok (.aload_n 0, 1) := by decide +kernel
theorem dX9_programLine_90 : decode cX9_programLine 90 = .ok (.getfield 96, 3) := by decide +kernel
theorem dX9_programLine_93 : decode cX9_programLine 93 = .ok (.invokevirtual 142, 3) := by decide +kernel
theorem dX9_programLine_62 : decode cX9_programLine 62 = .ok (.aload_n 0, 1) := by decide +kernel
theorem dX9_programLine_63 : decode cX9_programLine 63 = .ok (.iconst 3, 1) := by decide +kernel
theorem dX9_programLine_64 : decode cX9_programLine 64 = .ok (.aload_n 0, 1) := by decide +kernel
theorem dX9_programLine_65 : decode cX9_programLine 65 = .ok (.getfield 96, 3) := by decide +kernel
theorem dX9_programLine_68 : decode cX9_programLine 68 = .ok (.invokevirtual 142, 3) := by decide +kernel
theorem dX9_programLine_23 : decode cX9_programLine 23 = .ok (.aload_n 0, 1) := by decide +kernel
theorem dX9_programLine_24 : decode cX9_programLine 24 = .ok (.invokevirtual 136, 3) := by decide +kernel
theorem dX9_programLine_34 : decode cX9_programLine 34 = .ok (.iconst 1, 1) := by decide +kernel
theorem dX9_programLine_35 : decode cX9_programLine 35 = .ok (.goto 4, 3) := by decide +kernel
theorem dX9_programLine_7 : decode cX9_programLine 7 = .ok (.aload_n 0, 1) := by decide +kernel
theorem dX9_programLine_8 : decode cX9_programLine 8 = .ok (.iconst 3, 1) := by decide +kernel
theorem dX9_programLine_9 : decode cX9_programLine 9 = .ok (.aload_n 0, 1) := by decide +kernel
theorem dX9_programLine_10 : decode cX9_programLine 10 = .ok (.getfield 96, 3) := by decide +kernel
theorem dX9_programLine_13 : decode cX9_programLine 13 = .ok (.invokevirtual 142, 3) := by decide +kernel
theorem dX9_wantLine_0 : decode cX9_wantLine 0 = .ok (.aload_n 0, 1) := by decide +kernel
theorem dX9_wantLine_1 : decode cX9_wantLine 1 = .ok (.getfield 203, 3) := by decide +kernel
theorem k_1196 : Cond.fieldLink RX9 203 "BurntWaysModel" "newWants" "I" ∈ bw_T := bw_m 1196 (by decide +kernel) rfl
theorem dX9_wantLine_4 : decode cX9_wantLine 4 = .ok (.bipush 6, 2) := by decide +kernel
theorem dX9_wantLine_6 : decode cX9_wantLine 6 = .ok (.if_icmp .ne 12, 3) := by decide +kernel
theorem dX9_wantLine_18 : decode cX9_wantLine 18 = .ok (.aload_n 0, 1) := by decide +kernel
theorem dX9_wantLine_19 : decode cX9_wantLine 19 = .ok (.getfield 115, 3) := by decide +kernel
theorem dX9_wantLine_22 : decode cX9_wantLine 22 = .ok (.ifCond .eq 4, 3) := by decide +kernel
theorem dX9_wantLine_26 : decode cX9_wantLine 26 = .ok (.aload_n 0, 1) := by decide +kernel
theorem dX9_wantLine_27 : decode cX9_wantLine 27 = .ok (.invokevirtual 136, 3) := by decide +kernel
theorem dX9_wantLine_30 : decode cX9_wantLine 30 = .ok (.iconst 5, 1) := by decide +kernel
theorem dX9_wantLine_31 : decode cX9_wantLine 31 = .ok (.aload_n 0, 1) := by decide +kernel
theorem dX9_wantLine_32 : decode cX9_wantLine 32 = .ok (.getfield 203, 3) := by decide +kernel
theorem dX9_wantLine_35 : decode cX9_wantLine 35 = .ok (.imul, 1) := by decide +kernel
theorem dX9_wantLine_36 : decode cX9_wantLine 36 = .ok (.istore_n 1, 1) := by decide +kernel
theorem dX9_wantLine_37 : decode cX9_wantLine 37 = .ok (.iconst 0, 1) := by decide +kernel
theorem dX9_wantLine_38 : decode cX9_wantLine 38 = .ok (.istore_n 2, 1) := by decide +kernel
theorem dX9_wantLine_39 : decode cX9_wantLine 39 = .ok (.iload_n 2, 1) := by decide +kernel
theorem dX9_wantLine_40 : decode cX9_wantLine 40 = .ok (.iconst 4, 1) := by decide +kernel
theorem dX9_wantLine_41 : decode cX9_wantLine 41 = .ok (.if_icmp .ge 32, 3) := by decide +kernel
theorem dX9_wantLine_73 : decode cX9_wantLine 73 = .ok (.aload_n 0, 1) := by decide +kernel
theorem dX9_wantLine_74 : decode cX9_wantLine 74 = .ok (.ldc 180, 2) := by decide +kernel
theorem dX9_wantLine_76 : decode cX9_wantLine 76 = .ok (.invokevirtual 241, 3) := by decide +kernel
theorem k_1394 : Cond.methodLink RX9 241 yX9_pass ∈ bw_T := bw_m 1394 (by decide +kernel) rfl
theorem kv_X9_pass : bw_KV RX9 yX9_pass (Cond.code yX9_pass cX9_pass 2 none) := ⟨bw_m 1396 (by decide +kernel) rfl, bw_m 63 (by decide +kernel) rfl, bw_m 107 (by decide +kernel) rfl, bw_m 1397 (by decide +kernel) rfl⟩
theorem dX9_wantLine_79 : decode cX9_wantLine 79 = .ok (.aload_n 0, 1) := by decide +kernel
theorem dX9_wantLine_80 : decode cX9_wantLine 80 = .ok (.getfield 50, 3) := by decide +kernel
theorem k_1188 : Cond.fieldLink RX9 50 "BurntWaysModel" "newWant" "[I" ∈ bw_T := bw_m 1188 (by decide +kernel) rfl
theorem dX9_wantLine_83 : decode cX9_wantLine 83 = .ok (.iload_n 1, 1) := by decide +kernel
theorem dX9_wantLine_84 : decode cX9_wantLine 84 = .ok (.iconst 4, 1) := by decide +kernel
theorem dX9_wantLine_85 : decode cX9_wantLine 85 = .ok (.iadd, 1) := by decide +kernel
theorem dX9_wantLine_86 : decode cX9_wantLine 86 = .ok (.aload_n 0, 1) := by decide +kernel
theorem dX9_wantLine_87 : decode cX9_wantLine 87 = .ok (.iconst 0, 1) := by decide +kernel
theorem dX9_wantLine_88 : decode cX9_wantLine 88 = .ok (.bipush 99, 2) := by decide +kernel
theorem dX9_wantLine_90 : decode cX9_wantLine 90 = .ok (.invokevirtual 252, 3) := by decide +kernel
theorem k_1386 : Cond.methodLink RX9 252 yX9_number ∈ bw_T := bw_m 1386 (by decide +kernel) rfl
theorem kv_X9_number : bw_KV RX9 yX9_number (Cond.code yX9_number cX9_number 4 (some .int)) := ⟨bw_m 1388 (by decide +kernel) rfl, bw_m 61 (by decide +kernel) rfl, bw_m 107 (by decide +kernel) rfl, bw_m 1389 (by decide +kernel) rfl⟩
theorem dX9_wantLine_93 : decode cX9_wantLine 93 = .ok (.iastore, 1) := by decide +kernel
theorem dX9_wantLine_94 : decode cX9_wantLine 94 = .ok (.aload_n 0, 1) := by decide +kernel
theorem dX9_wantLine_95 : decode cX9_wantLine 95 = .ok (.dup, 1) := by decide +kernel
theorem dX9_wantLine_96 : decode cX9_wantLine 96 = .ok (.getfield 203, 3) := by decide +kernel
theorem dX9_wantLine_99 : decode cX9_wantLine 99 = .ok (.iconst 1, 1) := by decide +kernel
theorem dX9_wantLine_100 : decode cX9_wantLine 100 = .ok (.iadd, 1) := by decide +kernel
theorem dX9_wantLine_101 : decode cX9_wantLine 101 = .ok (.putfield 203, 3) := by decide +kernel
theorem dX9_wantLine_104 : decode cX9_wantLine 104 = .ok (.return_, 1) := by decide +kernel
theorem dX9_wantLine_44 : decode cX9_wantLine 44 = .ok (.iload_n 2, 1) := by decide +kernel
theorem dX9_wantLine_45 : decode cX9_wantLine 45 = .ok (.ifCond .le 7, 3) := by decide +kernel
theorem dX9_wantLine_52 : decode cX9_wantLine 52 = .ok (.aload_n 0, 1) := by decide +kernel
theorem dX9_wantLine_53 : decode cX9_wantLine 53 = .ok (.getfield 50, 3) := by decide +kernel
theorem dX9_wantLine_56 : decode cX9_wantLine 56 = .ok (.iload_n 1, 1) := by decide +kernel
theorem dX9_wantLine_57 : decode cX9_wantLine 57 = .ok (.iload_n 2, 1) := by decide +kernel
theorem dX9_wantLine_58 : decode cX9_wantLine 58 = .ok (.iadd, 1) := by decide +kernel
theorem dX9_wantLine_59 : decode cX9_wantLine 59 = .ok (.aload_n 0, 1) := by decide +kernel
theorem dX9_wantLine_60 : decode cX9_wantLine 60 = .ok (.iconst 0, 1) := by decide +kernel
theorem dX9_wantLine_61 : decode cX9_wantLine 61 = .ok (.bipush 9, 2) := by decide +kernel
theorem dX9_wantLine_63 : decode cX9_wantLine 63 = .ok (.invokevirtual 252, 3) := by decide +kernel
theorem dX9_wantLine_66 : decode cX9_wantLine 66 = .ok (.iastore, 1) := by decide +kernel
theorem dX9_wantLine_67 : decode cX9_wantLine 67 = .ok (.iinc 2 1, 3) := by decide +kernel
theorem dX9_wantLine_70 : decode cX9_wantLine 70 = .ok (.goto (-31), 3) := by decide +kernel
theorem dX9_wantLine_48 : decode cX9_wantLine 48 = .ok (.aload_n 0, 1) := by decide +kernel
theorem dX9_wantLine_49 : decode cX9_wantLine 49 = .ok (.invokevirtual 262, 3) := by decide +kernel
theorem k_1410 : Cond.methodLink RX9 262 yX9_mustComma ∈ bw_T := bw_m 1410 (by decide +kernel) rfl
theorem kv_X9_mustComma : bw_KV RX9 yX9_mustComma (Cond.code yX9_mustComma cX9_mustComma 1 none) := ⟨bw_m 1412 (by decide +kernel) rfl, bw_m 67 (by decide +kernel) rfl, bw_m 107 (by decide +kernel) rfl, bw_m 1413 (by decide +kernel) rfl⟩
theorem dX9_wantLine_25 : decode cX9_wantLine 25 = .ok (.return_, 1) := by decide +kernel
theorem dX9_wantLine_9 : decode cX9_wantLine 9 = .ok (.aload_n 0, 1) := by decide +kernel
theorem dX9_wantLine_10 : decode cX9_wantLine 10 = .ok (.iconst 5, 1) := by decide +kernel
theorem dX9_wantLine_11 : decode cX9_wantLine 11 = .ok (.aload_n 0, 1) := by decide +kernel
theorem dX9_wantLine_12 : decode cX9_wantLine 12 = .ok (.getfield 96, 3) := by decide +kernel
theorem dX9_wantLine_15 : decode cX9_wantLine 15 = .ok (.invokevirtual 142, 3) := by decide +kernel