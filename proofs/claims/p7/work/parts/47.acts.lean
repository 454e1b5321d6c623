theorem dX9_readWay_0 : decode cX9_readWay 0 = .ok (.aload_n 0, 1) := by decide +kernel
theorem dX9_readWay_1 : decode cX9_readWay 1 = .ok (.getfield 20, 3) := by decide +kernel
theorem k_1178 : Cond.fieldLink RX9 20 "BurntWaysModel" "fresh" "[I" ∈ bw_T := bw_m 1178 (by decide +kernel) rfl
theorem dX9_readWay_4 : decode cX9_readWay 4 = .ok (.iload_n 1, 1) := by decide +kernel
theorem dX9_readWay_5 : decode cX9_readWay 5 = .ok (.aload_n 0, 1) := by decide +kernel
theorem dX9_readWay_6 : decode cX9_readWay 6 = .ok (.invokevirtual 256, 3) := by decide +kernel
theorem k_1390 : Cond.methodLink RX9 256 yX9_lineName ∈ bw_T := bw_m 1390 (by decide +kernel) rfl
theorem kv_X9_lineName : bw_KV RX9 yX9_lineName (Cond.code yX9_lineName cX9_lineName 2 (some .int)) := ⟨bw_m 1392 (by decide +kernel) rfl, bw_m 62 (by decide +kernel) rfl, bw_m 107 (by decide +kernel) rfl, bw_m 1393 (by decide +kernel) rfl⟩
theorem dX9_readWay_9 : decode cX9_readWay 9 = .ok (.iastore, 1) := by decide +kernel
theorem dX9_readWay_10 : decode cX9_readWay 10 = .ok (.aload_n 0, 1) := by decide +kernel
theorem dX9_readWay_11 : decode cX9_readWay 11 = .ok (.ldc 176, 2) := by decide +kernel
theorem dX9_readWay_13 : decode cX9_readWay 13 = .ok (.invokevirtual 241, 3) := by decide +kernel
theorem dX9_readWay_16 : decode cX9_readWay 16 = .ok (.aload_n 0, 1) := by decide +kernel
theorem dX9_readWay_17 : decode cX9_readWay 17 = .ok (.getfield 20, 3) := by decide +kernel
theorem dX9_readWay_20 : decode cX9_readWay 20 = .ok (.iload_n 1, 1) := by decide +kernel
theorem dX9_readWay_21 : decode cX9_readWay 21 = .ok (.iconst 1, 1) := by decide +kernel
theorem dX9_readWay_22 : decode cX9_readWay 22 = .ok (.iadd, 1) := by decide +kernel
theorem dX9_readWay_23 : decode cX9_readWay 23 = .ok (.aload_n 0, 1) := by decide +kernel
theorem dX9_readWay_24 : decode cX9_readWay 24 = .ok (.iconst 1, 1) := by decide +kernel
theorem dX9_readWay_25 : decode cX9_readWay 25 = .ok (.bipush 9, 2) := by decide +kernel
theorem dX9_readWay_27 : decode cX9_readWay 27 = .ok (.invokevirtual 252, 3) := by decide +kernel
theorem dX9_readWay_30 : decode cX9_readWay 30 = .ok (.iastore, 1) := by decide +kernel
theorem dX9_readWay_31 : decode cX9_readWay 31 = .ok (.return_, 1) := by decide +kernel
theorem dX9_readGoal_0 : decode cX9_readGoal 0 = .ok (.aload_n 0, 1) := by decide +kernel
theorem dX9_readGoal_1 : decode cX9_readGoal 1 = .ok (.getfield 115, 3) := by decide +kernel
theorem dX9_readGoal_4 : decode cX9_readGoal 4 = .ok (.ifCond .ne 12, 3) := by decide +kernel
theorem dX9_readGoal_16 : decode cX9_readGoal 16 = .ok (.return_, 1) := by decide +kernel
theorem dX9_readGoal_7 : decode cX9_readGoal 7 = .ok (.aload_n 0, 1) := by decide +kernel
theorem dX9_readGoal_8 : decode cX9_readGoal 8 = .ok (.ldc 171, 2) := by decide +kernel
theorem dX9_readGoal_10 : decode cX9_readGoal 10 = .ok (.invokevirtual 139, 3) := by decide +kernel
theorem dX9_readGoal_13 : decode cX9_readGoal 13 = .ok (.ifCond .eq 4, 3) := by decide +kernel
theorem dX9_readGoal_17 : decode cX9_readGoal 17 = .ok (.aload_n 0, 1) := by decide +kernel
theorem dX9_readGoal_18 : decode cX9_readGoal 18 = .ok (.ldc 172, 2) := by decide +kernel
theorem dX9_readGoal_20 : decode cX9_readGoal 20 = .ok (.invokevirtual 139, 3) := by decide +kernel
theorem dX9_readGoal_23 : decode cX9_readGoal 23 = .ok (.ifCond .eq 22, 3) := by decide +kernel
theorem dX9_readGoal_45 : decode cX9_readGoal 45 = .ok (.aload_n 0, 1) := by decide +kernel
theorem dX9_readGoal_46 : decode cX9_readGoal 46 = .ok (.ldc 174, 2) := by decide +kernel
theorem dX9_readGoal_48 : decode cX9_readGoal 48 = .ok (.invokevirtual 241, 3) := by decide +kernel
theorem dX9_readGoal_51 : decode cX9_readGoal 51 = .ok (.aload_n 0, 1) := by decide +kernel
theorem dX9_readGoal_52 : decode cX9_readGoal 52 = .ok (.getfield 20, 3) := by decide +kernel
theorem dX9_readGoal_55 : decode cX9_readGoal 55 = .ok (.iload_n 1, 1) := by decide +kernel
theorem dX9_readGoal_56 : decode cX9_readGoal 56 = .ok (.bipush 14, 2) := by decide +kernel
theorem dX9_readGoal_58 : decode cX9_readGoal 58 = .ok (.iadd, 1) := by decide +kernel
theorem dX9_readGoal_59 : decode cX9_readGoal 59 = .ok (.iconst 2, 1) := by decide +kernel
theorem dX9_readGoal_60 : decode cX9_readGoal 60 = .ok (.iastore, 1) := by decide +kernel
theorem dX9_readGoal_61 : decode cX9_readGoal 61 = .ok (.aload_n 0, 1) := by decide +kernel
theorem dX9_readGoal_62 : decode cX9_readGoal 62 = .ok (.getfield 20, 3) := by decide +kernel
theorem dX9_readGoal_65 : decode cX9_readGoal 65 = .ok (.iload_n 1, 1) := by decide +kernel
theorem dX9_readGoal_66 : decode cX9_readGoal 66 = .ok (.bipush 15, 2) := by decide +kernel
theorem dX9_readGoal_68 : decode cX9_readGoal 68 = .ok (.iadd, 1) := by decide +kernel
theorem dX9_readGoal_69 : decode cX9_readGoal 69 = .ok (.aload_n 0, 1) := by decide +kernel
theorem dX9_readGoal_70 : decode cX9_readGoal 70 = .ok (.invokevirtual 249, 3) := by decide +kernel
theorem k_1382 : Cond.methodLink RX9 249 yX9_counterName ∈ bw_T := bw_m 1382 (by decide +kernel) rfl
theorem kv_X9_counterName : bw_KV RX9 yX9_counterName (Cond.code yX9_counterName cX9_counterName 2 (some .int)) := ⟨bw_m 1384 (by decide +kernel) rfl, bw_m 60 (by decide +kernel) rfl, bw_m 107 (by decide +kernel) rfl, bw_m 1385 (by decide +kernel) rfl⟩
theorem dX9_readGoal_73 : decode cX9_readGoal 73 = .ok (.iastore, 1) := by decide +kernel
theorem dX9_readGoal_74 : decode cX9_readGoal 74 = .ok (.aload_n 0, 1) := by decide +kernel
theorem dX9_readGoal_75 : decode cX9_readGoal 75 = .ok (.ldc 172, 2) := by decide +kernel
theorem dX9_readGoal_77 : decode cX9_readGoal 77 = .ok (.invokevirtual 241, 3) := by decide +kernel
theorem dX9_readGoal_80 : decode cX9_readGoal 80 = .ok (.aload_n 0, 1) := by decide +kernel
theorem dX9_readGoal_81 : decode cX9_readGoal 81 = .ok (.iload_n 1, 1) := by decide +kernel
theorem dX9_readGoal_82 : decode cX9_readGoal 82 = .ok (.bipush 16, 2) := by decide +kernel
theorem dX9_readGoal_84 : decode cX9_readGoal 84 = .ok (.iadd, 1) := by decide +kernel
theorem dX9_readGoal_85 : decode cX9_readGoal 85 = .ok (.invokevirtual 259, 3) := by decide +kernel
theorem k_1402 : Cond.methodLink RX9 259 yX9_readWay ∈ bw_T := bw_m 1402 (by decide +kernel) rfl
theorem kv_X9_readWay : bw_KV RX9 yX9_readWay (Cond.code yX9_readWay cX9_readWay 2 none) := ⟨bw_m 1404 (by decide +kernel) rfl, bw_m 65 (by decide +kernel) rfl, bw_m 107 (by decide +kernel) rfl, bw_m 1405 (by decide +kernel) rfl⟩
theorem dX9_readGoal_88 : decode cX9_readGoal 88 = .ok (.aload_n 0, 1) := by decide +kernel
theorem dX9_readGoal_89 : decode cX9_readGoal 89 = .ok (.ldc 178, 2) := by decide +kernel
theorem dX9_readGoal_91 : decode cX9_readGoal 91 = .ok (.invokevirtual 241, 3) := by decide +kernel
theorem dX9_readGoal_94 : decode cX9_readGoal 94 = .ok (.aload_n 0, 1) := by decide +kernel
theorem dX9_readGoal_95 : decode cX9_readGoal 95 = .ok (.iload_n 1, 1) := by decide +kernel
theorem dX9_readGoal_96 : decode cX9_readGoal 96 = .ok (.bipush 18, 2) := by decide +kernel
theorem dX9_readGoal_98 : decode cX9_readGoal 98 = .ok (.iadd, 1) := by decide +kernel
theorem dX9_readGoal_99 : decode cX9_readGoal 99 = .ok (.invokevirtual 259, 3) := by decide +kernel
theorem dX9_readGoal_102 : decode cX9_readGoal 102 = .ok (.return_, 1) := by decide +kernel
theorem dX9_readGoal_26 : decode cX9_readGoal 26 = .ok (.aload_n 0, 1) := by decide +kernel
theorem dX9_readGoal_27 : decode cX9_readGoal 27 = .ok (.getfield 20, 3) := by decide +kernel
theorem dX9_readGoal_30 : decode cX9_readGoal 30 = .ok (.iload_n 1, 1) := by decide +kernel
theorem dX9_readGoal_31 : decode cX9_readGoal 31 = .ok (.bipush 14, 2) := by decide +kernel
theorem dX9_readGoal_33 : decode cX9_readGoal 33 = .ok (.iadd, 1) := by decide +kernel
theorem dX9_readGoal_34 : decode cX9_readGoal 34 = .ok (.iconst 1, 1) := by decide +kernel
theorem dX9_readGoal_35 : decode cX9_readGoal 35 = .ok (.iastore, 1) := by decide +kernel
theorem dX9_readGoal_36 : decode cX9_readGoal 36 = .ok (.aload_n 0, 1) := by decide +kernel
theorem dX9_readGoal_37 : decode cX9_readGoal 37 = .ok (.iload_n 1, 1) := by decide +kernel
theorem dX9_readGoal_38 : decode cX9_readGoal 38 = .ok (.bipush 16, 2) := by decide +kernel
theorem dX9_readGoal_40 : decode cX9_readGoal 40 = .ok (.iadd, 1) := by decide +kernel
theorem dX9_readGoal_41 : decode cX9_readGoal 41 = .ok (.invokevirtual 259, 3) := by decide +kernel
theorem dX9_readGoal_44 : decode cX9_readGoal 44 = .ok (.return_, 1) := by decide +kernel
theorem dX9_readAct_0 : decode cX9_readAct 0 = .ok (.aload_n 0, 1) := by decide +kernel
theorem dX9_readAct_1 : decode cX9_readAct 1 = .ok (.ldc 161, 2) := by decide +kernel
theorem dX9_readAct_3 : decode cX9_readAct 3 = .ok (.invokevirtual 132, 3) := by decide +kernel
theorem dX9_readAct_6 : decode cX9_readAct 6 = .ok (.ifCond .ne 30, 3) := by decide +kernel
theorem dX9_readAct_36 : decode cX9_readAct 36 = .ok (.iconst 1, 1) := by decide +kernel
theorem dX9_readAct_37 : decode cX9_readAct 37 = .ok (.goto 4, 3) := by decide +kernel
theorem dX9_readAct_41 : decode cX9_readAct 41 = .ok (.istore_n 3, 1) := by decide +kernel
theorem dX9_readAct_42 : decode cX9_readAct 42 = .ok (.iload_n 3, 1) := by decide +kernel
theorem dX9_readAct_43 : decode cX9_readAct 43 = .ok (.ifCond .ne 12, 3) := by decide +kernel
theorem dX9_readAct_55 : decode cX9_readAct 55 = .ok (.aload_n 0, 1) := by decide +kernel
theorem dX9_readAct_56 : decode cX9_readAct 56 = .ok (.getfield 115, 3) := by decide +kernel
theorem dX9_readAct_59 : decode cX9_readAct 59 = .ok (.ifCond .ne 17, 3) := by decide +kernel
theorem dX9_readAct_76 : decode cX9_readAct 76 = .ok (.aload_n 0, 1) := by decide +kernel
theorem dX9_readAct_77 : decode cX9_readAct 77 = .ok (.getfield 115, 3) := by decide +kernel
theorem dX9_readAct_80 : decode cX9_readAct 80 = .ok (.ifCond .eq 4, 3) := by decide +kernel
theorem dX9_readAct_83 : decode cX9_readAct 83 = .ok (.return_, 1) := by decide +kernel
theorem dX9_readAct_62 : decode cX9_readAct 62 = .ok (.iload_n 2, 1) := by decide +kernel
theorem dX9_readAct_63 : decode cX9_readAct 63 = .ok (.iconst 4, 1) := by decide +kernel
theorem dX9_readAct_64 : decode cX9_readAct 64 = .ok (.if_icmp .ne 12, 3) := by decide +kernel
theorem dX9_readAct_84 : decode cX9_readAct 84 = .ok (.aload_n 0, 1) := by decide +kernel
theorem dX9_readAct_85 : decode cX9_readAct 85 = .ok (.ldc 161, 2) := by decide +kernel
theorem dX9_readAct_87 : decode cX9_readAct 87 = .ok (.invokevirtual 139, 3) := by decide +kernel
theorem dX9_readAct_90 : decode cX9_readAct 90 = .ok (.ifCond .eq 18, 3) := by decide +kernel
theorem dX9_readAct_108 : decode cX9_readAct 108 = .ok (.aload_n 0, 1) := by decide +kernel
theorem dX9_readAct_109 : decode cX9_readAct 109 = .ok (.ldc 163, 2) := by decide +kernel
theorem dX9_readAct_111 : decode cX9_readAct 111 = .ok (.invokevirtual 139, 3) := by decide +kernel
theorem dX9_readAct_114 : decode cX9_readAct 114 = .ok (.ifCond .eq 25, 3) := by decide +kernel
theorem dX9_readAct_139 : decode cX9_readAct 139 = .ok (.aload_n 0, 1) := by decide +kernel
theorem dX9_readAct_140 : decode cX9_readAct 140 = .ok (.ldc 165, 2) := by decide +kernel
theorem dX9_readAct_142 : decode cX9_readAct 142 = .ok (.invokevirtual 139, 3) := by decide +kernel
theorem dX9_readAct_145 : decode cX9_readAct 145 = .ok (.ifCond .eq 40, 3) := by decide +kernel
theorem dX9_readAct_185 : decode cX9_readAct 185 = .ok (.aload_n 0, 1) := by decide +kernel
theorem dX9_readAct_186 : decode cX9_readAct 186 = .ok (.invokevirtual 136, 3) := by decide +kernel
theorem dX9_readAct_189 : decode cX9_readAct 189 = .ok (.aload_n 0, 1) := by decide +kernel
theorem dX9_readAct_190 : decode cX9_readAct 190 = .ok (.getfield 20, 3) := by decide +kernel
theorem dX9_readAct_193 : decode cX9_readAct 193 = .ok (.iload_n 1, 1) := by decide +kernel
theorem dX9_readAct_194 : decode cX9_readAct 194 = .ok (.iconst 3, 1) := by decide +kernel
theorem dX9_readAct_195 : decode cX9_readAct 195 = .ok (.iastore, 1) := by decide +kernel
theorem dX9_readAct_196 : decode cX9_readAct 196 = .ok (.aload_n 0, 1) := by decide +kernel
theorem dX9_readAct_197 : decode cX9_readAct 197 = .ok (.getfield 20, 3) := by decide +kernel
theorem dX9_readAct_200 : decode cX9_readAct 200 = .ok (.iload_n 1, 1) := by decide +kernel
theorem dX9_readAct_201 : decode cX9_readAct 201 = .ok (.iconst 1, 1) := by decide +kernel
theorem dX9_readAct_202 : decode cX9_readAct 202 = .ok (.iadd, 1) := by decide +kernel
theorem dX9_readAct_203 : decode cX9_readAct 203 = .ok (.aload_n 0, 1) := by decide +kernel
theorem dX9_readAct_204 : decode cX9_readAct 204 = .ok (.invokevirtual 256, 3) := by decide +kernel
theorem dX9_readAct_207 : decode cX9_readAct 207 = .ok (.iastore, 1) := by decide +kernel
theorem dX9_readAct_208 : decode cX9_readAct 208 = .ok (.return_, 1) := by decide +kernel
theorem dX9_readAct_148 : decode cX9_readAct 148 = .ok (.aload_n 0, 1) := by decide +kernel
theorem dX9_readAct_149 : decode cX9_readAct 149 = .ok (.getfield 20, 3) := by decide +kernel
theorem dX9_readAct_152 : decode cX9_readAct 152 = .ok (.iload_n 1, 1) := by decide +kernel
theorem dX9_readAct_153 : decode cX9_readAct 153 = .ok (.iconst 2, 1) := by decide +kernel
theorem dX9_readAct_154 : decode cX9_readAct 154 = .ok (.iastore, 1) := by decide +kernel
theorem dX9_readAct_155 : decode cX9_readAct 155 = .ok (.aload_n 0, 1) := by decide +kernel
theorem dX9_readAct_156 : decode cX9_readAct 156 = .ok (.getfield 20, 3) := by decide +kernel
theorem dX9_readAct_159 : decode cX9_readAct 159 = .ok (.iload_n 1, 1) := by decide +kernel
theorem dX9_readAct_160 : decode cX9_readAct 160 = .ok (.iconst 1, 1) := by decide +kernel
theorem dX9_readAct_161 : decode cX9_readAct 161 = .ok (.iadd, 1) := by decide +kernel
theorem dX9_readAct_162 : decode cX9_readAct 162 = .ok (.aload_n 0, 1) := by decide +kernel
theorem dX9_readAct_163 : decode cX9_readAct 163 = .ok (.invokevirtual 249, 3) := by decide +kernel
theorem dX9_readAct_166 : decode cX9_readAct 166 = .ok (.iastore, 1) := by decide +kernel
theorem dX9_readAct_167 : decode cX9_readAct 167 = .ok (.aload_n 0, 1) := by decide +kernel
theorem dX9_readAct_168 : decode cX9_readAct 168 = .ok (.getfield 20, 3) := by decide +kernel
theorem dX9_readAct_171 : decode cX9_readAct 171 = .ok (.iload_n 1, 1) := by decide +kernel
theorem dX9_readAct_172 : decode cX9_readAct 172 = .ok (.iconst 2, 1) := by decide +kernel
theorem dX9_readAct_173 : decode cX9_readAct 173 = .ok (.iadd, 1) := by decide +kernel
theorem dX9_readAct_174 : decode cX9_readAct 174 = .ok (.aload_n 0, 1) := by decide +kernel
theorem dX9_readAct_175 : decode cX9_readAct 175 = .ok (.iconst 0, 1) := by decide +kernel
theorem dX9_readAct_176 : decode cX9_readAct 176 = .ok (.bipush 9, 2) := by decide +kernel
theorem dX9_readAct_178 : decode cX9_readAct 178 = .ok (.invokevirtual 252, 3) := by decide +kernel
theorem dX9_readAct_181 : decode cX9_readAct 181 = .ok (.iastore, 1) := by decide +kernel
theorem dX9_readAct_182 : decode cX9_readAct 182 = .ok (.goto 26, 3) := by decide +kernel
theorem dX9_readAct_117 : decode cX9_readAct 117 = .ok (.aload_n 0, 1) := by decide +kernel
theorem dX9_readAct_118 : decode cX9_readAct 118 = .ok (.getfield 20, 3) := by decide +kernel
theorem dX9_readAct_121 : decode cX9_readAct 121 = .ok (.iload_n 1, 1) := by decide +kernel
theorem dX9_readAct_122 : decode cX9_readAct 122 = .ok (.iconst 1, 1) := by decide +kernel
theorem dX9_readAct_123 : decode cX9_readAct 123 = .ok (.iastore, 1) := by decide +kernel
theorem dX9_readAct_124 : decode cX9_readAct 124 = .ok (.aload_n 0, 1) := by decide +kernel
theorem dX9_readAct_125 : decode cX9_readAct 125 = .ok (.getfield 20, 3) := by decide +kernel
theorem dX9_readAct_128 : decode cX9_readAct 128 = .ok (.iload_n 1, 1) := by decide +kernel
theorem dX9_readAct_129 : decode cX9_readAct 129 = .ok (.iconst 1, 1) := by decide +kernel
theorem dX9_readAct_130 : decode cX9_readAct 130 = .ok (.iadd, 1) := by decide +kernel
theorem dX9_readAct_131 : decode cX9_readAct 131 = .ok (.aload_n 0, 1) := by decide +kernel
theorem dX9_readAct_132 : decode cX9_readAct 132 = .ok (.invokevirtual 249, 3) := by decide +kernel
theorem dX9_readAct_135 : decode cX9_readAct 135 = .ok (.iastore, 1) := by decide +kernel
theorem dX9_readAct_136 : decode cX9_readAct 136 = .ok (.goto 72, 3) := by decide +kernel
theorem dX9_readAct_93 : decode cX9_readAct 93 = .ok (.aload_n 0, 1) := by decide +kernel
theorem dX9_readAct_94 : decode cX9_readAct 94 = .ok (.getfield 20, 3) := by decide +kernel
theorem dX9_readAct_97 : decode cX9_readAct 97 = .ok (.iload_n 1, 1) := by decide +kernel
theorem dX9_readAct_98 : decode cX9_readAct 98 = .ok (.iconst 1, 1) := by decide +kernel
theorem dX9_readAct_99 : decode cX9_readAct 99 = .ok (.iadd, 1) := by decide +kernel
theorem dX9_readAct_100 : decode cX9_readAct 100 = .ok (.aload_n 0, 1) := by decide +kernel
theorem dX9_readAct_101 : decode cX9_readAct 101 = .ok (.invokevirtual 249, 3) := by decide +kernel
theorem dX9_readAct_104 : decode cX9_readAct 104 = .ok (.iastore, 1) := by decide +kernel
theorem dX9_readAct_105 : decode cX9_readAct 105 = .ok (.goto 103, 3) := by decide +kernel
theorem dX9_readAct_67 : decode cX9_readAct 67 = .ok (.aload_n 0, 1) := by decide +kernel
theorem dX9_readAct_68 : decode cX9_readAct 68 = .ok (.iconst 5, 1) := by decide +kernel
theorem dX9_readAct_69 : decode cX9_readAct 69 = .ok (.aload_n 0, 1) := by decide +kernel
theorem dX9_readAct_70 : decode cX9_readAct 70 = .ok (.getfield 96, 3) := by decide +kernel
theorem dX9_readAct_73 : decode cX9_readAct 73 = .ok (.invokevirtual 142, 3) := by decide +kernel
theorem dX9_readAct_9 : decode cX9_readAct 9 = .ok (.aload_n 0, 1) := by decide +kernel
theorem dX9_readAct_10 : decode cX9_readAct 10 = .ok (.ldc 163, 2) := by decide +kernel
theorem dX9_readAct_12 : decode cX9_readAct 12 = .ok (.invokevirtual 132, 3) := by decide +kernel
theorem dX9_readAct_15 : decode cX9_readAct 15 = .ok (.ifCond .ne 21, 3) := by decide +kernel
theorem dX9_readAct_18 : decode cX9_readAct 18 = .ok (.aload_n 0, 1) := by decide +kernel
theorem dX9_readAct_19 : decode cX9_readAct 19 = .ok (.ldc 165, 2) := by decide +kernel
theorem dX9_readAct_21 : decode cX9_readAct 21 = .ok (.invokevirtual 132, 3) := by decide +kernel
theorem dX9_readAct_24 : decode cX9_readAct 24 = .ok (.ifCond .ne 12, 3) := by decide +kernel
theorem dX9_readAct_27 : decode cX9_readAct 27 = .ok (.aload_n 0, 1) := by decide +kernel
theorem dX9_readAct_28 : decode cX9_readAct 28 = .ok (.ldc 167, 2) := by decide +kernel
theorem dX9_readAct_30 : decode cX9_readAct 30 = .ok (.invokevirtual 132, 3) := by decide +kernel
theorem dX9_readAct_33 : decode cX9_readAct 33 = .ok (.ifCond .eq 7, 3) := by decide +kernel
theorem dX9_readAct_40 : decode cX9_readAct 40 = .ok (.iconst 0, 1) := by decide +kernel
theorem dX9_readAct_46 : decode cX9_readAct 46 = .ok (.aload_n 0, 1) := by decide +kernel
theorem dX9_readAct_47 : decode cX9_readAct 47 = .ok (.iconst 1, 1) := by decide +kernel
theorem dX9_readAct_48 : decode cX9_readAct 48 = .ok (.aload_n 0, 1) := by decide +kernel
theorem dX9_readAct_49 : decode cX9_readAct 49 = .ok (.getfield 96, 3) := by decide +kernel
theorem dX9_readAct_52 : decode cX9_readAct 52 = .ok (.invokevirtual 142, 3) := by decide +kernel