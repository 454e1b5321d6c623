theorem dX3_readWant_0 : decode cX3_readWant 0 = .ok (.aload_n 0, 1) := by decide +kernel
theorem dX3_readWant_1 : decode cX3_readWant 1 = .ok (.getfield 29, 3) := by decide +kernel
theorem k_266 : Cond.fieldLink RX3 29 "BurntWays$Reader" "wants" "LBurntWays$Wants;" ∈ bw_T := bw_m 266 (by decide +kernel) rfl
theorem dX3_readWant_4 : decode cX3_readWant 4 = .ok (.getfield 82, 3) := by decide +kernel
theorem k_202 : Cond.fieldLink RX3 82 "BurntWays$Wants" "count" "I" ∈ bw_T := bw_m 202 (by decide +kernel) rfl
theorem dX3_readWant_7 : decode cX3_readWant 7 = .ok (.bipush 6, 2) := by decide +kernel
theorem dX3_readWant_9 : decode cX3_readWant 9 = .ok (.if_icmp .lt 9, 3) := by decide +kernel
theorem dX3_readWant_18 : decode cX3_readWant 18 = .ok (.iconst 0, 1) := by decide +kernel
theorem dX3_readWant_19 : decode cX3_readWant 19 = .ok (.istore_n 1, 1) := by decide +kernel
theorem dX3_readWant_20 : decode cX3_readWant 20 = .ok (.iload_n 1, 1) := by decide +kernel
theorem dX3_readWant_21 : decode cX3_readWant 21 = .ok (.iconst 4, 1) := by decide +kernel
theorem dX3_readWant_22 : decode cX3_readWant 22 = .ok (.if_icmp .ge 67, 3) := by decide +kernel
theorem dX3_readWant_89 : decode cX3_readWant 89 = .ok (.aload_n 0, 1) := by decide +kernel
theorem dX3_readWant_90 : decode cX3_readWant 90 = .ok (.bipush 14, 2) := by decide +kernel
theorem dX3_readWant_92 : decode cX3_readWant 92 = .ok (.invokevirtual 117, 3) := by decide +kernel
theorem dX3_readWant_95 : decode cX3_readWant 95 = .ok (.ifCond .ne 5, 3) := by decide +kernel
theorem dX3_readWant_100 : decode cX3_readWant 100 = .ok (.aload_n 0, 1) := by decide +kernel
theorem dX3_readWant_101 : decode cX3_readWant 101 = .ok (.invokevirtual 85, 3) := by decide +kernel
theorem dX3_readWant_104 : decode cX3_readWant 104 = .ok (.aload_n 0, 1) := by decide +kernel
theorem dX3_readWant_105 : decode cX3_readWant 105 = .ok (.iconst 0, 1) := by decide +kernel
theorem dX3_readWant_106 : decode cX3_readWant 106 = .ok (.bipush 99, 2) := by decide +kernel
theorem dX3_readWant_108 : decode cX3_readWant 108 = .ok (.invokevirtual 142, 3) := by decide +kernel
theorem dX3_readWant_111 : decode cX3_readWant 111 = .ok (.ifCond .ne 5, 3) := by decide +kernel
theorem dX3_readWant_116 : decode cX3_readWant 116 = .ok (.aload_n 0, 1) := by decide +kernel
theorem dX3_readWant_117 : decode cX3_readWant 117 = .ok (.getfield 29, 3) := by decide +kernel
theorem dX3_readWant_120 : decode cX3_readWant 120 = .ok (.aload_n 0, 1) := by decide +kernel
theorem dX3_readWant_121 : decode cX3_readWant 121 = .ok (.getfield 29, 3) := by decide +kernel
theorem dX3_readWant_124 : decode cX3_readWant 124 = .ok (.getfield 82, 3) := by decide +kernel
theorem dX3_readWant_127 : decode cX3_readWant 127 = .ok (.iconst 4, 1) := by decide +kernel
theorem dX3_readWant_128 : decode cX3_readWant 128 = .ok (.aload_n 0, 1) := by decide +kernel
theorem dX3_readWant_129 : decode cX3_readWant 129 = .ok (.getfield 62, 3) := by decide +kernel
theorem dX3_readWant_132 : decode cX3_readWant 132 = .ok (.invokevirtual 164, 3) := by decide +kernel
theorem k_631 : Cond.methodLink RX3 164 yX7_put ∈ bw_T := bw_m 631 (by decide +kernel) rfl
theorem kv_X7_put : bw_KV RX7 yX7_put (Cond.code yX7_put cX7_put 4 none) := ⟨bw_m 632 (by decide +kernel) rfl, bw_m 633 (by decide +kernel) rfl, bw_m 97 (by decide +kernel) rfl, bw_m 634 (by decide +kernel) rfl⟩
theorem dX3_readWant_135 : decode cX3_readWant 135 = .ok (.aload_n 0, 1) := by decide +kernel
theorem dX3_readWant_136 : decode cX3_readWant 136 = .ok (.getfield 29, 3) := by decide +kernel
theorem dX3_readWant_139 : decode cX3_readWant 139 = .ok (.dup, 1) := by decide +kernel
theorem dX3_readWant_140 : decode cX3_readWant 140 = .ok (.getfield 82, 3) := by decide +kernel
theorem dX3_readWant_143 : decode cX3_readWant 143 = .ok (.iconst 1, 1) := by decide +kernel
theorem dX3_readWant_144 : decode cX3_readWant 144 = .ok (.iadd, 1) := by decide +kernel
theorem dX3_readWant_145 : decode cX3_readWant 145 = .ok (.putfield 82, 3) := by decide +kernel
theorem dX3_readWant_148 : decode cX3_readWant 148 = .ok (.aload_n 0, 1) := by decide +kernel
theorem dX3_readWant_149 : decode cX3_readWant 149 = .ok (.invokevirtual 85, 3) := by decide +kernel
theorem dX3_readWant_152 : decode cX3_readWant 152 = .ok (.iconst 1, 1) := by decide +kernel
theorem dX3_readWant_153 : decode cX3_readWant 153 = .ok (.ireturn, 1) := by decide +kernel
theorem dX3_readWant_114 : decode cX3_readWant 114 = .ok (.iconst 0, 1) := by decide +kernel
theorem dX3_readWant_115 : decode cX3_readWant 115 = .ok (.ireturn, 1) := by decide +kernel
theorem dX3_readWant_98 : decode cX3_readWant 98 = .ok (.iconst 0, 1) := by decide +kernel
theorem dX3_readWant_99 : decode cX3_readWant 99 = .ok (.ireturn, 1) := by decide +kernel
theorem dX3_readWant_25 : decode cX3_readWant 25 = .ok (.iload_n 1, 1) := by decide +kernel
theorem dX3_readWant_26 : decode cX3_readWant 26 = .ok (.ifCond .le 18, 3) := by decide +kernel
theorem dX3_readWant_44 : decode cX3_readWant 44 = .ok (.aload_n 0, 1) := by decide +kernel
theorem dX3_readWant_45 : decode cX3_readWant 45 = .ok (.invokevirtual 85, 3) := by decide +kernel
theorem dX3_readWant_48 : decode cX3_readWant 48 = .ok (.aload_n 0, 1) := by decide +kernel
theorem dX3_readWant_49 : decode cX3_readWant 49 = .ok (.iconst 0, 1) := by decide +kernel
theorem dX3_readWant_50 : decode cX3_readWant 50 = .ok (.bipush 9, 2) := by decide +kernel
theorem dX3_readWant_52 : decode cX3_readWant 52 = .ok (.invokevirtual 142, 3) := by decide +kernel
theorem dX3_readWant_55 : decode cX3_readWant 55 = .ok (.ifCond .ne 5, 3) := by decide +kernel
theorem dX3_readWant_60 : decode cX3_readWant 60 = .ok (.aload_n 0, 1) := by decide +kernel
theorem dX3_readWant_61 : decode cX3_readWant 61 = .ok (.getfield 29, 3) := by decide +kernel
theorem dX3_readWant_64 : decode cX3_readWant 64 = .ok (.aload_n 0, 1) := by decide +kernel
theorem dX3_readWant_65 : decode cX3_readWant 65 = .ok (.getfield 29, 3) := by decide +kernel
theorem dX3_readWant_68 : decode cX3_readWant 68 = .ok (.getfield 82, 3) := by decide +kernel
theorem dX3_readWant_71 : decode cX3_readWant 71 = .ok (.iload_n 1, 1) := by decide +kernel
theorem dX3_readWant_72 : decode cX3_readWant 72 = .ok (.aload_n 0, 1) := by decide +kernel
theorem dX3_readWant_73 : decode cX3_readWant 73 = .ok (.getfield 62, 3) := by decide +kernel
theorem dX3_readWant_76 : decode cX3_readWant 76 = .ok (.invokevirtual 164, 3) := by decide +kernel
theorem dX3_readWant_79 : decode cX3_readWant 79 = .ok (.aload_n 0, 1) := by decide +kernel
theorem dX3_readWant_80 : decode cX3_readWant 80 = .ok (.invokevirtual 85, 3) := by decide +kernel
theorem dX3_readWant_83 : decode cX3_readWant 83 = .ok (.iinc 1 1, 3) := by decide +kernel
theorem dX3_readWant_86 : decode cX3_readWant 86 = .ok (.goto (-66), 3) := by decide +kernel
theorem dX3_readWant_58 : decode cX3_readWant 58 = .ok (.iconst 0, 1) := by decide +kernel
theorem dX3_readWant_59 : decode cX3_readWant 59 = .ok (.ireturn, 1) := by decide +kernel
theorem dX3_readWant_29 : decode cX3_readWant 29 = .ok (.aload_n 0, 1) := by decide +kernel
theorem dX3_readWant_30 : decode cX3_readWant 30 = .ok (.getfield 49, 3) := by decide +kernel
theorem dX3_readWant_33 : decode cX3_readWant 33 = .ok (.bipush 22, 2) := by decide +kernel
theorem dX3_readWant_35 : decode cX3_readWant 35 = .ok (.if_icmp .eq 9, 3) := by decide +kernel
theorem dX3_readWant_38 : decode cX3_readWant 38 = .ok (.aload_n 0, 1) := by decide +kernel
theorem dX3_readWant_39 : decode cX3_readWant 39 = .ok (.iconst 1, 1) := by decide +kernel
theorem dX3_readWant_40 : decode cX3_readWant 40 = .ok (.invokevirtual 98, 3) := by decide +kernel
theorem dX3_readWant_43 : decode cX3_readWant 43 = .ok (.ireturn, 1) := by decide +kernel
theorem dX3_readWant_12 : decode cX3_readWant 12 = .ok (.aload_n 0, 1) := by decide +kernel
theorem dX3_readWant_13 : decode cX3_readWant 13 = .ok (.iconst 5, 1) := by decide +kernel
theorem dX3_readWant_14 : decode cX3_readWant 14 = .ok (.invokevirtual 98, 3) := by decide +kernel
theorem dX3_readWant_17 : decode cX3_readWant 17 = .ok (.ireturn, 1) := by decide +kernel