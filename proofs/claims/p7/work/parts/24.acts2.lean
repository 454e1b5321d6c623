theorem dX3_readActs_0 : decode cX3_readActs 0 = .ok (.iconst 0, 1) := by decide +kernel
theorem dX3_readActs_1 : decode cX3_readActs 1 = .ok (.istore_n 2, 1) := by decide +kernel
theorem dX3_readActs_2 : decode cX3_readActs 2 = .ok (.iload_n 2, 1) := by decide +kernel
theorem dX3_readActs_3 : decode cX3_readActs 3 = .ok (.iconst 4, 1) := by decide +kernel
theorem dX3_readActs_4 : decode cX3_readActs 4 = .ok (.if_icmp .gt 86, 3) := by decide +kernel
theorem dX3_readActs_90 : decode cX3_readActs 90 = .ok (.iconst 1, 1) := by decide +kernel
theorem dX3_readActs_91 : decode cX3_readActs 91 = .ok (.ireturn, 1) := by decide +kernel
theorem dX3_readActs_7 : decode cX3_readActs 7 = .ok (.aload_n 0, 1) := by decide +kernel
theorem dX3_readActs_8 : decode cX3_readActs 8 = .ok (.invokevirtual 85, 3) := by decide +kernel
theorem dX3_readActs_11 : decode cX3_readActs 11 = .ok (.aload_n 0, 1) := by decide +kernel
theorem dX3_readActs_12 : decode cX3_readActs 12 = .ok (.getfield 49, 3) := by decide +kernel
theorem dX3_readActs_15 : decode cX3_readActs 15 = .ok (.iconst 4, 1) := by decide +kernel
theorem dX3_readActs_16 : decode cX3_readActs 16 = .ok (.if_icmp .lt 12, 3) := by decide +kernel
theorem dX3_readActs_28 : decode cX3_readActs 28 = .ok (.aload_n 0, 1) := by decide +kernel
theorem dX3_readActs_29 : decode cX3_readActs 29 = .ok (.iconst 1, 1) := by decide +kernel
theorem dX3_readActs_30 : decode cX3_readActs 30 = .ok (.invokevirtual 98, 3) := by decide +kernel
theorem dX3_readActs_33 : decode cX3_readActs 33 = .ok (.ireturn, 1) := by decide +kernel
theorem dX3_readActs_19 : decode cX3_readActs 19 = .ok (.aload_n 0, 1) := by decide +kernel
theorem dX3_readActs_20 : decode cX3_readActs 20 = .ok (.getfield 49, 3) := by decide +kernel
theorem dX3_readActs_23 : decode cX3_readActs 23 = .ok (.bipush 7, 2) := by decide +kernel
theorem dX3_readActs_25 : decode cX3_readActs 25 = .ok (.if_icmp .le 9, 3) := by decide +kernel
theorem dX3_readActs_34 : decode cX3_readActs 34 = .ok (.iload_n 2, 1) := by decide +kernel
theorem dX3_readActs_35 : decode cX3_readActs 35 = .ok (.iconst 4, 1) := by decide +kernel
theorem dX3_readActs_36 : decode cX3_readActs 36 = .ok (.if_icmp .lt 9, 3) := by decide +kernel
theorem dX3_readActs_45 : decode cX3_readActs 45 = .ok (.aload_n 0, 1) := by decide +kernel
theorem dX3_readActs_46 : decode cX3_readActs 46 = .ok (.iload_n 1, 1) := by decide +kernel
theorem dX3_readActs_47 : decode cX3_readActs 47 = .ok (.iconst 4, 1) := by decide +kernel
theorem dX3_readActs_48 : decode cX3_readActs 48 = .ok (.imul, 1) := by decide +kernel
theorem dX3_readActs_49 : decode cX3_readActs 49 = .ok (.iload_n 2, 1) := by decide +kernel
theorem dX3_readActs_50 : decode cX3_readActs 50 = .ok (.iadd, 1) := by decide +kernel
theorem dX3_readActs_51 : decode cX3_readActs 51 = .ok (.invokevirtual 123, 3) := by decide +kernel
theorem k_599 : Cond.methodLink RX3 123 yX3_readAct ∈ bw_T := bw_m 599 (by decide +kernel) rfl
theorem kv_X3_readAct : bw_KV RX3 yX3_readAct (Cond.code yX3_readAct cX3_readAct 3 (some .boolean)) := ⟨bw_m 601 (by decide +kernel) rfl, bw_m 11 (by decide +kernel) rfl, bw_m 95 (by decide +kernel) rfl, bw_m 602 (by decide +kernel) rfl⟩
theorem dX3_readActs_54 : decode cX3_readActs 54 = .ok (.ifCond .ne 5, 3) := by decide +kernel
theorem dX3_readActs_59 : decode cX3_readActs 59 = .ok (.aload_n 0, 1) := by decide +kernel
theorem dX3_readActs_60 : decode cX3_readActs 60 = .ok (.getfield 22, 3) := by decide +kernel
theorem dX3_readActs_63 : decode cX3_readActs 63 = .ok (.getfield 126, 3) := by decide +kernel
theorem k_155 : Cond.fieldLink RX3 126 "BurntWays$Net" "actCounts" "[I" ∈ bw_T := bw_m 155 (by decide +kernel) rfl
theorem dX3_readActs_66 : decode cX3_readActs 66 = .ok (.iload_n 1, 1) := by decide +kernel
theorem dX3_readActs_67 : decode cX3_readActs 67 = .ok (.dup2, 1) := by decide +kernel
theorem dX3_readActs_68 : decode cX3_readActs 68 = .ok (.iaload, 1) := by decide +kernel
theorem dX3_readActs_69 : decode cX3_readActs 69 = .ok (.iconst 1, 1) := by decide +kernel
theorem dX3_readActs_70 : decode cX3_readActs 70 = .ok (.iadd, 1) := by decide +kernel
theorem dX3_readActs_71 : decode cX3_readActs 71 = .ok (.iastore, 1) := by decide +kernel
theorem dX3_readActs_72 : decode cX3_readActs 72 = .ok (.aload_n 0, 1) := by decide +kernel
theorem dX3_readActs_73 : decode cX3_readActs 73 = .ok (.getfield 49, 3) := by decide +kernel
theorem dX3_readActs_76 : decode cX3_readActs 76 = .ok (.bipush 22, 2) := by decide +kernel
theorem dX3_readActs_78 : decode cX3_readActs 78 = .ok (.if_icmp .eq 6, 3) := by decide +kernel
theorem dX3_readActs_84 : decode cX3_readActs 84 = .ok (.iinc 2 1, 3) := by decide +kernel
theorem dX3_readActs_87 : decode cX3_readActs 87 = .ok (.goto (-85), 3) := by decide +kernel
theorem dX3_readActs_81 : decode cX3_readActs 81 = .ok (.goto 9, 3) := by decide +kernel
theorem dX3_readActs_57 : decode cX3_readActs 57 = .ok (.iconst 0, 1) := by decide +kernel
theorem dX3_readActs_58 : decode cX3_readActs 58 = .ok (.ireturn, 1) := by decide +kernel
theorem dX3_readActs_39 : decode cX3_readActs 39 = .ok (.aload_n 0, 1) := by decide +kernel
theorem dX3_readActs_40 : decode cX3_readActs 40 = .ok (.iconst 5, 1) := by decide +kernel
theorem dX3_readActs_41 : decode cX3_readActs 41 = .ok (.invokevirtual 98, 3) := by decide +kernel
theorem dX3_readActs_44 : decode cX3_readActs 44 = .ok (.ireturn, 1) := by decide +kernel