def Fine (g : Nat → Nat → Int) : Prop := (∀ k, k < 10 → g 0 k = 2 → 0 ≤ g 1 k) ∧ (∀ k, k < 10 → g 0 k = -1 → g 2 k = 0)
theorem dX3_readGoal_0 : decode cX3_readGoal 0 = .ok (.aload_n 0, 1) := by decide +kernel
theorem dX3_readGoal_1 : decode cX3_readGoal 1 = .ok (.invokevirtual 85, 3) := by decide +kernel
theorem dX3_readGoal_4 : decode cX3_readGoal 4 = .ok (.aload_n 0, 1) := by decide +kernel
theorem dX3_readGoal_5 : decode cX3_readGoal 5 = .ok (.getfield 49, 3) := by decide +kernel
theorem dX3_readGoal_8 : decode cX3_readGoal 8 = .ok (.tableswitch 126 9 11 #[28, 44, 62], 28) := by decide +kernel
theorem dX3_readGoal_36 : decode cX3_readGoal 36 = .ok (.aload_n 0, 1) := by decide +kernel
theorem dX3_readGoal_37 : decode cX3_readGoal 37 = .ok (.getfield 22, 3) := by decide +kernel
theorem dX3_readGoal_40 : decode cX3_readGoal 40 = .ok (.getfield 146, 3) := by decide +kernel
theorem k_149 : Cond.fieldLink RX3 146 "BurntWays$Net" "goals" "[I" ∈ bw_T := bw_m 149 (by decide +kernel) rfl
theorem dX3_readGoal_43 : decode cX3_readGoal 43 = .ok (.iload_n 1, 1) := by decide +kernel
theorem dX3_readGoal_44 : decode cX3_readGoal 44 = .ok (.iconst 0, 1) := by decide +kernel
theorem dX3_readGoal_45 : decode cX3_readGoal 45 = .ok (.iastore, 1) := by decide +kernel
theorem dX3_readGoal_46 : decode cX3_readGoal 46 = .ok (.aload_n 0, 1) := by decide +kernel
theorem dX3_readGoal_47 : decode cX3_readGoal 47 = .ok (.invokevirtual 85, 3) := by decide +kernel
theorem dX3_readGoal_50 : decode cX3_readGoal 50 = .ok (.iconst 1, 1) := by decide +kernel
theorem dX3_readGoal_51 : decode cX3_readGoal 51 = .ok (.ireturn, 1) := by decide +kernel
theorem dX3_readGoal_52 : decode cX3_readGoal 52 = .ok (.aload_n 0, 1) := by decide +kernel
theorem dX3_readGoal_53 : decode cX3_readGoal 53 = .ok (.getfield 22, 3) := by decide +kernel
theorem dX3_readGoal_56 : decode cX3_readGoal 56 = .ok (.getfield 146, 3) := by decide +kernel
theorem dX3_readGoal_59 : decode cX3_readGoal 59 = .ok (.iload_n 1, 1) := by decide +kernel
theorem dX3_readGoal_60 : decode cX3_readGoal 60 = .ok (.iconst 1, 1) := by decide +kernel
theorem dX3_readGoal_61 : decode cX3_readGoal 61 = .ok (.iastore, 1) := by decide +kernel
theorem dX3_readGoal_62 : decode cX3_readGoal 62 = .ok (.aload_n 0, 1) := by decide +kernel
theorem dX3_readGoal_63 : decode cX3_readGoal 63 = .ok (.iconst 2, 1) := by decide +kernel
theorem dX3_readGoal_64 : decode cX3_readGoal 64 = .ok (.iload_n 1, 1) := by decide +kernel
theorem dX3_readGoal_65 : decode cX3_readGoal 65 = .ok (.imul, 1) := by decide +kernel
theorem dX3_readGoal_66 : decode cX3_readGoal 66 = .ok (.invokevirtual 149, 3) := by decide +kernel
theorem k_619 : Cond.methodLink RX3 149 yX3_readWay ∈ bw_T := bw_m 619 (by decide +kernel) rfl
theorem kv_X3_readWay : bw_KV RX3 yX3_readWay (Cond.code yX3_readWay cX3_readWay 2 (some .boolean)) := ⟨bw_m 621 (by decide +kernel) rfl, bw_m 16 (by decide +kernel) rfl, bw_m 95 (by decide +kernel) rfl, bw_m 622 (by decide +kernel) rfl⟩
theorem dX3_readGoal_69 : decode cX3_readGoal 69 = .ok (.ireturn, 1) := by decide +kernel
theorem dX3_readGoal_70 : decode cX3_readGoal 70 = .ok (.aload_n 0, 1) := by decide +kernel
theorem dX3_readGoal_71 : decode cX3_readGoal 71 = .ok (.getfield 22, 3) := by decide +kernel
theorem dX3_readGoal_74 : decode cX3_readGoal 74 = .ok (.getfield 146, 3) := by decide +kernel
theorem dX3_readGoal_77 : decode cX3_readGoal 77 = .ok (.iload_n 1, 1) := by decide +kernel
theorem dX3_readGoal_78 : decode cX3_readGoal 78 = .ok (.iconst 2, 1) := by decide +kernel
theorem dX3_readGoal_79 : decode cX3_readGoal 79 = .ok (.iastore, 1) := by decide +kernel
theorem dX3_readGoal_80 : decode cX3_readGoal 80 = .ok (.aload_n 0, 1) := by decide +kernel
theorem dX3_readGoal_81 : decode cX3_readGoal 81 = .ok (.iload_n 1, 1) := by decide +kernel
theorem dX3_readGoal_82 : decode cX3_readGoal 82 = .ok (.invokevirtual 152, 3) := by decide +kernel
theorem k_623 : Cond.methodLink RX3 152 yX3_readAsked ∈ bw_T := bw_m 623 (by decide +kernel) rfl
theorem kv_X3_readAsked : bw_KV RX3 yX3_readAsked (Cond.code yX3_readAsked cX3_readAsked 2 (some .boolean)) := ⟨bw_m 625 (by decide +kernel) rfl, bw_m 17 (by decide +kernel) rfl, bw_m 95 (by decide +kernel) rfl, bw_m 626 (by decide +kernel) rfl⟩
theorem dX3_readGoal_85 : decode cX3_readGoal 85 = .ok (.ifCond .eq 47, 3) := by decide +kernel
theorem dX3_readGoal_132 : decode cX3_readGoal 132 = .ok (.iconst 0, 1) := by decide +kernel
theorem dX3_readGoal_133 : decode cX3_readGoal 133 = .ok (.ireturn, 1) := by decide +kernel
theorem dX3_readGoal_88 : decode cX3_readGoal 88 = .ok (.aload_n 0, 1) := by decide +kernel
theorem dX3_readGoal_89 : decode cX3_readGoal 89 = .ok (.bipush 10, 2) := by decide +kernel
theorem dX3_readGoal_91 : decode cX3_readGoal 91 = .ok (.invokevirtual 117, 3) := by decide +kernel
theorem dX3_readGoal_94 : decode cX3_readGoal 94 = .ok (.ifCond .eq 38, 3) := by decide +kernel
theorem dX3_readGoal_97 : decode cX3_readGoal 97 = .ok (.aload_n 0, 1) := by decide +kernel
theorem dX3_readGoal_98 : decode cX3_readGoal 98 = .ok (.iconst 2, 1) := by decide +kernel
theorem dX3_readGoal_99 : decode cX3_readGoal 99 = .ok (.iload_n 1, 1) := by decide +kernel
theorem dX3_readGoal_100 : decode cX3_readGoal 100 = .ok (.imul, 1) := by decide +kernel
theorem dX3_readGoal_101 : decode cX3_readGoal 101 = .ok (.invokevirtual 149, 3) := by decide +kernel
theorem dX3_readGoal_104 : decode cX3_readGoal 104 = .ok (.ifCond .eq 28, 3) := by decide +kernel
theorem dX3_readGoal_107 : decode cX3_readGoal 107 = .ok (.aload_n 0, 1) := by decide +kernel
theorem dX3_readGoal_108 : decode cX3_readGoal 108 = .ok (.bipush 13, 2) := by decide +kernel
theorem dX3_readGoal_110 : decode cX3_readGoal 110 = .ok (.invokevirtual 117, 3) := by decide +kernel
theorem dX3_readGoal_113 : decode cX3_readGoal 113 = .ok (.ifCond .eq 19, 3) := by decide +kernel
theorem dX3_readGoal_116 : decode cX3_readGoal 116 = .ok (.aload_n 0, 1) := by decide +kernel
theorem dX3_readGoal_117 : decode cX3_readGoal 117 = .ok (.iconst 2, 1) := by decide +kernel
theorem dX3_readGoal_118 : decode cX3_readGoal 118 = .ok (.iload_n 1, 1) := by decide +kernel
theorem dX3_readGoal_119 : decode cX3_readGoal 119 = .ok (.imul, 1) := by decide +kernel
theorem dX3_readGoal_120 : decode cX3_readGoal 120 = .ok (.iconst 1, 1) := by decide +kernel
theorem dX3_readGoal_121 : decode cX3_readGoal 121 = .ok (.iadd, 1) := by decide +kernel
theorem dX3_readGoal_122 : decode cX3_readGoal 122 = .ok (.invokevirtual 149, 3) := by decide +kernel
theorem dX3_readGoal_125 : decode cX3_readGoal 125 = .ok (.ifCond .eq 7, 3) := by decide +kernel
theorem dX3_readGoal_128 : decode cX3_readGoal 128 = .ok (.iconst 1, 1) := by decide +kernel
theorem dX3_readGoal_129 : decode cX3_readGoal 129 = .ok (.goto 4, 3) := by decide +kernel
theorem dX3_readGoal_134 : decode cX3_readGoal 134 = .ok (.aload_n 0, 1) := by decide +kernel
theorem dX3_readGoal_135 : decode cX3_readGoal 135 = .ok (.iconst 1, 1) := by decide +kernel
theorem dX3_readGoal_136 : decode cX3_readGoal 136 = .ok (.invokevirtual 98, 3) := by decide +kernel
theorem dX3_readGoal_139 : decode cX3_readGoal 139 = .ok (.ireturn, 1) := by decide +kernel