theorem k_116 : Cond.classLink RL 8 RX8 ∈ bw_T := bw_m 116 (by decide +kernel) rfl
theorem k_94 : Cond.initialized RX8 ∈ bw_T := bw_m 94 (by decide +kernel) rfl
theorem k_118 : Cond.methodLink RL 15 yX8_init ∈ bw_T := bw_m 118 (by decide +kernel) rfl
theorem k_1157 : Cond.classLink RL 16 RX9 ∈ bw_T := bw_m 1157 (by decide +kernel) rfl
theorem k_107 : Cond.initialized RX9 ∈ bw_T := bw_m 107 (by decide +kernel) rfl
theorem k_1159 : Cond.methodLink RL 18 yX9_init ∈ bw_T := bw_m 1159 (by decide +kernel) rfl
