theorem dX9_program_0 : decode cX9_program 0 = .ok (.aload_n 0, 1) := by decide +kernel
theorem dX9_program_1 : decode cX9_program 1 = .ok (.invokevirtual 197, 3) := by decide +kernel
theorem dX9_program_4 : decode cX9_program 4 = .ok (.iload_n 1, 1) := by decide +kernel
theorem dX9_program_5 : decode cX9_program 5 = .ok (.iconst 0, 1) := by decide +kernel
theorem dX9_program_6 : decode cX9_program 6 = .ok (.aload_n 0, 1) := by decide +kernel
theorem dX9_program_7 : decode cX9_program 7 = .ok (.getfield 83, 3) := by decide +kernel
theorem dX9_program_10 : decode cX9_program 10 = .ok (.invokestatic 146, 3) := by decide +kernel
theorem dX9_program_13 : decode cX9_program 13 = .ok (.ifCond .ne 9, 3) := by decide +kernel
theorem dX9_program_22 : decode cX9_program 22 = .ok (.aload_n 0, 1) := by decide +kernel
theorem dX9_program_23 : decode cX9_program 23 = .ok (.iconst 0, 1) := by decide +kernel
theorem dX9_program_24 : decode cX9_program 24 = .ok (.putfield 83, 3) := by decide +kernel
theorem dX9_program_27 : decode cX9_program 27 = .ok (.aload_n 0, 1) := by decide +kernel
theorem dX9_program_28 : decode cX9_program 28 = .ok (.iconst 0, 1) := by decide +kernel
theorem dX9_program_29 : decode cX9_program 29 = .ok (.putfield 119, 3) := by decide +kernel
theorem dX9_program_32 : decode cX9_program 32 = .ok (.aload_n 0, 1) := by decide +kernel
theorem dX9_program_33 : decode cX9_program 33 = .ok (.iconst 0, 1) := by decide +kernel
theorem dX9_program_34 : decode cX9_program 34 = .ok (.putfield 115, 3) := by decide +kernel
theorem dX9_program_37 : decode cX9_program 37 = .ok (.aload_n 0, 1) := by decide +kernel
theorem dX9_program_38 : decode cX9_program 38 = .ok (.iconst 0, 1) := by decide +kernel
theorem dX9_program_39 : decode cX9_program 39 = .ok (.putfield 182, 3) := by decide +kernel
theorem dX9_program_42 : decode cX9_program 42 = .ok (.aload_n 0, 1) := by decide +kernel
theorem dX9_program_43 : decode cX9_program 43 = .ok (.iconst 0, 1) := by decide +kernel
theorem dX9_program_44 : decode cX9_program 44 = .ok (.putfield 203, 3) := by decide +kernel
theorem dX9_program_47 : decode cX9_program 47 = .ok (.iconst 0, 1) := by decide +kernel
theorem dX9_program_48 : decode cX9_program 48 = .ok (.istore_n 2, 1) := by decide +kernel
theorem dX9_program_49 : decode cX9_program 49 = .ok (.iload_n 2, 1) := by decide +kernel
theorem dX9_program_50 : decode cX9_program 50 = .ok (.sipush 200, 3) := by decide +kernel
theorem dX9_program_53 : decode cX9_program 53 = .ok (.if_icmp .ge 16, 3) := by decide +kernel
theorem dX9_program_69 : decode cX9_program 69 = .ok (.aload_n 0, 1) := by decide +kernel
theorem dX9_program_70 : decode cX9_program 70 = .ok (.iload_n 1, 1) := by decide +kernel
theorem dX9_program_71 : decode cX9_program 71 = .ok (.putfield 86, 3) := by decide +kernel
theorem dX9_program_74 : decode cX9_program 74 = .ok (.aload_n 0, 1) := by decide +kernel
theorem dX9_program_75 : decode cX9_program 75 = .ok (.iconst 0, 1) := by decide +kernel
theorem dX9_program_76 : decode cX9_program 76 = .ok (.putfield 89, 3) := by decide +kernel
theorem dX9_program_79 : decode cX9_program 79 = .ok (.aload_n 0, 1) := by decide +kernel
theorem dX9_program_80 : decode cX9_program 80 = .ok (.invokevirtual 136, 3) := by decide +kernel
theorem dX9_program_83 : decode cX9_program 83 = .ok (.aload_n 0, 1) := by decide +kernel
theorem dX9_program_84 : decode cX9_program 84 = .ok (.invokevirtual 206, 3) := by decide +kernel
theorem k_1317 : Cond.methodLink RX9 206 yX9_readLine ∈ bw_T := bw_m 1317 (by decide +kernel) rfl
theorem kv_X9_readLine : bw_KV RX9 yX9_readLine (Cond.code yX9_readLine cX9_readLine 1 none) := ⟨bw_m 1319 (by decide +kernel) rfl, bw_m 48 (by decide +kernel) rfl, bw_m 107 (by decide +kernel) rfl, bw_m 1320 (by decide +kernel) rfl⟩
theorem dX9_program_87 : decode cX9_program 87 = .ok (.aload_n 0, 1) := by decide +kernel
theorem dX9_program_88 : decode cX9_program 88 = .ok (.getfield 115, 3) := by decide +kernel
theorem dX9_program_91 : decode cX9_program 91 = .ok (.ifCond .ne 23, 3) := by decide +kernel
theorem dX9_program_114 : decode cX9_program 114 = .ok (.aload_n 0, 1) := by decide +kernel
theorem dX9_program_115 : decode cX9_program 115 = .ok (.getfield 115, 3) := by decide +kernel
theorem dX9_program_118 : decode cX9_program 118 = .ok (.ifCond .ne 19, 3) := by decide +kernel
theorem dX9_program_137 : decode cX9_program 137 = .ok (.aload_n 0, 1) := by decide +kernel
theorem dX9_program_138 : decode cX9_program 138 = .ok (.getfield 115, 3) := by decide +kernel
theorem dX9_program_141 : decode cX9_program 141 = .ok (.ifCond .ne 20, 3) := by decide +kernel
theorem dX9_program_161 : decode cX9_program 161 = .ok (.aload_n 0, 1) := by decide +kernel
theorem dX9_program_162 : decode cX9_program 162 = .ok (.getfield 115, 3) := by decide +kernel
theorem dX9_program_165 : decode cX9_program 165 = .ok (.ifCond .eq 9, 3) := by decide +kernel
theorem dX9_program_168 : decode cX9_program 168 = .ok (.aload_n 0, 1) := by decide +kernel
theorem dX9_program_169 : decode cX9_program 169 = .ok (.iconst 4, 1) := by decide +kernel
theorem dX9_program_170 : decode cX9_program 170 = .ok (.invokevirtual 200, 3) := by decide +kernel
theorem dX9_program_173 : decode cX9_program 173 = .ok (.ireturn, 1) := by decide +kernel
theorem dX9_program_94 : decode cX9_program 94 = .ok (.aload_n 0, 1) := by decide +kernel
theorem dX9_program_95 : decode cX9_program 95 = .ok (.getfield 105, 3) := by decide +kernel
theorem dX9_program_98 : decode cX9_program 98 = .ok (.bipush 59, 2) := by decide +kernel
theorem dX9_program_100 : decode cX9_program 100 = .ok (.if_icmp .ne 14, 3) := by decide +kernel
theorem dX9_program_121 : decode cX9_program 121 = .ok (.aload_n 0, 1) := by decide +kernel
theorem dX9_program_122 : decode cX9_program 122 = .ok (.getfield 105, 3) := by decide +kernel
theorem dX9_program_125 : decode cX9_program 125 = .ok (.ifCond .eq 12, 3) := by decide +kernel
theorem dX9_program_144 : decode cX9_program 144 = .ok (.aload_n 0, 1) := by decide +kernel
theorem dX9_program_145 : decode cX9_program 145 = .ok (.getfield 182, 3) := by decide +kernel
theorem dX9_program_148 : decode cX9_program 148 = .ok (.ifCond .ne 13, 3) := by decide +kernel
theorem dX9_program_174 : decode cX9_program 174 = .ok (.aload_n 0, 1) := by decide +kernel
theorem dX9_program_175 : decode cX9_program 175 = .ok (.getfield 20, 3) := by decide +kernel
theorem dX9_program_178 : decode cX9_program 178 = .ok (.aload_n 0, 1) := by decide +kernel
theorem dX9_program_179 : decode cX9_program 179 = .ok (.getfield 23, 3) := by decide +kernel
theorem dX9_program_182 : decode cX9_program 182 = .ok (.sipush 200, 3) := by decide +kernel
theorem dX9_program_185 : decode cX9_program 185 = .ok (.invokestatic 209, 3) := by decide +kernel
theorem dX9_program_188 : decode cX9_program 188 = .ok (.aload_n 0, 1) := by decide +kernel
theorem dX9_program_189 : decode cX9_program 189 = .ok (.getfield 20, 3) := by decide +kernel
theorem dX9_program_192 : decode cX9_program 192 = .ok (.aload_n 0, 1) := by decide +kernel
theorem dX9_program_193 : decode cX9_program 193 = .ok (.getfield 26, 3) := by decide +kernel
theorem dX9_program_196 : decode cX9_program 196 = .ok (.sipush 200, 3) := by decide +kernel
theorem dX9_program_199 : decode cX9_program 199 = .ok (.invokestatic 209, 3) := by decide +kernel
theorem dX9_program_202 : decode cX9_program 202 = .ok (.aload_n 0, 1) := by decide +kernel
theorem dX9_program_203 : decode cX9_program 203 = .ok (.getfield 41, 3) := by decide +kernel
theorem dX9_program_206 : decode cX9_program 206 = .ok (.aload_n 0, 1) := by decide +kernel
theorem dX9_program_207 : decode cX9_program 207 = .ok (.getfield 35, 3) := by decide +kernel
theorem k_1183 : Cond.fieldLink RX9 35 "BurntWaysModel" "names" "[I" ∈ bw_T := bw_m 1183 (by decide +kernel) rfl
theorem dX9_program_210 : decode cX9_program 210 = .ok (.bipush 80, 2) := by decide +kernel
theorem dX9_program_212 : decode cX9_program 212 = .ok (.invokestatic 209, 3) := by decide +kernel
theorem dX9_program_215 : decode cX9_program 215 = .ok (.aload_n 0, 1) := by decide +kernel
theorem dX9_program_216 : decode cX9_program 216 = .ok (.getfield 44, 3) := by decide +kernel
theorem dX9_program_219 : decode cX9_program 219 = .ok (.aload_n 0, 1) := by decide +kernel
theorem dX9_program_220 : decode cX9_program 220 = .ok (.getfield 38, 3) := by decide +kernel
theorem k_1184 : Cond.fieldLink RX9 38 "BurntWaysModel" "nameSizes" "[I" ∈ bw_T := bw_m 1184 (by decide +kernel) rfl
theorem dX9_program_223 : decode cX9_program 223 = .ok (.bipush 10, 2) := by decide +kernel
theorem dX9_program_225 : decode cX9_program 225 = .ok (.invokestatic 209, 3) := by decide +kernel
theorem dX9_program_228 : decode cX9_program 228 = .ok (.aload_n 0, 1) := by decide +kernel
theorem dX9_program_229 : decode cX9_program 229 = .ok (.getfield 50, 3) := by decide +kernel
theorem dX9_program_232 : decode cX9_program 232 = .ok (.aload_n 0, 1) := by decide +kernel
theorem dX9_program_233 : decode cX9_program 233 = .ok (.getfield 47, 3) := by decide +kernel
theorem dX9_program_236 : decode cX9_program 236 = .ok (.bipush 30, 2) := by decide +kernel
theorem dX9_program_238 : decode cX9_program 238 = .ok (.invokestatic 209, 3) := by decide +kernel
theorem dX9_program_241 : decode cX9_program 241 = .ok (.aload_n 0, 1) := by decide +kernel
theorem dX9_program_242 : decode cX9_program 242 = .ok (.aload_n 0, 1) := by decide +kernel
theorem dX9_program_243 : decode cX9_program 243 = .ok (.getfield 182, 3) := by decide +kernel
theorem dX9_program_246 : decode cX9_program 246 = .ok (.putfield 213, 3) := by decide +kernel
theorem dX9_program_249 : decode cX9_program 249 = .ok (.aload_n 0, 1) := by decide +kernel
theorem dX9_program_250 : decode cX9_program 250 = .ok (.aload_n 0, 1) := by decide +kernel
theorem dX9_program_251 : decode cX9_program 251 = .ok (.getfield 203, 3) := by decide +kernel
theorem dX9_program_254 : decode cX9_program 254 = .ok (.putfield 216, 3) := by decide +kernel
theorem dX9_program_257 : decode cX9_program 257 = .ok (.aload_n 0, 1) := by decide +kernel
theorem dX9_program_258 : decode cX9_program 258 = .ok (.iconst 0, 1) := by decide +kernel
theorem dX9_program_259 : decode cX9_program 259 = .ok (.putfield 219, 3) := by decide +kernel
theorem dX9_program_262 : decode cX9_program 262 = .ok (.aload_n 0, 1) := by decide +kernel
theorem dX9_program_263 : decode cX9_program 263 = .ok (.iconst 1, 1) := by decide +kernel
theorem dX9_program_264 : decode cX9_program 264 = .ok (.putfield 222, 3) := by decide +kernel
theorem dX9_program_267 : decode cX9_program 267 = .ok (.aload_n 0, 1) := by decide +kernel
theorem dX9_program_268 : decode cX9_program 268 = .ok (.getfield 23, 3) := by decide +kernel
theorem dX9_program_271 : decode cX9_program 271 = .ok (.aload_n 0, 1) := by decide +kernel
theorem dX9_program_272 : decode cX9_program 272 = .ok (.getfield 53, 3) := by decide +kernel
theorem dX9_program_275 : decode cX9_program 275 = .ok (.iconst 0, 1) := by decide +kernel
theorem dX9_program_276 : decode cX9_program 276 = .ok (.iconst 0, 1) := by decide +kernel
theorem dX9_program_277 : decode cX9_program 277 = .ok (.iconst 0, 1) := by decide +kernel
theorem dX9_program_278 : decode cX9_program 278 = .ok (.iconst 0, 1) := by decide +kernel
theorem dX9_program_279 : decode cX9_program 279 = .ok (.invokestatic 225, 3) := by decide +kernel
theorem dX9_program_282 : decode cX9_program 282 = .ok (.aload_n 0, 1) := by decide +kernel
theorem dX9_program_283 : decode cX9_program 283 = .ok (.getfield 213, 3) := by decide +kernel
theorem dX9_program_286 : decode cX9_program 286 = .ok (.ireturn, 1) := by decide +kernel
theorem dX9_program_151 : decode cX9_program 151 = .ok (.aload_n 0, 1) := by decide +kernel
theorem dX9_program_152 : decode cX9_program 152 = .ok (.bipush 6, 2) := by decide +kernel
theorem dX9_program_154 : decode cX9_program 154 = .ok (.aload_n 0, 1) := by decide +kernel
theorem dX9_program_155 : decode cX9_program 155 = .ok (.getfield 96, 3) := by decide +kernel
theorem dX9_program_158 : decode cX9_program 158 = .ok (.invokevirtual 142, 3) := by decide +kernel
theorem dX9_program_128 : decode cX9_program 128 = .ok (.aload_n 0, 1) := by decide +kernel
theorem dX9_program_129 : decode cX9_program 129 = .ok (.iconst 1, 1) := by decide +kernel
theorem dX9_program_130 : decode cX9_program 130 = .ok (.aload_n 0, 1) := by decide +kernel
theorem dX9_program_131 : decode cX9_program 131 = .ok (.getfield 96, 3) := by decide +kernel
theorem dX9_program_134 : decode cX9_program 134 = .ok (.invokevirtual 142, 3) := by decide +kernel
theorem dX9_program_103 : decode cX9_program 103 = .ok (.aload_n 0, 1) := by decide +kernel
theorem dX9_program_104 : decode cX9_program 104 = .ok (.invokevirtual 136, 3) := by decide +kernel
theorem dX9_program_107 : decode cX9_program 107 = .ok (.aload_n 0, 1) := by decide +kernel
theorem dX9_program_108 : decode cX9_program 108 = .ok (.invokevirtual 206, 3) := by decide +kernel
theorem dX9_program_111 : decode cX9_program 111 = .ok (.goto (-24), 3) := by decide +kernel
theorem dX9_program_56 : decode cX9_program 56 = .ok (.aload_n 0, 1) := by decide +kernel
theorem dX9_program_57 : decode cX9_program 57 = .ok (.getfield 20, 3) := by decide +kernel
theorem dX9_program_60 : decode cX9_program 60 = .ok (.iload_n 2, 1) := by decide +kernel
theorem dX9_program_61 : decode cX9_program 61 = .ok (.iconst 0, 1) := by decide +kernel
theorem dX9_program_62 : decode cX9_program 62 = .ok (.iastore, 1) := by decide +kernel
theorem dX9_program_63 : decode cX9_program 63 = .ok (.iinc 2 1, 3) := by decide +kernel
theorem dX9_program_66 : decode cX9_program 66 = .ok (.goto (-17), 3) := by decide +kernel
theorem dX9_program_16 : decode cX9_program 16 = .ok (.aload_n 0, 1) := by decide +kernel
theorem dX9_program_17 : decode cX9_program 17 = .ok (.iconst 2, 1) := by decide +kernel
theorem dX9_program_18 : decode cX9_program 18 = .ok (.invokevirtual 200, 3) := by decide +kernel
theorem dX9_program_21 : decode cX9_program 21 = .ok (.ireturn, 1) := by decide +kernel