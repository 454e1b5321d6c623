theorem dX9_merge_0 : decode cX9_merge 0 = .ok (.aload_n 1, 1) := bo_43 (by decide +kernel)
theorem dX9_merge_1 : decode cX9_merge 1 = .ok (.aload 4, 2) := bo_25 (by decide +kernel)
theorem dX9_merge_3 : decode cX9_merge 3 = .ok (.sipush 200, 3) := bo_17 0 200 (by decide +kernel)
theorem dX9_merge_6 : decode cX9_merge 6 = .ok (.invokestatic 209, 3) := bo_184 0 209 (by decide +kernel)
theorem k_1418 : Cond.methodLink RX9 209 yX9_copy ∈ bw_T := bw_m 1418 (by decide +kernel) rfl
theorem ks_X9_copy : bw_KS RX9 yX9_copy (Cond.code yX9_copy cX9_copy 4 none) := ⟨bw_m 1419 (by decide +kernel) rfl, bw_m 107 (by decide +kernel) rfl, bw_m 1420 (by decide +kernel) rfl⟩
theorem dX9_merge_9 : decode cX9_merge 9 = .ok (.iconst 0, 1) := bo_3 (by decide +kernel)
theorem dX9_merge_10 : decode cX9_merge 10 = .ok (.istore 5, 2) := bo_54 (by decide +kernel)
theorem dX9_merge_12 : decode cX9_merge 12 = .ok (.iload 5, 2) := bo_21 (by decide +kernel)
theorem dX9_merge_14 : decode cX9_merge 14 = .ok (.bipush 20, 2) := bo_16 20 (by decide +kernel)
theorem dX9_merge_16 : decode cX9_merge 16 = .ok (.if_icmp .ge 20, 3) := bo_162 0 20 (by decide +kernel)
theorem dX9_merge_36 : decode cX9_merge 36 = .ok (.aload_n 1, 1) := bo_43 (by decide +kernel)
theorem dX9_merge_37 : decode cX9_merge 37 = .ok (.bipush 20, 2) := bo_16 20 (by decide +kernel)
theorem dX9_merge_129 : decode cX9_merge 129 = .ok (.iconst 0, 1) := bo_3 (by decide +kernel)
theorem dX9_merge_130 : decode cX9_merge 130 = .ok (.istore 5, 2) := bo_54 (by decide +kernel)
theorem dX9_merge_132 : decode cX9_merge 132 = .ok (.iload 5, 2) := bo_21 (by decide +kernel)
theorem dX9_merge_134 : decode cX9_merge 134 = .ok (.aload_n 0, 1) := bo_42 (by decide +kernel)
theorem dX9_merge_135 : decode cX9_merge 135 = .ok (.getfield 213, 3) := bo_180 0 213 (by decide +kernel)
theorem dX9_merge_138 : decode cX9_merge 138 = .ok (.if_icmp .ge 164, 3) := bo_162 0 164 (by decide +kernel)
theorem dX9_merge_302 : decode cX9_merge 302 = .ok (.return_, 1) := bo_177 (by decide +kernel)
theorem dX9_merge_141 : decode cX9_merge 141 = .ok (.bipush 20, 2) := bo_16 20 (by decide +kernel)
theorem dX9_merge_143 : decode cX9_merge 143 = .ok (.iload 5, 2) := bo_21 (by decide +kernel)
theorem dX9_merge_145 : decode cX9_merge 145 = .ok (.imul, 1) := bo_104 (by decide +kernel)
theorem dX9_merge_146 : decode cX9_merge 146 = .ok (.istore 6, 2) := bo_54 (by decide +kernel)
theorem dX9_merge_148 : decode cX9_merge 148 = .ok (.aload 4, 2) := bo_25 (by decide +kernel)
theorem dX9_merge_150 : decode cX9_merge 150 = .ok (.iload 6, 2) := bo_21 (by decide +kernel)
theorem dX9_merge_152 : decode cX9_merge 152 = .ok (.iconst 0, 1) := bo_3 (by decide +kernel)
theorem dX9_merge_153 : decode cX9_merge 153 = .ok (.iadd, 1) := bo_96 (by decide +kernel)
theorem dX9_merge_154 : decode cX9_merge 154 = .ok (.iaload, 1) := bo_46 (by decide +kernel)
theorem dX9_merge_155 : decode cX9_merge 155 = .ok (.ifCond .ne 6, 3) := bo_154 0 6 (by decide +kernel)
theorem dX9_merge_161 : decode cX9_merge 161 = .ok (.aload 4, 2) := bo_25 (by decide +kernel)
theorem dX9_merge_193 : decode cX9_merge 193 = .ok (.aload 4, 2) := bo_25 (by decide +kernel)
theorem dX9_merge_226 : decode cX9_merge 226 = .ok (.iconst 0, 1) := bo_3 (by decide +kernel)
theorem dX9_merge_227 : decode cX9_merge 227 = .ok (.istore 7, 2) := bo_54 (by decide +kernel)
theorem dX9_merge_229 : decode cX9_merge 229 = .ok (.iload 7, 2) := bo_21 (by decide +kernel)
theorem dX9_merge_231 : decode cX9_merge 231 = .ok (.aload 4, 2) := bo_25 (by decide +kernel)
theorem dX9_merge_233 : decode cX9_merge 233 = .ok (.iload 6, 2) := bo_21 (by decide +kernel)
theorem dX9_merge_235 : decode cX9_merge 235 = .ok (.iconst 1, 1) := bo_4 (by decide +kernel)
theorem dX9_merge_236 : decode cX9_merge 236 = .ok (.iadd, 1) := bo_96 (by decide +kernel)
theorem dX9_merge_237 : decode cX9_merge 237 = .ok (.iaload, 1) := bo_46 (by decide +kernel)
theorem dX9_merge_238 : decode cX9_merge 238 = .ok (.if_icmp .ge 58, 3) := bo_162 0 58 (by decide +kernel)
theorem dX9_merge_296 : decode cX9_merge 296 = .ok (.iinc 5 1, 3) := bo_132 5 1 (by decide +kernel)
theorem dX9_merge_299 : decode cX9_merge 299 = .ok (.goto (-167), 3) := bo_167 255 89 (by decide +kernel)
theorem dX9_merge_241 : decode cX9_merge 241 = .ok (.aload 4, 2) := bo_25 (by decide +kernel)
theorem dX9_merge_243 : decode cX9_merge 243 = .ok (.iload 6, 2) := bo_21 (by decide +kernel)
theorem dX9_merge_245 : decode cX9_merge 245 = .ok (.iconst 2, 1) := bo_5 (by decide +kernel)
theorem dX9_merge_246 : decode cX9_merge 246 = .ok (.iadd, 1) := bo_96 (by decide +kernel)
theorem dX9_merge_247 : decode cX9_merge 247 = .ok (.iconst 3, 1) := bo_6 (by decide +kernel)
theorem dX9_merge_248 : decode cX9_merge 248 = .ok (.iload 7, 2) := bo_21 (by decide +kernel)
theorem dX9_merge_250 : decode cX9_merge 250 = .ok (.imul, 1) := bo_104 (by decide +kernel)
theorem dX9_merge_251 : decode cX9_merge 251 = .ok (.iadd, 1) := bo_96 (by decide +kernel)
theorem dX9_merge_252 : decode cX9_merge 252 = .ok (.iaload, 1) := bo_46 (by decide +kernel)
theorem dX9_merge_253 : decode cX9_merge 253 = .ok (.iconst 3, 1) := bo_6 (by decide +kernel)
theorem dX9_merge_254 : decode cX9_merge 254 = .ok (.if_icmp .ne 36, 3) := bo_160 0 36 (by decide +kernel)
theorem dX9_merge_290 : decode cX9_merge 290 = .ok (.iinc 7 1, 3) := bo_132 7 1 (by decide +kernel)
theorem dX9_merge_293 : decode cX9_merge 293 = .ok (.goto (-64), 3) := bo_167 255 192 (by decide +kernel)
theorem dX9_merge_257 : decode cX9_merge 257 = .ok (.aload 4, 2) := bo_25 (by decide +kernel)
theorem dX9_merge_259 : decode cX9_merge 259 = .ok (.iload 6, 2) := bo_21 (by decide +kernel)
theorem dX9_merge_261 : decode cX9_merge 261 = .ok (.iconst 2, 1) := bo_5 (by decide +kernel)
theorem dX9_merge_262 : decode cX9_merge 262 = .ok (.iadd, 1) := bo_96 (by decide +kernel)
theorem dX9_merge_263 : decode cX9_merge 263 = .ok (.iconst 3, 1) := bo_6 (by decide +kernel)
theorem dX9_merge_264 : decode cX9_merge 264 = .ok (.iload 7, 2) := bo_21 (by decide +kernel)
theorem dX9_merge_266 : decode cX9_merge 266 = .ok (.imul, 1) := bo_104 (by decide +kernel)
theorem dX9_merge_267 : decode cX9_merge 267 = .ok (.iadd, 1) := bo_96 (by decide +kernel)
theorem dX9_merge_268 : decode cX9_merge 268 = .ok (.iconst 1, 1) := bo_4 (by decide +kernel)
theorem dX9_merge_269 : decode cX9_merge 269 = .ok (.iadd, 1) := bo_96 (by decide +kernel)
theorem dX9_merge_270 : decode cX9_merge 270 = .ok (.iaload, 1) := bo_46 (by decide +kernel)
theorem dX9_merge_271 : decode cX9_merge 271 = .ok (.iload_n 3, 1) := bo_29 (by decide +kernel)
theorem dX9_merge_272 : decode cX9_merge 272 = .ok (.if_icmp .ne 18, 3) := bo_160 0 18 (by decide +kernel)
theorem dX9_merge_275 : decode cX9_merge 275 = .ok (.aload 4, 2) := bo_25 (by decide +kernel)
theorem dX9_merge_277 : decode cX9_merge 277 = .ok (.iload 6, 2) := bo_21 (by decide +kernel)
theorem dX9_merge_279 : decode cX9_merge 279 = .ok (.iconst 2, 1) := bo_5 (by decide +kernel)
theorem dX9_merge_280 : decode cX9_merge 280 = .ok (.iadd, 1) := bo_96 (by decide +kernel)
theorem dX9_merge_281 : decode cX9_merge 281 = .ok (.iconst 3, 1) := bo_6 (by decide +kernel)
theorem dX9_merge_282 : decode cX9_merge 282 = .ok (.iload 7, 2) := bo_21 (by decide +kernel)
theorem dX9_merge_284 : decode cX9_merge 284 = .ok (.imul, 1) := bo_104 (by decide +kernel)
theorem dX9_merge_285 : decode cX9_merge 285 = .ok (.iadd, 1) := bo_96 (by decide +kernel)
theorem dX9_merge_286 : decode cX9_merge 286 = .ok (.iconst 1, 1) := bo_4 (by decide +kernel)
theorem dX9_merge_287 : decode cX9_merge 287 = .ok (.iadd, 1) := bo_96 (by decide +kernel)
theorem dX9_merge_288 : decode cX9_merge 288 = .ok (.iload_n 2, 1) := bo_28 (by decide +kernel)
theorem dX9_merge_289 : decode cX9_merge 289 = .ok (.iastore, 1) := bo_79 (by decide +kernel)
theorem dX9_merge_195 : decode cX9_merge 195 = .ok (.iload 6, 2) := bo_21 (by decide +kernel)
theorem dX9_merge_197 : decode cX9_merge 197 = .ok (.bipush 14, 2) := bo_16 14 (by decide +kernel)
theorem dX9_merge_199 : decode cX9_merge 199 = .ok (.iadd, 1) := bo_96 (by decide +kernel)
theorem dX9_merge_200 : decode cX9_merge 200 = .ok (.iaload, 1) := bo_46 (by decide +kernel)
theorem dX9_merge_201 : decode cX9_merge 201 = .ok (.iconst 2, 1) := bo_5 (by decide +kernel)
theorem dX9_merge_202 : decode cX9_merge 202 = .ok (.if_icmp .ne 24, 3) := bo_160 0 24 (by decide +kernel)
theorem dX9_merge_205 : decode cX9_merge 205 = .ok (.aload 4, 2) := bo_25 (by decide +kernel)
theorem dX9_merge_207 : decode cX9_merge 207 = .ok (.iload 6, 2) := bo_21 (by decide +kernel)
theorem dX9_merge_209 : decode cX9_merge 209 = .ok (.bipush 18, 2) := bo_16 18 (by decide +kernel)
theorem dX9_merge_211 : decode cX9_merge 211 = .ok (.iadd, 1) := bo_96 (by decide +kernel)
theorem dX9_merge_212 : decode cX9_merge 212 = .ok (.iaload, 1) := bo_46 (by decide +kernel)
theorem dX9_merge_213 : decode cX9_merge 213 = .ok (.iload_n 3, 1) := bo_29 (by decide +kernel)
theorem dX9_merge_214 : decode cX9_merge 214 = .ok (.if_icmp .ne 12, 3) := bo_160 0 12 (by decide +kernel)
theorem dX9_merge_217 : decode cX9_merge 217 = .ok (.aload 4, 2) := bo_25 (by decide +kernel)
theorem dX9_merge_219 : decode cX9_merge 219 = .ok (.iload 6, 2) := bo_21 (by decide +kernel)
theorem dX9_merge_221 : decode cX9_merge 221 = .ok (.bipush 18, 2) := bo_16 18 (by decide +kernel)
theorem dX9_merge_223 : decode cX9_merge 223 = .ok (.iadd, 1) := bo_96 (by decide +kernel)
theorem dX9_merge_224 : decode cX9_merge 224 = .ok (.iload_n 2, 1) := bo_28 (by decide +kernel)
theorem dX9_merge_225 : decode cX9_merge 225 = .ok (.iastore, 1) := bo_79 (by decide +kernel)
theorem dX9_merge_163 : decode cX9_merge 163 = .ok (.iload 6, 2) := bo_21 (by decide +kernel)
theorem dX9_merge_165 : decode cX9_merge 165 = .ok (.bipush 14, 2) := bo_16 14 (by decide +kernel)
theorem dX9_merge_167 : decode cX9_merge 167 = .ok (.iadd, 1) := bo_96 (by decide +kernel)
theorem dX9_merge_168 : decode cX9_merge 168 = .ok (.iaload, 1) := bo_46 (by decide +kernel)
theorem dX9_merge_169 : decode cX9_merge 169 = .ok (.ifCond .le 24, 3) := bo_158 0 24 (by decide +kernel)
theorem dX9_merge_172 : decode cX9_merge 172 = .ok (.aload 4, 2) := bo_25 (by decide +kernel)
theorem dX9_merge_174 : decode cX9_merge 174 = .ok (.iload 6, 2) := bo_21 (by decide +kernel)
theorem dX9_merge_176 : decode cX9_merge 176 = .ok (.bipush 16, 2) := bo_16 16 (by decide +kernel)
theorem dX9_merge_178 : decode cX9_merge 178 = .ok (.iadd, 1) := bo_96 (by decide +kernel)
theorem dX9_merge_179 : decode cX9_merge 179 = .ok (.iaload, 1) := bo_46 (by decide +kernel)
theorem dX9_merge_180 : decode cX9_merge 180 = .ok (.iload_n 3, 1) := bo_29 (by decide +kernel)
theorem dX9_merge_181 : decode cX9_merge 181 = .ok (.if_icmp .ne 12, 3) := bo_160 0 12 (by decide +kernel)
theorem dX9_merge_184 : decode cX9_merge 184 = .ok (.aload 4, 2) := bo_25 (by decide +kernel)
theorem dX9_merge_186 : decode cX9_merge 186 = .ok (.iload 6, 2) := bo_21 (by decide +kernel)
theorem dX9_merge_188 : decode cX9_merge 188 = .ok (.bipush 16, 2) := bo_16 16 (by decide +kernel)
theorem dX9_merge_190 : decode cX9_merge 190 = .ok (.iadd, 1) := bo_96 (by decide +kernel)
theorem dX9_merge_191 : decode cX9_merge 191 = .ok (.iload_n 2, 1) := bo_28 (by decide +kernel)
theorem dX9_merge_192 : decode cX9_merge 192 = .ok (.iastore, 1) := bo_79 (by decide +kernel)
theorem dX9_merge_158 : decode cX9_merge 158 = .ok (.goto 138, 3) := bo_167 0 138 (by decide +kernel)
theorem dX9_merge_39 : decode cX9_merge 39 = .ok (.iload_n 2, 1) := bo_28 (by decide +kernel)
theorem dX9_merge_40 : decode cX9_merge 40 = .ok (.imul, 1) := bo_104 (by decide +kernel)
theorem dX9_merge_41 : decode cX9_merge 41 = .ok (.bipush 14, 2) := bo_16 14 (by decide +kernel)
theorem dX9_merge_43 : decode cX9_merge 43 = .ok (.iadd, 1) := bo_96 (by decide +kernel)
theorem dX9_merge_44 : decode cX9_merge 44 = .ok (.iaload, 1) := bo_46 (by decide +kernel)
theorem dX9_merge_45 : decode cX9_merge 45 = .ok (.ifCond .le 37, 3) := bo_158 0 37 (by decide +kernel)
theorem dX9_merge_82 : decode cX9_merge 82 = .ok (.aload_n 1, 1) := bo_43 (by decide +kernel)
theorem dX9_merge_83 : decode cX9_merge 83 = .ok (.bipush 20, 2) := bo_16 20 (by decide +kernel)
theorem dX9_merge_85 : decode cX9_merge 85 = .ok (.iload_n 2, 1) := bo_28 (by decide +kernel)
theorem dX9_merge_86 : decode cX9_merge 86 = .ok (.imul, 1) := bo_104 (by decide +kernel)
theorem dX9_merge_87 : decode cX9_merge 87 = .ok (.bipush 14, 2) := bo_16 14 (by decide +kernel)
theorem dX9_merge_89 : decode cX9_merge 89 = .ok (.iadd, 1) := bo_96 (by decide +kernel)
theorem dX9_merge_90 : decode cX9_merge 90 = .ok (.iaload, 1) := bo_46 (by decide +kernel)
theorem dX9_merge_91 : decode cX9_merge 91 = .ok (.iconst 2, 1) := bo_5 (by decide +kernel)
theorem dX9_merge_92 : decode cX9_merge 92 = .ok (.if_icmp .ne 37, 3) := bo_160 0 37 (by decide +kernel)
theorem dX9_merge_95 : decode cX9_merge 95 = .ok (.aload 4, 2) := bo_25 (by decide +kernel)
theorem dX9_merge_97 : decode cX9_merge 97 = .ok (.bipush 20, 2) := bo_16 20 (by decide +kernel)
theorem dX9_merge_99 : decode cX9_merge 99 = .ok (.iload_n 2, 1) := bo_28 (by decide +kernel)
theorem dX9_merge_100 : decode cX9_merge 100 = .ok (.imul, 1) := bo_104 (by decide +kernel)
theorem dX9_merge_101 : decode cX9_merge 101 = .ok (.bipush 19, 2) := bo_16 19 (by decide +kernel)
theorem dX9_merge_103 : decode cX9_merge 103 = .ok (.iadd, 1) := bo_96 (by decide +kernel)
theorem dX9_merge_104 : decode cX9_merge 104 = .ok (.bipush 9, 2) := bo_16 9 (by decide +kernel)
theorem dX9_merge_106 : decode cX9_merge 106 = .ok (.aload_n 1, 1) := bo_43 (by decide +kernel)
theorem dX9_merge_107 : decode cX9_merge 107 = .ok (.bipush 20, 2) := bo_16 20 (by decide +kernel)
theorem dX9_merge_109 : decode cX9_merge 109 = .ok (.iload_n 2, 1) := bo_28 (by decide +kernel)
theorem dX9_merge_110 : decode cX9_merge 110 = .ok (.imul, 1) := bo_104 (by decide +kernel)
theorem dX9_merge_111 : decode cX9_merge 111 = .ok (.bipush 19, 2) := bo_16 19 (by decide +kernel)
theorem dX9_merge_113 : decode cX9_merge 113 = .ok (.iadd, 1) := bo_96 (by decide +kernel)
theorem dX9_merge_114 : decode cX9_merge 114 = .ok (.iaload, 1) := bo_46 (by decide +kernel)
theorem dX9_merge_115 : decode cX9_merge 115 = .ok (.aload_n 1, 1) := bo_43 (by decide +kernel)
theorem dX9_merge_116 : decode cX9_merge 116 = .ok (.bipush 20, 2) := bo_16 20 (by decide +kernel)
theorem dX9_merge_118 : decode cX9_merge 118 = .ok (.iload_n 3, 1) := bo_29 (by decide +kernel)
theorem dX9_merge_119 : decode cX9_merge 119 = .ok (.imul, 1) := bo_104 (by decide +kernel)
theorem dX9_merge_120 : decode cX9_merge 120 = .ok (.bipush 19, 2) := bo_16 19 (by decide +kernel)
theorem dX9_merge_122 : decode cX9_merge 122 = .ok (.iadd, 1) := bo_96 (by decide +kernel)
theorem dX9_merge_123 : decode cX9_merge 123 = .ok (.iaload, 1) := bo_46 (by decide +kernel)
theorem dX9_merge_124 : decode cX9_merge 124 = .ok (.iadd, 1) := bo_96 (by decide +kernel)
theorem dX9_merge_125 : decode cX9_merge 125 = .ok (.invokestatic 269, 3) := bo_184 1 13 (by decide +kernel)
theorem dX9_merge_128 : decode cX9_merge 128 = .ok (.iastore, 1) := bo_79 (by decide +kernel)
theorem dX9_merge_48 : decode cX9_merge 48 = .ok (.aload 4, 2) := bo_25 (by decide +kernel)
theorem dX9_merge_50 : decode cX9_merge 50 = .ok (.bipush 20, 2) := bo_16 20 (by decide +kernel)
theorem dX9_merge_52 : decode cX9_merge 52 = .ok (.iload_n 2, 1) := bo_28 (by decide +kernel)
theorem dX9_merge_53 : decode cX9_merge 53 = .ok (.imul, 1) := bo_104 (by decide +kernel)
theorem dX9_merge_54 : decode cX9_merge 54 = .ok (.bipush 17, 2) := bo_16 17 (by decide +kernel)
theorem dX9_merge_56 : decode cX9_merge 56 = .ok (.iadd, 1) := bo_96 (by decide +kernel)
theorem dX9_merge_57 : decode cX9_merge 57 = .ok (.bipush 9, 2) := bo_16 9 (by decide +kernel)
theorem dX9_merge_59 : decode cX9_merge 59 = .ok (.aload_n 1, 1) := bo_43 (by decide +kernel)
theorem dX9_merge_60 : decode cX9_merge 60 = .ok (.bipush 20, 2) := bo_16 20 (by decide +kernel)
theorem dX9_merge_62 : decode cX9_merge 62 = .ok (.iload_n 2, 1) := bo_28 (by decide +kernel)
theorem dX9_merge_63 : decode cX9_merge 63 = .ok (.imul, 1) := bo_104 (by decide +kernel)
theorem dX9_merge_64 : decode cX9_merge 64 = .ok (.bipush 17, 2) := bo_16 17 (by decide +kernel)
theorem dX9_merge_66 : decode cX9_merge 66 = .ok (.iadd, 1) := bo_96 (by decide +kernel)
theorem dX9_merge_67 : decode cX9_merge 67 = .ok (.iaload, 1) := bo_46 (by decide +kernel)
theorem dX9_merge_68 : decode cX9_merge 68 = .ok (.aload_n 1, 1) := bo_43 (by decide +kernel)
theorem dX9_merge_69 : decode cX9_merge 69 = .ok (.bipush 20, 2) := bo_16 20 (by decide +kernel)
theorem dX9_merge_71 : decode cX9_merge 71 = .ok (.iload_n 3, 1) := bo_29 (by decide +kernel)
theorem dX9_merge_72 : decode cX9_merge 72 = .ok (.imul, 1) := bo_104 (by decide +kernel)
theorem dX9_merge_73 : decode cX9_merge 73 = .ok (.bipush 17, 2) := bo_16 17 (by decide +kernel)
theorem dX9_merge_75 : decode cX9_merge 75 = .ok (.iadd, 1) := bo_96 (by decide +kernel)
theorem dX9_merge_76 : decode cX9_merge 76 = .ok (.iaload, 1) := bo_46 (by decide +kernel)
theorem dX9_merge_77 : decode cX9_merge 77 = .ok (.iadd, 1) := bo_96 (by decide +kernel)
theorem dX9_merge_78 : decode cX9_merge 78 = .ok (.invokestatic 269, 3) := bo_184 1 13 (by decide +kernel)
theorem dX9_merge_81 : decode cX9_merge 81 = .ok (.iastore, 1) := bo_79 (by decide +kernel)
theorem dX9_merge_19 : decode cX9_merge 19 = .ok (.aload 4, 2) := bo_25 (by decide +kernel)
theorem dX9_merge_21 : decode cX9_merge 21 = .ok (.bipush 20, 2) := bo_16 20 (by decide +kernel)
theorem dX9_merge_23 : decode cX9_merge 23 = .ok (.iload_n 3, 1) := bo_29 (by decide +kernel)
theorem dX9_merge_24 : decode cX9_merge 24 = .ok (.imul, 1) := bo_104 (by decide +kernel)
theorem dX9_merge_25 : decode cX9_merge 25 = .ok (.iload 5, 2) := bo_21 (by decide +kernel)
theorem dX9_merge_27 : decode cX9_merge 27 = .ok (.iadd, 1) := bo_96 (by decide +kernel)
theorem dX9_merge_28 : decode cX9_merge 28 = .ok (.iconst 0, 1) := bo_3 (by decide +kernel)
theorem dX9_merge_29 : decode cX9_merge 29 = .ok (.iastore, 1) := bo_79 (by decide +kernel)
theorem dX9_merge_30 : decode cX9_merge 30 = .ok (.iinc 5 1, 3) := bo_132 5 1 (by decide +kernel)
theorem dX9_merge_33 : decode cX9_merge 33 = .ok (.goto (-21), 3) := bo_167 255 235 (by decide +kernel)
abbrev rm_X9_merge : Room := { frames := 1, cells := 0, slots := 0, locals := 23 }
set_option maxRecDepth 100000 in
set_option maxHeartbeats 8000000 in
theorem c_X9_merge {l : Launch} {E : (Nat → Prop) → State → Prop} (hO : bw_Ok E) {G : va_G} {cI cB cJ cN cW : ClassId} (y : Nat) (q : Nat → Nat) (i : Nat → Int) (hM : ModOk i) (a : Nat) (g_p : Nat → Int) (f : Nat) (g_q : Nat → Int) (x : Int) (w : Int) (hx9 : zR x) (hw9 : zR w) (hp : ProgOk g_p) (hx8 : 0 ≤ x ∧ x < 10) (hw8 : 0 ≤ w ∧ w < 10) : bw_Cv (S := zV) l yX9_merge (bw_ws (Cond.code yX9_merge cX9_merge 8 none)) rm_X9_merge E G (bw_kt cI cB cJ cN cW) [.ref y, .ref a, .int (zI x), .int (zI w), .ref f] [(y, .inr (9, [.int (zI (i 0)), .ref (q 0), .int (zI (i 1)), .int (zI (i 2)), .int (zI (i 3)), .int (zI (i 4)), .int (zI (i 5)), .int (zI (i 6)), .int (zI (i 7)), .int (zI (i 8)), .int (zI (i 9)), .int (zI (i 10)), .ref (q 1), .int (zI (i 11)), .int (zI (i 12)), .ref (q 2), .ref (q 3), .ref (q 4), .ref (q 5), .ref (q 6), .ref (q 7), .ref (q 8), .ref (q 9), .ref (q 10), .ref (q 11), .ref (q 12), .ref (q 13), .ref (q 14), .ref (q 15), .ref (q 16), .int (zI (i 13)), .int (zI (i 14)), .int (zI (i 15)), .int (zI (i 16)), .int (zI (i 17)), .int (zI (i 18)), .ref (q 17), .ref (q 18), .ref (q 19), .ref (q 20)])), (a, .inl (cI, 200, .inl (fun k => zI (g_p k)))), (f, .inl (cI, 200, .inl (fun k => zI (g_q k))))] (fun u => (ProgOk ((u 1).2 0) ∧ MT g_p ((u 1).2 0) w)) (fun u => [(y, .inr (9, [.int (zI (i 0)), .ref (q 0), .int (zI (i 1)), .int (zI (i 2)), .int (zI (i 3)), .int (zI (i 4)), .int (zI (i 5)), .int (zI (i 6)), .int (zI (i 7)), .int (zI (i 8)), .int (zI (i 9)), .int (zI (i 10)), .ref (q 1), .int (zI (i 11)), .int (zI (i 12)), .ref (q 2), .ref (q 3), .ref (q 4), .ref (q 5), .ref (q 6), .ref (q 7), .ref (q 8), .ref (q 9), .ref (q 10), .ref (q 11), .ref (q 12), .ref (q 13), .ref (q 14), .ref (q 15), .ref (q 16), .int (zI (i 13)), .int (zI (i 14)), .int (zI (i 15)), .int (zI (i 16)), .int (zI (i 17)), .int (zI (i 18)), .ref (q 17), .ref (q 18), .ref (q 19), .ref (q 20)])), (a, .inl (cI, 200, .inl (fun k => zI (g_p k)))), (f, .inl (cI, 200, .inl (fun k => zI (((u 1).2 0) k))))]) := by
  refine bw_Cv.of (cc := cX9_merge) (maxL := 8) (by decide) rfl (Nat.le_of_ble_eq_true rfl) ?_
  intro p e s m below meth c A Q hx hb hml hts hown hin hK hA hS hP hD hE ret ls hl
  have F : CallFix p m c cX9_merge 8 s ([.ref y, .ref a, .int (zI x), .int (zI w), .ref f] : List Value).toArray bw_T RX9 := ⟨hx, hb, hml, hown, fun w h => hts w (List.mem_cons_of_mem _ h)⟩
  replace hl : lv_has ls 8 [(0, .ref y), (1, .ref a), (2, .int (zI x)), (3, .int (zI w)), (4, .ref f)] := hl
  have hf1 := hM.1
  refine lv_aload_n hx hb dX9_merge_0 rfl (lv_at hl 1 rfl) ?_
  refine lv_aload hx hb dX9_merge_1 (lv_at hl 4 rfl) ?_
  refine lv_sipush (v := zI 200) hx hb dX9_merge_3 (by decide) ?_
  refine r_callZv (As := [.ref a, .ref f, .int (zI 200)]) (rest := []) (wr := [(y, .inr (9, [.int (zI (i 0)), .ref (q 0), .int (zI (i 1)), .int (zI (i 2)), .int (zI (i 3)), .int (zI (i 4)), .int (zI (i 5)), .int (zI (i 6)), .int (zI (i 7)), .int (zI (i 8)), .int (zI (i 9)), .int (zI (i 10)), .ref (q 1), .int (zI (i 11)), .int (zI (i 12)), .ref (q 2), .ref (q 3), .ref (q 4), .ref (q 5), .ref (q 6), .ref (q 7), .ref (q 8), .ref (q 9), .ref (q 10), .ref (q 11), .ref (q 12), .ref (q 13), .ref (q 14), .ref (q 15), .ref (q 16), .int (zI (i 13)), .int (zI (i 14)), .int (zI (i 15)), .int (zI (i 16)), .int (zI (i 17)), .int (zI (i 18)), .ref (q 17), .ref (q 18), .ref (q 19), .ref (q 20)]))]) F hK hP hD hS hA hO hE (c_X9_copy200 hO a g_p f g_q 200 (by omega) (by omega)) k_1418 ks_X9_copy 3 rfl (by decide +kernel) ⟨Nat.le_of_ble_eq_true rfl, Nat.le_of_ble_eq_true rfl⟩ [1, 2] [0] rfl rfl (by decide) (by decide) (by decide) hl.1 rfl (Nat.le_of_ble_eq_true rfl) dX9_merge_6 ⟨Nat.le_of_ble_eq_true rfl, Nat.le_of_ble_eq_true rfl⟩ (w1 := fun u2 => [(y, .inr (9, [.int (zI (i 0)), .ref (q 0), .int (zI (i 1)), .int (zI (i 2)), .int (zI (i 3)), .int (zI (i 4)), .int (zI (i 5)), .int (zI (i 6)), .int (zI (i 7)), .int (zI (i 8)), .int (zI (i 9)), .int (zI (i 10)), .ref (q 1), .int (zI (i 11)), .int (zI (i 12)), .ref (q 2), .ref (q 3), .ref (q 4), .ref (q 5), .ref (q 6), .ref (q 7), .ref (q 8), .ref (q 9), .ref (q 10), .ref (q 11), .ref (q 12), .ref (q 13), .ref (q 14), .ref (q 15), .ref (q 16), .int (zI (i 13)), .int (zI (i 14)), .int (zI (i 15)), .int (zI (i 16)), .int (zI (i 17)), .int (zI (i 18)), .ref (q 17), .ref (q 18), .ref (q 19), .ref (q 20)])), (a, .inl (cI, 200, .inl (fun k => zI (g_p k)))), (f, .inl (cI, 200, .inl (fun k => zI (((u2 1).2 0) k))))]) (fun _ => rfl) (fun  u2 H locs hp3 hP hD hS => ?_)
  refine lv_iconst (v := zI 0) hx hb dX9_merge_9 rfl ?_
  refine lv_istore (lv' := [(5, .int (zI 0)), (0, .ref y), (1, .ref a), (2, .int (zI x)), (3, .int (zI w)), (4, .ref f)]) hx hb dX9_merge_10 hl (by decide) rfl (fun ls hl => ?_)
  refine W.widen (k := 0) (n := 0) (Nat.le_of_ble_eq_true rfl) (Nat.le_of_ble_eq_true rfl) ?_
  refine (?_ : ∀ (n9_1 : Nat) (v5 : Int) (gz9 : Nat → Int) (H : Heap) (locs : List Loc), (0 ≤ v5 ∧ v5 ≤ 20) → (20 - v5 : Int).toNat < n9_1 → (∀ k : Nat, k < 200 → gz9 k = if 20 * w ≤ (k : Int) ∧ (k : Int) < 20 * w + v5 then 0 else g_p k) → va_P G vwCl [(y, .inr (9, [.int (zI (i 0)), .ref (q 0), .int (zI (i 1)), .int (zI (i 2)), .int (zI (i 3)), .int (zI (i 4)), .int (zI (i 5)), .int (zI (i 6)), .int (zI (i 7)), .int (zI (i 8)), .int (zI (i 9)), .int (zI (i 10)), .ref (q 1), .int (zI (i 11)), .int (zI (i 12)), .ref (q 2), .ref (q 3), .ref (q 4), .ref (q 5), .ref (q 6), .ref (q 7), .ref (q 8), .ref (q 9), .ref (q 10), .ref (q 11), .ref (q 12), .ref (q 13), .ref (q 14), .ref (q 15), .ref (q 16), .int (zI (i 13)), .int (zI (i 14)), .int (zI (i 15)), .int (zI (i 16)), .int (zI (i 17)), .int (zI (i 18)), .ref (q 17), .ref (q 18), .ref (q 19), .ref (q 20)])), (a, .inl (cI, 200, .inl (fun k => zI (g_p k)))), (f, .inl (cI, 200, .inl (fun k => zI (gz9 k))))] H → va_D A [(y, .inr (9, [.int (zI (i 0)), .ref (q 0), .int (zI (i 1)), .int (zI (i 2)), .int (zI (i 3)), .int (zI (i 4)), .int (zI (i 5)), .int (zI (i 6)), .int (zI (i 7)), .int (zI (i 8)), .int (zI (i 9)), .int (zI (i 10)), .ref (q 1), .int (zI (i 11)), .int (zI (i 12)), .ref (q 2), .ref (q 3), .ref (q 4), .ref (q 5), .ref (q 6), .ref (q 7), .ref (q 8), .ref (q 9), .ref (q 10), .ref (q 11), .ref (q 12), .ref (q 13), .ref (q 14), .ref (q 15), .ref (q 16), .int (zI (i 13)), .int (zI (i 14)), .int (zI (i 15)), .int (zI (i 16)), .int (zI (i 17)), .int (zI (i 18)), .ref (q 17), .ref (q 18), .ref (q 19), .ref (q 20)])), (a, .inl (cI, 200, .inl (fun k => zI (g_p k)))), (f, .inl (cI, 200, .inl (fun k => zI (gz9 k))))] → va_S A s.heap H locs → ∀ ls : Array Slot, lv_has ls 8 [(5, .int (zI v5)), (0, .ref y), (1, .ref a), (2, .int (zI x)), (3, .int (zI w)), (4, .ref f)] → W p l e rm_X9_merge s m ([.ref y, .ref a, .int (zI x), .int (zI w), .ref f] : List Value).toArray below meth c H locs 0 0 Q (F0 m 12 ls [])) ((20 - 0 : Int).toNat + 1) 0 ((u2 1).2 0) _ _ (by omega) (by omega) (fun k hk => by rw [if_neg (by omega)]; exact hp3 k (by omega)) hP hD hS ls hl
  clear hP hD hS hl ls
  intro n9_1
  induction n9_1 with
  | zero =>
    intro v5 gz9 H locs hI hM
    exact absurd hM (by omega)
  | succ n9_1 ih1 =>
    intro v5 gz9 H locs hI1 hM1 hz9 hP hD hS ls hl
    refine lv_iload hx hb dX9_merge_12 (lv_at hl 0 rfl) ?_
    refine lv_bipush (v := zI 20) hx hb dX9_merge_14 (by decide) ?_
    refine rz_icmp_ge (tgt := 36) F (by omega) (by omega) dX9_merge_16 (by decide) (fun h16_3 => ?_) (fun h16_3 => ?_)
    · refine lv_aload_n hx hb dX9_merge_36 rfl (lv_at hl 2 rfl) ?_
      refine lv_bipush (v := zI 20) hx hb dX9_merge_37 (by decide) ?_
      have hqp0 : ProgOk gz9 := ProgOk.cleared hp (by omega) (fun k hk => by rw [hz9 k hk, show v5 = 20 by omega])
      have hmt0 : MT g_p gz9 w := MT.of (fun k hk => by rw [hz9 k hk, show v5 = 20 by omega])
      have j_129 : ∀ (gqA : Nat → Int) (H : Heap) (locs : List Loc), ((0 : Int) ≤ 0) → (ProgOk gqA) → (MT g_p gqA w) → va_P G vwCl [(y, .inr (9, [.int (zI (i 0)), .ref (q 0), .int (zI (i 1)), .int (zI (i 2)), .int (zI (i 3)), .int (zI (i 4)), .int (zI (i 5)), .int (zI (i 6)), .int (zI (i 7)), .int (zI (i 8)), .int (zI (i 9)), .int (zI (i 10)), .ref (q 1), .int (zI (i 11)), .int (zI (i 12)), .ref (q 2), .ref (q 3), .ref (q 4), .ref (q 5), .ref (q 6), .ref (q 7), .ref (q 8), .ref (q 9), .ref (q 10), .ref (q 11), .ref (q 12), .ref (q 13), .ref (q 14), .ref (q 15), .ref (q 16), .int (zI (i 13)), .int (zI (i 14)), .int (zI (i 15)), .int (zI (i 16)), .int (zI (i 17)), .int (zI (i 18)), .ref (q 17), .ref (q 18), .ref (q 19), .ref (q 20)])), (a, .inl (cI, 200, .inl (fun k => zI (g_p k)))), (f, .inl (cI, 200, .inl (fun k => zI (gqA k))))] H → va_D A [(y, .inr (9, [.int (zI (i 0)), .ref (q 0), .int (zI (i 1)), .int (zI (i 2)), .int (zI (i 3)), .int (zI (i 4)), .int (zI (i 5)), .int (zI (i 6)), .int (zI (i 7)), .int (zI (i 8)), .int (zI (i 9)), .int (zI (i 10)), .ref (q 1), .int (zI (i 11)), .int (zI (i 12)), .ref (q 2), .ref (q 3), .ref (q 4), .ref (q 5), .ref (q 6), .ref (q 7), .ref (q 8), .ref (q 9), .ref (q 10), .ref (q 11), .ref (q 12), .ref (q 13), .ref (q 14), .ref (q 15), .ref (q 16), .int (zI (i 13)), .int (zI (i 14)), .int (zI (i 15)), .int (zI (i 16)), .int (zI (i 17)), .int (zI (i 18)), .ref (q 17), .ref (q 18), .ref (q 19), .ref (q 20)])), (a, .inl (cI, 200, .inl (fun k => zI (g_p k)))), (f, .inl (cI, 200, .inl (fun k => zI (gqA k))))] → va_S A s.heap H locs → ∀ ls : Array Slot, lv_has ls 8 [(5, .int (zI v5)), (0, .ref y), (1, .ref a), (2, .int (zI x)), (3, .int (zI w)), (4, .ref f)] → W p l e rm_X9_merge s m ([.ref y, .ref a, .int (zI x), .int (zI w), .ref f] : List Value).toArray below meth c H locs 0 0 Q (F0 m 129 ls []) := by
        intro gqA H locs hJ129 hqpA hmtA hP hD hS ls hl
        refine lv_iconst (v := zI 0) hx hb dX9_merge_129 rfl ?_
        refine lv_istore (lv' := [(5, .int (zI 0)), (0, .ref y), (1, .ref a), (2, .int (zI x)), (3, .int (zI w)), (4, .ref f)]) hx hb dX9_merge_130 hl (by decide) rfl (fun ls hl => ?_)
        refine W.widen (k := 0) (n := 0) (Nat.le_of_ble_eq_true rfl) (Nat.le_of_ble_eq_true rfl) ?_
        refine (?_ : ∀ (n9_2 : Nat) (v5 : Int) (gq1 : Nat → Int) (H : Heap) (locs : List Loc), (0 ≤ v5 ∧ v5 ≤ 10) → (10 - v5 : Int).toNat < n9_2 → (ProgOk gq1) → (MT g_p gq1 w) → va_P G vwCl [(y, .inr (9, [.int (zI (i 0)), .ref (q 0), .int (zI (i 1)), .int (zI (i 2)), .int (zI (i 3)), .int (zI (i 4)), .int (zI (i 5)), .int (zI (i 6)), .int (zI (i 7)), .int (zI (i 8)), .int (zI (i 9)), .int (zI (i 10)), .ref (q 1), .int (zI (i 11)), .int (zI (i 12)), .ref (q 2), .ref (q 3), .ref (q 4), .ref (q 5), .ref (q 6), .ref (q 7), .ref (q 8), .ref (q 9), .ref (q 10), .ref (q 11), .ref (q 12), .ref (q 13), .ref (q 14), .ref (q 15), .ref (q 16), .int (zI (i 13)), .int (zI (i 14)), .int (zI (i 15)), .int (zI (i 16)), .int (zI (i 17)), .int (zI (i 18)), .ref (q 17), .ref (q 18), .ref (q 19), .ref (q 20)])), (a, .inl (cI, 200, .inl (fun k => zI (g_p k)))), (f, .inl (cI, 200, .inl (fun k => zI (gq1 k))))] H → va_D A [(y, .inr (9, [.int (zI (i 0)), .ref (q 0), .int (zI (i 1)), .int (zI (i 2)), .int (zI (i 3)), .int (zI (i 4)), .int (zI (i 5)), .int (zI (i 6)), .int (zI (i 7)), .int (zI (i 8)), .int (zI (i 9)), .int (zI (i 10)), .ref (q 1), .int (zI (i 11)), .int (zI (i 12)), .ref (q 2), .ref (q 3), .ref (q 4), .ref (q 5), .ref (q 6), .ref (q 7), .ref (q 8), .ref (q 9), .ref (q 10), .ref (q 11), .ref (q 12), .ref (q 13), .ref (q 14), .ref (q 15), .ref (q 16), .int (zI (i 13)), .int (zI (i 14)), .int (zI (i 15)), .int (zI (i 16)), .int (zI (i 17)), .int (zI (i 18)), .ref (q 17), .ref (q 18), .ref (q 19), .ref (q 20)])), (a, .inl (cI, 200, .inl (fun k => zI (g_p k)))), (f, .inl (cI, 200, .inl (fun k => zI (gq1 k))))] → va_S A s.heap H locs → ∀ ls : Array Slot, lv_has ls 8 [(5, .int (zI v5)), (0, .ref y), (1, .ref a), (2, .int (zI x)), (3, .int (zI w)), (4, .ref f)] → W p l e rm_X9_merge s m ([.ref y, .ref a, .int (zI x), .int (zI w), .ref f] : List Value).toArray below meth c H locs 0 0 Q (F0 m 132 ls [])) ((10 - 0 : Int).toNat + 1) 0 gqA _ _ (by omega) (by omega) hqpA hmtA hP hD hS ls hl
        clear hP hD hS hl ls
        intro n9_2
        induction n9_2 with
        | zero =>
          intro v5 gq1 H locs hI hM
          exact absurd hM (by omega)
        | succ n9_2 ih2 =>
          intro v5 gq1 H locs hI2 hM2 hqp1 hmt1 hP hD hS ls hl
          refine lv_iload hx hb dX9_merge_132 (lv_at hl 0 rfl) ?_
          refine lv_aload_n hx hb dX9_merge_134 rfl (lv_at hl 1 rfl) ?_
          refine r_get F hK hP 0 30 rfl rfl in_X9 (by decide) k_1193 rfl dX9_merge_135 ?_
          refine rz_icmp_ge (tgt := 302) F (by omega) (by omega) dX9_merge_138 (by decide) (fun h138_4 => ?_) (fun h138_4 => ?_)
          · exact ret (fun k => [((fun _ => 0), fun _ _ => 0), (fun _ => 0, fun _ => gq1)].getD k (fun _ => 0, fun _ _ => 0)) _ _ _ _ _ _ ⟨hqp1, hmt1⟩ (bw_subP (isC := [0, 1, 2]) hP rfl) (hD.sub [0, 1, 2] (by decide) rfl) hS (Nat.le_of_ble_eq_true rfl) (Nat.le_of_ble_eq_true rfl) dX9_merge_302
          · refine lv_bipush (v := zI 20) hx hb dX9_merge_141 (by decide) ?_
            refine lv_iload hx hb dX9_merge_143 (lv_at hl 0 rfl) ?_
            refine r_imul (v := zI (20 * v5)) F dX9_merge_145 (zI_mul _ _) ?_
            refine lv_istore (lv' := [(6, .int (zI (20 * v5))), (5, .int (zI v5)), (0, .ref y), (1, .ref a), (2, .int (zI x)), (3, .int (zI w)), (4, .ref f)]) hx hb dX9_merge_146 hl (by decide) rfl (fun ls hl => ?_)
            refine lv_aload hx hb dX9_merge_148 (lv_at hl 6 rfl) ?_
            refine lv_iload hx hb dX9_merge_150 (lv_at hl 0 rfl) ?_
            refine lv_iconst (v := zI 0) hx hb dX9_merge_152 rfl ?_
            refine r_iadd (v := zI ((20 * v5) + 0)) F dX9_merge_153 (zI_add _ _) ?_
            refine rz_iald F hK hP 2 0 rfl rfl (by omega) (by omega) dX9_merge_154 ?_
            refine rz_top (fun z6 h_z6 => ?_)
            refine rz_if_ne (tgt := 161) F (by omega) dX9_merge_155 (by decide) (fun h155_6 => ?_) (fun h155_6 => ?_)
            · refine lv_aload hx hb dX9_merge_161 (lv_at hl 6 rfl) ?_
              have j_193 : ∀ (gqB : Nat → Int) (H : Heap) (locs : List Loc), ((0 : Int) ≤ 0) → (ProgOk gqB) → (MT g_p gqB w) → va_P G vwCl [(y, .inr (9, [.int (zI (i 0)), .ref (q 0), .int (zI (i 1)), .int (zI (i 2)), .int (zI (i 3)), .int (zI (i 4)), .int (zI (i 5)), .int (zI (i 6)), .int (zI (i 7)), .int (zI (i 8)), .int (zI (i 9)), .int (zI (i 10)), .ref (q 1), .int (zI (i 11)), .int (zI (i 12)), .ref (q 2), .ref (q 3), .ref (q 4), .ref (q 5), .ref (q 6), .ref (q 7), .ref (q 8), .ref (q 9), .ref (q 10), .ref (q 11), .ref (q 12), .ref (q 13), .ref (q 14), .ref (q 15), .ref (q 16), .int (zI (i 13)), .int (zI (i 14)), .int (zI (i 15)), .int (zI (i 16)), .int (zI (i 17)), .int (zI (i 18)), .ref (q 17), .ref (q 18), .ref (q 19), .ref (q 20)])), (a, .inl (cI, 200, .inl (fun k => zI (g_p k)))), (f, .inl (cI, 200, .inl (fun k => zI (gqB k))))] H → va_D A [(y, .inr (9, [.int (zI (i 0)), .ref (q 0), .int (zI (i 1)), .int (zI (i 2)), .int (zI (i 3)), .int (zI (i 4)), .int (zI (i 5)), .int (zI (i 6)), .int (zI (i 7)), .int (zI (i 8)), .int (zI (i 9)), .int (zI (i 10)), .ref (q 1), .int (zI (i 11)), .int (zI (i 12)), .ref (q 2), .ref (q 3), .ref (q 4), .ref (q 5), .ref (q 6), .ref (q 7), .ref (q 8), .ref (q 9), .ref (q 10), .ref (q 11), .ref (q 12), .ref (q 13), .ref (q 14), .ref (q 15), .ref (q 16), .int (zI (i 13)), .int (zI (i 14)), .int (zI (i 15)), .int (zI (i 16)), .int (zI (i 17)), .int (zI (i 18)), .ref (q 17), .ref (q 18), .ref (q 19), .ref (q 20)])), (a, .inl (cI, 200, .inl (fun k => zI (g_p k)))), (f, .inl (cI, 200, .inl (fun k => zI (gqB k))))] → va_S A s.heap H locs → ∀ ls : Array Slot, lv_has ls 8 [(6, .int (zI (20 * v5))), (5, .int (zI v5)), (0, .ref y), (1, .ref a), (2, .int (zI x)), (3, .int (zI w)), (4, .ref f)] → W p l e rm_X9_merge s m ([.ref y, .ref a, .int (zI x), .int (zI w), .ref f] : List Value).toArray below meth c H locs 0 0 Q (F0 m 193 ls []) := by
                intro gqB H locs hJ193 hqpB hmtB hP hD hS ls hl
                refine lv_aload hx hb dX9_merge_193 (lv_at hl 6 rfl) ?_
                have j_226 : ∀ (gqC : Nat → Int) (H : Heap) (locs : List Loc), ((0 : Int) ≤ 0) → (ProgOk gqC) → (MT g_p gqC w) → va_P G vwCl [(y, .inr (9, [.int (zI (i 0)), .ref (q 0), .int (zI (i 1)), .int (zI (i 2)), .int (zI (i 3)), .int (zI (i 4)), .int (zI (i 5)), .int (zI (i 6)), .int (zI (i 7)), .int (zI (i 8)), .int (zI (i 9)), .int (zI (i 10)), .ref (q 1), .int (zI (i 11)), .int (zI (i 12)), .ref (q 2), .ref (q 3), .ref (q 4), .ref (q 5), .ref (q 6), .ref (q 7), .ref (q 8), .ref (q 9), .ref (q 10), .ref (q 11), .ref (q 12), .ref (q 13), .ref (q 14), .ref (q 15), .ref (q 16), .int (zI (i 13)), .int (zI (i 14)), .int (zI (i 15)), .int (zI (i 16)), .int (zI (i 17)), .int (zI (i 18)), .ref (q 17), .ref (q 18), .ref (q 19), .ref (q 20)])), (a, .inl (cI, 200, .inl (fun k => zI (g_p k)))), (f, .inl (cI, 200, .inl (fun k => zI (gqC k))))] H → va_D A [(y, .inr (9, [.int (zI (i 0)), .ref (q 0), .int (zI (i 1)), .int (zI (i 2)), .int (zI (i 3)), .int (zI (i 4)), .int (zI (i 5)), .int (zI (i 6)), .int (zI (i 7)), .int (zI (i 8)), .int (zI (i 9)), .int (zI (i 10)), .ref (q 1), .int (zI (i 11)), .int (zI (i 12)), .ref (q 2), .ref (q 3), .ref (q 4), .ref (q 5), .ref (q 6), .ref (q 7), .ref (q 8), .ref (q 9), .ref (q 10), .ref (q 11), .ref (q 12), .ref (q 13), .ref (q 14), .ref (q 15), .ref (q 16), .int (zI (i 13)), .int (zI (i 14)), .int (zI (i 15)), .int (zI (i 16)), .int (zI (i 17)), .int (zI (i 18)), .ref (q 17), .ref (q 18), .ref (q 19), .ref (q 20)])), (a, .inl (cI, 200, .inl (fun k => zI (g_p k)))), (f, .inl (cI, 200, .inl (fun k => zI (gqC k))))] → va_S A s.heap H locs → ∀ ls : Array Slot, lv_has ls 8 [(6, .int (zI (20 * v5))), (5, .int (zI v5)), (0, .ref y), (1, .ref a), (2, .int (zI x)), (3, .int (zI w)), (4, .ref f)] → W p l e rm_X9_merge s m ([.ref y, .ref a, .int (zI x), .int (zI w), .ref f] : List Value).toArray below meth c H locs 0 0 Q (F0 m 226 ls []) := by
                  intro gqC H locs hJ226 hqpC hmtC hP hD hS ls hl
                  refine lv_iconst (v := zI 0) hx hb dX9_merge_226 rfl ?_
                  refine lv_istore (lv' := [(7, .int (zI 0)), (6, .int (zI (20 * v5))), (5, .int (zI v5)), (0, .ref y), (1, .ref a), (2, .int (zI x)), (3, .int (zI w)), (4, .ref f)]) hx hb dX9_merge_227 hl (by decide) rfl (fun ls hl => ?_)
                  refine W.widen (k := 0) (n := 0) (Nat.le_of_ble_eq_true rfl) (Nat.le_of_ble_eq_true rfl) ?_
                  refine (?_ : ∀ (n9_3 : Nat) (v7 : Int) (gq2 : Nat → Int) (H : Heap) (locs : List Loc), (0 ≤ v7 ∧ v7 ≤ 4) → (4 - v7 : Int).toNat < n9_3 → (ProgOk gq2) → (MT g_p gq2 w) → va_P G vwCl [(y, .inr (9, [.int (zI (i 0)), .ref (q 0), .int (zI (i 1)), .int (zI (i 2)), .int (zI (i 3)), .int (zI (i 4)), .int (zI (i 5)), .int (zI (i 6)), .int (zI (i 7)), .int (zI (i 8)), .int (zI (i 9)), .int (zI (i 10)), .ref (q 1), .int (zI (i 11)), .int (zI (i 12)), .ref (q 2), .ref (q 3), .ref (q 4), .ref (q 5), .ref (q 6), .ref (q 7), .ref (q 8), .ref (q 9), .ref (q 10), .ref (q 11), .ref (q 12), .ref (q 13), .ref (q 14), .ref (q 15), .ref (q 16), .int (zI (i 13)), .int (zI (i 14)), .int (zI (i 15)), .int (zI (i 16)), .int (zI (i 17)), .int (zI (i 18)), .ref (q 17), .ref (q 18), .ref (q 19), .ref (q 20)])), (a, .inl (cI, 200, .inl (fun k => zI (g_p k)))), (f, .inl (cI, 200, .inl (fun k => zI (gq2 k))))] H → va_D A [(y, .inr (9, [.int (zI (i 0)), .ref (q 0), .int (zI (i 1)), .int (zI (i 2)), .int (zI (i 3)), .int (zI (i 4)), .int (zI (i 5)), .int (zI (i 6)), .int (zI (i 7)), .int (zI (i 8)), .int (zI (i 9)), .int (zI (i 10)), .ref (q 1), .int (zI (i 11)), .int (zI (i 12)), .ref (q 2), .ref (q 3), .ref (q 4), .ref (q 5), .ref (q 6), .ref (q 7), .ref (q 8), .ref (q 9), .ref (q 10), .ref (q 11), .ref (q 12), .ref (q 13), .ref (q 14), .ref (q 15), .ref (q 16), .int (zI (i 13)), .int (zI (i 14)), .int (zI (i 15)), .int (zI (i 16)), .int (zI (i 17)), .int (zI (i 18)), .ref (q 17), .ref (q 18), .ref (q 19), .ref (q 20)])), (a, .inl (cI, 200, .inl (fun k => zI (g_p k)))), (f, .inl (cI, 200, .inl (fun k => zI (gq2 k))))] → va_S A s.heap H locs → ∀ ls : Array Slot, lv_has ls 8 [(7, .int (zI v7)), (6, .int (zI (20 * v5))), (5, .int (zI v5)), (0, .ref y), (1, .ref a), (2, .int (zI x)), (3, .int (zI w)), (4, .ref f)] → W p l e rm_X9_merge s m ([.ref y, .ref a, .int (zI x), .int (zI w), .ref f] : List Value).toArray below meth c H locs 0 0 Q (F0 m 229 ls [])) ((4 - 0 : Int).toNat + 1) 0 gqC _ _ (by omega) (by omega) hqpC hmtC hP hD hS ls hl
                  clear hP hD hS hl ls
                  intro n9_3
                  induction n9_3 with
                  | zero =>
                    intro v7 gq2 H locs hI hM
                    exact absurd hM (by omega)
                  | succ n9_3 ih3 =>
                    intro v7 gq2 H locs hI3 hM3 hqp2 hmt2 hP hD hS ls hl
                    refine lv_iload hx hb dX9_merge_229 (lv_at hl 0 rfl) ?_
                    refine lv_aload hx hb dX9_merge_231 (lv_at hl 7 rfl) ?_
                    refine lv_iload hx hb dX9_merge_233 (lv_at hl 1 rfl) ?_
                    refine lv_iconst (v := zI 1) hx hb dX9_merge_235 rfl ?_
                    refine r_iadd (v := zI ((20 * v5) + 1)) F dX9_merge_236 (zI_add _ _) ?_
                    refine rz_iald F hK hP 2 0 rfl rfl (by omega) (by omega) dX9_merge_237 ?_
                    have hpl8 : 0 ≤ (gq2 (((20 * v5) + 1)).toNat) ∧ (gq2 (((20 * v5) + 1)).toNat) ≤ 4 := ProgR.at hqp2.1 (e := ((20 * v5) + 1)) v5 1 (by omega) (by omega) (by decide) rfl
                    refine rz_icmp_ge (tgt := 296) F (by omega) (by omega) dX9_merge_238 (by decide) (fun h238_8 => ?_) (fun h238_8 => ?_)
                    · refine lv_iinc (v := zI (v5 + 1)) (lv' := [(5, .int (zI (v5 + 1))), (7, .int (zI v7)), (6, .int (zI (20 * v5))), (0, .ref y), (1, .ref a), (2, .int (zI x)), (3, .int (zI w)), (4, .ref f)]) hx hb dX9_merge_296 hl (k := 2) rfl (zI_add _ _) (by decide) rfl (fun ls hl => ?_)
                      refine lv_goto (tgt := 132) hx hb dX9_merge_299 (by decide) ?_
                      exact ih2 (v5 + 1) gq2 _ _ (by omega) (by omega) hqp2 hmt2 hP hD hS ls (lv_sub hl [0, 3, 4, 5, 6, 7] rfl)
                    · refine lv_aload hx hb dX9_merge_241 (lv_at hl 7 rfl) ?_
                      refine lv_iload hx hb dX9_merge_243 (lv_at hl 1 rfl) ?_
                      refine lv_iconst (v := zI 2) hx hb dX9_merge_245 rfl ?_
                      refine r_iadd (v := zI ((20 * v5) + 2)) F dX9_merge_246 (zI_add _ _) ?_
                      refine lv_iconst (v := zI 3) hx hb dX9_merge_247 rfl ?_
                      refine lv_iload hx hb dX9_merge_248 (lv_at hl 0 rfl) ?_
                      refine r_imul (v := zI (3 * v7)) F dX9_merge_250 (zI_mul _ _) ?_
                      refine r_iadd (v := zI (((20 * v5) + 2) + (3 * v7))) F dX9_merge_251 (zI_add _ _) ?_
                      refine rz_iald F hK hP 2 0 rfl rfl (by omega) (by omega) dX9_merge_252 ?_
                      have hc10 := ProgOk.act hqp2 (i := v5) (n := v7) (k := (((20 * v5) + 2) + (3 * v7))) (by omega) (by omega) (by omega)
                      refine lv_iconst (v := zI 3) hx hb dX9_merge_253 rfl ?_
                      refine rz_icmp_ne (tgt := 290) F (by omega) (by omega) dX9_merge_254 (by decide) (fun h254_10 => ?_) (fun h254_10 => ?_)
                      · refine lv_iinc (v := zI (v7 + 1)) (lv' := [(7, .int (zI (v7 + 1))), (6, .int (zI (20 * v5))), (5, .int (zI v5)), (0, .ref y), (1, .ref a), (2, .int (zI x)), (3, .int (zI w)), (4, .ref f)]) hx hb dX9_merge_290 hl (k := 0) rfl (zI_add _ _) (by decide) rfl (fun ls hl => ?_)
                        refine lv_goto (tgt := 229) hx hb dX9_merge_293 (by decide) ?_
                        exact ih3 (v7 + 1) gq2 _ _ (by omega) (by omega) hqp2 hmt2 hP hD hS ls (lv_sub hl [0, 1, 2, 3, 4, 5, 6, 7] rfl)
                      · refine lv_aload hx hb dX9_merge_257 (lv_at hl 7 rfl) ?_
                        refine lv_iload hx hb dX9_merge_259 (lv_at hl 1 rfl) ?_
                        refine lv_iconst (v := zI 2) hx hb dX9_merge_261 rfl ?_
                        refine r_iadd (v := zI ((20 * v5) + 2)) F dX9_merge_262 (zI_add _ _) ?_
                        refine lv_iconst (v := zI 3) hx hb dX9_merge_263 rfl ?_
                        refine lv_iload hx hb dX9_merge_264 (lv_at hl 0 rfl) ?_
                        refine r_imul (v := zI (3 * v7)) F dX9_merge_266 (zI_mul _ _) ?_
                        refine r_iadd (v := zI (((20 * v5) + 2) + (3 * v7))) F dX9_merge_267 (zI_add _ _) ?_
                        refine lv_iconst (v := zI 1) hx hb dX9_merge_268 rfl ?_
                        refine r_iadd (v := zI ((((20 * v5) + 2) + (3 * v7)) + 1)) F dX9_merge_269 (zI_add _ _) ?_
                        refine rz_iald F hK hP 2 0 rfl rfl (by omega) (by omega) dX9_merge_270 ?_
                        refine rz_top (fun z12 h_z12 => ?_)
                        refine lv_iload_n hx hb dX9_merge_271 rfl (lv_at hl 6 rfl) ?_
                        refine rz_icmp_ne (tgt := 290) F (by omega) (by omega) dX9_merge_272 (by decide) (fun h272_12 => ?_) (fun h272_12 => ?_)
                        · refine lv_iinc (v := zI (v7 + 1)) (lv' := [(7, .int (zI (v7 + 1))), (6, .int (zI (20 * v5))), (5, .int (zI v5)), (0, .ref y), (1, .ref a), (2, .int (zI x)), (3, .int (zI w)), (4, .ref f)]) hx hb dX9_merge_290 hl (k := 0) rfl (zI_add _ _) (by decide) rfl (fun ls hl => ?_)
                          refine lv_goto (tgt := 229) hx hb dX9_merge_293 (by decide) ?_
                          exact ih3 (v7 + 1) gq2 _ _ (by omega) (by omega) hqp2 hmt2 hP hD hS ls (lv_sub hl [0, 1, 2, 3, 4, 5, 6, 7] rfl)
                        · refine lv_aload hx hb dX9_merge_275 (lv_at hl 7 rfl) ?_
                          refine lv_iload hx hb dX9_merge_277 (lv_at hl 1 rfl) ?_
                          refine lv_iconst (v := zI 2) hx hb dX9_merge_279 rfl ?_
                          refine r_iadd (v := zI ((20 * v5) + 2)) F dX9_merge_280 (zI_add _ _) ?_
                          refine lv_iconst (v := zI 3) hx hb dX9_merge_281 rfl ?_
                          refine lv_iload hx hb dX9_merge_282 (lv_at hl 0 rfl) ?_
                          refine r_imul (v := zI (3 * v7)) F dX9_merge_284 (zI_mul _ _) ?_
                          refine r_iadd (v := zI (((20 * v5) + 2) + (3 * v7))) F dX9_merge_285 (zI_add _ _) ?_
                          refine lv_iconst (v := zI 1) hx hb dX9_merge_286 rfl ?_
                          refine r_iadd (v := zI ((((20 * v5) + 2) + (3 * v7)) + 1)) F dX9_merge_287 (zI_add _ _) ?_
                          refine lv_iload_n hx hb dX9_merge_288 rfl (lv_at hl 5 rfl) ?_
                          refine rz_iastG F hK hP hD hS 2 0 rfl rfl (by omega) (by omega) dX9_merge_289 (w1 := fun g14 => [(y, .inr (9, [.int (zI (i 0)), .ref (q 0), .int (zI (i 1)), .int (zI (i 2)), .int (zI (i 3)), .int (zI (i 4)), .int (zI (i 5)), .int (zI (i 6)), .int (zI (i 7)), .int (zI (i 8)), .int (zI (i 9)), .int (zI (i 10)), .ref (q 1), .int (zI (i 11)), .int (zI (i 12)), .ref (q 2), .ref (q 3), .ref (q 4), .ref (q 5), .ref (q 6), .ref (q 7), .ref (q 8), .ref (q 9), .ref (q 10), .ref (q 11), .ref (q 12), .ref (q 13), .ref (q 14), .ref (q 15), .ref (q 16), .int (zI (i 13)), .int (zI (i 14)), .int (zI (i 15)), .int (zI (i 16)), .int (zI (i 17)), .int (zI (i 18)), .ref (q 17), .ref (q 18), .ref (q 19), .ref (q 20)])), (a, .inl (cI, 200, .inl (fun k => zI (g_p k)))), (f, .inl (cI, 200, .inl (fun k => zI (g14 k))))]) (fun _ => rfl) (fun g14 e_g14 H locs hP hD hS => ?_)
                          have hqp15 : ProgOk g14 := ProgOk.tgt3 hqp2 e_g14 (i := v5) (n := v7) (by omega) (by omega) (by omega) (by omega) (j := (((20 * v5) + 2) + (3 * v7)).toNat) (by omega) (by omega)
                          have hmt16 := MT.keepA hmt2 e_g14 (i := v5) (n := v7) (by omega) (by omega) (by omega)
                          refine lv_iinc (v := zI (v7 + 1)) (lv' := [(7, .int (zI (v7 + 1))), (6, .int (zI (20 * v5))), (5, .int (zI v5)), (0, .ref y), (1, .ref a), (2, .int (zI x)), (3, .int (zI w)), (4, .ref f)]) hx hb dX9_merge_290 hl (k := 0) rfl (zI_add _ _) (by decide) rfl (fun ls hl => ?_)
                          refine lv_goto (tgt := 229) hx hb dX9_merge_293 (by decide) ?_
                          exact ih3 (v7 + 1) g14 _ _ (by omega) (by omega) hqp15 hmt16 hP hD hS ls (lv_sub hl [0, 1, 2, 3, 4, 5, 6, 7] rfl)
                refine lv_iload hx hb dX9_merge_195 (lv_at hl 0 rfl) ?_
                refine lv_bipush (v := zI 14) hx hb dX9_merge_197 (by decide) ?_
                refine r_iadd (v := zI ((20 * v5) + 14)) F dX9_merge_199 (zI_add _ _) ?_
                refine rz_iald F hK hP 2 0 rfl rfl (by omega) (by omega) dX9_merge_200 ?_
                refine rz_top (fun z17 h_z17 => ?_)
                refine lv_iconst (v := zI 2) hx hb dX9_merge_201 rfl ?_
                refine rz_icmp_ne (tgt := 226) F (by omega) (by omega) dX9_merge_202 (by decide) (fun h202_17 => ?_) (fun h202_17 => ?_)
                · exact j_226 gqB _ _ (by omega) hqpB hmtB hP hD hS ls (lv_sub hl [0, 1, 2, 3, 4, 5, 6] rfl)
                · refine lv_aload hx hb dX9_merge_205 (lv_at hl 6 rfl) ?_
                  refine lv_iload hx hb dX9_merge_207 (lv_at hl 0 rfl) ?_
                  refine lv_bipush (v := zI 18) hx hb dX9_merge_209 (by decide) ?_
                  refine r_iadd (v := zI ((20 * v5) + 18)) F dX9_merge_211 (zI_add _ _) ?_
                  refine rz_iald F hK hP 2 0 rfl rfl (by omega) (by omega) dX9_merge_212 ?_
                  refine rz_top (fun z19 h_z19 => ?_)
                  refine lv_iload_n hx hb dX9_merge_213 rfl (lv_at hl 5 rfl) ?_
                  refine rz_icmp_ne (tgt := 226) F (by omega) (by omega) dX9_merge_214 (by decide) (fun h214_19 => ?_) (fun h214_19 => ?_)
                  · exact j_226 gqB _ _ (by omega) hqpB hmtB hP hD hS ls (lv_sub hl [0, 1, 2, 3, 4, 5, 6] rfl)
                  · refine lv_aload hx hb dX9_merge_217 (lv_at hl 6 rfl) ?_
                    refine lv_iload hx hb dX9_merge_219 (lv_at hl 0 rfl) ?_
                    refine lv_bipush (v := zI 18) hx hb dX9_merge_221 (by decide) ?_
                    refine r_iadd (v := zI ((20 * v5) + 18)) F dX9_merge_223 (zI_add _ _) ?_
                    refine lv_iload_n hx hb dX9_merge_224 rfl (lv_at hl 4 rfl) ?_
                    refine rz_iastG F hK hP hD hS 2 0 rfl rfl (by omega) (by omega) dX9_merge_225 (w1 := fun g21 => [(y, .inr (9, [.int (zI (i 0)), .ref (q 0), .int (zI (i 1)), .int (zI (i 2)), .int (zI (i 3)), .int (zI (i 4)), .int (zI (i 5)), .int (zI (i 6)), .int (zI (i 7)), .int (zI (i 8)), .int (zI (i 9)), .int (zI (i 10)), .ref (q 1), .int (zI (i 11)), .int (zI (i 12)), .ref (q 2), .ref (q 3), .ref (q 4), .ref (q 5), .ref (q 6), .ref (q 7), .ref (q 8), .ref (q 9), .ref (q 10), .ref (q 11), .ref (q 12), .ref (q 13), .ref (q 14), .ref (q 15), .ref (q 16), .int (zI (i 13)), .int (zI (i 14)), .int (zI (i 15)), .int (zI (i 16)), .int (zI (i 17)), .int (zI (i 18)), .ref (q 17), .ref (q 18), .ref (q 19), .ref (q 20)])), (a, .inl (cI, 200, .inl (fun k => zI (g_p k)))), (f, .inl (cI, 200, .inl (fun k => zI (g21 k))))]) (fun _ => rfl) (fun g21 e_g21 H locs hP hD hS => ?_)
                    have hqp22 : ProgOk g21 := ⟨hqpB.1.set (m := 9) e_g21 18 (by omega) rfl (by omega), hqpB.2.set e_g21 (by omega)⟩
                    have hmt23 := hmtB.keep e_g21 (by omega)
                    exact j_226 g21 _ _ (by omega) hqp22 hmt23 hP hD hS ls (lv_sub hl [0, 1, 2, 3, 4, 5, 6] rfl)
              refine lv_iload hx hb dX9_merge_163 (lv_at hl 0 rfl) ?_
              refine lv_bipush (v := zI 14) hx hb dX9_merge_165 (by decide) ?_
              refine r_iadd (v := zI ((20 * v5) + 14)) F dX9_merge_167 (zI_add _ _) ?_
              refine rz_iald F hK hP 2 0 rfl rfl (by omega) (by omega) dX9_merge_168 ?_
              refine rz_top (fun z24 h_z24 => ?_)
              refine rz_if_le (tgt := 193) F (by omega) dX9_merge_169 (by decide) (fun h169_24 => ?_) (fun h169_24 => ?_)
              · exact j_193 gq1 _ _ (by omega) hqp1 hmt1 hP hD hS ls (lv_sub hl [0, 1, 2, 3, 4, 5, 6] rfl)
              · refine lv_aload hx hb dX9_merge_172 (lv_at hl 6 rfl) ?_
                refine lv_iload hx hb dX9_merge_174 (lv_at hl 0 rfl) ?_
                refine lv_bipush (v := zI 16) hx hb dX9_merge_176 (by decide) ?_
                refine r_iadd (v := zI ((20 * v5) + 16)) F dX9_merge_178 (zI_add _ _) ?_
                refine rz_iald F hK hP 2 0 rfl rfl (by omega) (by omega) dX9_merge_179 ?_
                refine rz_top (fun z26 h_z26 => ?_)
                refine lv_iload_n hx hb dX9_merge_180 rfl (lv_at hl 5 rfl) ?_
                refine rz_icmp_ne (tgt := 193) F (by omega) (by omega) dX9_merge_181 (by decide) (fun h181_26 => ?_) (fun h181_26 => ?_)
                · exact j_193 gq1 _ _ (by omega) hqp1 hmt1 hP hD hS ls (lv_sub hl [0, 1, 2, 3, 4, 5, 6] rfl)
                · refine lv_aload hx hb dX9_merge_184 (lv_at hl 6 rfl) ?_
                  refine lv_iload hx hb dX9_merge_186 (lv_at hl 0 rfl) ?_
                  refine lv_bipush (v := zI 16) hx hb dX9_merge_188 (by decide) ?_
                  refine r_iadd (v := zI ((20 * v5) + 16)) F dX9_merge_190 (zI_add _ _) ?_
                  refine lv_iload_n hx hb dX9_merge_191 rfl (lv_at hl 4 rfl) ?_
                  refine rz_iastG F hK hP hD hS 2 0 rfl rfl (by omega) (by omega) dX9_merge_192 (w1 := fun g28 => [(y, .inr (9, [.int (zI (i 0)), .ref (q 0), .int (zI (i 1)), .int (zI (i 2)), .int (zI (i 3)), .int (zI (i 4)), .int (zI (i 5)), .int (zI (i 6)), .int (zI (i 7)), .int (zI (i 8)), .int (zI (i 9)), .int (zI (i 10)), .ref (q 1), .int (zI (i 11)), .int (zI (i 12)), .ref (q 2), .ref (q 3), .ref (q 4), .ref (q 5), .ref (q 6), .ref (q 7), .ref (q 8), .ref (q 9), .ref (q 10), .ref (q 11), .ref (q 12), .ref (q 13), .ref (q 14), .ref (q 15), .ref (q 16), .int (zI (i 13)), .int (zI (i 14)), .int (zI (i 15)), .int (zI (i 16)), .int (zI (i 17)), .int (zI (i 18)), .ref (q 17), .ref (q 18), .ref (q 19), .ref (q 20)])), (a, .inl (cI, 200, .inl (fun k => zI (g_p k)))), (f, .inl (cI, 200, .inl (fun k => zI (g28 k))))]) (fun _ => rfl) (fun g28 e_g28 H locs hP hD hS => ?_)
                  have hqp29 : ProgOk g28 := ⟨hqp1.1.set (m := 9) e_g28 16 (by omega) rfl (by omega), hqp1.2.set e_g28 (by omega)⟩
                  have hmt30 := hmt1.keep e_g28 (by omega)
                  exact j_193 g28 _ _ (by omega) hqp29 hmt30 hP hD hS ls (lv_sub hl [0, 1, 2, 3, 4, 5, 6] rfl)
            · refine lv_goto (tgt := 296) hx hb dX9_merge_158 (by decide) ?_
              refine lv_iinc (v := zI (v5 + 1)) (lv' := [(5, .int (zI (v5 + 1))), (6, .int (zI (20 * v5))), (0, .ref y), (1, .ref a), (2, .int (zI x)), (3, .int (zI w)), (4, .ref f)]) hx hb dX9_merge_296 hl (k := 1) rfl (zI_add _ _) (by decide) rfl (fun ls hl => ?_)
              refine lv_goto (tgt := 132) hx hb dX9_merge_299 (by decide) ?_
              exact ih2 (v5 + 1) gq1 _ _ (by omega) (by omega) hqp1 hmt1 hP hD hS ls (lv_sub hl [0, 2, 3, 4, 5, 6] rfl)
      refine lv_iload_n hx hb dX9_merge_39 rfl (lv_at hl 3 rfl) ?_
      refine r_imul (v := zI (20 * x)) F dX9_merge_40 (zI_mul _ _) ?_
      refine lv_bipush (v := zI 14) hx hb dX9_merge_41 (by decide) ?_
      refine r_iadd (v := zI ((20 * x) + 14)) F dX9_merge_43 (zI_add _ _) ?_
      refine rz_iald F hK hP 1 0 rfl rfl (by omega) (by omega) dX9_merge_44 ?_
      refine rz_top (fun z31 h_z31 => ?_)
      refine rz_if_le (tgt := 82) F (by omega) dX9_merge_45 (by decide) (fun h45_31 => ?_) (fun h45_31 => ?_)
      · refine lv_aload_n hx hb dX9_merge_82 rfl (lv_at hl 2 rfl) ?_
        refine lv_bipush (v := zI 20) hx hb dX9_merge_83 (by decide) ?_
        refine lv_iload_n hx hb dX9_merge_85 rfl (lv_at hl 3 rfl) ?_
        refine r_imul (v := zI (20 * x)) F dX9_merge_86 (zI_mul _ _) ?_
        refine lv_bipush (v := zI 14) hx hb dX9_merge_87 (by decide) ?_
        refine r_iadd (v := zI ((20 * x) + 14)) F dX9_merge_89 (zI_add _ _) ?_
        refine rz_iald F hK hP 1 0 rfl rfl (by omega) (by omega) dX9_merge_90 ?_
        refine rz_top (fun z33 h_z33 => ?_)
        refine lv_iconst (v := zI 2) hx hb dX9_merge_91 rfl ?_
        refine rz_icmp_ne (tgt := 129) F (by omega) (by omega) dX9_merge_92 (by decide) (fun h92_33 => ?_) (fun h92_33 => ?_)
        · exact j_129 gz9 _ _ (by omega) hqp0 hmt0 hP hD hS ls (lv_sub hl [0, 1, 2, 3, 4, 5] rfl)
        · refine lv_aload hx hb dX9_merge_95 (lv_at hl 5 rfl) ?_
          refine lv_bipush (v := zI 20) hx hb dX9_merge_97 (by decide) ?_
          refine lv_iload_n hx hb dX9_merge_99 rfl (lv_at hl 3 rfl) ?_
          refine r_imul (v := zI (20 * x)) F dX9_merge_100 (zI_mul _ _) ?_
          refine lv_bipush (v := zI 19) hx hb dX9_merge_101 (by decide) ?_
          refine r_iadd (v := zI ((20 * x) + 19)) F dX9_merge_103 (zI_add _ _) ?_
          refine lv_bipush (v := zI 9) hx hb dX9_merge_104 (by decide) ?_
          refine lv_aload_n hx hb dX9_merge_106 rfl (lv_at hl 2 rfl) ?_
          refine lv_bipush (v := zI 20) hx hb dX9_merge_107 (by decide) ?_
          refine lv_iload_n hx hb dX9_merge_109 rfl (lv_at hl 3 rfl) ?_
          refine r_imul (v := zI (20 * x)) F dX9_merge_110 (zI_mul _ _) ?_
          refine lv_bipush (v := zI 19) hx hb dX9_merge_111 (by decide) ?_
          refine r_iadd (v := zI ((20 * x) + 19)) F dX9_merge_113 (zI_add _ _) ?_
          refine rz_iald F hK hP 1 0 rfl rfl (by omega) (by omega) dX9_merge_114 ?_
          have hpl35 : 0 ≤ (g_p (((20 * x) + 19)).toNat) ∧ (g_p (((20 * x) + 19)).toNat) ≤ 9 := ProgR.at hp.1 (e := ((20 * x) + 19)) x 19 (by omega) (by omega) (by decide) rfl
          refine lv_aload_n hx hb dX9_merge_115 rfl (lv_at hl 2 rfl) ?_
          refine lv_bipush (v := zI 20) hx hb dX9_merge_116 (by decide) ?_
          refine lv_iload_n hx hb dX9_merge_118 rfl (lv_at hl 4 rfl) ?_
          refine r_imul (v := zI (20 * w)) F dX9_merge_119 (zI_mul _ _) ?_
          refine lv_bipush (v := zI 19) hx hb dX9_merge_120 (by decide) ?_
          refine r_iadd (v := zI ((20 * w) + 19)) F dX9_merge_122 (zI_add _ _) ?_
          refine rz_iald F hK hP 1 0 rfl rfl (by omega) (by omega) dX9_merge_123 ?_
          have hpl36 : 0 ≤ (g_p (((20 * w) + 19)).toNat) ∧ (g_p (((20 * w) + 19)).toNat) ≤ 9 := ProgR.at hp.1 (e := ((20 * w) + 19)) w 19 (by omega) (by omega) (by decide) rfl
          refine r_iadd (v := zI ((g_p (((20 * x) + 19)).toNat) + (g_p (((20 * w) + 19)).toNat))) F dX9_merge_124 (zI_add _ _) ?_
          refine r_callSi (As := [.int (zI 9), .int (zI ((g_p (((20 * x) + 19)).toNat) + (g_p (((20 * w) + 19)).toNat)))]) (rest := [.int (zI ((20 * x) + 19)), .ref f]) (wr := [(y, .inr (9, [.int (zI (i 0)), .ref (q 0), .int (zI (i 1)), .int (zI (i 2)), .int (zI (i 3)), .int (zI (i 4)), .int (zI (i 5)), .int (zI (i 6)), .int (zI (i 7)), .int (zI (i 8)), .int (zI (i 9)), .int (zI (i 10)), .ref (q 1), .int (zI (i 11)), .int (zI (i 12)), .ref (q 2), .ref (q 3), .ref (q 4), .ref (q 5), .ref (q 6), .ref (q 7), .ref (q 8), .ref (q 9), .ref (q 10), .ref (q 11), .ref (q 12), .ref (q 13), .ref (q 14), .ref (q 15), .ref (q 16), .int (zI (i 13)), .int (zI (i 14)), .int (zI (i 15)), .int (zI (i 16)), .int (zI (i 17)), .int (zI (i 18)), .ref (q 17), .ref (q 18), .ref (q 19), .ref (q 20)])), (a, .inl (cI, 200, .inl (fun k => zI (g_p k)))), (f, .inl (cI, 200, .inl (fun k => zI (gz9 k))))]) F hK hP hD hS hA hO hE (c_X9_less hO 9 ((g_p (((20 * x) + 19)).toNat) + (g_p (((20 * w) + 19)).toNat)) (by omega) (by omega)) k_1460 ks_X9_less 2 rfl (by decide +kernel) ⟨Nat.le_of_ble_eq_true rfl, Nat.le_of_ble_eq_true rfl⟩ [] [0, 1, 2] rfl rfl (by decide) (by decide) (by decide) hl.1 rfl (Nat.le_of_ble_eq_true rfl) dX9_merge_125 ⟨Nat.le_of_ble_eq_true rfl, Nat.le_of_ble_eq_true rfl⟩ (w1 := fun u37 => [(y, .inr (9, [.int (zI (i 0)), .ref (q 0), .int (zI (i 1)), .int (zI (i 2)), .int (zI (i 3)), .int (zI (i 4)), .int (zI (i 5)), .int (zI (i 6)), .int (zI (i 7)), .int (zI (i 8)), .int (zI (i 9)), .int (zI (i 10)), .ref (q 1), .int (zI (i 11)), .int (zI (i 12)), .ref (q 2), .ref (q 3), .ref (q 4), .ref (q 5), .ref (q 6), .ref (q 7), .ref (q 8), .ref (q 9), .ref (q 10), .ref (q 11), .ref (q 12), .ref (q 13), .ref (q 14), .ref (q 15), .ref (q 16), .int (zI (i 13)), .int (zI (i 14)), .int (zI (i 15)), .int (zI (i 16)), .int (zI (i 17)), .int (zI (i 18)), .ref (q 17), .ref (q 18), .ref (q 19), .ref (q 20)])), (a, .inl (cI, 200, .inl (fun k => zI (g_p k)))), (f, .inl (cI, 200, .inl (fun k => zI (gz9 k))))]) (fun _ => rfl) (fun r38 u37 H locs hp39 hP hD hS => ?_)
          obtain ⟨z40, rfl, h_z40⟩ := hp39
          refine rz_iastG F hK hP hD hS 2 0 rfl rfl (by omega) (by omega) dX9_merge_128 (w1 := fun g41 => [(y, .inr (9, [.int (zI (i 0)), .ref (q 0), .int (zI (i 1)), .int (zI (i 2)), .int (zI (i 3)), .int (zI (i 4)), .int (zI (i 5)), .int (zI (i 6)), .int (zI (i 7)), .int (zI (i 8)), .int (zI (i 9)), .int (zI (i 10)), .ref (q 1), .int (zI (i 11)), .int (zI (i 12)), .ref (q 2), .ref (q 3), .ref (q 4), .ref (q 5), .ref (q 6), .ref (q 7), .ref (q 8), .ref (q 9), .ref (q 10), .ref (q 11), .ref (q 12), .ref (q 13), .ref (q 14), .ref (q 15), .ref (q 16), .int (zI (i 13)), .int (zI (i 14)), .int (zI (i 15)), .int (zI (i 16)), .int (zI (i 17)), .int (zI (i 18)), .ref (q 17), .ref (q 18), .ref (q 19), .ref (q 20)])), (a, .inl (cI, 200, .inl (fun k => zI (g_p k)))), (f, .inl (cI, 200, .inl (fun k => zI (g41 k))))]) (fun _ => rfl) (fun g41 e_g41 H locs hP hD hS => ?_)
          have hqp42 : ProgOk g41 := ⟨hqp0.1.set (m := 9) e_g41 19 (by omega) rfl (by omega), hqp0.2.set e_g41 (by omega)⟩
          have hmt43 := hmt0.keep e_g41 (by omega)
          exact j_129 g41 _ _ (by omega) hqp42 hmt43 hP hD hS ls (lv_sub hl [0, 1, 2, 3, 4, 5] rfl)
      · refine lv_aload hx hb dX9_merge_48 (lv_at hl 5 rfl) ?_
        refine lv_bipush (v := zI 20) hx hb dX9_merge_50 (by decide) ?_
        refine lv_iload_n hx hb dX9_merge_52 rfl (lv_at hl 3 rfl) ?_
        refine r_imul (v := zI (20 * x)) F dX9_merge_53 (zI_mul _ _) ?_
        refine lv_bipush (v := zI 17) hx hb dX9_merge_54 (by decide) ?_
        refine r_iadd (v := zI ((20 * x) + 17)) F dX9_merge_56 (zI_add _ _) ?_
        refine lv_bipush (v := zI 9) hx hb dX9_merge_57 (by decide) ?_
        refine lv_aload_n hx hb dX9_merge_59 rfl (lv_at hl 2 rfl) ?_
        refine lv_bipush (v := zI 20) hx hb dX9_merge_60 (by decide) ?_
        refine lv_iload_n hx hb dX9_merge_62 rfl (lv_at hl 3 rfl) ?_
        refine r_imul (v := zI (20 * x)) F dX9_merge_63 (zI_mul _ _) ?_
        refine lv_bipush (v := zI 17) hx hb dX9_merge_64 (by decide) ?_
        refine r_iadd (v := zI ((20 * x) + 17)) F dX9_merge_66 (zI_add _ _) ?_
        refine rz_iald F hK hP 1 0 rfl rfl (by omega) (by omega) dX9_merge_67 ?_
        have hpl44 : 0 ≤ (g_p (((20 * x) + 17)).toNat) ∧ (g_p (((20 * x) + 17)).toNat) ≤ 9 := ProgR.at hp.1 (e := ((20 * x) + 17)) x 17 (by omega) (by omega) (by decide) rfl
        refine lv_aload_n hx hb dX9_merge_68 rfl (lv_at hl 2 rfl) ?_
        refine lv_bipush (v := zI 20) hx hb dX9_merge_69 (by decide) ?_
        refine lv_iload_n hx hb dX9_merge_71 rfl (lv_at hl 4 rfl) ?_
        refine r_imul (v := zI (20 * w)) F dX9_merge_72 (zI_mul _ _) ?_
        refine lv_bipush (v := zI 17) hx hb dX9_merge_73 (by decide) ?_
        refine r_iadd (v := zI ((20 * w) + 17)) F dX9_merge_75 (zI_add _ _) ?_
        refine rz_iald F hK hP 1 0 rfl rfl (by omega) (by omega) dX9_merge_76 ?_
        have hpl45 : 0 ≤ (g_p (((20 * w) + 17)).toNat) ∧ (g_p (((20 * w) + 17)).toNat) ≤ 9 := ProgR.at hp.1 (e := ((20 * w) + 17)) w 17 (by omega) (by omega) (by decide) rfl
        refine r_iadd (v := zI ((g_p (((20 * x) + 17)).toNat) + (g_p (((20 * w) + 17)).toNat))) F dX9_merge_77 (zI_add _ _) ?_
        refine r_callSi (As := [.int (zI 9), .int (zI ((g_p (((20 * x) + 17)).toNat) + (g_p (((20 * w) + 17)).toNat)))]) (rest := [.int (zI ((20 * x) + 17)), .ref f]) (wr := [(y, .inr (9, [.int (zI (i 0)), .ref (q 0), .int (zI (i 1)), .int (zI (i 2)), .int (zI (i 3)), .int (zI (i 4)), .int (zI (i 5)), .int (zI (i 6)), .int (zI (i 7)), .int (zI (i 8)), .int (zI (i 9)), .int (zI (i 10)), .ref (q 1), .int (zI (i 11)), .int (zI (i 12)), .ref (q 2), .ref (q 3), .ref (q 4), .ref (q 5), .ref (q 6), .ref (q 7), .ref (q 8), .ref (q 9), .ref (q 10), .ref (q 11), .ref (q 12), .ref (q 13), .ref (q 14), .ref (q 15), .ref (q 16), .int (zI (i 13)), .int (zI (i 14)), .int (zI (i 15)), .int (zI (i 16)), .int (zI (i 17)), .int (zI (i 18)), .ref (q 17), .ref (q 18), .ref (q 19), .ref (q 20)])), (a, .inl (cI, 200, .inl (fun k => zI (g_p k)))), (f, .inl (cI, 200, .inl (fun k => zI (gz9 k))))]) F hK hP hD hS hA hO hE (c_X9_less hO 9 ((g_p (((20 * x) + 17)).toNat) + (g_p (((20 * w) + 17)).toNat)) (by omega) (by omega)) k_1460 ks_X9_less 2 rfl (by decide +kernel) ⟨Nat.le_of_ble_eq_true rfl, Nat.le_of_ble_eq_true rfl⟩ [] [0, 1, 2] rfl rfl (by decide) (by decide) (by decide) hl.1 rfl (Nat.le_of_ble_eq_true rfl) dX9_merge_78 ⟨Nat.le_of_ble_eq_true rfl, Nat.le_of_ble_eq_true rfl⟩ (w1 := fun u46 => [(y, .inr (9, [.int (zI (i 0)), .ref (q 0), .int (zI (i 1)), .int (zI (i 2)), .int (zI (i 3)), .int (zI (i 4)), .int (zI (i 5)), .int (zI (i 6)), .int (zI (i 7)), .int (zI (i 8)), .int (zI (i 9)), .int (zI (i 10)), .ref (q 1), .int (zI (i 11)), .int (zI (i 12)), .ref (q 2), .ref (q 3), .ref (q 4), .ref (q 5), .ref (q 6), .ref (q 7), .ref (q 8), .ref (q 9), .ref (q 10), .ref (q 11), .ref (q 12), .ref (q 13), .ref (q 14), .ref (q 15), .ref (q 16), .int (zI (i 13)), .int (zI (i 14)), .int (zI (i 15)), .int (zI (i 16)), .int (zI (i 17)), .int (zI (i 18)), .ref (q 17), .ref (q 18), .ref (q 19), .ref (q 20)])), (a, .inl (cI, 200, .inl (fun k => zI (g_p k)))), (f, .inl (cI, 200, .inl (fun k => zI (gz9 k))))]) (fun _ => rfl) (fun r47 u46 H locs hp48 hP hD hS => ?_)
        obtain ⟨z49, rfl, h_z49⟩ := hp48
        refine rz_iastG F hK hP hD hS 2 0 rfl rfl (by omega) (by omega) dX9_merge_81 (w1 := fun g50 => [(y, .inr (9, [.int (zI (i 0)), .ref (q 0), .int (zI (i 1)), .int (zI (i 2)), .int (zI (i 3)), .int (zI (i 4)), .int (zI (i 5)), .int (zI (i 6)), .int (zI (i 7)), .int (zI (i 8)), .int (zI (i 9)), .int (zI (i 10)), .ref (q 1), .int (zI (i 11)), .int (zI (i 12)), .ref (q 2), .ref (q 3), .ref (q 4), .ref (q 5), .ref (q 6), .ref (q 7), .ref (q 8), .ref (q 9), .ref (q 10), .ref (q 11), .ref (q 12), .ref (q 13), .ref (q 14), .ref (q 15), .ref (q 16), .int (zI (i 13)), .int (zI (i 14)), .int (zI (i 15)), .int (zI (i 16)), .int (zI (i 17)), .int (zI (i 18)), .ref (q 17), .ref (q 18), .ref (q 19), .ref (q 20)])), (a, .inl (cI, 200, .inl (fun k => zI (g_p k)))), (f, .inl (cI, 200, .inl (fun k => zI (g50 k))))]) (fun _ => rfl) (fun g50 e_g50 H locs hP hD hS => ?_)
        have hqp51 : ProgOk g50 := ⟨hqp0.1.set (m := 9) e_g50 17 (by omega) rfl (by omega), hqp0.2.set e_g50 (by omega)⟩
        have hmt52 := hmt0.keep e_g50 (by omega)
        refine lv_aload_n hx hb dX9_merge_82 rfl (lv_at hl 2 rfl) ?_
        refine lv_bipush (v := zI 20) hx hb dX9_merge_83 (by decide) ?_
        refine lv_iload_n hx hb dX9_merge_85 rfl (lv_at hl 3 rfl) ?_
        refine r_imul (v := zI (20 * x)) F dX9_merge_86 (zI_mul _ _) ?_
        refine lv_bipush (v := zI 14) hx hb dX9_merge_87 (by decide) ?_
        refine r_iadd (v := zI ((20 * x) + 14)) F dX9_merge_89 (zI_add _ _) ?_
        refine rz_iald F hK hP 1 0 rfl rfl (by omega) (by omega) dX9_merge_90 ?_
        refine rz_top (fun z53 h_z53 => ?_)
        refine lv_iconst (v := zI 2) hx hb dX9_merge_91 rfl ?_
        refine rz_icmp_ne (tgt := 129) F (by omega) (by omega) dX9_merge_92 (by decide) (fun h92_53 => ?_) (fun h92_53 => ?_)
        · exact j_129 g50 _ _ (by omega) hqp51 hmt52 hP hD hS ls (lv_sub hl [0, 1, 2, 3, 4, 5] rfl)
        · refine lv_aload hx hb dX9_merge_95 (lv_at hl 5 rfl) ?_
          refine lv_bipush (v := zI 20) hx hb dX9_merge_97 (by decide) ?_
          refine lv_iload_n hx hb dX9_merge_99 rfl (lv_at hl 3 rfl) ?_
          refine r_imul (v := zI (20 * x)) F dX9_merge_100 (zI_mul _ _) ?_
          refine lv_bipush (v := zI 19) hx hb dX9_merge_101 (by decide) ?_
          refine r_iadd (v := zI ((20 * x) + 19)) F dX9_merge_103 (zI_add _ _) ?_
          refine lv_bipush (v := zI 9) hx hb dX9_merge_104 (by decide) ?_
          refine lv_aload_n hx hb dX9_merge_106 rfl (lv_at hl 2 rfl) ?_
          refine lv_bipush (v := zI 20) hx hb dX9_merge_107 (by decide) ?_
          refine lv_iload_n hx hb dX9_merge_109 rfl (lv_at hl 3 rfl) ?_
          refine r_imul (v := zI (20 * x)) F dX9_merge_110 (zI_mul _ _) ?_
          refine lv_bipush (v := zI 19) hx hb dX9_merge_111 (by decide) ?_
          refine r_iadd (v := zI ((20 * x) + 19)) F dX9_merge_113 (zI_add _ _) ?_
          refine rz_iald F hK hP 1 0 rfl rfl (by omega) (by omega) dX9_merge_114 ?_
          have hpl55 : 0 ≤ (g_p (((20 * x) + 19)).toNat) ∧ (g_p (((20 * x) + 19)).toNat) ≤ 9 := ProgR.at hp.1 (e := ((20 * x) + 19)) x 19 (by omega) (by omega) (by decide) rfl
          refine lv_aload_n hx hb dX9_merge_115 rfl (lv_at hl 2 rfl) ?_
          refine lv_bipush (v := zI 20) hx hb dX9_merge_116 (by decide) ?_
          refine lv_iload_n hx hb dX9_merge_118 rfl (lv_at hl 4 rfl) ?_
          refine r_imul (v := zI (20 * w)) F dX9_merge_119 (zI_mul _ _) ?_
          refine lv_bipush (v := zI 19) hx hb dX9_merge_120 (by decide) ?_
          refine r_iadd (v := zI ((20 * w) + 19)) F dX9_merge_122 (zI_add _ _) ?_
          refine rz_iald F hK hP 1 0 rfl rfl (by omega) (by omega) dX9_merge_123 ?_
          have hpl56 : 0 ≤ (g_p (((20 * w) + 19)).toNat) ∧ (g_p (((20 * w) + 19)).toNat) ≤ 9 := ProgR.at hp.1 (e := ((20 * w) + 19)) w 19 (by omega) (by omega) (by decide) rfl
          refine r_iadd (v := zI ((g_p (((20 * x) + 19)).toNat) + (g_p (((20 * w) + 19)).toNat))) F dX9_merge_124 (zI_add _ _) ?_
          refine r_callSi (As := [.int (zI 9), .int (zI ((g_p (((20 * x) + 19)).toNat) + (g_p (((20 * w) + 19)).toNat)))]) (rest := [.int (zI ((20 * x) + 19)), .ref f]) (wr := [(y, .inr (9, [.int (zI (i 0)), .ref (q 0), .int (zI (i 1)), .int (zI (i 2)), .int (zI (i 3)), .int (zI (i 4)), .int (zI (i 5)), .int (zI (i 6)), .int (zI (i 7)), .int (zI (i 8)), .int (zI (i 9)), .int (zI (i 10)), .ref (q 1), .int (zI (i 11)), .int (zI (i 12)), .ref (q 2), .ref (q 3), .ref (q 4), .ref (q 5), .ref (q 6), .ref (q 7), .ref (q 8), .ref (q 9), .ref (q 10), .ref (q 11), .ref (q 12), .ref (q 13), .ref (q 14), .ref (q 15), .ref (q 16), .int (zI (i 13)), .int (zI (i 14)), .int (zI (i 15)), .int (zI (i 16)), .int (zI (i 17)), .int (zI (i 18)), .ref (q 17), .ref (q 18), .ref (q 19), .ref (q 20)])), (a, .inl (cI, 200, .inl (fun k => zI (g_p k)))), (f, .inl (cI, 200, .inl (fun k => zI (g50 k))))]) F hK hP hD hS hA hO hE (c_X9_less hO 9 ((g_p (((20 * x) + 19)).toNat) + (g_p (((20 * w) + 19)).toNat)) (by omega) (by omega)) k_1460 ks_X9_less 2 rfl (by decide +kernel) ⟨Nat.le_of_ble_eq_true rfl, Nat.le_of_ble_eq_true rfl⟩ [] [0, 1, 2] rfl rfl (by decide) (by decide) (by decide) hl.1 rfl (Nat.le_of_ble_eq_true rfl) dX9_merge_125 ⟨Nat.le_of_ble_eq_true rfl, Nat.le_of_ble_eq_true rfl⟩ (w1 := fun u57 => [(y, .inr (9, [.int (zI (i 0)), .ref (q 0), .int (zI (i 1)), .int (zI (i 2)), .int (zI (i 3)), .int (zI (i 4)), .int (zI (i 5)), .int (zI (i 6)), .int (zI (i 7)), .int (zI (i 8)), .int (zI (i 9)), .int (zI (i 10)), .ref (q 1), .int (zI (i 11)), .int (zI (i 12)), .ref (q 2), .ref (q 3), .ref (q 4), .ref (q 5), .ref (q 6), .ref (q 7), .ref (q 8), .ref (q 9), .ref (q 10), .ref (q 11), .ref (q 12), .ref (q 13), .ref (q 14), .ref (q 15), .ref (q 16), .int (zI (i 13)), .int (zI (i 14)), .int (zI (i 15)), .int (zI (i 16)), .int (zI (i 17)), .int (zI (i 18)), .ref (q 17), .ref (q 18), .ref (q 19), .ref (q 20)])), (a, .inl (cI, 200, .inl (fun k => zI (g_p k)))), (f, .inl (cI, 200, .inl (fun k => zI (g50 k))))]) (fun _ => rfl) (fun r58 u57 H locs hp59 hP hD hS => ?_)
          obtain ⟨z60, rfl, h_z60⟩ := hp59
          refine rz_iastG F hK hP hD hS 2 0 rfl rfl (by omega) (by omega) dX9_merge_128 (w1 := fun g61 => [(y, .inr (9, [.int (zI (i 0)), .ref (q 0), .int (zI (i 1)), .int (zI (i 2)), .int (zI (i 3)), .int (zI (i 4)), .int (zI (i 5)), .int (zI (i 6)), .int (zI (i 7)), .int (zI (i 8)), .int (zI (i 9)), .int (zI (i 10)), .ref (q 1), .int (zI (i 11)), .int (zI (i 12)), .ref (q 2), .ref (q 3), .ref (q 4), .ref (q 5), .ref (q 6), .ref (q 7), .ref (q 8), .ref (q 9), .ref (q 10), .ref (q 11), .ref (q 12), .ref (q 13), .ref (q 14), .ref (q 15), .ref (q 16), .int (zI (i 13)), .int (zI (i 14)), .int (zI (i 15)), .int (zI (i 16)), .int (zI (i 17)), .int (zI (i 18)), .ref (q 17), .ref (q 18), .ref (q 19), .ref (q 20)])), (a, .inl (cI, 200, .inl (fun k => zI (g_p k)))), (f, .inl (cI, 200, .inl (fun k => zI (g61 k))))]) (fun _ => rfl) (fun g61 e_g61 H locs hP hD hS => ?_)
          have hqp62 : ProgOk g61 := ⟨hqp51.1.set (m := 9) e_g61 19 (by omega) rfl (by omega), hqp51.2.set e_g61 (by omega)⟩
          have hmt63 := hmt52.keep e_g61 (by omega)
          exact j_129 g61 _ _ (by omega) hqp62 hmt63 hP hD hS ls (lv_sub hl [0, 1, 2, 3, 4, 5] rfl)
    · refine lv_aload hx hb dX9_merge_19 (lv_at hl 5 rfl) ?_
      refine lv_bipush (v := zI 20) hx hb dX9_merge_21 (by decide) ?_
      refine lv_iload_n hx hb dX9_merge_23 rfl (lv_at hl 4 rfl) ?_
      refine r_imul (v := zI (20 * w)) F dX9_merge_24 (zI_mul _ _) ?_
      refine lv_iload hx hb dX9_merge_25 (lv_at hl 0 rfl) ?_
      refine r_iadd (v := zI ((20 * w) + v5)) F dX9_merge_27 (zI_add _ _) ?_
      refine lv_iconst (v := zI 0) hx hb dX9_merge_28 rfl ?_
      refine rz_iastG F hK hP hD hS 2 0 rfl rfl (by omega) (by omega) dX9_merge_29 (w1 := fun g64 => [(y, .inr (9, [.int (zI (i 0)), .ref (q 0), .int (zI (i 1)), .int (zI (i 2)), .int (zI (i 3)), .int (zI (i 4)), .int (zI (i 5)), .int (zI (i 6)), .int (zI (i 7)), .int (zI (i 8)), .int (zI (i 9)), .int (zI (i 10)), .ref (q 1), .int (zI (i 11)), .int (zI (i 12)), .ref (q 2), .ref (q 3), .ref (q 4), .ref (q 5), .ref (q 6), .ref (q 7), .ref (q 8), .ref (q 9), .ref (q 10), .ref (q 11), .ref (q 12), .ref (q 13), .ref (q 14), .ref (q 15), .ref (q 16), .int (zI (i 13)), .int (zI (i 14)), .int (zI (i 15)), .int (zI (i 16)), .int (zI (i 17)), .int (zI (i 18)), .ref (q 17), .ref (q 18), .ref (q 19), .ref (q 20)])), (a, .inl (cI, 200, .inl (fun k => zI (g_p k)))), (f, .inl (cI, 200, .inl (fun k => zI (g64 k))))]) (fun _ => rfl) (fun g64 e_g64 H locs hP hD hS => ?_)
      refine lv_iinc (v := zI (v5 + 1)) (lv' := [(5, .int (zI (v5 + 1))), (0, .ref y), (1, .ref a), (2, .int (zI x)), (3, .int (zI w)), (4, .ref f)]) hx hb dX9_merge_30 hl (k := 0) rfl (zI_add _ _) (by decide) rfl (fun ls hl => ?_)
      refine lv_goto (tgt := 12) hx hb dX9_merge_33 (by decide) ?_
      exact ih1 (v5 + 1) g64 _ _ (by omega) (by omega) (zr_step (by omega) hz9 e_g64) hP hD hS ls (lv_sub hl [0, 1, 2, 3, 4, 5] rfl)
