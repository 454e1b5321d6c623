theorem dX9_merge_0 : decode cX9_merge 0 = .ok (.aload_n 1, 1) := by decide +kernel
theorem dX9_merge_1 : decode cX9_merge 1 = .ok (.aload 4, 2) := by decide +kernel
theorem dX9_merge_3 : decode cX9_merge 3 = .ok (.sipush 200, 3) := by decide +kernel
theorem dX9_merge_6 : decode cX9_merge 6 = .ok (.invokestatic 209, 3) := by decide +kernel
theorem k_1414 : Cond.methodLink RX9 209 yX9_copy ∈ bw_T := bw_m 1414 (by decide +kernel) rfl
theorem ks_X9_copy : bw_KS RX9 yX9_copy (Cond.code yX9_copy cX9_copy 4 none) := ⟨bw_m 1415 (by decide +kernel) rfl, bw_m 107 (by decide +kernel) rfl, bw_m 1416 (by decide +kernel) rfl⟩
theorem dX9_merge_9 : decode cX9_merge 9 = .ok (.iconst 0, 1) := by decide +kernel
theorem dX9_merge_10 : decode cX9_merge 10 = .ok (.istore 5, 2) := by decide +kernel
theorem dX9_merge_12 : decode cX9_merge 12 = .ok (.iload 5, 2) := by decide +kernel
theorem dX9_merge_14 : decode cX9_merge 14 = .ok (.bipush 20, 2) := by decide +kernel
theorem dX9_merge_16 : decode cX9_merge 16 = .ok (.if_icmp .ge 20, 3) := by decide +kernel
theorem dX9_merge_36 : decode cX9_merge 36 = .ok (.aload_n 1, 1) := by decide +kernel
theorem dX9_merge_37 : decode cX9_merge 37 = .ok (.bipush 20, 2) := by decide +kernel
theorem dX9_merge_39 : decode cX9_merge 39 = .ok (.iload_n 2, 1) := by decide +kernel
theorem dX9_merge_40 : decode cX9_merge 40 = .ok (.imul, 1) := by decide +kernel
theorem dX9_merge_41 : decode cX9_merge 41 = .ok (.bipush 14, 2) := by decide +kernel
theorem dX9_merge_43 : decode cX9_merge 43 = .ok (.iadd, 1) := by decide +kernel
theorem dX9_merge_44 : decode cX9_merge 44 = .ok (.iaload, 1) := by decide +kernel
theorem dX9_merge_45 : decode cX9_merge 45 = .ok (.ifCond .le 37, 3) := by decide +kernel
theorem dX9_merge_82 : decode cX9_merge 82 = .ok (.aload_n 1, 1) := by decide +kernel
theorem dX9_merge_83 : decode cX9_merge 83 = .ok (.bipush 20, 2) := by decide +kernel
theorem dX9_merge_85 : decode cX9_merge 85 = .ok (.iload_n 2, 1) := by decide +kernel
theorem dX9_merge_86 : decode cX9_merge 86 = .ok (.imul, 1) := by decide +kernel
theorem dX9_merge_87 : decode cX9_merge 87 = .ok (.bipush 14, 2) := by decide +kernel
theorem dX9_merge_89 : decode cX9_merge 89 = .ok (.iadd, 1) := by decide +kernel
theorem dX9_merge_90 : decode cX9_merge 90 = .ok (.iaload, 1) := by decide +kernel
theorem dX9_merge_91 : decode cX9_merge 91 = .ok (.iconst 2, 1) := by decide +kernel
theorem dX9_merge_92 : decode cX9_merge 92 = .ok (.if_icmp .ne 37, 3) := by decide +kernel
theorem dX9_merge_129 : decode cX9_merge 129 = .ok (.iconst 0, 1) := by decide +kernel
theorem dX9_merge_130 : decode cX9_merge 130 = .ok (.istore 5, 2) := by decide +kernel
theorem dX9_merge_132 : decode cX9_merge 132 = .ok (.iload 5, 2) := by decide +kernel
theorem dX9_merge_134 : decode cX9_merge 134 = .ok (.aload_n 0, 1) := by decide +kernel
theorem dX9_merge_135 : decode cX9_merge 135 = .ok (.getfield 213, 3) := by decide +kernel
theorem dX9_merge_138 : decode cX9_merge 138 = .ok (.if_icmp .ge 164, 3) := by decide +kernel
theorem dX9_merge_302 : decode cX9_merge 302 = .ok (.return_, 1) := by decide +kernel
theorem dX9_merge_141 : decode cX9_merge 141 = .ok (.bipush 20, 2) := by decide +kernel
theorem dX9_merge_143 : decode cX9_merge 143 = .ok (.iload 5, 2) := by decide +kernel
theorem dX9_merge_145 : decode cX9_merge 145 = .ok (.imul, 1) := by decide +kernel
theorem dX9_merge_146 : decode cX9_merge 146 = .ok (.istore 6, 2) := by decide +kernel
theorem dX9_merge_148 : decode cX9_merge 148 = .ok (.aload 4, 2) := by decide +kernel
theorem dX9_merge_150 : decode cX9_merge 150 = .ok (.iload 6, 2) := by decide +kernel
theorem dX9_merge_152 : decode cX9_merge 152 = .ok (.iconst 0, 1) := by decide +kernel
theorem dX9_merge_153 : decode cX9_merge 153 = .ok (.iadd, 1) := by decide +kernel
theorem dX9_merge_154 : decode cX9_merge 154 = .ok (.iaload, 1) := by decide +kernel
theorem dX9_merge_155 : decode cX9_merge 155 = .ok (.ifCond .ne 6, 3) := by decide +kernel
theorem dX9_merge_161 : decode cX9_merge 161 = .ok (.aload 4, 2) := by decide +kernel
theorem dX9_merge_163 : decode cX9_merge 163 = .ok (.iload 6, 2) := by decide +kernel
theorem dX9_merge_165 : decode cX9_merge 165 = .ok (.bipush 14, 2) := by decide +kernel
theorem dX9_merge_167 : decode cX9_merge 167 = .ok (.iadd, 1) := by decide +kernel
theorem dX9_merge_168 : decode cX9_merge 168 = .ok (.iaload, 1) := by decide +kernel
theorem dX9_merge_169 : decode cX9_merge 169 = .ok (.ifCond .le 24, 3) := by decide +kernel
theorem dX9_merge_193 : decode cX9_merge 193 = .ok (.aload 4, 2) := by decide +kernel
theorem dX9_merge_195 : decode cX9_merge 195 = .ok (.iload 6, 2) := by decide +kernel
theorem dX9_merge_197 : decode cX9_merge 197 = .ok (.bipush 14, 2) := by decide +kernel
theorem dX9_merge_199 : decode cX9_merge 199 = .ok (.iadd, 1) := by decide +kernel
theorem dX9_merge_200 : decode cX9_merge 200 = .ok (.iaload, 1) := by decide +kernel
theorem dX9_merge_201 : decode cX9_merge 201 = .ok (.iconst 2, 1) := by decide +kernel
theorem dX9_merge_202 : decode cX9_merge 202 = .ok (.if_icmp .ne 24, 3) := by decide +kernel
theorem dX9_merge_226 : decode cX9_merge 226 = .ok (.iconst 0, 1) := by decide +kernel
theorem dX9_merge_227 : decode cX9_merge 227 = .ok (.istore 7, 2) := by decide +kernel
theorem dX9_merge_229 : decode cX9_merge 229 = .ok (.iload 7, 2) := by decide +kernel
theorem dX9_merge_231 : decode cX9_merge 231 = .ok (.aload 4, 2) := by decide +kernel
theorem dX9_merge_233 : decode cX9_merge 233 = .ok (.iload 6, 2) := by decide +kernel
theorem dX9_merge_235 : decode cX9_merge 235 = .ok (.iconst 1, 1) := by decide +kernel
theorem dX9_merge_236 : decode cX9_merge 236 = .ok (.iadd, 1) := by decide +kernel
theorem dX9_merge_237 : decode cX9_merge 237 = .ok (.iaload, 1) := by decide +kernel
theorem dX9_merge_238 : decode cX9_merge 238 = .ok (.if_icmp .ge 58, 3) := by decide +kernel
theorem dX9_merge_296 : decode cX9_merge 296 = .ok (.iinc 5 1, 3) := by decide +kernel
theorem dX9_merge_299 : decode cX9_merge 299 = .ok (.goto (-167), 3) := by decide +kernel
theorem dX9_merge_241 : decode cX9_merge 241 = .ok (.aload 4, 2) := by decide +kernel
theorem dX9_merge_243 : decode cX9_merge 243 = .ok (.iload 6, 2) := by decide +kernel
theorem dX9_merge_245 : decode cX9_merge 245 = .ok (.iconst 2, 1) := by decide +kernel
theorem dX9_merge_246 : decode cX9_merge 246 = .ok (.iadd, 1) := by decide +kernel
theorem dX9_merge_247 : decode cX9_merge 247 = .ok (.iconst 3, 1) := by decide +kernel
theorem dX9_merge_248 : decode cX9_merge 248 = .ok (.iload 7, 2) := by decide +kernel
theorem dX9_merge_250 : decode cX9_merge 250 = .ok (.imul, 1) := by decide +kernel
theorem dX9_merge_251 : decode cX9_merge 251 = .ok (.iadd, 1) := by decide +kernel
theorem dX9_merge_252 : decode cX9_merge 252 = .ok (.iaload, 1) := by decide +kernel
theorem dX9_merge_253 : decode cX9_merge 253 = .ok (.iconst 3, 1) := by decide +kernel
theorem dX9_merge_254 : decode cX9_merge 254 = .ok (.if_icmp .ne 36, 3) := by decide +kernel
theorem dX9_merge_290 : decode cX9_merge 290 = .ok (.iinc 7 1, 3) := by decide +kernel
theorem dX9_merge_293 : decode cX9_merge 293 = .ok (.goto (-64), 3) := by decide +kernel
theorem dX9_merge_257 : decode cX9_merge 257 = .ok (.aload 4, 2) := by decide +kernel
theorem dX9_merge_259 : decode cX9_merge 259 = .ok (.iload 6, 2) := by decide +kernel
theorem dX9_merge_261 : decode cX9_merge 261 = .ok (.iconst 2, 1) := by decide +kernel
theorem dX9_merge_262 : decode cX9_merge 262 = .ok (.iadd, 1) := by decide +kernel
theorem dX9_merge_263 : decode cX9_merge 263 = .ok (.iconst 3, 1) := by decide +kernel
theorem dX9_merge_264 : decode cX9_merge 264 = .ok (.iload 7, 2) := by decide +kernel
theorem dX9_merge_266 : decode cX9_merge 266 = .ok (.imul, 1) := by decide +kernel
theorem dX9_merge_267 : decode cX9_merge 267 = .ok (.iadd, 1) := by decide +kernel
theorem dX9_merge_268 : decode cX9_merge 268 = .ok (.iconst 1, 1) := by decide +kernel
theorem dX9_merge_269 : decode cX9_merge 269 = .ok (.iadd, 1) := by decide +kernel
theorem dX9_merge_270 : decode cX9_merge 270 = .ok (.iaload, 1) := by decide +kernel
theorem dX9_merge_271 : decode cX9_merge 271 = .ok (.iload_n 3, 1) := by decide +kernel
theorem dX9_merge_272 : decode cX9_merge 272 = .ok (.if_icmp .ne 18, 3) := by decide +kernel
theorem dX9_merge_275 : decode cX9_merge 275 = .ok (.aload 4, 2) := by decide +kernel
theorem dX9_merge_277 : decode cX9_merge 277 = .ok (.iload 6, 2) := by decide +kernel
theorem dX9_merge_279 : decode cX9_merge 279 = .ok (.iconst 2, 1) := by decide +kernel
theorem dX9_merge_280 : decode cX9_merge 280 = .ok (.iadd, 1) := by decide +kernel
theorem dX9_merge_281 : decode cX9_merge 281 = .ok (.iconst 3, 1) := by decide +kernel
theorem dX9_merge_282 : decode cX9_merge 282 = .ok (.iload 7, 2) := by decide +kernel
theorem dX9_merge_284 : decode cX9_merge 284 = .ok (.imul, 1) := by decide +kernel
theorem dX9_merge_285 : decode cX9_merge 285 = .ok (.iadd, 1) := by decide +kernel
theorem dX9_merge_286 : decode cX9_merge 286 = .ok (.iconst 1, 1) := by decide +kernel
theorem dX9_merge_287 : decode cX9_merge 287 = .ok (.iadd, 1) := by decide +kernel
theorem dX9_merge_288 : decode cX9_merge 288 = .ok (.iload_n 2, 1) := by decide +kernel
theorem dX9_merge_289 : decode cX9_merge 289 = .ok (.iastore, 1) := by decide +kernel
theorem dX9_merge_205 : decode cX9_merge 205 = .ok (.aload 4, 2) := by decide +kernel
theorem dX9_merge_207 : decode cX9_merge 207 = .ok (.iload 6, 2) := by decide +kernel
theorem dX9_merge_209 : decode cX9_merge 209 = .ok (.bipush 18, 2) := by decide +kernel
theorem dX9_merge_211 : decode cX9_merge 211 = .ok (.iadd, 1) := by decide +kernel
theorem dX9_merge_212 : decode cX9_merge 212 = .ok (.iaload, 1) := by decide +kernel
theorem dX9_merge_213 : decode cX9_merge 213 = .ok (.iload_n 3, 1) := by decide +kernel
theorem dX9_merge_214 : decode cX9_merge 214 = .ok (.if_icmp .ne 12, 3) := by decide +kernel
theorem dX9_merge_217 : decode cX9_merge 217 = .ok (.aload 4, 2) := by decide +kernel
theorem dX9_merge_219 : decode cX9_merge 219 = .ok (.iload 6, 2) := by decide +kernel
theorem dX9_merge_221 : decode cX9_merge 221 = .ok (.bipush 18, 2) := by decide +kernel
theorem dX9_merge_223 : decode cX9_merge 223 = .ok (.iadd, 1) := by decide +kernel
theorem dX9_merge_224 : decode cX9_merge 224 = .ok (.iload_n 2, 1) := by decide +kernel
theorem dX9_merge_225 : decode cX9_merge 225 = .ok (.iastore, 1) := by decide +kernel
theorem dX9_merge_172 : decode cX9_merge 172 = .ok (.aload 4, 2) := by decide +kernel
theorem dX9_merge_174 : decode cX9_merge 174 = .ok (.iload 6, 2) := by decide +kernel
theorem dX9_merge_176 : decode cX9_merge 176 = .ok (.bipush 16, 2) := by decide +kernel
theorem dX9_merge_178 : decode cX9_merge 178 = .ok (.iadd, 1) := by decide +kernel
theorem dX9_merge_179 : decode cX9_merge 179 = .ok (.iaload, 1) := by decide +kernel
theorem dX9_merge_180 : decode cX9_merge 180 = .ok (.iload_n 3, 1) := by decide +kernel
theorem dX9_merge_181 : decode cX9_merge 181 = .ok (.if_icmp .ne 12, 3) := by decide +kernel
theorem dX9_merge_184 : decode cX9_merge 184 = .ok (.aload 4, 2) := by decide +kernel
theorem dX9_merge_186 : decode cX9_merge 186 = .ok (.iload 6, 2) := by decide +kernel
theorem dX9_merge_188 : decode cX9_merge 188 = .ok (.bipush 16, 2) := by decide +kernel
theorem dX9_merge_190 : decode cX9_merge 190 = .ok (.iadd, 1) := by decide +kernel
theorem dX9_merge_191 : decode cX9_merge 191 = .ok (.iload_n 2, 1) := by decide +kernel
theorem dX9_merge_192 : decode cX9_merge 192 = .ok (.iastore, 1) := by decide +kernel
theorem dX9_merge_158 : decode cX9_merge 158 = .ok (.goto 138, 3) := by decide +kernel
theorem dX9_merge_95 : decode cX9_merge 95 = .ok (.aload 4, 2) := by decide +kernel
theorem dX9_merge_97 : decode cX9_merge 97 = .ok (.bipush 20, 2) := by decide +kernel
theorem dX9_merge_99 : decode cX9_merge 99 = .ok (.iload_n 2, 1) := by decide +kernel
theorem dX9_merge_100 : decode cX9_merge 100 = .ok (.imul, 1) := by decide +kernel
theorem dX9_merge_101 : decode cX9_merge 101 = .ok (.bipush 19, 2) := by decide +kernel
theorem dX9_merge_103 : decode cX9_merge 103 = .ok (.iadd, 1) := by decide +kernel
theorem dX9_merge_104 : decode cX9_merge 104 = .ok (.bipush 9, 2) := by decide +kernel
theorem dX9_merge_106 : decode cX9_merge 106 = .ok (.aload_n 1, 1) := by decide +kernel
theorem dX9_merge_107 : decode cX9_merge 107 = .ok (.bipush 20, 2) := by decide +kernel
theorem dX9_merge_109 : decode cX9_merge 109 = .ok (.iload_n 2, 1) := by decide +kernel
theorem dX9_merge_110 : decode cX9_merge 110 = .ok (.imul, 1) := by decide +kernel
theorem dX9_merge_111 : decode cX9_merge 111 = .ok (.bipush 19, 2) := by decide +kernel
theorem dX9_merge_113 : decode cX9_merge 113 = .ok (.iadd, 1) := by decide +kernel
theorem dX9_merge_114 : decode cX9_merge 114 = .ok (.iaload, 1) := by decide +kernel
theorem dX9_merge_115 : decode cX9_merge 115 = .ok (.aload_n 1, 1) := by decide +kernel
theorem dX9_merge_116 : decode cX9_merge 116 = .ok (.bipush 20, 2) := by decide +kernel
theorem dX9_merge_118 : decode cX9_merge 118 = .ok (.iload_n 3, 1) := by decide +kernel
theorem dX9_merge_119 : decode cX9_merge 119 = .ok (.imul, 1) := by decide +kernel
theorem dX9_merge_120 : decode cX9_merge 120 = .ok (.bipush 19, 2) := by decide +kernel
theorem dX9_merge_122 : decode cX9_merge 122 = .ok (.iadd, 1) := by decide +kernel
theorem dX9_merge_123 : decode cX9_merge 123 = .ok (.iaload, 1) := by decide +kernel
theorem dX9_merge_124 : decode cX9_merge 124 = .ok (.iadd, 1) := by decide +kernel
theorem dX9_merge_125 : decode cX9_merge 125 = .ok (.invokestatic 269, 3) := by decide +kernel
theorem dX9_merge_128 : decode cX9_merge 128 = .ok (.iastore, 1) := by decide +kernel
theorem dX9_merge_48 : decode cX9_merge 48 = .ok (.aload 4, 2) := by decide +kernel
theorem dX9_merge_50 : decode cX9_merge 50 = .ok (.bipush 20, 2) := by decide +kernel
theorem dX9_merge_52 : decode cX9_merge 52 = .ok (.iload_n 2, 1) := by decide +kernel
theorem dX9_merge_53 : decode cX9_merge 53 = .ok (.imul, 1) := by decide +kernel
theorem dX9_merge_54 : decode cX9_merge 54 = .ok (.bipush 17, 2) := by decide +kernel
theorem dX9_merge_56 : decode cX9_merge 56 = .ok (.iadd, 1) := by decide +kernel
theorem dX9_merge_57 : decode cX9_merge 57 = .ok (.bipush 9, 2) := by decide +kernel
theorem dX9_merge_59 : decode cX9_merge 59 = .ok (.aload_n 1, 1) := by decide +kernel
theorem dX9_merge_60 : decode cX9_merge 60 = .ok (.bipush 20, 2) := by decide +kernel
theorem dX9_merge_62 : decode cX9_merge 62 = .ok (.iload_n 2, 1) := by decide +kernel
theorem dX9_merge_63 : decode cX9_merge 63 = .ok (.imul, 1) := by decide +kernel
theorem dX9_merge_64 : decode cX9_merge 64 = .ok (.bipush 17, 2) := by decide +kernel
theorem dX9_merge_66 : decode cX9_merge 66 = .ok (.iadd, 1) := by decide +kernel
theorem dX9_merge_67 : decode cX9_merge 67 = .ok (.iaload, 1) := by decide +kernel
theorem dX9_merge_68 : decode cX9_merge 68 = .ok (.aload_n 1, 1) := by decide +kernel
theorem dX9_merge_69 : decode cX9_merge 69 = .ok (.bipush 20, 2) := by decide +kernel
theorem dX9_merge_71 : decode cX9_merge 71 = .ok (.iload_n 3, 1) := by decide +kernel
theorem dX9_merge_72 : decode cX9_merge 72 = .ok (.imul, 1) := by decide +kernel
theorem dX9_merge_73 : decode cX9_merge 73 = .ok (.bipush 17, 2) := by decide +kernel
theorem dX9_merge_75 : decode cX9_merge 75 = .ok (.iadd, 1) := by decide +kernel
theorem dX9_merge_76 : decode cX9_merge 76 = .ok (.iaload, 1) := by decide +kernel
theorem dX9_merge_77 : decode cX9_merge 77 = .ok (.iadd, 1) := by decide +kernel
theorem dX9_merge_78 : decode cX9_merge 78 = .ok (.invokestatic 269, 3) := by decide +kernel
theorem dX9_merge_81 : decode cX9_merge 81 = .ok (.iastore, 1) := by decide +kernel
theorem dX9_merge_19 : decode cX9_merge 19 = .ok (.aload 4, 2) := by decide +kernel
theorem dX9_merge_21 : decode cX9_merge 21 = .ok (.bipush 20, 2) := by decide +kernel
theorem dX9_merge_23 : decode cX9_merge 23 = .ok (.iload_n 3, 1) := by decide +kernel
theorem dX9_merge_24 : decode cX9_merge 24 = .ok (.imul, 1) := by decide +kernel
theorem dX9_merge_25 : decode cX9_merge 25 = .ok (.iload 5, 2) := by decide +kernel
theorem dX9_merge_27 : decode cX9_merge 27 = .ok (.iadd, 1) := by decide +kernel
theorem dX9_merge_28 : decode cX9_merge 28 = .ok (.iconst 0, 1) := by decide +kernel
theorem dX9_merge_29 : decode cX9_merge 29 = .ok (.iastore, 1) := by decide +kernel
theorem dX9_merge_30 : decode cX9_merge 30 = .ok (.iinc 5 1, 3) := by decide +kernel
theorem dX9_merge_33 : decode cX9_merge 33 = .ok (.goto (-21), 3) := by decide +kernel
abbrev rm_X9_merge : Room := { frames := 1, cells := 0, slots := 0, locals := 23 }
set_option maxRecDepth 100000 in
set_option maxHeartbeats 8000000 in
theorem c_X9_merge {l : Launch} {E : (Nat → Prop) → State → Prop} (hO : bw_Ok E) {G : va_G} {cI cB cJ cN cW : ClassId} (y : Nat) (q : Nat → Nat) (i : Nat → Int) (hM : ModOk i) (a : Nat) (g_p : Nat → Int) (f : Nat) (g_q : Nat → Int) (x : Int) (w : Int) (hx9 : zR x) (hw9 : zR w) (hp : ProgOk g_p) (hx8 : 0 ≤ x ∧ x < 10) (hw8 : 0 ≤ w ∧ w < 10) : bw_Cv (S := zV) l yX9_merge (bw_ws (Cond.code yX9_merge cX9_merge 8 none)) rm_X9_merge E G (bw_kt cI cB cJ cN cW) [.ref y, .ref a, .int (zI x), .int (zI w), .ref f] [(y, .inr (9, [.int (zI (i 0)), .ref (q 0), .int (zI (i 1)), .int (zI (i 2)), .int (zI (i 3)), .int (zI (i 4)), .int (zI (i 5)), .int (zI (i 6)), .int (zI (i 7)), .int (zI (i 8)), .int (zI (i 9)), .int (zI (i 10)), .ref (q 1), .int (zI (i 11)), .int (zI (i 12)), .ref (q 2), .ref (q 3), .ref (q 4), .ref (q 5), .ref (q 6), .ref (q 7), .ref (q 8), .ref (q 9), .ref (q 10), .ref (q 11), .ref (q 12), .ref (q 13), .ref (q 14), .ref (q 15), .ref (q 16), .int (zI (i 13)), .int (zI (i 14)), .int (zI (i 15)), .int (zI (i 16)), .int (zI (i 17)), .int (zI (i 18)), .ref (q 17), .ref (q 18), .ref (q 19), .ref (q 20)])), (a, .inl (cI, 200, .inl (fun k => zI (g_p k)))), (f, .inl (cI, 200, .inl (fun k => zI (g_q k))))] (fun u => (ProgOk ((u 1).2 0) ∧ MT g_p ((u 1).2 0) w)) (fun u => [(y, .inr (9, [.int (zI (i 0)), .ref (q 0), .int (zI (i 1)), .int (zI (i 2)), .int (zI (i 3)), .int (zI (i 4)), .int (zI (i 5)), .int (zI (i 6)), .int (zI (i 7)), .int (zI (i 8)), .int (zI (i 9)), .int (zI (i 10)), .ref (q 1), .int (zI (i 11)), .int (zI (i 12)), .ref (q 2), .ref (q 3), .ref (q 4), .ref (q 5), .ref (q 6), .ref (q 7), .ref (q 8), .ref (q 9), .ref (q 10), .ref (q 11), .ref (q 12), .ref (q 13), .ref (q 14), .ref (q 15), .ref (q 16), .int (zI (i 13)), .int (zI (i 14)), .int (zI (i 15)), .int (zI (i 16)), .int (zI (i 17)), .int (zI (i 18)), .ref (q 17), .ref (q 18), .ref (q 19), .ref (q 20)])), (a, .inl (cI, 200, .inl (fun k => zI (g_p k)))), (f, .inl (cI, 200, .inl (fun k => zI (((u 1).2 0) k))))]) := by
  refine bw_Cv.of (cc := cX9_merge) (maxL := 8) (by decide) rfl (Nat.le_of_ble_eq_true rfl) ?_
  intro p e s m below meth c A Q hx hb hml hts hown hin hK hA hS hP hD hE ret ls hl
  have F : CallFix p m c cX9_merge 8 s ([.ref y, .ref a, .int (zI x), .int (zI w), .ref f] : List Value).toArray bw_T RX9 := ⟨hx, hb, hml, hown, fun w h => hts w (List.mem_cons_of_mem _ h)⟩
  replace hl : lv_has ls 8 [(0, .ref y), (1, .ref a), (2, .int (zI x)), (3, .int (zI w)), (4, .ref f)] := hl
  have hf1 := hM.1
  refine lv_aload_n hx hb dX9_merge_0 rfl (lv_at hl 1 rfl) ?_
  refine lv_aload hx hb dX9_merge_1 (lv_at hl 4 rfl) ?_
  refine lv_sipush (v := zI 200) hx hb dX9_merge_3 (by decide) ?_
  refine r_callZv (As := [.ref a, .ref f, .int (zI 200)]) (rest := []) (wr := [(y, .inr (9, [.int (zI (i 0)), .ref (q 0), .int (zI (i 1)), .int (zI (i 2)), .int (zI (i 3)), .int (zI (i 4)), .int (zI (i 5)), .int (zI (i 6)), .int (zI (i 7)), .int (zI (i 8)), .int (zI (i 9)), .int (zI (i 10)), .ref (q 1), .int (zI (i 11)), .int (zI (i 12)), .ref (q 2), .ref (q 3), .ref (q 4), .ref (q 5), .ref (q 6), .ref (q 7), .ref (q 8), .ref (q 9), .ref (q 10), .ref (q 11), .ref (q 12), .ref (q 13), .ref (q 14), .ref (q 15), .ref (q 16), .int (zI (i 13)), .int (zI (i 14)), .int (zI (i 15)), .int (zI (i 16)), .int (zI (i 17)), .int (zI (i 18)), .ref (q 17), .ref (q 18), .ref (q 19), .ref (q 20)]))]) F hK hP hD hS hA hO hE (c_X9_copy200 hO a g_p f g_q 200 (by omega) (by omega)) k_1414 ks_X9_copy 3 rfl (by decide +kernel) ⟨Nat.le_of_ble_eq_true rfl, Nat.le_of_ble_eq_true rfl⟩ [1, 2] [0] rfl rfl (by decide) (by decide) (by decide) hl.1 rfl (Nat.le_of_ble_eq_true rfl) dX9_merge_6 ⟨Nat.le_of_ble_eq_true rfl, Nat.le_of_ble_eq_true rfl⟩ (w1 := fun u2 => [(y, .inr (9, [.int (zI (i 0)), .ref (q 0), .int (zI (i 1)), .int (zI (i 2)), .int (zI (i 3)), .int (zI (i 4)), .int (zI (i 5)), .int (zI (i 6)), .int (zI (i 7)), .int (zI (i 8)), .int (zI (i 9)), .int (zI (i 10)), .ref (q 1), .int (zI (i 11)), .int (zI (i 12)), .ref (q 2), .ref (q 3), .ref (q 4), .ref (q 5), .ref (q 6), .ref (q 7), .ref (q 8), .ref (q 9), .ref (q 10), .ref (q 11), .ref (q 12), .ref (q 13), .ref (q 14), .ref (q 15), .ref (q 16), .int (zI (i 13)), .int (zI (i 14)), .int (zI (i 15)), .int (zI (i 16)), .int (zI (i 17)), .int (zI (i 18)), .ref (q 17), .ref (q 18), .ref (q 19), .ref (q 20)])), (a, .inl (cI, 200, .inl (fun k => zI (g_p k)))), (f, .inl (cI, 200, .inl (fun k => zI (((u2 1).2 0) k))))]) (fun _ => rfl) (fun  u2 H locs hp3 hP hD hS => ?_)
  refine lv_iconst (v := zI 0) hx hb dX9_merge_9 rfl ?_
  refine lv_istore (lv' := [(5, .int (zI 0)), (0, .ref y), (1, .ref a), (2, .int (zI x)), (3, .int (zI w)), (4, .ref f)]) hx hb dX9_merge_10 hl (by decide) rfl (fun ls hl => ?_)
  refine W.widen (k := 0) (n := 0) (Nat.le_of_ble_eq_true rfl) (Nat.le_of_ble_eq_true rfl) ?_
  refine (?_ : ∀ (n9_1 : Nat) (v5 : Int) (gz9 : Nat → Int) (H : Heap) (locs : List Loc), (0 ≤ v5 ∧ v5 ≤ 20) → (20 - v5 : Int).toNat < n9_1 → (∀ k : Nat, k < 200 → gz9 k = if 20 * w ≤ (k : Int) ∧ (k : Int) < 20 * w + v5 then 0 else g_p k) → va_P G vwCl [(y, .inr (9, [.int (zI (i 0)), .ref (q 0), .int (zI (i 1)), .int (zI (i 2)), .int (zI (i 3)), .int (zI (i 4)), .int (zI (i 5)), .int (zI (i 6)), .int (zI (i 7)), .int (zI (i 8)), .int (zI (i 9)), .int (zI (i 10)), .ref (q 1), .int (zI (i 11)), .int (zI (i 12)), .ref (q 2), .ref (q 3), .ref (q 4), .ref (q 5), .ref (q 6), .ref (q 7), .ref (q 8), .ref (q 9), .ref (q 10), .ref (q 11), .ref (q 12), .ref (q 13), .ref (q 14), .ref (q 15), .ref (q 16), .int (zI (i 13)), .int (zI (i 14)), .int (zI (i 15)), .int (zI (i 16)), .int (zI (i 17)), .int (zI (i 18)), .ref (q 17), .ref (q 18), .ref (q 19), .ref (q 20)])), (a, .inl (cI, 200, .inl (fun k => zI (g_p k)))), (f, .inl (cI, 200, .inl (fun k => zI (gz9 k))))] H → va_D A [(y, .inr (9, [.int (zI (i 0)), .ref (q 0), .int (zI (i 1)), .int (zI (i 2)), .int (zI (i 3)), .int (zI (i 4)), .int (zI (i 5)), .int (zI (i 6)), .int (zI (i 7)), .int (zI (i 8)), .int (zI (i 9)), .int (zI (i 10)), .ref (q 1), .int (zI (i 11)), .int (zI (i 12)), .ref (q 2), .ref (q 3), .ref (q 4), .ref (q 5), .ref (q 6), .ref (q 7), .ref (q 8), .ref (q 9), .ref (q 10), .ref (q 11), .ref (q 12), .ref (q 13), .ref (q 14), .ref (q 15), .ref (q 16), .int (zI (i 13)), .int (zI (i 14)), .int (zI (i 15)), .int (zI (i 16)), .int (zI (i 17)), .int (zI (i 18)), .ref (q 17), .ref (q 18), .ref (q 19), .ref (q 20)])), (a, .inl (cI, 200, .inl (fun k => zI (g_p k)))), (f, .inl (cI, 200, .inl (fun k => zI (gz9 k))))] → va_S A s.heap H locs → ∀ ls : Array Slot, lv_has ls 8 [(5, .int (zI v5)), (0, .ref y), (1, .ref a), (2, .int (zI x)), (3, .int (zI w)), (4, .ref f)] → W p l e rm_X9_merge s m ([.ref y, .ref a, .int (zI x), .int (zI w), .ref f] : List Value).toArray below meth c H locs 0 0 Q (F0 m 12 ls [])) ((20 - 0 : Int).toNat + 1) 0 ((u2 1).2 0) _ _ (by omega) (by omega) (fun k hk => by rw [if_neg (by omega)]; exact hp3 k (by omega)) hP hD hS ls hl
  clear hP hD hS hl ls
  intro n9_1
  induction n9_1 with
  | zero =>
    intro v5 gz9 H locs hI hM
    exact absurd hM (by omega)
  | succ n9_1 ih1 =>
    intro v5 gz9 H locs hI1 hM1 hz9 hP hD hS ls hl
    refine lv_iload hx hb dX9_merge_12 (lv_at hl 0 rfl) ?_
    refine lv_bipush (v := zI 20) hx hb dX9_merge_14 (by decide) ?_
    refine rz_icmp_ge (tgt := 36) F (by omega) (by omega) dX9_merge_16 (by decide) (fun h16_3 => ?_) (fun h16_3 => ?_)
    · refine lv_aload_n hx hb dX9_merge_36 rfl (lv_at hl 2 rfl) ?_
      refine lv_bipush (v := zI 20) hx hb dX9_merge_37 (by decide) ?_
      have hqp0 : ProgOk gz9 := ProgOk.cleared hp (by omega) (fun k hk => by rw [hz9 k hk, show v5 = 20 by omega])
      have hmt0 : MT g_p gz9 w := MT.of (fun k hk => by rw [hz9 k hk, show v5 = 20 by omega])
      refine lv_iload_n hx hb dX9_merge_39 rfl (lv_at hl 3 rfl) ?_
      refine r_imul (v := zI (20 * x)) F dX9_merge_40 (zI_mul _ _) ?_
      refine lv_bipush (v := zI 14) hx hb dX9_merge_41 (by decide) ?_
      refine r_iadd (v := zI ((20 * x) + 14)) F dX9_merge_43 (zI_add _ _) ?_
      refine rz_iald F hK hP 1 0 rfl rfl (by omega) (by omega) dX9_merge_44 ?_
      refine rz_top (fun z5 h_z5 => ?_)
      refine rz_if_le (tgt := 82) F (by omega) dX9_merge_45 (by decide) (fun h45_5 => ?_) (fun h45_5 => ?_)
      · refine lv_aload_n hx hb dX9_merge_82 rfl (lv_at hl 2 rfl) ?_
        refine lv_bipush (v := zI 20) hx hb dX9_merge_83 (by decide) ?_
        refine lv_iload_n hx hb dX9_merge_85 rfl (lv_at hl 3 rfl) ?_
        refine r_imul (v := zI (20 * x)) F dX9_merge_86 (zI_mul _ _) ?_
        refine lv_bipush (v := zI 14) hx hb dX9_merge_87 (by decide) ?_
        refine r_iadd (v := zI ((20 * x) + 14)) F dX9_merge_89 (zI_add _ _) ?_
        refine rz_iald F hK hP 1 0 rfl rfl (by omega) (by omega) dX9_merge_90 ?_
        refine rz_top (fun z7 h_z7 => ?_)
        refine lv_iconst (v := zI 2) hx hb dX9_merge_91 rfl ?_
        refine rz_icmp_ne (tgt := 129) F (by omega) (by omega) dX9_merge_92 (by decide) (fun h92_7 => ?_) (fun h92_7 => ?_)
        · refine lv_iconst (v := zI 0) hx hb dX9_merge_129 rfl ?_
          refine lv_istore (lv' := [(5, .int (zI 0)), (0, .ref y), (1, .ref a), (2, .int (zI x)), (3, .int (zI w)), (4, .ref f)]) hx hb dX9_merge_130 hl (by decide) rfl (fun ls hl => ?_)
          refine W.widen (k := 0) (n := 0) (Nat.le_of_ble_eq_true rfl) (Nat.le_of_ble_eq_true rfl) ?_
          refine (?_ : ∀ (n9_2 : Nat) (v5 : Int) (gq1 : Nat → Int) (H : Heap) (locs : List Loc), (0 ≤ v5 ∧ v5 ≤ 10) → (10 - v5 : Int).toNat < n9_2 → (ProgOk gq1) → (MT g_p gq1 w) → va_P G vwCl [(y, .inr (9, [.int (zI (i 0)), .ref (q 0), .int (zI (i 1)), .int (zI (i 2)), .int (zI (i 3)), .int (zI (i 4)), .int (zI (i 5)), .int (zI (i 6)), .int (zI (i 7)), .int (zI (i 8)), .int (zI (i 9)), .int (zI (i 10)), .ref (q 1), .int (zI (i 11)), .int (zI (i 12)), .ref (q 2), .ref (q 3), .ref (q 4), .ref (q 5), .ref (q 6), .ref (q 7), .ref (q 8), .ref (q 9), .ref (q 10), .ref (q 11), .ref (q 12), .ref (q 13), .ref (q 14), .ref (q 15), .ref (q 16), .int (zI (i 13)), .int (zI (i 14)), .int (zI (i 15)), .int (zI (i 16)), .int (zI (i 17)), .int (zI (i 18)), .ref (q 17), .ref (q 18), .ref (q 19), .ref (q 20)])), (a, .inl (cI, 200, .inl (fun k => zI (g_p k)))), (f, .inl (cI, 200, .inl (fun k => zI (gq1 k))))] H → va_D A [(y, .inr (9, [.int (zI (i 0)), .ref (q 0), .int (zI (i 1)), .int (zI (i 2)), .int (zI (i 3)), .int (zI (i 4)), .int (zI (i 5)), .int (zI (i 6)), .int (zI (i 7)), .int (zI (i 8)), .int (zI (i 9)), .int (zI (i 10)), .ref (q 1), .int (zI (i 11)), .int (zI (i 12)), .ref (q 2), .ref (q 3), .ref (q 4), .ref (q 5), .ref (q 6), .ref (q 7), .ref (q 8), .ref (q 9), .ref (q 10), .ref (q 11), .ref (q 12), .ref (q 13), .ref (q 14), .ref (q 15), .ref (q 16), .int (zI (i 13)), .int (zI (i 14)), .int (zI (i 15)), .int (zI (i 16)), .int (zI (i 17)), .int (zI (i 18)), .ref (q 17), .ref (q 18), .ref (q 19), .ref (q 20)])), (a, .inl (cI, 200, .inl (fun k => zI (g_p k)))), (f, .inl (cI, 200, .inl (fun k => zI (gq1 k))))] → va_S A s.heap H locs → ∀ ls : Array Slot, lv_has ls 8 [(5, .int (zI v5)), (0, .ref y), (1, .ref a), (2, .int (zI x)), (3, .int (zI w)), (4, .ref f)] → W p l e rm_X9_merge s m ([.ref y, .ref a, .int (zI x), .int (zI w), .ref f] : List Value).toArray below meth c H locs 0 0 Q (F0 m 132 ls [])) ((10 - 0 : Int).toNat + 1) 0 gz9 _ _ (by omega) (by omega) hqp0 hmt0 hP hD hS ls hl
          clear hP hD hS hl ls
          intro n9_2
          induction n9_2 with
          | zero =>
            intro v5 gq1 H locs hI hM
            exact absurd hM (by omega)
          | succ n9_2 ih2 =>
            intro v5 gq1 H locs hI2 hM2 hqp1 hmt1 hP hD hS ls hl
            refine lv_iload hx hb dX9_merge_132 (lv_at hl 0 rfl) ?_
            refine lv_aload_n hx hb dX9_merge_134 rfl (lv_at hl 1 rfl) ?_
            refine r_get F hK hP 0 30 rfl rfl in_X9 (by decide) k_1193 rfl dX9_merge_135 ?_
            refine rz_icmp_ge (tgt := 302) F (by omega) (by omega) dX9_merge_138 (by decide) (fun h138_8 => ?_) (fun h138_8 => ?_)
            · exact ret (fun k => [((fun _ => 0), fun _ _ => 0), (fun _ => 0, fun _ => gq1)].getD k (fun _ => 0, fun _ _ => 0)) _ _ _ _ _ _ ⟨hqp1, hmt1⟩ (bw_subP (isC := [0, 1, 2]) hP rfl) (hD.sub [0, 1, 2] (by decide) rfl) hS (Nat.le_of_ble_eq_true rfl) (Nat.le_of_ble_eq_true rfl) dX9_merge_302
            · refine lv_bipush (v := zI 20) hx hb dX9_merge_141 (by decide) ?_
              refine lv_iload hx hb dX9_merge_143 (lv_at hl 0 rfl) ?_
              refine r_imul (v := zI (20 * v5)) F dX9_merge_145 (zI_mul _ _) ?_
              refine lv_istore (lv' := [(6, .int (zI (20 * v5))), (5, .int (zI v5)), (0, .ref y), (1, .ref a), (2, .int (zI x)), (3, .int (zI w)), (4, .ref f)]) hx hb dX9_merge_146 hl (by decide) rfl (fun ls hl => ?_)
              refine lv_aload hx hb dX9_merge_148 (lv_at hl 6 rfl) ?_
              refine lv_iload hx hb dX9_merge_150 (lv_at hl 0 rfl) ?_
              refine lv_iconst (v := zI 0) hx hb dX9_merge_152 rfl ?_
              refine r_iadd (v := zI ((20 * v5) + 0)) F dX9_merge_153 (zI_add _ _) ?_
              refine rz_iald F hK hP 2 0 rfl rfl (by omega) (by omega) dX9_merge_154 ?_
              refine rz_top (fun z10 h_z10 => ?_)
              refine rz_if_ne (tgt := 161) F (by omega) dX9_merge_155 (by decide) (fun h155_10 => ?_) (fun h155_10 => ?_)
              · refine lv_aload hx hb dX9_merge_161 (lv_at hl 6 rfl) ?_
                refine lv_iload hx hb dX9_merge_163 (lv_at hl 0 rfl) ?_
                refine lv_bipush (v := zI 14) hx hb dX9_merge_165 (by decide) ?_
                refine r_iadd (v := zI ((20 * v5) + 14)) F dX9_merge_167 (zI_add _ _) ?_
                refine rz_iald F hK hP 2 0 rfl rfl (by omega) (by omega) dX9_merge_168 ?_
                refine rz_top (fun z12 h_z12 => ?_)
                refine rz_if_le (tgt := 193) F (by omega) dX9_merge_169 (by decide) (fun h169_12 => ?_) (fun h169_12 => ?_)
                · refine lv_aload hx hb dX9_merge_193 (lv_at hl 6 rfl) ?_
                  refine lv_iload hx hb dX9_merge_195 (lv_at hl 0 rfl) ?_
                  refine lv_bipush (v := zI 14) hx hb dX9_merge_197 (by decide) ?_
                  refine r_iadd (v := zI ((20 * v5) + 14)) F dX9_merge_199 (zI_add _ _) ?_
                  refine rz_iald F hK hP 2 0 rfl rfl (by omega) (by omega) dX9_merge_200 ?_
                  refine rz_top (fun z14 h_z14 => ?_)
                  refine lv_iconst (v := zI 2) hx hb dX9_merge_201 rfl ?_
                  refine rz_icmp_ne (tgt := 226) F (by omega) (by omega) dX9_merge_202 (by decide) (fun h202_14 => ?_) (fun h202_14 => ?_)
                  · refine lv_iconst (v := zI 0) hx hb dX9_merge_226 rfl ?_
                    refine lv_istore (lv' := [(7, .int (zI 0)), (6, .int (zI (20 * v5))), (5, .int (zI v5)), (0, .ref y), (1, .ref a), (2, .int (zI x)), (3, .int (zI w)), (4, .ref f)]) hx hb dX9_merge_227 hl (by decide) rfl (fun ls hl => ?_)
                    refine W.widen (k := 0) (n := 0) (Nat.le_of_ble_eq_true rfl) (Nat.le_of_ble_eq_true rfl) ?_
                    refine (?_ : ∀ (n9_3 : Nat) (v7 : Int) (gq2 : Nat → Int) (H : Heap) (locs : List Loc), (0 ≤ v7 ∧ v7 ≤ 4) → (4 - v7 : Int).toNat < n9_3 → (ProgOk gq2) → (MT g_p gq2 w) → va_P G vwCl [(y, .inr (9, [.int (zI (i 0)), .ref (q 0), .int (zI (i 1)), .int (zI (i 2)), .int (zI (i 3)), .int (zI (i 4)), .int (zI (i 5)), .int (zI (i 6)), .int (zI (i 7)), .int (zI (i 8)), .int (zI (i 9)), .int (zI (i 10)), .ref (q 1), .int (zI (i 11)), .int (zI (i 12)), .ref (q 2), .ref (q 3), .ref (q 4), .ref (q 5), .ref (q 6), .ref (q 7), .ref (q 8), .ref (q 9), .ref (q 10), .ref (q 11), .ref (q 12), .ref (q 13), .ref (q 14), .ref (q 15), .ref (q 16), .int (zI (i 13)), .int (zI (i 14)), .int (zI (i 15)), .int (zI (i 16)), .int (zI (i 17)), .int (zI (i 18)), .ref (q 17), .ref (q 18), .ref (q 19), .ref (q 20)])), (a, .inl (cI, 200, .inl (fun k => zI (g_p k)))), (f, .inl (cI, 200, .inl (fun k => zI (gq2 k))))] H → va_D A [(y, .inr (9, [.int (zI (i 0)), .ref (q 0), .int (zI (i 1)), .int (zI (i 2)), .int (zI (i 3)), .int (zI (i 4)), .int (zI (i 5)), .int (zI (i 6)), .int (zI (i 7)), .int (zI (i 8)), .int (zI (i 9)), .int (zI (i 10)), .ref (q 1), .int (zI (i 11)), .int (zI (i 12)), .ref (q 2), .ref (q 3), .ref (q 4), .ref (q 5), .ref (q 6), .ref (q 7), .ref (q 8), .ref (q 9), .ref (q 10), .ref (q 11), .ref (q 12), .ref (q 13), .ref (q 14), .ref (q 15), .ref (q 16), .int (zI (i 13)), .int (zI (i 14)), .int (zI (i 15)), .int (zI (i 16)), .int (zI (i 17)), .int (zI (i 18)), .ref (q 17), .ref (q 18), .ref (q 19), .ref (q 20)])), (a, .inl (cI, 200, .inl (fun k => zI (g_p k)))), (f, .inl (cI, 200, .inl (fun k => zI (gq2 k))))] → va_S A s.heap H locs → ∀ ls : Array Slot, lv_has ls 8 [(7, .int (zI v7)), (6, .int (zI (20 * v5))), (5, .int (zI v5)), (0, .ref y), (1, .ref a), (2, .int (zI x)), (3, .int (zI w)), (4, .ref f)] → W p l e rm_X9_merge s m ([.ref y, .ref a, .int (zI x), .int (zI w), .ref f] : List Value).toArray below meth c H locs 0 0 Q (F0 m 229 ls [])) ((4 - 0 : Int).toNat + 1) 0 gq1 _ _ (by omega) (by omega) hqp1 hmt1 hP hD hS ls hl
                    clear hP hD hS hl ls
                    intro n9_3
                    induction n9_3 with
                    | zero =>
                      intro v7 gq2 H locs hI hM
                      exact absurd hM (by omega)
                    | succ n9_3 ih3 =>
                      intro v7 gq2 H locs hI3 hM3 hqp2 hmt2 hP hD hS ls hl
                      refine lv_iload hx hb dX9_merge_229 (lv_at hl 0 rfl) ?_
                      refine lv_aload hx hb dX9_merge_231 (lv_at hl 7 rfl) ?_
                      refine lv_iload hx hb dX9_merge_233 (lv_at hl 1 rfl) ?_
                      refine lv_iconst (v := zI 1) hx hb dX9_merge_235 rfl ?_
                      refine r_iadd (v := zI ((20 * v5) + 1)) F dX9_merge_236 (zI_add _ _) ?_
                      refine rz_iald F hK hP 2 0 rfl rfl (by omega) (by omega) dX9_merge_237 ?_
                      have hpl16 : 0 ≤ (gq2 (((20 * v5) + 1)).toNat) ∧ (gq2 (((20 * v5) + 1)).toNat) ≤ 4 := ProgR.at hqp2.1 (e := ((20 * v5) + 1)) v5 1 (by omega) (by omega) (by decide) rfl
                      refine rz_icmp_ge (tgt := 296) F (by omega) (by omega) dX9_merge_238 (by decide) (fun h238_16 => ?_) (fun h238_16 => ?_)
                      · refine lv_iinc (v := zI (v5 + 1)) (lv' := [(5, .int (zI (v5 + 1))), (7, .int (zI v7)), (6, .int (zI (20 * v5))), (0, .ref y), (1, .ref a), (2, .int (zI x)), (3, .int (zI w)), (4, .ref f)]) hx hb dX9_merge_296 hl (k := 2) rfl (zI_add _ _) (by decide) rfl (fun ls hl => ?_)
                        refine lv_goto (tgt := 132) hx hb dX9_merge_299 (by decide) ?_
                        exact ih2 (v5 + 1) gq2 _ _ (by omega) (by omega) hqp2 hmt2 hP hD hS ls (lv_sub hl [0, 3, 4, 5, 6, 7] rfl)
                      · refine lv_aload hx hb dX9_merge_241 (lv_at hl 7 rfl) ?_
                        refine lv_iload hx hb dX9_merge_243 (lv_at hl 1 rfl) ?_
                        refine lv_iconst (v := zI 2) hx hb dX9_merge_245 rfl ?_
                        refine r_iadd (v := zI ((20 * v5) + 2)) F dX9_merge_246 (zI_add _ _) ?_
                        refine lv_iconst (v := zI 3) hx hb dX9_merge_247 rfl ?_
                        refine lv_iload hx hb dX9_merge_248 (lv_at hl 0 rfl) ?_
                        refine r_imul (v := zI (3 * v7)) F dX9_merge_250 (zI_mul _ _) ?_
                        refine r_iadd (v := zI (((20 * v5) + 2) + (3 * v7))) F dX9_merge_251 (zI_add _ _) ?_
                        refine rz_iald F hK hP 2 0 rfl rfl (by omega) (by omega) dX9_merge_252 ?_
                        have hc18 := ProgOk.act hqp2 (i := v5) (n := v7) (k := (((20 * v5) + 2) + (3 * v7))) (by omega) (by omega) (by omega)
                        refine lv_iconst (v := zI 3) hx hb dX9_merge_253 rfl ?_
                        refine rz_icmp_ne (tgt := 290) F (by omega) (by omega) dX9_merge_254 (by decide) (fun h254_18 => ?_) (fun h254_18 => ?_)
                        · refine lv_iinc (v := zI (v7 + 1)) (lv' := [(7, .int (zI (v7 + 1))), (6, .int (zI (20 * v5))), (5, .int (zI v5)), (0, .ref y), (1, .ref a), (2, .int (zI x)), (3, .int (zI w)), (4, .ref f)]) hx hb dX9_merge_290 hl (k := 0) rfl (zI_add _ _) (by decide) rfl (fun ls hl => ?_)
                          refine lv_goto (tgt := 229) hx hb dX9_merge_293 (by decide) ?_
                          exact ih3 (v7 + 1) gq2 _ _ (by omega) (by omega) hqp2 hmt2 hP hD hS ls (lv_sub hl [0, 1, 2, 3, 4, 5, 6, 7] rfl)
                        · refine lv_aload hx hb dX9_merge_257 (lv_at hl 7 rfl) ?_
                          refine lv_iload hx hb dX9_merge_259 (lv_at hl 1 rfl) ?_
                          refine lv_iconst (v := zI 2) hx hb dX9_merge_261 rfl ?_
                          refine r_iadd (v := zI ((20 * v5) + 2)) F dX9_merge_262 (zI_add _ _) ?_
                          refine lv_iconst (v := zI 3) hx hb dX9_merge_263 rfl ?_
                          refine lv_iload hx hb dX9_merge_264 (lv_at hl 0 rfl) ?_
                          refine r_imul (v := zI (3 * v7)) F dX9_merge_266 (zI_mul _ _) ?_
                          refine r_iadd (v := zI (((20 * v5) + 2) + (3 * v7))) F dX9_merge_267 (zI_add _ _) ?_
                          refine lv_iconst (v := zI 1) hx hb dX9_merge_268 rfl ?_
                          refine r_iadd (v := zI ((((20 * v5) + 2) + (3 * v7)) + 1)) F dX9_merge_269 (zI_add _ _) ?_
                          refine rz_iald F hK hP 2 0 rfl rfl (by omega) (by omega) dX9_merge_270 ?_
                          refine rz_top (fun z20 h_z20 => ?_)
                          refine lv_iload_n hx hb dX9_merge_271 rfl (lv_at hl 6 rfl) ?_
                          refine rz_icmp_ne (tgt := 290) F (by omega) (by omega) dX9_merge_272 (by decide) (fun h272_20 => ?_) (fun h272_20 => ?_)
                          · refine lv_iinc (v := zI (v7 + 1)) (lv' := [(7, .int (zI (v7 + 1))), (6, .int (zI (20 * v5))), (5, .int (zI v5)), (0, .ref y), (1, .ref a), (2, .int (zI x)), (3, .int (zI w)), (4, .ref f)]) hx hb dX9_merge_290 hl (k := 0) rfl (zI_add _ _) (by decide) rfl (fun ls hl => ?_)
                            refine lv_goto (tgt := 229) hx hb dX9_merge_293 (by decide) ?_
                            exact ih3 (v7 + 1) gq2 _ _ (by omega) (by omega) hqp2 hmt2 hP hD hS ls (lv_sub hl [0, 1, 2, 3, 4, 5, 6, 7] rfl)
                          · refine lv_aload hx hb dX9_merge_275 (lv_at hl 7 rfl) ?_
                            refine lv_iload hx hb dX9_merge_277 (lv_at hl 1 rfl) ?_
                            refine lv_iconst (v := zI 2) hx hb dX9_merge_279 rfl ?_
                            refine r_iadd (v := zI ((20 * v5) + 2)) F dX9_merge_280 (zI_add _ _) ?_
                            refine lv_iconst (v := zI 3) hx hb dX9_merge_281 rfl ?_
                            refine lv_iload hx hb dX9_merge_282 (lv_at hl 0 rfl) ?_
                            refine r_imul (v := zI (3 * v7)) F dX9_merge_284 (zI_mul _ _) ?_
                            refine r_iadd (v := zI (((20 * v5) + 2) + (3 * v7))) F dX9_merge_285 (zI_add _ _) ?_
                            refine lv_iconst (v := zI 1) hx hb dX9_merge_286 rfl ?_
                            refine r_iadd (v := zI ((((20 * v5) + 2) + (3 * v7)) + 1)) F dX9_merge_287 (zI_add _ _) ?_
                            refine lv_iload_n hx hb dX9_merge_288 rfl (lv_at hl 5 rfl) ?_
                            refine rz_iastG F hK hP hD hS 2 0 rfl rfl (by omega) (by omega) dX9_merge_289 (w1 := fun g22 => [(y, .inr (9, [.int (zI (i 0)), .ref (q 0), .int (zI (i 1)), .int (zI (i 2)), .int (zI (i 3)), .int (zI (i 4)), .int (zI (i 5)), .int (zI (i 6)), .int (zI (i 7)), .int (zI (i 8)), .int (zI (i 9)), .int (zI (i 10)), .ref (q 1), .int (zI (i 11)), .int (zI (i 12)), .ref (q 2), .ref (q 3), .ref (q 4), .ref (q 5), .ref (q 6), .ref (q 7), .ref (q 8), .ref (q 9), .ref (q 10), .ref (q 11), .ref (q 12), .ref (q 13), .ref (q 14), .ref (q 15), .ref (q 16), .int (zI (i 13)), .int (zI (i 14)), .int (zI (i 15)), .int (zI (i 16)), .int (zI (i 17)), .int (zI (i 18)), .ref (q 17), .ref (q 18), .ref (q 19), .ref (q 20)])), (a, .inl (cI, 200, .inl (fun k => zI (g_p k)))), (f, .inl (cI, 200, .inl (fun k => zI (g22 k))))]) (fun _ => rfl) (fun g22 e_g22 H locs hP hD hS => ?_)
                            have hqp23 : ProgOk g22 := ProgOk.tgt3 hqp2 e_g22 (i := v5) (n := v7) (by omega) (by omega) (by omega) (by omega) (j := (((20 * v5) + 2) + (3 * v7)).toNat) (by omega) (by omega)
                            have hmt24 := MT.keepA hmt2 e_g22 (i := v5) (n := v7) (by omega) (by omega) (by omega)
                            refine lv_iinc (v := zI (v7 + 1)) (lv' := [(7, .int (zI (v7 + 1))), (6, .int (zI (20 * v5))), (5, .int (zI v5)), (0, .ref y), (1, .ref a), (2, .int (zI x)), (3, .int (zI w)), (4, .ref f)]) hx hb dX9_merge_290 hl (k := 0) rfl (zI_add _ _) (by decide) rfl (fun ls hl => ?_)
                            refine lv_goto (tgt := 229) hx hb dX9_merge_293 (by decide) ?_
                            exact ih3 (v7 + 1) g22 _ _ (by omega) (by omega) hqp23 hmt24 hP hD hS ls (lv_sub hl [0, 1, 2, 3, 4, 5, 6, 7] rfl)
                  · refine lv_aload hx hb dX9_merge_205 (lv_at hl 6 rfl) ?_
                    refine lv_iload hx hb dX9_merge_207 (lv_at hl 0 rfl) ?_
                    refine lv_bipush (v := zI 18) hx hb dX9_merge_209 (by decide) ?_
                    refine r_iadd (v := zI ((20 * v5) + 18)) F dX9_merge_211 (zI_add _ _) ?_
                    refine rz_iald F hK hP 2 0 rfl rfl (by omega) (by omega) dX9_merge_212 ?_
                    refine rz_top (fun z25 h_z25 => ?_)
                    refine lv_iload_n hx hb dX9_merge_213 rfl (lv_at hl 5 rfl) ?_
                    refine rz_icmp_ne (tgt := 226) F (by omega) (by omega) dX9_merge_214 (by decide) (fun h214_25 => ?_) (fun h214_25 => ?_)
                    · refine lv_iconst (v := zI 0) hx hb dX9_merge_226 rfl ?_
                      refine lv_istore (lv' := [(7, .int (zI 0)), (6, .int (zI (20 * v5))), (5, .int (zI v5)), (0, .ref y), (1, .ref a), (2, .int (zI x)), (3, .int (zI w)), (4, .ref f)]) hx hb dX9_merge_227 hl (by decide) rfl (fun ls hl => ?_)
                      refine W.widen (k := 0) (n := 0) (Nat.le_of_ble_eq_true rfl) (Nat.le_of_ble_eq_true rfl) ?_
                      refine (?_ : ∀ (n9_3 : Nat) (v7 : Int) (gq2 : Nat → Int) (H : Heap) (locs : List Loc), (0 ≤ v7 ∧ v7 ≤ 4) → (4 - v7 : Int).toNat < n9_3 → (ProgOk gq2) → (MT g_p gq2 w) → va_P G vwCl [(y, .inr (9, [.int (zI (i 0)), .ref (q 0), .int (zI (i 1)), .int (zI (i 2)), .int (zI (i 3)), .int (zI (i 4)), .int (zI (i 5)), .int (zI (i 6)), .int (zI (i 7)), .int (zI (i 8)), .int (zI (i 9)), .int (zI (i 10)), .ref (q 1), .int (zI (i 11)), .int (zI (i 12)), .ref (q 2), .ref (q 3), .ref (q 4), .ref (q 5), .ref (q 6), .ref (q 7), .ref (q 8), .ref (q 9), .ref (q 10), .ref (q 11), .ref (q 12), .ref (q 13), .ref (q 14), .ref (q 15), .ref (q 16), .int (zI (i 13)), .int (zI (i 14)), .int (zI (i 15)), .int (zI (i 16)), .int (zI (i 17)), .int (zI (i 18)), .ref (q 17), .ref (q 18), .ref (q 19), .ref (q 20)])), (a, .inl (cI, 200, .inl (fun k => zI (g_p k)))), (f, .inl (cI, 200, .inl (fun k => zI (gq2 k))))] H → va_D A [(y, .inr (9, [.int (zI (i 0)), .ref (q 0), .int (zI (i 1)), .int (zI (i 2)), .int (zI (i 3)), .int (zI (i 4)), .int (zI (i 5)), .int (zI (i 6)), .int (zI (i 7)), .int (zI (i 8)), .int (zI (i 9)), .int (zI (i 10)), .ref (q 1), .int (zI (i 11)), .int (zI (i 12)), .ref (q 2), .ref (q 3), .ref (q 4), .ref (q 5), .ref (q 6), .ref (q 7), .ref (q 8), .ref (q 9), .ref (q 10), .ref (q 11), .ref (q 12), .ref (q 13), .ref (q 14), .ref (q 15), .ref (q 16), .int (zI (i 13)), .int (zI (i 14)), .int (zI (i 15)), .int (zI (i 16)), .int (zI (i 17)), .int (zI (i 18)), .ref (q 17), .ref (q 18), .ref (q 19), .ref (q 20)])), (a, .inl (cI, 200, .inl (fun k => zI (g_p k)))), (f, .inl (cI, 200, .inl (fun k => zI (gq2 k))))] → va_S A s.heap H locs → ∀ ls : Array Slot, lv_has ls 8 [(7, .int (zI v7)), (6, .int (zI (20 * v5))), (5, .int (zI v5)), (0, .ref y), (1, .ref a), (2, .int (zI x)), (3, .int (zI w)), (4, .ref f)] → W p l e rm_X9_merge s m ([.ref y, .ref a, .int (zI x), .int (zI w), .ref f] : List Value).toArray below meth c H locs 0 0 Q (F0 m 229 ls [])) ((4 - 0 : Int).toNat + 1) 0 gq1 _ _ (by omega) (by omega) hqp1 hmt1 hP hD hS ls hl
                      clear hP hD hS hl ls
                      intro n9_3
                      induction n9_3 with
                      | zero =>
                        intro v7 gq2 H locs hI hM
                        exact absurd hM (by omega)
                      | succ n9_3 ih3 =>
                        intro v7 gq2 H locs hI3 hM3 hqp2 hmt2 hP hD hS ls hl
                        refine lv_iload hx hb dX9_merge_229 (lv_at hl 0 rfl) ?_
                        refine lv_aload hx hb dX9_merge_231 (lv_at hl 7 rfl) ?_
                        refine lv_iload hx hb dX9_merge_233 (lv_at hl 1 rfl) ?_
                        refine lv_iconst (v := zI 1) hx hb dX9_merge_235 rfl ?_
                        refine r_iadd (v := zI ((20 * v5) + 1)) F dX9_merge_236 (zI_add _ _) ?_
                        refine rz_iald F hK hP 2 0 rfl rfl (by omega) (by omega) dX9_merge_237 ?_
                        have hpl27 : 0 ≤ (gq2 (((20 * v5) + 1)).toNat) ∧ (gq2 (((20 * v5) + 1)).toNat) ≤ 4 := ProgR.at hqp2.1 (e := ((20 * v5) + 1)) v5 1 (by omega) (by omega) (by decide) rfl
                        refine rz_icmp_ge (tgt := 296) F (by omega) (by omega) dX9_merge_238 (by decide) (fun h238_27 => ?_) (fun h238_27 => ?_)
                        · refine lv_iinc (v := zI (v5 + 1)) (lv' := [(5, .int (zI (v5 + 1))), (7, .int (zI v7)), (6, .int (zI (20 * v5))), (0, .ref y), (1, .ref a), (2, .int (zI x)), (3, .int (zI w)), (4, .ref f)]) hx hb dX9_merge_296 hl (k := 2) rfl (zI_add _ _) (by decide) rfl (fun ls hl => ?_)
                          refine lv_goto (tgt := 132) hx hb dX9_merge_299 (by decide) ?_
                          exact ih2 (v5 + 1) gq2 _ _ (by omega) (by omega) hqp2 hmt2 hP hD hS ls (lv_sub hl [0, 3, 4, 5, 6, 7] rfl)
                        · refine lv_aload hx hb dX9_merge_241 (lv_at hl 7 rfl) ?_
                          refine lv_iload hx hb dX9_merge_243 (lv_at hl 1 rfl) ?_
                          refine lv_iconst (v := zI 2) hx hb dX9_merge_245 rfl ?_
                          refine r_iadd (v := zI ((20 * v5) + 2)) F dX9_merge_246 (zI_add _ _) ?_
                          refine lv_iconst (v := zI 3) hx hb dX9_merge_247 rfl ?_
                          refine lv_iload hx hb dX9_merge_248 (lv_at hl 0 rfl) ?_
                          refine r_imul (v := zI (3 * v7)) F dX9_merge_250 (zI_mul _ _) ?_
                          refine r_iadd (v := zI (((20 * v5) + 2) + (3 * v7))) F dX9_merge_251 (zI_add _ _) ?_
                          refine rz_iald F hK hP 2 0 rfl rfl (by omega) (by omega) dX9_merge_252 ?_
                          have hc29 := ProgOk.act hqp2 (i := v5) (n := v7) (k := (((20 * v5) + 2) + (3 * v7))) (by omega) (by omega) (by omega)
                          refine lv_iconst (v := zI 3) hx hb dX9_merge_253 rfl ?_
                          refine rz_icmp_ne (tgt := 290) F (by omega) (by omega) dX9_merge_254 (by decide) (fun h254_29 => ?_) (fun h254_29 => ?_)
                          · refine lv_iinc (v := zI (v7 + 1)) (lv' := [(7, .int (zI (v7 + 1))), (6, .int (zI (20 * v5))), (5, .int (zI v5)), (0, .ref y), (1, .ref a), (2, .int (zI x)), (3, .int (zI w)), (4, .ref f)]) hx hb dX9_merge_290 hl (k := 0) rfl (zI_add _ _) (by decide) rfl (fun ls hl => ?_)
                            refine lv_goto (tgt := 229) hx hb dX9_merge_293 (by decide) ?_
                            exact ih3 (v7 + 1) gq2 _ _ (by omega) (by omega) hqp2 hmt2 hP hD hS ls (lv_sub hl [0, 1, 2, 3, 4, 5, 6, 7] rfl)
                          · refine lv_aload hx hb dX9_merge_257 (lv_at hl 7 rfl) ?_
                            refine lv_iload hx hb dX9_merge_259 (lv_at hl 1 rfl) ?_
                            refine lv_iconst (v := zI 2) hx hb dX9_merge_261 rfl ?_
                            refine r_iadd (v := zI ((20 * v5) + 2)) F dX9_merge_262 (zI_add _ _) ?_
                            refine lv_iconst (v := zI 3) hx hb dX9_merge_263 rfl ?_
                            refine lv_iload hx hb dX9_merge_264 (lv_at hl 0 rfl) ?_
                            refine r_imul (v := zI (3 * v7)) F dX9_merge_266 (zI_mul _ _) ?_
                            refine r_iadd (v := zI (((20 * v5) + 2) + (3 * v7))) F dX9_merge_267 (zI_add _ _) ?_
                            refine lv_iconst (v := zI 1) hx hb dX9_merge_268 rfl ?_
                            refine r_iadd (v := zI ((((20 * v5) + 2) + (3 * v7)) + 1)) F dX9_merge_269 (zI_add _ _) ?_
                            refine rz_iald F hK hP 2 0 rfl rfl (by omega) (by omega) dX9_merge_270 ?_
                            refine rz_top (fun z31 h_z31 => ?_)
                            refine lv_iload_n hx hb dX9_merge_271 rfl (lv_at hl 6 rfl) ?_
                            refine rz_icmp_ne (tgt := 290) F (by omega) (by omega) dX9_merge_272 (by decide) (fun h272_31 => ?_) (fun h272_31 => ?_)
                            · refine lv_iinc (v := zI (v7 + 1)) (lv' := [(7, .int (zI (v7 + 1))), (6, .int (zI (20 * v5))), (5, .int (zI v5)), (0, .ref y), (1, .ref a), (2, .int (zI x)), (3, .int (zI w)), (4, .ref f)]) hx hb dX9_merge_290 hl (k := 0) rfl (zI_add _ _) (by decide) rfl (fun ls hl => ?_)
                              refine lv_goto (tgt := 229) hx hb dX9_merge_293 (by decide) ?_
                              exact ih3 (v7 + 1) gq2 _ _ (by omega) (by omega) hqp2 hmt2 hP hD hS ls (lv_sub hl [0, 1, 2, 3, 4, 5, 6, 7] rfl)
                            · refine lv_aload hx hb dX9_merge_275 (lv_at hl 7 rfl) ?_
                              refine lv_iload hx hb dX9_merge_277 (lv_at hl 1 rfl) ?_
                              refine lv_iconst (v := zI 2) hx hb dX9_merge_279 rfl ?_
                              refine r_iadd (v := zI ((20 * v5) + 2)) F dX9_merge_280 (zI_add _ _) ?_
                              refine lv_iconst (v := zI 3) hx hb dX9_merge_281 rfl ?_
                              refine lv_iload hx hb dX9_merge_282 (lv_at hl 0 rfl) ?_
                              refine r_imul (v := zI (3 * v7)) F dX9_merge_284 (zI_mul _ _) ?_
                              refine r_iadd (v := zI (((20 * v5) + 2) + (3 * v7))) F dX9_merge_285 (zI_add _ _) ?_
                              refine lv_iconst (v := zI 1) hx hb dX9_merge_286 rfl ?_
                              refine r_iadd (v := zI ((((20 * v5) + 2) + (3 * v7)) + 1)) F dX9_merge_287 (zI_add _ _) ?_
                              refine lv_iload_n hx hb dX9_merge_288 rfl (lv_at hl 5 rfl) ?_
                              refine rz_iastG F hK hP hD hS 2 0 rfl rfl (by omega) (by omega) dX9_merge_289 (w1 := fun g33 => [(y, .inr (9, [.int (zI (i 0)), .ref (q 0), .int (zI (i 1)), .int (zI (i 2)), .int (zI (i 3)), .int (zI (i 4)), .int (zI (i 5)), .int (zI (i 6)), .int (zI (i 7)), .int (zI (i 8)), .int (zI (i 9)), .int (zI (i 10)), .ref (q 1), .int (zI (i 11)), .int (zI (i 12)), .ref (q 2), .ref (q 3), .ref (q 4), .ref (q 5), .ref (q 6), .ref (q 7), .ref (q 8), .ref (q 9), .ref (q 10), .ref (q 11), .ref (q 12), .ref (q 13), .ref (q 14), .ref (q 15), .ref (q 16), .int (zI (i 13)), .int (zI (i 14)), .int (zI (i 15)), .int (zI (i 16)), .int (zI (i 17)), .int (zI (i 18)), .ref (q 17), .ref (q 18), .ref (q 19), .ref (q 20)])), (a, .inl (cI, 200, .inl (fun k => zI (g_p k)))), (f, .inl (cI, 200, .inl (fun k => zI (g33 k))))]) (fun _ => rfl) (fun g33 e_g33 H locs hP hD hS => ?_)
                              have hqp34 : ProgOk g33 := ProgOk.tgt3 hqp2 e_g33 (i := v5) (n := v7) (by omega) (by omega) (by omega) (by omega) (j := (((20 * v5) + 2) + (3 * v7)).toNat) (by omega) (by omega)
                              have hmt35 := MT.keepA hmt2 e_g33 (i := v5) (n := v7) (by omega) (by omega) (by omega)
                              refine lv_iinc (v := zI (v7 + 1)) (lv' := [(7, .int (zI (v7 + 1))), (6, .int (zI (20 * v5))), (5, .int (zI v5)), (0, .ref y), (1, .ref a), (2, .int (zI x)), (3, .int (zI w)), (4, .ref f)]) hx hb dX9_merge_290 hl (k := 0) rfl (zI_add _ _) (by decide) rfl (fun ls hl => ?_)
                              refine lv_goto (tgt := 229) hx hb dX9_merge_293 (by decide) ?_
                              exact ih3 (v7 + 1) g33 _ _ (by omega) (by omega) hqp34 hmt35 hP hD hS ls (lv_sub hl [0, 1, 2, 3, 4, 5, 6, 7] rfl)
                    · refine lv_aload hx hb dX9_merge_217 (lv_at hl 6 rfl) ?_
                      refine lv_iload hx hb dX9_merge_219 (lv_at hl 0 rfl) ?_
                      refine lv_bipush (v := zI 18) hx hb dX9_merge_221 (by decide) ?_
                      refine r_iadd (v := zI ((20 * v5) + 18)) F dX9_merge_223 (zI_add _ _) ?_
                      refine lv_iload_n hx hb dX9_merge_224 rfl (lv_at hl 4 rfl) ?_
                      refine rz_iastG F hK hP hD hS 2 0 rfl rfl (by omega) (by omega) dX9_merge_225 (w1 := fun g36 => [(y, .inr (9, [.int (zI (i 0)), .ref (q 0), .int (zI (i 1)), .int (zI (i 2)), .int (zI (i 3)), .int (zI (i 4)), .int (zI (i 5)), .int (zI (i 6)), .int (zI (i 7)), .int (zI (i 8)), .int (zI (i 9)), .int (zI (i 10)), .ref (q 1), .int (zI (i 11)), .int (zI (i 12)), .ref (q 2), .ref (q 3), .ref (q 4), .ref (q 5), .ref (q 6), .ref (q 7), .ref (q 8), .ref (q 9), .ref (q 10), .ref (q 11), .ref (q 12), .ref (q 13), .ref (q 14), .ref (q 15), .ref (q 16), .int (zI (i 13)), .int (zI (i 14)), .int (zI (i 15)), .int (zI (i 16)), .int (zI (i 17)), .int (zI (i 18)), .ref (q 17), .ref (q 18), .ref (q 19), .ref (q 20)])), (a, .inl (cI, 200, .inl (fun k => zI (g_p k)))), (f, .inl (cI, 200, .inl (fun k => zI (g36 k))))]) (fun _ => rfl) (fun g36 e_g36 H locs hP hD hS => ?_)
                      have hqp37 : ProgOk g36 := ⟨hqp1.1.set (m := 9) e_g36 18 (by omega) rfl (by omega), hqp1.2.set e_g36 (by omega)⟩
                      have hmt38 := hmt1.keep e_g36 (by omega)
                      refine lv_iconst (v := zI 0) hx hb dX9_merge_226 rfl ?_
                      refine lv_istore (lv' := [(7, .int (zI 0)), (6, .int (zI (20 * v5))), (5, .int (zI v5)), (0, .ref y), (1, .ref a), (2, .int (zI x)), (3, .int (zI w)), (4, .ref f)]) hx hb dX9_merge_227 hl (by decide) rfl (fun ls hl => ?_)
                      refine W.widen (k := 0) (n := 0) (Nat.le_of_ble_eq_true rfl) (Nat.le_of_ble_eq_true rfl) ?_
                      refine (?_ : ∀ (n9_3 : Nat) (v7 : Int) (gq2 : Nat → Int) (H : Heap) (locs : List Loc), (0 ≤ v7 ∧ v7 ≤ 4) → (4 - v7 : Int).toNat < n9_3 → (ProgOk gq2) → (MT g_p gq2 w) → va_P G vwCl [(y, .inr (9, [.int (zI (i 0)), .ref (q 0), .int (zI (i 1)), .int (zI (i 2)), .int (zI (i 3)), .int (zI (i 4)), .int (zI (i 5)), .int (zI (i 6)), .int (zI (i 7)), .int (zI (i 8)), .int (zI (i 9)), .int (zI (i 10)), .ref (q 1), .int (zI (i 11)), .int (zI (i 12)), .ref (q 2), .ref (q 3), .ref (q 4), .ref (q 5), .ref (q 6), .ref (q 7), .ref (q 8), .ref (q 9), .ref (q 10), .ref (q 11), .ref (q 12), .ref (q 13), .ref (q 14), .ref (q 15), .ref (q 16), .int (zI (i 13)), .int (zI (i 14)), .int (zI (i 15)), .int (zI (i 16)), .int (zI (i 17)), .int (zI (i 18)), .ref (q 17), .ref (q 18), .ref (q 19), .ref (q 20)])), (a, .inl (cI, 200, .inl (fun k => zI (g_p k)))), (f, .inl (cI, 200, .inl (fun k => zI (gq2 k))))] H → va_D A [(y, .inr (9, [.int (zI (i 0)), .ref (q 0), .int (zI (i 1)), .int (zI (i 2)), .int (zI (i 3)), .int (zI (i 4)), .int (zI (i 5)), .int (zI (i 6)), .int (zI (i 7)), .int (zI (i 8)), .int (zI (i 9)), .int (zI (i 10)), .ref (q 1), .int (zI (i 11)), .int (zI (i 12)), .ref (q 2), .ref (q 3), .ref (q 4), .ref (q 5), .ref (q 6), .ref (q 7), .ref (q 8), .ref (q 9), .ref (q 10), .ref (q 11), .ref (q 12), .ref (q 13), .ref (q 14), .ref (q 15), .ref (q 16), .int (zI (i 13)), .int (zI (i 14)), .int (zI (i 15)), .int (zI (i 16)), .int (zI (i 17)), .int (zI (i 18)), .ref (q 17), .ref (q 18), .ref (q 19), .ref (q 20)])), (a, .inl (cI, 200, .inl (fun k => zI (g_p k)))), (f, .inl (cI, 200, .inl (fun k => zI (gq2 k))))] → va_S A s.heap H locs → ∀ ls : Array Slot, lv_has ls 8 [(7, .int (zI v7)), (6, .int (zI (20 * v5))), (5, .int (zI v5)), (0, .ref y), (1, .ref a), (2, .int (zI x)), (3, .int (zI w)), (4, .ref f)] → W p l e rm_X9_merge s m ([.ref y, .ref a, .int (zI x), .int (zI w), .ref f] : List Value).toArray below meth c H locs 0 0 Q (F0 m 229 ls [])) ((4 - 0 : Int).toNat + 1) 0 g36 _ _ (by omega) (by omega) hqp37 hmt38 hP hD hS ls hl
                      clear hP hD hS hl ls
                      intro n9_3
                      induction n9_3 with
                      | zero =>
                        intro v7 gq2 H locs hI hM
                        exact absurd hM (by omega)
                      | succ n9_3 ih3 =>
                        intro v7 gq2 H locs hI3 hM3 hqp2 hmt2 hP hD hS ls hl
                        refine lv_iload hx hb dX9_merge_229 (lv_at hl 0 rfl) ?_
                        refine lv_aload hx hb dX9_merge_231 (lv_at hl 7 rfl) ?_
                        refine lv_iload hx hb dX9_merge_233 (lv_at hl 1 rfl) ?_
                        refine lv_iconst (v := zI 1) hx hb dX9_merge_235 rfl ?_
                        refine r_iadd (v := zI ((20 * v5) + 1)) F dX9_merge_236 (zI_add _ _) ?_
                        refine rz_iald F hK hP 2 0 rfl rfl (by omega) (by omega) dX9_merge_237 ?_
                        have hpl39 : 0 ≤ (gq2 (((20 * v5) + 1)).toNat) ∧ (gq2 (((20 * v5) + 1)).toNat) ≤ 4 := ProgR.at hqp2.1 (e := ((20 * v5) + 1)) v5 1 (by omega) (by omega) (by decide) rfl
                        refine rz_icmp_ge (tgt := 296) F (by omega) (by omega) dX9_merge_238 (by decide) (fun h238_39 => ?_) (fun h238_39 => ?_)
                        · refine lv_iinc (v := zI (v5 + 1)) (lv' := [(5, .int (zI (v5 + 1))), (7, .int (zI v7)), (6, .int (zI (20 * v5))), (0, .ref y), (1, .ref a), (2, .int (zI x)), (3, .int (zI w)), (4, .ref f)]) hx hb dX9_merge_296 hl (k := 2) rfl (zI_add _ _) (by decide) rfl (fun ls hl => ?_)
                          refine lv_goto (tgt := 132) hx hb dX9_merge_299 (by decide) ?_
                          exact ih2 (v5 + 1) gq2 _ _ (by omega) (by omega) hqp2 hmt2 hP hD hS ls (lv_sub hl [0, 3, 4, 5, 6, 7] rfl)
                        · refine lv_aload hx hb dX9_merge_241 (lv_at hl 7 rfl) ?_
                          refine lv_iload hx hb dX9_merge_243 (lv_at hl 1 rfl) ?_
                          refine lv_iconst (v := zI 2) hx hb dX9_merge_245 rfl ?_
                          refine r_iadd (v := zI ((20 * v5) + 2)) F dX9_merge_246 (zI_add _ _) ?_
                          refine lv_iconst (v := zI 3) hx hb dX9_merge_247 rfl ?_
                          refine lv_iload hx hb dX9_merge_248 (lv_at hl 0 rfl) ?_
                          refine r_imul (v := zI (3 * v7)) F dX9_merge_250 (zI_mul _ _) ?_
                          refine r_iadd (v := zI (((20 * v5) + 2) + (3 * v7))) F dX9_merge_251 (zI_add _ _) ?_
                          refine rz_iald F hK hP 2 0 rfl rfl (by omega) (by omega) dX9_merge_252 ?_
                          have hc41 := ProgOk.act hqp2 (i := v5) (n := v7) (k := (((20 * v5) + 2) + (3 * v7))) (by omega) (by omega) (by omega)
                          refine lv_iconst (v := zI 3) hx hb dX9_merge_253 rfl ?_
                          refine rz_icmp_ne (tgt := 290) F (by omega) (by omega) dX9_merge_254 (by decide) (fun h254_41 => ?_) (fun h254_41 => ?_)
                          · refine lv_iinc (v := zI (v7 + 1)) (lv' := [(7, .int (zI (v7 + 1))), (6, .int (zI (20 * v5))), (5, .int (zI v5)), (0, .ref y), (1, .ref a), (2, .int (zI x)), (3, .int (zI w)), (4, .ref f)]) hx hb dX9_merge_290 hl (k := 0) rfl (zI_add _ _) (by decide) rfl (fun ls hl => ?_)
                            refine lv_goto (tgt := 229) hx hb dX9_merge_293 (by decide) ?_
                            exact ih3 (v7 + 1) gq2 _ _ (by omega) (by omega) hqp2 hmt2 hP hD hS ls (lv_sub hl [0, 1, 2, 3, 4, 5, 6, 7] rfl)
                          · refine lv_aload hx hb dX9_merge_257 (lv_at hl 7 rfl) ?_
                            refine lv_iload hx hb dX9_merge_259 (lv_at hl 1 rfl) ?_
                            refine lv_iconst (v := zI 2) hx hb dX9_merge_261 rfl ?_
                            refine r_iadd (v := zI ((20 * v5) + 2)) F dX9_merge_262 (zI_add _ _) ?_
                            refine lv_iconst (v := zI 3) hx hb dX9_merge_263 rfl ?_
                            refine lv_iload hx hb dX9_merge_264 (lv_at hl 0 rfl) ?_
                            refine r_imul (v := zI (3 * v7)) F dX9_merge_266 (zI_mul _ _) ?_
                            refine r_iadd (v := zI (((20 * v5) + 2) + (3 * v7))) F dX9_merge_267 (zI_add _ _) ?_
                            refine lv_iconst (v := zI 1) hx hb dX9_merge_268 rfl ?_
                            refine r_iadd (v := zI ((((20 * v5) + 2) + (3 * v7)) + 1)) F dX9_merge_269 (zI_add _ _) ?_
                            refine rz_iald F hK hP 2 0 rfl rfl (by omega) (by omega) dX9_merge_270 ?_
                            refine rz_top (fun z43 h_z43 => ?_)
                            refine lv_iload_n hx hb dX9_merge_271 rfl (lv_at hl 6 rfl) ?_
                            refine rz_icmp_ne (tgt := 290) F (by omega) (by omega) dX9_merge_272 (by decide) (fun h272_43 => ?_) (fun h272_43 => ?_)
                            · refine lv_iinc (v := zI (v7 + 1)) (lv' := [(7, .int (zI (v7 + 1))), (6, .int (zI (20 * v5))), (5, .int (zI v5)), (0, .ref y), (1, .ref a), (2, .int (zI x)), (3, .int (zI w)), (4, .ref f)]) hx hb dX9_merge_290 hl (k := 0) rfl (zI_add _ _) (by decide) rfl (fun ls hl => ?_)
                              refine lv_goto (tgt := 229) hx hb dX9_merge_293 (by decide) ?_
                              exact ih3 (v7 + 1) gq2 _ _ (by omega) (by omega) hqp2 hmt2 hP hD hS ls (lv_sub hl [0, 1, 2, 3, 4, 5, 6, 7] rfl)
                            · refine lv_aload hx hb dX9_merge_275 (lv_at hl 7 rfl) ?_
                              refine lv_iload hx hb dX9_merge_277 (lv_at hl 1 rfl) ?_
                              refine lv_iconst (v := zI 2) hx hb dX9_merge_279 rfl ?_
                              refine r_iadd (v := zI ((20 * v5) + 2)) F dX9_merge_280 (zI_add _ _) ?_
                              refine lv_iconst (v := zI 3) hx hb dX9_merge_281 rfl ?_
                              refine lv_iload hx hb dX9_merge_282 (lv_at hl 0 rfl) ?_
                              refine r_imul (v := zI (3 * v7)) F dX9_merge_284 (zI_mul _ _) ?_
                              refine r_iadd (v := zI (((20 * v5) + 2) + (3 * v7))) F dX9_merge_285 (zI_add _ _) ?_
                              refine lv_iconst (v := zI 1) hx hb dX9_merge_286 rfl ?_
                              refine r_iadd (v := zI ((((20 * v5) + 2) + (3 * v7)) + 1)) F dX9_merge_287 (zI_add _ _) ?_
                              refine lv_iload_n hx hb dX9_merge_288 rfl (lv_at hl 5 rfl) ?_
                              refine rz_iastG F hK hP hD hS 2 0 rfl rfl (by omega) (by omega) dX9_merge_289 (w1 := fun g45 => [(y, .inr (9, [.int (zI (i 0)), .ref (q 0), .int (zI (i 1)), .int (zI (i 2)), .int (zI (i 3)), .int (zI (i 4)), .int (zI (i 5)), .int (zI (i 6)), .int (zI (i 7)), .int (zI (i 8)), .int (zI (i 9)), .int (zI (i 10)), .ref (q 1), .int (zI (i 11)), .int (zI (i 12)), .ref (q 2), .ref (q 3), .ref (q 4), .ref (q 5), .ref (q 6), .ref (q 7), .ref (q 8), .ref (q 9), .ref (q 10), .ref (q 11), .ref (q 12), .ref (q 13), .ref (q 14), .ref (q 15), .ref (q 16), .int (zI (i 13)), .int (zI (i 14)), .int (zI (i 15)), .int (zI (i 16)), .int (zI (i 17)), .int (zI (i 18)), .ref (q 17), .ref (q 18), .ref (q 19), .ref (q 20)])), (a, .inl (cI, 200, .inl (fun k => zI (g_p k)))), (f, .inl (cI, 200, .inl (fun k => zI (g45 k))))]) (fun _ => rfl) (fun g45 e_g45 H locs hP hD hS => ?_)
                              have hqp46 : ProgOk g45 := ProgOk.tgt3 hqp2 e_g45 (i := v5) (n := v7) (by omega) (by omega) (by omega) (by omega) (j := (((20 * v5) + 2) + (3 * v7)).toNat) (by omega) (by omega)
                              have hmt47 := MT.keepA hmt2 e_g45 (i := v5) (n := v7) (by omega) (by omega) (by omega)
                              refine lv_iinc (v := zI (v7 + 1)) (lv' := [(7, .int (zI (v7 + 1))), (6, .int (zI (20 * v5))), (5, .int (zI v5)), (0, .ref y), (1, .ref a), (2, .int (zI x)), (3, .int (zI w)), (4, .ref f)]) hx hb dX9_merge_290 hl (k := 0) rfl (zI_add _ _) (by decide) rfl (fun ls hl => ?_)
                              refine lv_goto (tgt := 229) hx hb dX9_merge_293 (by decide) ?_
                              exact ih3 (v7 + 1) g45 _ _ (by omega) (by omega) hqp46 hmt47 hP hD hS ls (lv_sub hl [0, 1, 2, 3, 4, 5, 6, 7] rfl)
                · refine lv_aload hx hb dX9_merge_172 (lv_at hl 6 rfl) ?_
                  refine lv_iload hx hb dX9_merge_174 (lv_at hl 0 rfl) ?_
                  refine lv_bipush (v := zI 16) hx hb dX9_merge_176 (by decide) ?_
                  refine r_iadd (v := zI ((20 * v5) + 16)) F dX9_merge_178 (zI_add _ _) ?_
                  refine rz_iald F hK hP 2 0 rfl rfl (by omega) (by omega) dX9_merge_179 ?_
                  refine rz_top (fun z48 h_z48 => ?_)
                  refine lv_iload_n hx hb dX9_merge_180 rfl (lv_at hl 5 rfl) ?_
                  refine rz_icmp_ne (tgt := 193) F (by omega) (by omega) dX9_merge_181 (by decide) (fun h181_48 => ?_) (fun h181_48 => ?_)
                  · refine lv_aload hx hb dX9_merge_193 (lv_at hl 6 rfl) ?_
                    refine lv_iload hx hb dX9_merge_195 (lv_at hl 0 rfl) ?_
                    refine lv_bipush (v := zI 14) hx hb dX9_merge_197 (by decide) ?_
                    refine r_iadd (v := zI ((20 * v5) + 14)) F dX9_merge_199 (zI_add _ _) ?_
                    refine rz_iald F hK hP 2 0 rfl rfl (by omega) (by omega) dX9_merge_200 ?_
                    refine rz_top (fun z50 h_z50 => ?_)
                    refine lv_iconst (v := zI 2) hx hb dX9_merge_201 rfl ?_
                    refine rz_icmp_ne (tgt := 226) F (by omega) (by omega) dX9_merge_202 (by decide) (fun h202_50 => ?_) (fun h202_50 => ?_)
                    · refine lv_iconst (v := zI 0) hx hb dX9_merge_226 rfl ?_
                      refine lv_istore (lv' := [(7, .int (zI 0)), (6, .int (zI (20 * v5))), (5, .int (zI v5)), (0, .ref y), (1, .ref a), (2, .int (zI x)), (3, .int (zI w)), (4, .ref f)]) hx hb dX9_merge_227 hl (by decide) rfl (fun ls hl => ?_)
                      refine W.widen (k := 0) (n := 0) (Nat.le_of_ble_eq_true rfl) (Nat.le_of_ble_eq_true rfl) ?_
                      refine (?_ : ∀ (n9_3 : Nat) (v7 : Int) (gq2 : Nat → Int) (H : Heap) (locs : List Loc), (0 ≤ v7 ∧ v7 ≤ 4) → (4 - v7 : Int).toNat < n9_3 → (ProgOk gq2) → (MT g_p gq2 w) → va_P G vwCl [(y, .inr (9, [.int (zI (i 0)), .ref (q 0), .int (zI (i 1)), .int (zI (i 2)), .int (zI (i 3)), .int (zI (i 4)), .int (zI (i 5)), .int (zI (i 6)), .int (zI (i 7)), .int (zI (i 8)), .int (zI (i 9)), .int (zI (i 10)), .ref (q 1), .int (zI (i 11)), .int (zI (i 12)), .ref (q 2), .ref (q 3), .ref (q 4), .ref (q 5), .ref (q 6), .ref (q 7), .ref (q 8), .ref (q 9), .ref (q 10), .ref (q 11), .ref (q 12), .ref (q 13), .ref (q 14), .ref (q 15), .ref (q 16), .int (zI (i 13)), .int (zI (i 14)), .int (zI (i 15)), .int (zI (i 16)), .int (zI (i 17)), .int (zI (i 18)), .ref (q 17), .ref (q 18), .ref (q 19), .ref (q 20)])), (a, .inl (cI, 200, .inl (fun k => zI (g_p k)))), (f, .inl (cI, 200, .inl (fun k => zI (gq2 k))))] H → va_D A [(y, .inr (9, [.int (zI (i 0)), .ref (q 0), .int (zI (i 1)), .int (zI (i 2)), .int (zI (i 3)), .int (zI (i 4)), .int (zI (i 5)), .int (zI (i 6)), .int (zI (i 7)), .int (zI (i 8)), .int (zI (i 9)), .int (zI (i 10)), .ref (q 1), .int (zI (i 11)), .int (zI (i 12)), .ref (q 2), .ref (q 3), .ref (q 4), .ref (q 5), .ref (q 6), .ref (q 7), .ref (q 8), .ref (q 9), .ref (q 10), .ref (q 11), .ref (q 12), .ref (q 13), .ref (q 14), .ref (q 15), .ref (q 16), .int (zI (i 13)), .int (zI (i 14)), .int (zI (i 15)), .int (zI (i 16)), .int (zI (i 17)), .int (zI (i 18)), .ref (q 17), .ref (q 18), .ref (q 19), .ref (q 20)])), (a, .inl (cI, 200, .inl (fun k => zI (g_p k)))), (f, .inl (cI, 200, .inl (fun k => zI (gq2 k))))] → va_S A s.heap H locs → ∀ ls : Array Slot, lv_has ls 8 [(7, .int (zI v7)), (6, .int (zI (20 * v5))), (5, .int (zI v5)), (0, .ref y), (1, .ref a), (2, .int (zI x)), (3, .int (zI w)), (4, .ref f)] → W p l e rm_X9_merge s m ([.ref y, .ref a, .int (zI x), .int (zI w), .ref f] : List Value).toArray below meth c H locs 0 0 Q (F0 m 229 ls [])) ((4 - 0 : Int).toNat + 1) 0 gq1 _ _ (by omega) (by omega) hqp1 hmt1 hP hD hS ls hl
                      clear hP hD hS hl ls
                      intro n9_3
                      induction n9_3 with
                      | zero =>
                        intro v7 gq2 H locs hI hM
                        exact absurd hM (by omega)
                      | succ n9_3 ih3 =>
                        intro v7 gq2 H locs hI3 hM3 hqp2 hmt2 hP hD hS ls hl
                        refine lv_iload hx hb dX9_merge_229 (lv_at hl 0 rfl) ?_
                        refine lv_aload hx hb dX9_merge_231 (lv_at hl 7 rfl) ?_
                        refine lv_iload hx hb dX9_merge_233 (lv_at hl 1 rfl) ?_
                        refine lv_iconst (v := zI 1) hx hb dX9_merge_235 rfl ?_
                        refine r_iadd (v := zI ((20 * v5) + 1)) F dX9_merge_236 (zI_add _ _) ?_
                        refine rz_iald F hK hP 2 0 rfl rfl (by omega) (by omega) dX9_merge_237 ?_
                        have hpl52 : 0 ≤ (gq2 (((20 * v5) + 1)).toNat) ∧ (gq2 (((20 * v5) + 1)).toNat) ≤ 4 := ProgR.at hqp2.1 (e := ((20 * v5) + 1)) v5 1 (by omega) (by omega) (by decide) rfl
                        refine rz_icmp_ge (tgt := 296) F (by omega) (by omega) dX9_merge_238 (by decide) (fun h238_52 => ?_) (fun h238_52 => ?_)
                        · refine lv_iinc (v := zI (v5 + 1)) (lv' := [(5, .int (zI (v5 + 1))), (7, .int (zI v7)), (6, .int (zI (20 * v5))), (0, .ref y), (1, .ref a), (2, .int (zI x)), (3, .int (zI w)), (4, .ref f)]) hx hb dX9_merge_296 hl (k := 2) rfl (zI_add _ _) (by decide) rfl (fun ls hl => ?_)
                          refine lv_goto (tgt := 132) hx hb dX9_merge_299 (by decide) ?_
                          exact ih2 (v5 + 1) gq2 _ _ (by omega) (by omega) hqp2 hmt2 hP hD hS ls (lv_sub hl [0, 3, 4, 5, 6, 7] rfl)
                        · refine lv_aload hx hb dX9_merge_241 (lv_at hl 7 rfl) ?_
                          refine lv_iload hx hb dX9_merge_243 (lv_at hl 1 rfl) ?_
                          refine lv_iconst (v := zI 2) hx hb dX9_merge_245 rfl ?_
                          refine r_iadd (v := zI ((20 * v5) + 2)) F dX9_merge_246 (zI_add _ _) ?_
                          refine lv_iconst (v := zI 3) hx hb dX9_merge_247 rfl ?_
                          refine lv_iload hx hb dX9_merge_248 (lv_at hl 0 rfl) ?_
                          refine r_imul (v := zI (3 * v7)) F dX9_merge_250 (zI_mul _ _) ?_
                          refine r_iadd (v := zI (((20 * v5) + 2) + (3 * v7))) F dX9_merge_251 (zI_add _ _) ?_
                          refine rz_iald F hK hP 2 0 rfl rfl (by omega) (by omega) dX9_merge_252 ?_
                          have hc54 := ProgOk.act hqp2 (i := v5) (n := v7) (k := (((20 * v5) + 2) + (3 * v7))) (by omega) (by omega) (by omega)
                          refine lv_iconst (v := zI 3) hx hb dX9_merge_253 rfl ?_
                          refine rz_icmp_ne (tgt := 290) F (by omega) (by omega) dX9_merge_254 (by decide) (fun h254_54 => ?_) (fun h254_54 => ?_)
                          · refine lv_iinc (v := zI (v7 + 1)) (lv' := [(7, .int (zI (v7 + 1))), (6, .int (zI (20 * v5))), (5, .int (zI v5)), (0, .ref y), (1, .ref a), (2, .int (zI x)), (3, .int (zI w)), (4, .ref f)]) hx hb dX9_merge_290 hl (k := 0) rfl (zI_add _ _) (by decide) rfl (fun ls hl => ?_)
                            refine lv_goto (tgt := 229) hx hb dX9_merge_293 (by decide) ?_
                            exact ih3 (v7 + 1) gq2 _ _ (by omega) (by omega) hqp2 hmt2 hP hD hS ls (lv_sub hl [0, 1, 2, 3, 4, 5, 6, 7] rfl)
                          · refine lv_aload hx hb dX9_merge_257 (lv_at hl 7 rfl) ?_
                            refine lv_iload hx hb dX9_merge_259 (lv_at hl 1 rfl) ?_
                            refine lv_iconst (v := zI 2) hx hb dX9_merge_261 rfl ?_
                            refine r_iadd (v := zI ((20 * v5) + 2)) F dX9_merge_262 (zI_add _ _) ?_
                            refine lv_iconst (v := zI 3) hx hb dX9_merge_263 rfl ?_
                            refine lv_iload hx hb dX9_merge_264 (lv_at hl 0 rfl) ?_
                            refine r_imul (v := zI (3 * v7)) F dX9_merge_266 (zI_mul _ _) ?_
                            refine r_iadd (v := zI (((20 * v5) + 2) + (3 * v7))) F dX9_merge_267 (zI_add _ _) ?_
                            refine lv_iconst (v := zI 1) hx hb dX9_merge_268 rfl ?_
                            refine r_iadd (v := zI ((((20 * v5) + 2) + (3 * v7)) + 1)) F dX9_merge_269 (zI_add _ _) ?_
                            refine rz_iald F hK hP 2 0 rfl rfl (by omega) (by omega) dX9_merge_270 ?_
                            refine rz_top (fun z56 h_z56 => ?_)
                            refine lv_iload_n hx hb dX9_merge_271 rfl (lv_at hl 6 rfl) ?_
                            refine rz_icmp_ne (tgt := 290) F (by omega) (by omega) dX9_merge_272 (by decide) (fun h272_56 => ?_) (fun h272_56 => ?_)
                            · refine lv_iinc (v := zI (v7 + 1)) (lv' := [(7, .int (zI (v7 + 1))), (6, .int (zI (20 * v5))), (5, .int (zI v5)), (0, .ref y), (1, .ref a), (2, .int (zI x)), (3, .int (zI w)), (4, .ref f)]) hx hb dX9_merge_290 hl (k := 0) rfl (zI_add _ _) (by decide) rfl (fun ls hl => ?_)
                              refine lv_goto (tgt := 229) hx hb dX9_merge_293 (by decide) ?_
                              exact ih3 (v7 + 1) gq2 _ _ (by omega) (by omega) hqp2 hmt2 hP hD hS ls (lv_sub hl [0, 1, 2, 3, 4, 5, 6, 7] rfl)
                            · refine lv_aload hx hb dX9_merge_275 (lv_at hl 7 rfl) ?_
                              refine lv_iload hx hb dX9_merge_277 (lv_at hl 1 rfl) ?_
                              refine lv_iconst (v := zI 2) hx hb dX9_merge_279 rfl ?_
                              refine r_iadd (v := zI ((20 * v5) + 2)) F dX9_merge_280 (zI_add _ _) ?_
                              refine lv_iconst (v := zI 3) hx hb dX9_merge_281 rfl ?_
                              refine lv_iload hx hb dX9_merge_282 (lv_at hl 0 rfl) ?_
                              refine r_imul (v := zI (3 * v7)) F dX9_merge_284 (zI_mul _ _) ?_
                              refine r_iadd (v := zI (((20 * v5) + 2) + (3 * v7))) F dX9_merge_285 (zI_add _ _) ?_
                              refine lv_iconst (v := zI 1) hx hb dX9_merge_286 rfl ?_
                              refine r_iadd (v := zI ((((20 * v5) + 2) + (3 * v7)) + 1)) F dX9_merge_287 (zI_add _ _) ?_
                              refine lv_iload_n hx hb dX9_merge_288 rfl (lv_at hl 5 rfl) ?_
                              refine rz_iastG F hK hP hD hS 2 0 rfl rfl (by omega) (by omega) dX9_merge_289 (w1 := fun g58 => [(y, .inr (9, [.int (zI (i 0)), .ref (q 0), .int (zI (i 1)), .int (zI (i 2)), .int (zI (i 3)), .int (zI (i 4)), .int (zI (i 5)), .int (zI (i 6)), .int (zI (i 7)), .int (zI (i 8)), .int (zI (i 9)), .int (zI (i 10)), .ref (q 1), .int (zI (i 11)), .int (zI (i 12)), .ref (q 2), .ref (q 3), .ref (q 4), .ref (q 5), .ref (q 6), .ref (q 7), .ref (q 8), .ref (q 9), .ref (q 10), .ref (q 11), .ref (q 12), .ref (q 13), .ref (q 14), .ref (q 15), .ref (q 16), .int (zI (i 13)), .int (zI (i 14)), .int (zI (i 15)), .int (zI (i 16)), .int (zI (i 17)), .int (zI (i 18)), .ref (q 17), .ref (q 18), .ref (q 19), .ref (q 20)])), (a, .inl (cI, 200, .inl (fun k => zI (g_p k)))), (f, .inl (cI, 200, .inl (fun k => zI (g58 k))))]) (fun _ => rfl) (fun g58 e_g58 H locs hP hD hS => ?_)
                              have hqp59 : ProgOk g58 := ProgOk.tgt3 hqp2 e_g58 (i := v5) (n := v7) (by omega) (by omega) (by omega) (by omega) (j := (((20 * v5) + 2) + (3 * v7)).toNat) (by omega) (by omega)
                              have hmt60 := MT.keepA hmt2 e_g58 (i := v5) (n := v7) (by omega) (by omega) (by omega)
                              refine lv_iinc (v := zI (v7 + 1)) (lv' := [(7, .int (zI (v7 + 1))), (6, .int (zI (20 * v5))), (5, .int (zI v5)), (0, .ref y), (1, .ref a), (2, .int (zI x)), (3, .int (zI w)), (4, .ref f)]) hx hb dX9_merge_290 hl (k := 0) rfl (zI_add _ _) (by decide) rfl (fun ls hl => ?_)
                              refine lv_goto (tgt := 229) hx hb dX9_merge_293 (by decide) ?_
                              exact ih3 (v7 + 1) g58 _ _ (by omega) (by omega) hqp59 hmt60 hP hD hS ls (lv_sub hl [0, 1, 2, 3, 4, 5, 6, 7] rfl)
                    · refine lv_aload hx hb dX9_merge_205 (lv_at hl 6 rfl) ?_
                      refine lv_iload hx hb dX9_merge_207 (lv_at hl 0 rfl) ?_
                      refine lv_bipush (v := zI 18) hx hb dX9_merge_209 (by decide) ?_
                      refine r_iadd (v := zI ((20 * v5) + 18)) F dX9_merge_211 (zI_add _ _) ?_
                      refine rz_iald F hK hP 2 0 rfl rfl (by omega) (by omega) dX9_merge_212 ?_
                      refine rz_top (fun z61 h_z61 => ?_)
                      refine lv_iload_n hx hb dX9_merge_213 rfl (lv_at hl 5 rfl) ?_
                      refine rz_icmp_ne (tgt := 226) F (by omega) (by omega) dX9_merge_214 (by decide) (fun h214_61 => ?_) (fun h214_61 => ?_)
                      · refine lv_iconst (v := zI 0) hx hb dX9_merge_226 rfl ?_
                        refine lv_istore (lv' := [(7, .int (zI 0)), (6, .int (zI (20 * v5))), (5, .int (zI v5)), (0, .ref y), (1, .ref a), (2, .int (zI x)), (3, .int (zI w)), (4, .ref f)]) hx hb dX9_merge_227 hl (by decide) rfl (fun ls hl => ?_)
                        refine W.widen (k := 0) (n := 0) (Nat.le_of_ble_eq_true rfl) (Nat.le_of_ble_eq_true rfl) ?_
                        refine (?_ : ∀ (n9_3 : Nat) (v7 : Int) (gq2 : Nat → Int) (H : Heap) (locs : List Loc), (0 ≤ v7 ∧ v7 ≤ 4) → (4 - v7 : Int).toNat < n9_3 → (ProgOk gq2) → (MT g_p gq2 w) → va_P G vwCl [(y, .inr (9, [.int (zI (i 0)), .ref (q 0), .int (zI (i 1)), .int (zI (i 2)), .int (zI (i 3)), .int (zI (i 4)), .int (zI (i 5)), .int (zI (i 6)), .int (zI (i 7)), .int (zI (i 8)), .int (zI (i 9)), .int (zI (i 10)), .ref (q 1), .int (zI (i 11)), .int (zI (i 12)), .ref (q 2), .ref (q 3), .ref (q 4), .ref (q 5), .ref (q 6), .ref (q 7), .ref (q 8), .ref (q 9), .ref (q 10), .ref (q 11), .ref (q 12), .ref (q 13), .ref (q 14), .ref (q 15), .ref (q 16), .int (zI (i 13)), .int (zI (i 14)), .int (zI (i 15)), .int (zI (i 16)), .int (zI (i 17)), .int (zI (i 18)), .ref (q 17), .ref (q 18), .ref (q 19), .ref (q 20)])), (a, .inl (cI, 200, .inl (fun k => zI (g_p k)))), (f, .inl (cI, 200, .inl (fun k => zI (gq2 k))))] H → va_D A [(y, .inr (9, [.int (zI (i 0)), .ref (q 0), .int (zI (i 1)), .int (zI (i 2)), .int (zI (i 3)), .int (zI (i 4)), .int (zI (i 5)), .int (zI (i 6)), .int (zI (i 7)), .int (zI (i 8)), .int (zI (i 9)), .int (zI (i 10)), .ref (q 1), .int (zI (i 11)), .int (zI (i 12)), .ref (q 2), .ref (q 3), .ref (q 4), .ref (q 5), .ref (q 6), .ref (q 7), .ref (q 8), .ref (q 9), .ref (q 10), .ref (q 11), .ref (q 12), .ref (q 13), .ref (q 14), .ref (q 15), .ref (q 16), .int (zI (i 13)), .int (zI (i 14)), .int (zI (i 15)), .int (zI (i 16)), .int (zI (i 17)), .int (zI (i 18)), .ref (q 17), .ref (q 18), .ref (q 19), .ref (q 20)])), (a, .inl (cI, 200, .inl (fun k => zI (g_p k)))), (f, .inl (cI, 200, .inl (fun k => zI (gq2 k))))] → va_S A s.heap H locs → ∀ ls : Array Slot, lv_has ls 8 [(7, .int (zI v7)), (6, .int (zI (20 * v5))), (5, .int (zI v5)), (0, .ref y), (1, .ref a), (2, .int (zI x)), (3, .int (zI w)), (4, .ref f)] → W p l e rm_X9_merge s m ([.ref y, .ref a, .int (zI x), .int (zI w), .ref f] : List Value).toArray below meth c H locs 0 0 Q (F0 m 229 ls [])) ((4 - 0 : Int).toNat + 1) 0 gq1 _ _ (by omega) (by omega) hqp1 hmt1 hP hD hS ls hl
                        clear hP hD hS hl ls
                        intro n9_3
                        induction n9_3 with
                        | zero =>
                          intro v7 gq2 H locs hI hM
                          exact absurd hM (by omega)
                        | succ n9_3 ih3 =>
                          intro v7 gq2 H locs hI3 hM3 hqp2 hmt2 hP hD hS ls hl
                          refine lv_iload hx hb dX9_merge_229 (lv_at hl 0 rfl) ?_
                          refine lv_aload hx hb dX9_merge_231 (lv_at hl 7 rfl) ?_
                          refine lv_iload hx hb dX9_merge_233 (lv_at hl 1 rfl) ?_
                          refine lv_iconst (v := zI 1) hx hb dX9_merge_235 rfl ?_
                          refine r_iadd (v := zI ((20 * v5) + 1)) F dX9_merge_236 (zI_add _ _) ?_
                          refine rz_iald F hK hP 2 0 rfl rfl (by omega) (by omega) dX9_merge_237 ?_
                          have hpl63 : 0 ≤ (gq2 (((20 * v5) + 1)).toNat) ∧ (gq2 (((20 * v5) + 1)).toNat) ≤ 4 := ProgR.at hqp2.1 (e := ((20 * v5) + 1)) v5 1 (by omega) (by omega) (by decide) rfl
                          refine rz_icmp_ge (tgt := 296) F (by omega) (by omega) dX9_merge_238 (by decide) (fun h238_63 => ?_) (fun h238_63 => ?_)
                          · refine lv_iinc (v := zI (v5 + 1)) (lv' := [(5, .int (zI (v5 + 1))), (7, .int (zI v7)), (6, .int (zI (20 * v5))), (0, .ref y), (1, .ref a), (2, .int (zI x)), (3, .int (zI w)), (4, .ref f)]) hx hb dX9_merge_296 hl (k := 2) rfl (zI_add _ _) (by decide) rfl (fun ls hl => ?_)
                            refine lv_goto (tgt := 132) hx hb dX9_merge_299 (by decide) ?_
                            exact ih2 (v5 + 1) gq2 _ _ (by omega) (by omega) hqp2 hmt2 hP hD hS ls (lv_sub hl [0, 3, 4, 5, 6, 7] rfl)
                          · refine lv_aload hx hb dX9_merge_241 (lv_at hl 7 rfl) ?_
                            refine lv_iload hx hb dX9_merge_243 (lv_at hl 1 rfl) ?_
                            refine lv_iconst (v := zI 2) hx hb dX9_merge_245 rfl ?_
                            refine r_iadd (v := zI ((20 * v5) + 2)) F dX9_merge_246 (zI_add _ _) ?_
                            refine lv_iconst (v := zI 3) hx hb dX9_merge_247 rfl ?_
                            refine lv_iload hx hb dX9_merge_248 (lv_at hl 0 rfl) ?_
                            refine r_imul (v := zI (3 * v7)) F dX9_merge_250 (zI_mul _ _) ?_
                            refine r_iadd (v := zI (((20 * v5) + 2) + (3 * v7))) F dX9_merge_251 (zI_add _ _) ?_
                            refine rz_iald F hK hP 2 0 rfl rfl (by omega) (by omega) dX9_merge_252 ?_
                            have hc65 := ProgOk.act hqp2 (i := v5) (n := v7) (k := (((20 * v5) + 2) + (3 * v7))) (by omega) (by omega) (by omega)
                            refine lv_iconst (v := zI 3) hx hb dX9_merge_253 rfl ?_
                            refine rz_icmp_ne (tgt := 290) F (by omega) (by omega) dX9_merge_254 (by decide) (fun h254_65 => ?_) (fun h254_65 => ?_)
                            · refine lv_iinc (v := zI (v7 + 1)) (lv' := [(7, .int (zI (v7 + 1))), (6, .int (zI (20 * v5))), (5, .int (zI v5)), (0, .ref y), (1, .ref a), (2, .int (zI x)), (3, .int (zI w)), (4, .ref f)]) hx hb dX9_merge_290 hl (k := 0) rfl (zI_add _ _) (by decide) rfl (fun ls hl => ?_)
                              refine lv_goto (tgt := 229) hx hb dX9_merge_293 (by decide) ?_
                              exact ih3 (v7 + 1) gq2 _ _ (by omega) (by omega) hqp2 hmt2 hP hD hS ls (lv_sub hl [0, 1, 2, 3, 4, 5, 6, 7] rfl)
                            · refine lv_aload hx hb dX9_merge_257 (lv_at hl 7 rfl) ?_
                              refine lv_iload hx hb dX9_merge_259 (lv_at hl 1 rfl) ?_
                              refine lv_iconst (v := zI 2) hx hb dX9_merge_261 rfl ?_
                              refine r_iadd (v := zI ((20 * v5) + 2)) F dX9_merge_262 (zI_add _ _) ?_
                              refine lv_iconst (v := zI 3) hx hb dX9_merge_263 rfl ?_
                              refine lv_iload hx hb dX9_merge_264 (lv_at hl 0 rfl) ?_
                              refine r_imul (v := zI (3 * v7)) F dX9_merge_266 (zI_mul _ _) ?_
                              refine r_iadd (v := zI (((20 * v5) + 2) + (3 * v7))) F dX9_merge_267 (zI_add _ _) ?_
                              refine lv_iconst (v := zI 1) hx hb dX9_merge_268 rfl ?_
                              refine r_iadd (v := zI ((((20 * v5) + 2) + (3 * v7)) + 1)) F dX9_merge_269 (zI_add _ _) ?_
                              refine rz_iald F hK hP 2 0 rfl rfl (by omega) (by omega) dX9_merge_270 ?_
                              refine rz_top (fun z67 h_z67 => ?_)
                              refine lv_iload_n hx hb dX9_merge_271 rfl (lv_at hl 6 rfl) ?_
                              refine rz_icmp_ne (tgt := 290) F (by omega) (by omega) dX9_merge_272 (by decide) (fun h272_67 => ?_) (fun h272_67 => ?_)
                              · refine lv_iinc (v := zI (v7 + 1)) (lv' := [(7, .int (zI (v7 + 1))), (6, .int (zI (20 * v5))), (5, .int (zI v5)), (0, .ref y), (1, .ref a), (2, .int (zI x)), (3, .int (zI w)), (4, .ref f)]) hx hb dX9_merge_290 hl (k := 0) rfl (zI_add _ _) (by decide) rfl (fun ls hl => ?_)
                                refine lv_goto (tgt := 229) hx hb dX9_merge_293 (by decide) ?_
                                exact ih3 (v7 + 1) gq2 _ _ (by omega) (by omega) hqp2 hmt2 hP hD hS ls (lv_sub hl [0, 1, 2, 3, 4, 5, 6, 7] rfl)
                              · refine lv_aload hx hb dX9_merge_275 (lv_at hl 7 rfl) ?_
                                refine lv_iload hx hb dX9_merge_277 (lv_at hl 1 rfl) ?_
                                refine lv_iconst (v := zI 2) hx hb dX9_merge_279 rfl ?_
                                refine r_iadd (v := zI ((20 * v5) + 2)) F dX9_merge_280 (zI_add _ _) ?_
                                refine lv_iconst (v := zI 3) hx hb dX9_merge_281 rfl ?_
                                refine lv_iload hx hb dX9_merge_282 (lv_at hl 0 rfl) ?_
                                refine r_imul (v := zI (3 * v7)) F dX9_merge_284 (zI_mul _ _) ?_
                                refine r_iadd (v := zI (((20 * v5) + 2) + (3 * v7))) F dX9_merge_285 (zI_add _ _) ?_
                                refine lv_iconst (v := zI 1) hx hb dX9_merge_286 rfl ?_
                                refine r_iadd (v := zI ((((20 * v5) + 2) + (3 * v7)) + 1)) F dX9_merge_287 (zI_add _ _) ?_
                                refine lv_iload_n hx hb dX9_merge_288 rfl (lv_at hl 5 rfl) ?_
                                refine rz_iastG F hK hP hD hS 2 0 rfl rfl (by omega) (by omega) dX9_merge_289 (w1 := fun g69 => [(y, .inr (9, [.int (zI (i 0)), .ref (q 0), .int (zI (i 1)), .int (zI (i 2)), .int (zI (i 3)), .int (zI (i 4)), .int (zI (i 5)), .int (zI (i 6)), .int (zI (i 7)), .int (zI (i 8)), .int (zI (i 9)), .int (zI (i 10)), .ref (q 1), .int (zI (i 11)), .int (zI (i 12)), .ref (q 2), .ref (q 3), .ref (q 4), .ref (q 5), .ref (q 6), .ref (q 7), .ref (q 8), .ref (q 9), .ref (q 10), .ref (q 11), .ref (q 12), .ref (q 13), .ref (q 14), .ref (q 15), .ref (q 16), .int (zI (i 13)), .int (zI (i 14)), .int (zI (i 15)), .int (zI (i 16)), .int (zI (i 17)), .int (zI (i 18)), .ref (q 17), .ref (q 18), .ref (q 19), .ref (q 20)])), (a, .inl (cI, 200, .inl (fun k => zI (g_p k)))), (f, .inl (cI, 200, .inl (fun k => zI (g69 k))))]) (fun _ => rfl) (fun g69 e_g69 H locs hP hD hS => ?_)
                                have hqp70 : ProgOk g69 := ProgOk.tgt3 hqp2 e_g69 (i := v5) (n := v7) (by omega) (by omega) (by omega) (by omega) (j := (((20 * v5) + 2) + (3 * v7)).toNat) (by omega) (by omega)
                                have hmt71 := MT.keepA hmt2 e_g69 (i := v5) (n := v7) (by omega) (by omega) (by omega)
                                refine lv_iinc (v := zI (v7 + 1)) (lv' := [(7, .int (zI (v7 + 1))), (6, .int (zI (20 * v5))), (5, .int (zI v5)), (0, .ref y), (1, .ref a), (2, .int (zI x)), (3, .int (zI w)), (4, .ref f)]) hx hb dX9_merge_290 hl (k := 0) rfl (zI_add _ _) (by decide) rfl (fun ls hl => ?_)
                                refine lv_goto (tgt := 229) hx hb dX9_merge_293 (by decide) ?_
                                exact ih3 (v7 + 1) g69 _ _ (by omega) (by omega) hqp70 hmt71 hP hD hS ls (lv_sub hl [0, 1, 2, 3, 4, 5, 6, 7] rfl)
                      · refine lv_aload hx hb dX9_merge_217 (lv_at hl 6 rfl) ?_
                        refine lv_iload hx hb dX9_merge_219 (lv_at hl 0 rfl) ?_
                        refine lv_bipush (v := zI 18) hx hb dX9_merge_221 (by decide) ?_
                        refine r_iadd (v := zI ((20 * v5) + 18)) F dX9_merge_223 (zI_add _ _) ?_
                        refine lv_iload_n hx hb dX9_merge_224 rfl (lv_at hl 4 rfl) ?_
                        refine rz_iastG F hK hP hD hS 2 0 rfl rfl (by omega) (by omega) dX9_merge_225 (w1 := fun g72 => [(y, .inr (9, [.int (zI (i 0)), .ref (q 0), .int (zI (i 1)), .int (zI (i 2)), .int (zI (i 3)), .int (zI (i 4)), .int (zI (i 5)), .int (zI (i 6)), .int (zI (i 7)), .int (zI (i 8)), .int (zI (i 9)), .int (zI (i 10)), .ref (q 1), .int (zI (i 11)), .int (zI (i 12)), .ref (q 2), .ref (q 3), .ref (q 4), .ref (q 5), .ref (q 6), .ref (q 7), .ref (q 8), .ref (q 9), .ref (q 10), .ref (q 11), .ref (q 12), .ref (q 13), .ref (q 14), .ref (q 15), .ref (q 16), .int (zI (i 13)), .int (zI (i 14)), .int (zI (i 15)), .int (zI (i 16)), .int (zI (i 17)), .int (zI (i 18)), .ref (q 17), .ref (q 18), .ref (q 19), .ref (q 20)])), (a, .inl (cI, 200, .inl (fun k => zI (g_p k)))), (f, .inl (cI, 200, .inl (fun k => zI (g72 k))))]) (fun _ => rfl) (fun g72 e_g72 H locs hP hD hS => ?_)
                        have hqp73 : ProgOk g72 := ⟨hqp1.1.set (m := 9) e_g72 18 (by omega) rfl (by omega), hqp1.2.set e_g72 (by omega)⟩
                        have hmt74 := hmt1.keep e_g72 (by omega)
                        refine lv_iconst (v := zI 0) hx hb dX9_merge_226 rfl ?_
                        refine lv_istore (lv' := [(7, .int (zI 0)), (6, .int (zI (20 * v5))), (5, .int (zI v5)), (0, .ref y), (1, .ref a), (2, .int (zI x)), (3, .int (zI w)), (4, .ref f)]) hx hb dX9_merge_227 hl (by decide) rfl (fun ls hl => ?_)
                        refine W.widen (k := 0) (n := 0) (Nat.le_of_ble_eq_true rfl) (Nat.le_of_ble_eq_true rfl) ?_
                        refine (?_ : ∀ (n9_3 : Nat) (v7 : Int) (gq2 : Nat → Int) (H : Heap) (locs : List Loc), (0 ≤ v7 ∧ v7 ≤ 4) → (4 - v7 : Int).toNat < n9_3 → (ProgOk gq2) → (MT g_p gq2 w) → va_P G vwCl [(y, .inr (9, [.int (zI (i 0)), .ref (q 0), .int (zI (i 1)), .int (zI (i 2)), .int (zI (i 3)), .int (zI (i 4)), .int (zI (i 5)), .int (zI (i 6)), .int (zI (i 7)), .int (zI (i 8)), .int (zI (i 9)), .int (zI (i 10)), .ref (q 1), .int (zI (i 11)), .int (zI (i 12)), .ref (q 2), .ref (q 3), .ref (q 4), .ref (q 5), .ref (q 6), .ref (q 7), .ref (q 8), .ref (q 9), .ref (q 10), .ref (q 11), .ref (q 12), .ref (q 13), .ref (q 14), .ref (q 15), .ref (q 16), .int (zI (i 13)), .int (zI (i 14)), .int (zI (i 15)), .int (zI (i 16)), .int (zI (i 17)), .int (zI (i 18)), .ref (q 17), .ref (q 18), .ref (q 19), .ref (q 20)])), (a, .inl (cI, 200, .inl (fun k => zI (g_p k)))), (f, .inl (cI, 200, .inl (fun k => zI (gq2 k))))] H → va_D A [(y, .inr (9, [.int (zI (i 0)), .ref (q 0), .int (zI (i 1)), .int (zI (i 2)), .int (zI (i 3)), .int (zI (i 4)), .int (zI (i 5)), .int (zI (i 6)), .int (zI (i 7)), .int (zI (i 8)), .int (zI (i 9)), .int (zI (i 10)), .ref (q 1), .int (zI (i 11)), .int (zI (i 12)), .ref (q 2), .ref (q 3), .ref (q 4), .ref (q 5), .ref (q 6), .ref (q 7), .ref (q 8), .ref (q 9), .ref (q 10), .ref (q 11), .ref (q 12), .ref (q 13), .ref (q 14), .ref (q 15), .ref (q 16), .int (zI (i 13)), .int (zI (i 14)), .int (zI (i 15)), .int (zI (i 16)), .int (zI (i 17)), .int (zI (i 18)), .ref (q 17), .ref (q 18), .ref (q 19), .ref (q 20)])), (a, .inl (cI, 200, .inl (fun k => zI (g_p k)))), (f, .inl (cI, 200, .inl (fun k => zI (gq2 k))))] → va_S A s.heap H locs → ∀ ls : Array Slot, lv_has ls 8 [(7, .int (zI v7)), (6, .int (zI (20 * v5))), (5, .int (zI v5)), (0, .ref y), (1, .ref a), (2, .int (zI x)), (3, .int (zI w)), (4, .ref f)] → W p l e rm_X9_merge s m ([.ref y, .ref a, .int (zI x), .int (zI w), .ref f] : List Value).toArray below meth c H locs 0 0 Q (F0 m 229 ls [])) ((4 - 0 : Int).toNat + 1) 0 g72 _ _ (by omega) (by omega) hqp73 hmt74 hP hD hS ls hl
                        clear hP hD hS hl ls
                        intro n9_3
                        induction n9_3 with
                        | zero =>
                          intro v7 gq2 H locs hI hM
                          exact absurd hM (by omega)
                        | succ n9_3 ih3 =>
                          intro v7 gq2 H locs hI3 hM3 hqp2 hmt2 hP hD hS ls hl
                          refine lv_iload hx hb dX9_merge_229 (lv_at hl 0 rfl) ?_
                          refine lv_aload hx hb dX9_merge_231 (lv_at hl 7 rfl) ?_
                          refine lv_iload hx hb dX9_merge_233 (lv_at hl 1 rfl) ?_
                          refine lv_iconst (v := zI 1) hx hb dX9_merge_235 rfl ?_
                          refine r_iadd (v := zI ((20 * v5) + 1)) F dX9_merge_236 (zI_add _ _) ?_
                          refine rz_iald F hK hP 2 0 rfl rfl (by omega) (by omega) dX9_merge_237 ?_
                          have hpl75 : 0 ≤ (gq2 (((20 * v5) + 1)).toNat) ∧ (gq2 (((20 * v5) + 1)).toNat) ≤ 4 := ProgR.at hqp2.1 (e := ((20 * v5) + 1)) v5 1 (by omega) (by omega) (by decide) rfl
                          refine rz_icmp_ge (tgt := 296) F (by omega) (by omega) dX9_merge_238 (by decide) (fun h238_75 => ?_) (fun h238_75 => ?_)
                          · refine lv_iinc (v := zI (v5 + 1)) (lv' := [(5, .int (zI (v5 + 1))), (7, .int (zI v7)), (6, .int (zI (20 * v5))), (0, .ref y), (1, .ref a), (2, .int (zI x)), (3, .int (zI w)), (4, .ref f)]) hx hb dX9_merge_296 hl (k := 2) rfl (zI_add _ _) (by decide) rfl (fun ls hl => ?_)
                            refine lv_goto (tgt := 132) hx hb dX9_merge_299 (by decide) ?_
                            exact ih2 (v5 + 1) gq2 _ _ (by omega) (by omega) hqp2 hmt2 hP hD hS ls (lv_sub hl [0, 3, 4, 5, 6, 7] rfl)
                          · refine lv_aload hx hb dX9_merge_241 (lv_at hl 7 rfl) ?_
                            refine lv_iload hx hb dX9_merge_243 (lv_at hl 1 rfl) ?_
                            refine lv_iconst (v := zI 2) hx hb dX9_merge_245 rfl ?_
                            refine r_iadd (v := zI ((20 * v5) + 2)) F dX9_merge_246 (zI_add _ _) ?_
                            refine lv_iconst (v := zI 3) hx hb dX9_merge_247 rfl ?_
                            refine lv_iload hx hb dX9_merge_248 (lv_at hl 0 rfl) ?_
                            refine r_imul (v := zI (3 * v7)) F dX9_merge_250 (zI_mul _ _) ?_
                            refine r_iadd (v := zI (((20 * v5) + 2) + (3 * v7))) F dX9_merge_251 (zI_add _ _) ?_
                            refine rz_iald F hK hP 2 0 rfl rfl (by omega) (by omega) dX9_merge_252 ?_
                            have hc77 := ProgOk.act hqp2 (i := v5) (n := v7) (k := (((20 * v5) + 2) + (3 * v7))) (by omega) (by omega) (by omega)
                            refine lv_iconst (v := zI 3) hx hb dX9_merge_253 rfl ?_
                            refine rz_icmp_ne (tgt := 290) F (by omega) (by omega) dX9_merge_254 (by decide) (fun h254_77 => ?_) (fun h254_77 => ?_)
                            · refine lv_iinc (v := zI (v7 + 1)) (lv' := [(7, .int (zI (v7 + 1))), (6, .int (zI (20 * v5))), (5, .int (zI v5)), (0, .ref y), (1, .ref a), (2, .int (zI x)), (3, .int (zI w)), (4, .ref f)]) hx hb dX9_merge_290 hl (k := 0) rfl (zI_add _ _) (by decide) rfl (fun ls hl => ?_)
                              refine lv_goto (tgt := 229) hx hb dX9_merge_293 (by decide) ?_
                              exact ih3 (v7 + 1) gq2 _ _ (by omega) (by omega) hqp2 hmt2 hP hD hS ls (lv_sub hl [0, 1, 2, 3, 4, 5, 6, 7] rfl)
                            · refine lv_aload hx hb dX9_merge_257 (lv_at hl 7 rfl) ?_
                              refine lv_iload hx hb dX9_merge_259 (lv_at hl 1 rfl) ?_
                              refine lv_iconst (v := zI 2) hx hb dX9_merge_261 rfl ?_
                              refine r_iadd (v := zI ((20 * v5) + 2)) F dX9_merge_262 (zI_add _ _) ?_
                              refine lv_iconst (v := zI 3) hx hb dX9_merge_263 rfl ?_
                              refine lv_iload hx hb dX9_merge_264 (lv_at hl 0 rfl) ?_
                              refine r_imul (v := zI (3 * v7)) F dX9_merge_266 (zI_mul _ _) ?_
                              refine r_iadd (v := zI (((20 * v5) + 2) + (3 * v7))) F dX9_merge_267 (zI_add _ _) ?_
                              refine lv_iconst (v := zI 1) hx hb dX9_merge_268 rfl ?_
                              refine r_iadd (v := zI ((((20 * v5) + 2) + (3 * v7)) + 1)) F dX9_merge_269 (zI_add _ _) ?_
                              refine rz_iald F hK hP 2 0 rfl rfl (by omega) (by omega) dX9_merge_270 ?_
                              refine rz_top (fun z79 h_z79 => ?_)
                              refine lv_iload_n hx hb dX9_merge_271 rfl (lv_at hl 6 rfl) ?_
                              refine rz_icmp_ne (tgt := 290) F (by omega) (by omega) dX9_merge_272 (by decide) (fun h272_79 => ?_) (fun h272_79 => ?_)
                              · refine lv_iinc (v := zI (v7 + 1)) (lv' := [(7, .int (zI (v7 + 1))), (6, .int (zI (20 * v5))), (5, .int (zI v5)), (0, .ref y), (1, .ref a), (2, .int (zI x)), (3, .int (zI w)), (4, .ref f)]) hx hb dX9_merge_290 hl (k := 0) rfl (zI_add _ _) (by decide) rfl (fun ls hl => ?_)
                                refine lv_goto (tgt := 229) hx hb dX9_merge_293 (by decide) ?_
                                exact ih3 (v7 + 1) gq2 _ _ (by omega) (by omega) hqp2 hmt2 hP hD hS ls (lv_sub hl [0, 1, 2, 3, 4, 5, 6, 7] rfl)
                              · refine lv_aload hx hb dX9_merge_275 (lv_at hl 7 rfl) ?_
                                refine lv_iload hx hb dX9_merge_277 (lv_at hl 1 rfl) ?_
                                refine lv_iconst (v := zI 2) hx hb dX9_merge_279 rfl ?_
                                refine r_iadd (v := zI ((20 * v5) + 2)) F dX9_merge_280 (zI_add _ _) ?_
                                refine lv_iconst (v := zI 3) hx hb dX9_merge_281 rfl ?_
                                refine lv_iload hx hb dX9_merge_282 (lv_at hl 0 rfl) ?_
                                refine r_imul (v := zI (3 * v7)) F dX9_merge_284 (zI_mul _ _) ?_
                                refine r_iadd (v := zI (((20 * v5) + 2) + (3 * v7))) F dX9_merge_285 (zI_add _ _) ?_
                                refine lv_iconst (v := zI 1) hx hb dX9_merge_286 rfl ?_
                                refine r_iadd (v := zI ((((20 * v5) + 2) + (3 * v7)) + 1)) F dX9_merge_287 (zI_add _ _) ?_
                                refine lv_iload_n hx hb dX9_merge_288 rfl (lv_at hl 5 rfl) ?_
                                refine rz_iastG F hK hP hD hS 2 0 rfl rfl (by omega) (by omega) dX9_merge_289 (w1 := fun g81 => [(y, .inr (9, [.int (zI (i 0)), .ref (q 0), .int (zI (i 1)), .int (zI (i 2)), .int (zI (i 3)), .int (zI (i 4)), .int (zI (i 5)), .int (zI (i 6)), .int (zI (i 7)), .int (zI (i 8)), .int (zI (i 9)), .int (zI (i 10)), .ref (q 1), .int (zI (i 11)), .int (zI (i 12)), .ref (q 2), .ref (q 3), .ref (q 4), .ref (q 5), .ref (q 6), .ref (q 7), .ref (q 8), .ref (q 9), .ref (q 10), .ref (q 11), .ref (q 12), .ref (q 13), .ref (q 14), .ref (q 15), .ref (q 16), .int (zI (i 13)), .int (zI (i 14)), .int (zI (i 15)), .int (zI (i 16)), .int (zI (i 17)), .int (zI (i 18)), .ref (q 17), .ref (q 18), .ref (q 19), .ref (q 20)])), (a, .inl (cI, 200, .inl (fun k => zI (g_p k)))), (f, .inl (cI, 200, .inl (fun k => zI (g81 k))))]) (fun _ => rfl) (fun g81 e_g81 H locs hP hD hS => ?_)
                                have hqp82 : ProgOk g81 := ProgOk.tgt3 hqp2 e_g81 (i := v5) (n := v7) (by omega) (by omega) (by omega) (by omega) (j := (((20 * v5) + 2) + (3 * v7)).toNat) (by omega) (by omega)
                                have hmt83 := MT.keepA hmt2 e_g81 (i := v5) (n := v7) (by omega) (by omega) (by omega)
                                refine lv_iinc (v := zI (v7 + 1)) (lv' := [(7, .int (zI (v7 + 1))), (6, .int (zI (20 * v5))), (5, .int (zI v5)), (0, .ref y), (1, .ref a), (2, .int (zI x)), (3, .int (zI w)), (4, .ref f)]) hx hb dX9_merge_290 hl (k := 0) rfl (zI_add _ _) (by decide) rfl (fun ls hl => ?_)
                                refine lv_goto (tgt := 229) hx hb dX9_merge_293 (by decide) ?_
                                exact ih3 (v7 + 1) g81 _ _ (by omega) (by omega) hqp82 hmt83 hP hD hS ls (lv_sub hl [0, 1, 2, 3, 4, 5, 6, 7] rfl)
                  · refine lv_aload hx hb dX9_merge_184 (lv_at hl 6 rfl) ?_
                    refine lv_iload hx hb dX9_merge_186 (lv_at hl 0 rfl) ?_
                    refine lv_bipush (v := zI 16) hx hb dX9_merge_188 (by decide) ?_
                    refine r_iadd (v := zI ((20 * v5) + 16)) F dX9_merge_190 (zI_add _ _) ?_
                    refine lv_iload_n hx hb dX9_merge_191 rfl (lv_at hl 4 rfl) ?_
                    refine rz_iastG F hK hP hD hS 2 0 rfl rfl (by omega) (by omega) dX9_merge_192 (w1 := fun g84 => [(y, .inr (9, [.int (zI (i 0)), .ref (q 0), .int (zI (i 1)), .int (zI (i 2)), .int (zI (i 3)), .int (zI (i 4)), .int (zI (i 5)), .int (zI (i 6)), .int (zI (i 7)), .int (zI (i 8)), .int (zI (i 9)), .int (zI (i 10)), .ref (q 1), .int (zI (i 11)), .int (zI (i 12)), .ref (q 2), .ref (q 3), .ref (q 4), .ref (q 5), .ref (q 6), .ref (q 7), .ref (q 8), .ref (q 9), .ref (q 10), .ref (q 11), .ref (q 12), .ref (q 13), .ref (q 14), .ref (q 15), .ref (q 16), .int (zI (i 13)), .int (zI (i 14)), .int (zI (i 15)), .int (zI (i 16)), .int (zI (i 17)), .int (zI (i 18)), .ref (q 17), .ref (q 18), .ref (q 19), .ref (q 20)])), (a, .inl (cI, 200, .inl (fun k => zI (g_p k)))), (f, .inl (cI, 200, .inl (fun k => zI (g84 k))))]) (fun _ => rfl) (fun g84 e_g84 H locs hP hD hS => ?_)
                    have hqp85 : ProgOk g84 := ⟨hqp1.1.set (m := 9) e_g84 16 (by omega) rfl (by omega), hqp1.2.set e_g84 (by omega)⟩
                    have hmt86 := hmt1.keep e_g84 (by omega)
                    refine lv_aload hx hb dX9_merge_193 (lv_at hl 6 rfl) ?_
                    refine lv_iload hx hb dX9_merge_195 (lv_at hl 0 rfl) ?_
                    refine lv_bipush (v := zI 14) hx hb dX9_merge_197 (by decide) ?_
                    refine r_iadd (v := zI ((20 * v5) + 14)) F dX9_merge_199 (zI_add _ _) ?_
                    refine rz_iald F hK hP 2 0 rfl rfl (by omega) (by omega) dX9_merge_200 ?_
                    refine rz_top (fun z87 h_z87 => ?_)
                    refine lv_iconst (v := zI 2) hx hb dX9_merge_201 rfl ?_
                    refine rz_icmp_ne (tgt := 226) F (by omega) (by omega) dX9_merge_202 (by decide) (fun h202_87 => ?_) (fun h202_87 => ?_)
                    · refine lv_iconst (v := zI 0) hx hb dX9_merge_226 rfl ?_
                      refine lv_istore (lv' := [(7, .int (zI 0)), (6, .int (zI (20 * v5))), (5, .int (zI v5)), (0, .ref y), (1, .ref a), (2, .int (zI x)), (3, .int (zI w)), (4, .ref f)]) hx hb dX9_merge_227 hl (by decide) rfl (fun ls hl => ?_)
                      refine W.widen (k := 0) (n := 0) (Nat.le_of_ble_eq_true rfl) (Nat.le_of_ble_eq_true rfl) ?_
                      refine (?_ : ∀ (n9_3 : Nat) (v7 : Int) (gq2 : Nat → Int) (H : Heap) (locs : List Loc), (0 ≤ v7 ∧ v7 ≤ 4) → (4 - v7 : Int).toNat < n9_3 → (ProgOk gq2) → (MT g_p gq2 w) → va_P G vwCl [(y, .inr (9, [.int (zI (i 0)), .ref (q 0), .int (zI (i 1)), .int (zI (i 2)), .int (zI (i 3)), .int (zI (i 4)), .int (zI (i 5)), .int (zI (i 6)), .int (zI (i 7)), .int (zI (i 8)), .int (zI (i 9)), .int (zI (i 10)), .ref (q 1), .int (zI (i 11)), .int (zI (i 12)), .ref (q 2), .ref (q 3), .ref (q 4), .ref (q 5), .ref (q 6), .ref (q 7), .ref (q 8), .ref (q 9), .ref (q 10), .ref (q 11), .ref (q 12), .ref (q 13), .ref (q 14), .ref (q 15), .ref (q 16), .int (zI (i 13)), .int (zI (i 14)), .int (zI (i 15)), .int (zI (i 16)), .int (zI (i 17)), .int (zI (i 18)), .ref (q 17), .ref (q 18), .ref (q 19), .ref (q 20)])), (a, .inl (cI, 200, .inl (fun k => zI (g_p k)))), (f, .inl (cI, 200, .inl (fun k => zI (gq2 k))))] H → va_D A [(y, .inr (9, [.int (zI (i 0)), .ref (q 0), .int (zI (i 1)), .int (zI (i 2)), .int (zI (i 3)), .int (zI (i 4)), .int (zI (i 5)), .int (zI (i 6)), .int (zI (i 7)), .int (zI (i 8)), .int (zI (i 9)), .int (zI (i 10)), .ref (q 1), .int (zI (i 11)), .int (zI (i 12)), .ref (q 2), .ref (q 3), .ref (q 4), .ref (q 5), .ref (q 6), .ref (q 7), .ref (q 8), .ref (q 9), .ref (q 10), .ref (q 11), .ref (q 12), .ref (q 13), .ref (q 14), .ref (q 15), .ref (q 16), .int (zI (i 13)), .int (zI (i 14)), .int (zI (i 15)), .int (zI (i 16)), .int (zI (i 17)), .int (zI (i 18)), .ref (q 17), .ref (q 18), .ref (q 19), .ref (q 20)])), (a, .inl (cI, 200, .inl (fun k => zI (g_p k)))), (f, .inl (cI, 200, .inl (fun k => zI (gq2 k))))] → va_S A s.heap H locs → ∀ ls : Array Slot, lv_has ls 8 [(7, .int (zI v7)), (6, .int (zI (20 * v5))), (5, .int (zI v5)), (0, .ref y), (1, .ref a), (2, .int (zI x)), (3, .int (zI w)), (4, .ref f)] → W p l e rm_X9_merge s m ([.ref y, .ref a, .int (zI x), .int (zI w), .ref f] : List Value).toArray below meth c H locs 0 0 Q (F0 m 229 ls [])) ((4 - 0 : Int).toNat + 1) 0 g84 _ _ (by omega) (by omega) hqp85 hmt86 hP hD hS ls hl
                      clear hP hD hS hl ls
                      intro n9_3
                      induction n9_3 with
                      | zero =>
                        intro v7 gq2 H locs hI hM
                        exact absurd hM (by omega)
                      | succ n9_3 ih3 =>
                        intro v7 gq2 H locs hI3 hM3 hqp2 hmt2 hP hD hS ls hl
                        refine lv_iload hx hb dX9_merge_229 (lv_at hl 0 rfl) ?_
                        refine lv_aload hx hb dX9_merge_231 (lv_at hl 7 rfl) ?_
                        refine lv_iload hx hb dX9_merge_233 (lv_at hl 1 rfl) ?_
                        refine lv_iconst (v := zI 1) hx hb dX9_merge_235 rfl ?_
                        refine r_iadd (v := zI ((20 * v5) + 1)) F dX9_merge_236 (zI_add _ _) ?_
                        refine rz_iald F hK hP 2 0 rfl rfl (by omega) (by omega) dX9_merge_237 ?_
                        have hpl89 : 0 ≤ (gq2 (((20 * v5) + 1)).toNat) ∧ (gq2 (((20 * v5) + 1)).toNat) ≤ 4 := ProgR.at hqp2.1 (e := ((20 * v5) + 1)) v5 1 (by omega) (by omega) (by decide) rfl
                        refine rz_icmp_ge (tgt := 296) F (by omega) (by omega) dX9_merge_238 (by decide) (fun h238_89 => ?_) (fun h238_89 => ?_)
                        · refine lv_iinc (v := zI (v5 + 1)) (lv' := [(5, .int (zI (v5 + 1))), (7, .int (zI v7)), (6, .int (zI (20 * v5))), (0, .ref y), (1, .ref a), (2, .int (zI x)), (3, .int (zI w)), (4, .ref f)]) hx hb dX9_merge_296 hl (k := 2) rfl (zI_add _ _) (by decide) rfl (fun ls hl => ?_)
                          refine lv_goto (tgt := 132) hx hb dX9_merge_299 (by decide) ?_
                          exact ih2 (v5 + 1) gq2 _ _ (by omega) (by omega) hqp2 hmt2 hP hD hS ls (lv_sub hl [0, 3, 4, 5, 6, 7] rfl)
                        · refine lv_aload hx hb dX9_merge_241 (lv_at hl 7 rfl) ?_
                          refine lv_iload hx hb dX9_merge_243 (lv_at hl 1 rfl) ?_
                          refine lv_iconst (v := zI 2) hx hb dX9_merge_245 rfl ?_
                          refine r_iadd (v := zI ((20 * v5) + 2)) F dX9_merge_246 (zI_add _ _) ?_
                          refine lv_iconst (v := zI 3) hx hb dX9_merge_247 rfl ?_
                          refine lv_iload hx hb dX9_merge_248 (lv_at hl 0 rfl) ?_
                          refine r_imul (v := zI (3 * v7)) F dX9_merge_250 (zI_mul _ _) ?_
                          refine r_iadd (v := zI (((20 * v5) + 2) + (3 * v7))) F dX9_merge_251 (zI_add _ _) ?_
                          refine rz_iald F hK hP 2 0 rfl rfl (by omega) (by omega) dX9_merge_252 ?_
                          have hc91 := ProgOk.act hqp2 (i := v5) (n := v7) (k := (((20 * v5) + 2) + (3 * v7))) (by omega) (by omega) (by omega)
                          refine lv_iconst (v := zI 3) hx hb dX9_merge_253 rfl ?_
                          refine rz_icmp_ne (tgt := 290) F (by omega) (by omega) dX9_merge_254 (by decide) (fun h254_91 => ?_) (fun h254_91 => ?_)
                          · refine lv_iinc (v := zI (v7 + 1)) (lv' := [(7, .int (zI (v7 + 1))), (6, .int (zI (20 * v5))), (5, .int (zI v5)), (0, .ref y), (1, .ref a), (2, .int (zI x)), (3, .int (zI w)), (4, .ref f)]) hx hb dX9_merge_290 hl (k := 0) rfl (zI_add _ _) (by decide) rfl (fun ls hl => ?_)
                            refine lv_goto (tgt := 229) hx hb dX9_merge_293 (by decide) ?_
                            exact ih3 (v7 + 1) gq2 _ _ (by omega) (by omega) hqp2 hmt2 hP hD hS ls (lv_sub hl [0, 1, 2, 3, 4, 5, 6, 7] rfl)
                          · refine lv_aload hx hb dX9_merge_257 (lv_at hl 7 rfl) ?_
                            refine lv_iload hx hb dX9_merge_259 (lv_at hl 1 rfl) ?_
                            refine lv_iconst (v := zI 2) hx hb dX9_merge_261 rfl ?_
                            refine r_iadd (v := zI ((20 * v5) + 2)) F dX9_merge_262 (zI_add _ _) ?_
                            refine lv_iconst (v := zI 3) hx hb dX9_merge_263 rfl ?_
                            refine lv_iload hx hb dX9_merge_264 (lv_at hl 0 rfl) ?_
                            refine r_imul (v := zI (3 * v7)) F dX9_merge_266 (zI_mul _ _) ?_
                            refine r_iadd (v := zI (((20 * v5) + 2) + (3 * v7))) F dX9_merge_267 (zI_add _ _) ?_
                            refine lv_iconst (v := zI 1) hx hb dX9_merge_268 rfl ?_
                            refine r_iadd (v := zI ((((20 * v5) + 2) + (3 * v7)) + 1)) F dX9_merge_269 (zI_add _ _) ?_
                            refine rz_iald F hK hP 2 0 rfl rfl (by omega) (by omega) dX9_merge_270 ?_
                            refine rz_top (fun z93 h_z93 => ?_)
                            refine lv_iload_n hx hb dX9_merge_271 rfl (lv_at hl 6 rfl) ?_
                            refine rz_icmp_ne (tgt := 290) F (by omega) (by omega) dX9_merge_272 (by decide) (fun h272_93 => ?_) (fun h272_93 => ?_)
                            · refine lv_iinc (v := zI (v7 + 1)) (lv' := [(7, .int (zI (v7 + 1))), (6, .int (zI (20 * v5))), (5, .int (zI v5)), (0, .ref y), (1, .ref a), (2, .int (zI x)), (3, .int (zI w)), (4, .ref f)]) hx hb dX9_merge_290 hl (k := 0) rfl (zI_add _ _) (by decide) rfl (fun ls hl => ?_)
                              refine lv_goto (tgt := 229) hx hb dX9_merge_293 (by decide) ?_
                              exact ih3 (v7 + 1) gq2 _ _ (by omega) (by omega) hqp2 hmt2 hP hD hS ls (lv_sub hl [0, 1, 2, 3, 4, 5, 6, 7] rfl)
                            · refine lv_aload hx hb dX9_merge_275 (lv_at hl 7 rfl) ?_
                              refine lv_iload hx hb dX9_merge_277 (lv_at hl 1 rfl) ?_
                              refine lv_iconst (v := zI 2) hx hb dX9_merge_279 rfl ?_
                              refine r_iadd (v := zI ((20 * v5) + 2)) F dX9_merge_280 (zI_add _ _) ?_
                              refine lv_iconst (v := zI 3) hx hb dX9_merge_281 rfl ?_
                              refine lv_iload hx hb dX9_merge_282 (lv_at hl 0 rfl) ?_
                              refine r_imul (v := zI (3 * v7)) F dX9_merge_284 (zI_mul _ _) ?_
                              refine r_iadd (v := zI (((20 * v5) + 2) + (3 * v7))) F dX9_merge_285 (zI_add _ _) ?_
                              refine lv_iconst (v := zI 1) hx hb dX9_merge_286 rfl ?_
                              refine r_iadd (v := zI ((((20 * v5) + 2) + (3 * v7)) + 1)) F dX9_merge_287 (zI_add _ _) ?_
                              refine lv_iload_n hx hb dX9_merge_288 rfl (lv_at hl 5 rfl) ?_
                              refine rz_iastG F hK hP hD hS 2 0 rfl rfl (by omega) (by omega) dX9_merge_289 (w1 := fun g95 => [(y, .inr (9, [.int (zI (i 0)), .ref (q 0), .int (zI (i 1)), .int (zI (i 2)), .int (zI (i 3)), .int (zI (i 4)), .int (zI (i 5)), .int (zI (i 6)), .int (zI (i 7)), .int (zI (i 8)), .int (zI (i 9)), .int (zI (i 10)), .ref (q 1), .int (zI (i 11)), .int (zI (i 12)), .ref (q 2), .ref (q 3), .ref (q 4), .ref (q 5), .ref (q 6), .ref (q 7), .ref (q 8), .ref (q 9), .ref (q 10), .ref (q 11), .ref (q 12), .ref (q 13), .ref (q 14), .ref (q 15), .ref (q 16), .int (zI (i 13)), .int (zI (i 14)), .int (zI (i 15)), .int (zI (i 16)), .int (zI (i 17)), .int (zI (i 18)), .ref (q 17), .ref (q 18), .ref (q 19), .ref (q 20)])), (a, .inl (cI, 200, .inl (fun k => zI (g_p k)))), (f, .inl (cI, 200, .inl (fun k => zI (g95 k))))]) (fun _ => rfl) (fun g95 e_g95 H locs hP hD hS => ?_)
                              have hqp96 : ProgOk g95 := ProgOk.tgt3 hqp2 e_g95 (i := v5) (n := v7) (by omega) (by omega) (by omega) (by omega) (j := (((20 * v5) + 2) + (3 * v7)).toNat) (by omega) (by omega)
                              have hmt97 := MT.keepA hmt2 e_g95 (i := v5) (n := v7) (by omega) (by omega) (by omega)
                              refine lv_iinc (v := zI (v7 + 1)) (lv' := [(7, .int (zI (v7 + 1))), (6, .int (zI (20 * v5))), (5, .int (zI v5)), (0, .ref y), (1, .ref a), (2, .int (zI x)), (3, .int (zI w)), (4, .ref f)]) hx hb dX9_merge_290 hl (k := 0) rfl (zI_add _ _) (by decide) rfl (fun ls hl => ?_)
                              refine lv_goto (tgt := 229) hx hb dX9_merge_293 (by decide) ?_
                              exact ih3 (v7 + 1) g95 _ _ (by omega) (by omega) hqp96 hmt97 hP hD hS ls (lv_sub hl [0, 1, 2, 3, 4, 5, 6, 7] rfl)
                    · refine lv_aload hx hb dX9_merge_205 (lv_at hl 6 rfl) ?_
                      refine lv_iload hx hb dX9_merge_207 (lv_at hl 0 rfl) ?_
                      refine lv_bipush (v := zI 18) hx hb dX9_merge_209 (by decide) ?_
                      refine r_iadd (v := zI ((20 * v5) + 18)) F dX9_merge_211 (zI_add _ _) ?_
                      refine rz_iald F hK hP 2 0 rfl rfl (by omega) (by omega) dX9_merge_212 ?_
                      refine rz_top (fun z98 h_z98 => ?_)
                      refine lv_iload_n hx hb dX9_merge_213 rfl (lv_at hl 5 rfl) ?_
                      refine rz_icmp_ne (tgt := 226) F (by omega) (by omega) dX9_merge_214 (by decide) (fun h214_98 => ?_) (fun h214_98 => ?_)
                      · refine lv_iconst (v := zI 0) hx hb dX9_merge_226 rfl ?_
                        refine lv_istore (lv' := [(7, .int (zI 0)), (6, .int (zI (20 * v5))), (5, .int (zI v5)), (0, .ref y), (1, .ref a), (2, .int (zI x)), (3, .int (zI w)), (4, .ref f)]) hx hb dX9_merge_227 hl (by decide) rfl (fun ls hl => ?_)
                        refine W.widen (k := 0) (n := 0) (Nat.le_of_ble_eq_true rfl) (Nat.le_of_ble_eq_true rfl) ?_
                        refine (?_ : ∀ (n9_3 : Nat) (v7 : Int) (gq2 : Nat → Int) (H : Heap) (locs : List Loc), (0 ≤ v7 ∧ v7 ≤ 4) → (4 - v7 : Int).toNat < n9_3 → (ProgOk gq2) → (MT g_p gq2 w) → va_P G vwCl [(y, .inr (9, [.int (zI (i 0)), .ref (q 0), .int (zI (i 1)), .int (zI (i 2)), .int (zI (i 3)), .int (zI (i 4)), .int (zI (i 5)), .int (zI (i 6)), .int (zI (i 7)), .int (zI (i 8)), .int (zI (i 9)), .int (zI (i 10)), .ref (q 1), .int (zI (i 11)), .int (zI (i 12)), .ref (q 2), .ref (q 3), .ref (q 4), .ref (q 5), .ref (q 6), .ref (q 7), .ref (q 8), .ref (q 9), .ref (q 10), .ref (q 11), .ref (q 12), .ref (q 13), .ref (q 14), .ref (q 15), .ref (q 16), .int (zI (i 13)), .int (zI (i 14)), .int (zI (i 15)), .int (zI (i 16)), .int (zI (i 17)), .int (zI (i 18)), .ref (q 17), .ref (q 18), .ref (q 19), .ref (q 20)])), (a, .inl (cI, 200, .inl (fun k => zI (g_p k)))), (f, .inl (cI, 200, .inl (fun k => zI (gq2 k))))] H → va_D A [(y, .inr (9, [.int (zI (i 0)), .ref (q 0), .int (zI (i 1)), .int (zI (i 2)), .int (zI (i 3)), .int (zI (i 4)), .int (zI (i 5)), .int (zI (i 6)), .int (zI (i 7)), .int (zI (i 8)), .int (zI (i 9)), .int (zI (i 10)), .ref (q 1), .int (zI (i 11)), .int (zI (i 12)), .ref (q 2), .ref (q 3), .ref (q 4), .ref (q 5), .ref (q 6), .ref (q 7), .ref (q 8), .ref (q 9), .ref (q 10), .ref (q 11), .ref (q 12), .ref (q 13), .ref (q 14), .ref (q 15), .ref (q 16), .int (zI (i 13)), .int (zI (i 14)), .int (zI (i 15)), .int (zI (i 16)), .int (zI (i 17)), .int (zI (i 18)), .ref (q 17), .ref (q 18), .ref (q 19), .ref (q 20)])), (a, .inl (cI, 200, .inl (fun k => zI (g_p k)))), (f, .inl (cI, 200, .inl (fun k => zI (gq2 k))))] → va_S A s.heap H locs → ∀ ls : Array Slot, lv_has ls 8 [(7, .int (zI v7)), (6, .int (zI (20 * v5))), (5, .int (zI v5)), (0, .ref y), (1, .ref a), (2, .int (zI x)), (3, .int (zI w)), (4, .ref f)] → W p l e rm_X9_merge s m ([.ref y, .ref a, .int (zI x), .int (zI w), .ref f] : List Value).toArray below meth c H locs 0 0 Q (F0 m 229 ls [])) ((4 - 0 : Int).toNat + 1) 0 g84 _ _ (by omega) (by omega) hqp85 hmt86 hP hD hS ls hl
                        clear hP hD hS hl ls
                        intro n9_3
                        induction n9_3 with
                        | zero =>
                          intro v7 gq2 H locs hI hM
                          exact absurd hM (by omega)
                        | succ n9_3 ih3 =>
                          intro v7 gq2 H locs hI3 hM3 hqp2 hmt2 hP hD hS ls hl
                          refine lv_iload hx hb dX9_merge_229 (lv_at hl 0 rfl) ?_
                          refine lv_aload hx hb dX9_merge_231 (lv_at hl 7 rfl) ?_
                          refine lv_iload hx hb dX9_merge_233 (lv_at hl 1 rfl) ?_
                          refine lv_iconst (v := zI 1) hx hb dX9_merge_235 rfl ?_
                          refine r_iadd (v := zI ((20 * v5) + 1)) F dX9_merge_236 (zI_add _ _) ?_
                          refine rz_iald F hK hP 2 0 rfl rfl (by omega) (by omega) dX9_merge_237 ?_
                          have hpl100 : 0 ≤ (gq2 (((20 * v5) + 1)).toNat) ∧ (gq2 (((20 * v5) + 1)).toNat) ≤ 4 := ProgR.at hqp2.1 (e := ((20 * v5) + 1)) v5 1 (by omega) (by omega) (by decide) rfl
                          refine rz_icmp_ge (tgt := 296) F (by omega) (by omega) dX9_merge_238 (by decide) (fun h238_100 => ?_) (fun h238_100 => ?_)
                          · refine lv_iinc (v := zI (v5 + 1)) (lv' := [(5, .int (zI (v5 + 1))), (7, .int (zI v7)), (6, .int (zI (20 * v5))), (0, .ref y), (1, .ref a), (2, .int (zI x)), (3, .int (zI w)), (4, .ref f)]) hx hb dX9_merge_296 hl (k := 2) rfl (zI_add _ _) (by decide) rfl (fun ls hl => ?_)
                            refine lv_goto (tgt := 132) hx hb dX9_merge_299 (by decide) ?_
                            exact ih2 (v5 + 1) gq2 _ _ (by omega) (by omega) hqp2 hmt2 hP hD hS ls (lv_sub hl [0, 3, 4, 5, 6, 7] rfl)
                          · refine lv_aload hx hb dX9_merge_241 (lv_at hl 7 rfl) ?_
                            refine lv_iload hx hb dX9_merge_243 (lv_at hl 1 rfl) ?_
                            refine lv_iconst (v := zI 2) hx hb dX9_merge_245 rfl ?_
                            refine r_iadd (v := zI ((20 * v5) + 2)) F dX9_merge_246 (zI_add _ _) ?_
                            refine lv_iconst (v := zI 3) hx hb dX9_merge_247 rfl ?_
                            refine lv_iload hx hb dX9_merge_248 (lv_at hl 0 rfl) ?_
                            refine r_imul (v := zI (3 * v7)) F dX9_merge_250 (zI_mul _ _) ?_
                            refine r_iadd (v := zI (((20 * v5) + 2) + (3 * v7))) F dX9_merge_251 (zI_add _ _) ?_
                            refine rz_iald F hK hP 2 0 rfl rfl (by omega) (by omega) dX9_merge_252 ?_
                            have hc102 := ProgOk.act hqp2 (i := v5) (n := v7) (k := (((20 * v5) + 2) + (3 * v7))) (by omega) (by omega) (by omega)
                            refine lv_iconst (v := zI 3) hx hb dX9_merge_253 rfl ?_
                            refine rz_icmp_ne (tgt := 290) F (by omega) (by omega) dX9_merge_254 (by decide) (fun h254_102 => ?_) (fun h254_102 => ?_)
                            · refine lv_iinc (v := zI (v7 + 1)) (lv' := [(7, .int (zI (v7 + 1))), (6, .int (zI (20 * v5))), (5, .int (zI v5)), (0, .ref y), (1, .ref a), (2, .int (zI x)), (3, .int (zI w)), (4, .ref f)]) hx hb dX9_merge_290 hl (k := 0) rfl (zI_add _ _) (by decide) rfl (fun ls hl => ?_)
                              refine lv_goto (tgt := 229) hx hb dX9_merge_293 (by decide) ?_
                              exact ih3 (v7 + 1) gq2 _ _ (by omega) (by omega) hqp2 hmt2 hP hD hS ls (lv_sub hl [0, 1, 2, 3, 4, 5, 6, 7] rfl)
                            · refine lv_aload hx hb dX9_merge_257 (lv_at hl 7 rfl) ?_
                              refine lv_iload hx hb dX9_merge_259 (lv_at hl 1 rfl) ?_
                              refine lv_iconst (v := zI 2) hx hb dX9_merge_261 rfl ?_
                              refine r_iadd (v := zI ((20 * v5) + 2)) F dX9_merge_262 (zI_add _ _) ?_
                              refine lv_iconst (v := zI 3) hx hb dX9_merge_263 rfl ?_
                              refine lv_iload hx hb dX9_merge_264 (lv_at hl 0 rfl) ?_
                              refine r_imul (v := zI (3 * v7)) F dX9_merge_266 (zI_mul _ _) ?_
                              refine r_iadd (v := zI (((20 * v5) + 2) + (3 * v7))) F dX9_merge_267 (zI_add _ _) ?_
                              refine lv_iconst (v := zI 1) hx hb dX9_merge_268 rfl ?_
                              refine r_iadd (v := zI ((((20 * v5) + 2) + (3 * v7)) + 1)) F dX9_merge_269 (zI_add _ _) ?_
                              refine rz_iald F hK hP 2 0 rfl rfl (by omega) (by omega) dX9_merge_270 ?_
                              refine rz_top (fun z104 h_z104 => ?_)
                              refine lv_iload_n hx hb dX9_merge_271 rfl (lv_at hl 6 rfl) ?_
                              refine rz_icmp_ne (tgt := 290) F (by omega) (by omega) dX9_merge_272 (by decide) (fun h272_104 => ?_) (fun h272_104 => ?_)
                              · refine lv_iinc (v := zI (v7 + 1)) (lv' := [(7, .int (zI (v7 + 1))), (6, .int (zI (20 * v5))), (5, .int (zI v5)), (0, .ref y), (1, .ref a), (2, .int (zI x)), (3, .int (zI w)), (4, .ref f)]) hx hb dX9_merge_290 hl (k := 0) rfl (zI_add _ _) (by decide) rfl (fun ls hl => ?_)
                                refine lv_goto (tgt := 229) hx hb dX9_merge_293 (by decide) ?_
                                exact ih3 (v7 + 1) gq2 _ _ (by omega) (by omega) hqp2 hmt2 hP hD hS ls (lv_sub hl [0, 1, 2, 3, 4, 5, 6, 7] rfl)
                              · refine lv_aload hx hb dX9_merge_275 (lv_at hl 7 rfl) ?_
                                refine lv_iload hx hb dX9_merge_277 (lv_at hl 1 rfl) ?_
                                refine lv_iconst (v := zI 2) hx hb dX9_merge_279 rfl ?_
                                refine r_iadd (v := zI ((20 * v5) + 2)) F dX9_merge_280 (zI_add _ _) ?_
                                refine lv_iconst (v := zI 3) hx hb dX9_merge_281 rfl ?_
                                refine lv_iload hx hb dX9_merge_282 (lv_at hl 0 rfl) ?_
                                refine r_imul (v := zI (3 * v7)) F dX9_merge_284 (zI_mul _ _) ?_
                                refine r_iadd (v := zI (((20 * v5) + 2) + (3 * v7))) F dX9_merge_285 (zI_add _ _) ?_
                                refine lv_iconst (v := zI 1) hx hb dX9_merge_286 rfl ?_
                                refine r_iadd (v := zI ((((20 * v5) + 2) + (3 * v7)) + 1)) F dX9_merge_287 (zI_add _ _) ?_
                                refine lv_iload_n hx hb dX9_merge_288 rfl (lv_at hl 5 rfl) ?_
                                refine rz_iastG F hK hP hD hS 2 0 rfl rfl (by omega) (by omega) dX9_merge_289 (w1 := fun g106 => [(y, .inr (9, [.int (zI (i 0)), .ref (q 0), .int (zI (i 1)), .int (zI (i 2)), .int (zI (i 3)), .int (zI (i 4)), .int (zI (i 5)), .int (zI (i 6)), .int (zI (i 7)), .int (zI (i 8)), .int (zI (i 9)), .int (zI (i 10)), .ref (q 1), .int (zI (i 11)), .int (zI (i 12)), .ref (q 2), .ref (q 3), .ref (q 4), .ref (q 5), .ref (q 6), .ref (q 7), .ref (q 8), .ref (q 9), .ref (q 10), .ref (q 11), .ref (q 12), .ref (q 13), .ref (q 14), .ref (q 15), .ref (q 16), .int (zI (i 13)), .int (zI (i 14)), .int (zI (i 15)), .int (zI (i 16)), .int (zI (i 17)), .int (zI (i 18)), .ref (q 17), .ref (q 18), .ref (q 19), .ref (q 20)])), (a, .inl (cI, 200, .inl (fun k => zI (g_p k)))), (f, .inl (cI, 200, .inl (fun k => zI (g106 k))))]) (fun _ => rfl) (fun g106 e_g106 H locs hP hD hS => ?_)
                                have hqp107 : ProgOk g106 := ProgOk.tgt3 hqp2 e_g106 (i := v5) (n := v7) (by omega) (by omega) (by omega) (by omega) (j := (((20 * v5) + 2) + (3 * v7)).toNat) (by omega) (by omega)
                                have hmt108 := MT.keepA hmt2 e_g106 (i := v5) (n := v7) (by omega) (by omega) (by omega)
                                refine lv_iinc (v := zI (v7 + 1)) (lv' := [(7, .int (zI (v7 + 1))), (6, .int (zI (20 * v5))), (5, .int (zI v5)), (0, .ref y), (1, .ref a), (2, .int (zI x)), (3, .int (zI w)), (4, .ref f)]) hx hb dX9_merge_290 hl (k := 0) rfl (zI_add _ _) (by decide) rfl (fun ls hl => ?_)
                                refine lv_goto (tgt := 229) hx hb dX9_merge_293 (by decide) ?_
                                exact ih3 (v7 + 1) g106 _ _ (by omega) (by omega) hqp107 hmt108 hP hD hS ls (lv_sub hl [0, 1, 2, 3, 4, 5, 6, 7] rfl)
                      · refine lv_aload hx hb dX9_merge_217 (lv_at hl 6 rfl) ?_
                        refine lv_iload hx hb dX9_merge_219 (lv_at hl 0 rfl) ?_
                        refine lv_bipush (v := zI 18) hx hb dX9_merge_221 (by decide) ?_
                        refine r_iadd (v := zI ((20 * v5) + 18)) F dX9_merge_223 (zI_add _ _) ?_
                        refine lv_iload_n hx hb dX9_merge_224 rfl (lv_at hl 4 rfl) ?_
                        refine rz_iastG F hK hP hD hS 2 0 rfl rfl (by omega) (by omega) dX9_merge_225 (w1 := fun g109 => [(y, .inr (9, [.int (zI (i 0)), .ref (q 0), .int (zI (i 1)), .int (zI (i 2)), .int (zI (i 3)), .int (zI (i 4)), .int (zI (i 5)), .int (zI (i 6)), .int (zI (i 7)), .int (zI (i 8)), .int (zI (i 9)), .int (zI (i 10)), .ref (q 1), .int (zI (i 11)), .int (zI (i 12)), .ref (q 2), .ref (q 3), .ref (q 4), .ref (q 5), .ref (q 6), .ref (q 7), .ref (q 8), .ref (q 9), .ref (q 10), .ref (q 11), .ref (q 12), .ref (q 13), .ref (q 14), .ref (q 15), .ref (q 16), .int (zI (i 13)), .int (zI (i 14)), .int (zI (i 15)), .int (zI (i 16)), .int (zI (i 17)), .int (zI (i 18)), .ref (q 17), .ref (q 18), .ref (q 19), .ref (q 20)])), (a, .inl (cI, 200, .inl (fun k => zI (g_p k)))), (f, .inl (cI, 200, .inl (fun k => zI (g109 k))))]) (fun _ => rfl) (fun g109 e_g109 H locs hP hD hS => ?_)
                        have hqp110 : ProgOk g109 := ⟨hqp85.1.set (m := 9) e_g109 18 (by omega) rfl (by omega), hqp85.2.set e_g109 (by omega)⟩
                        have hmt111 := hmt86.keep e_g109 (by omega)
                        refine lv_iconst (v := zI 0) hx hb dX9_merge_226 rfl ?_
                        refine lv_istore (lv' := [(7, .int (zI 0)), (6, .int (zI (20 * v5))), (5, .int (zI v5)), (0, .ref y), (1, .ref a), (2, .int (zI x)), (3, .int (zI w)), (4, .ref f)]) hx hb dX9_merge_227 hl (by decide) rfl (fun ls hl => ?_)
                        refine W.widen (k := 0) (n := 0) (Nat.le_of_ble_eq_true rfl) (Nat.le_of_ble_eq_true rfl) ?_
                        refine (?_ : ∀ (n9_3 : Nat) (v7 : Int) (gq2 : Nat → Int) (H : Heap) (locs : List Loc), (0 ≤ v7 ∧ v7 ≤ 4) → (4 - v7 : Int).toNat < n9_3 → (ProgOk gq2) → (MT g_p gq2 w) → va_P G vwCl [(y, .inr (9, [.int (zI (i 0)), .ref (q 0), .int (zI (i 1)), .int (zI (i 2)), .int (zI (i 3)), .int (zI (i 4)), .int (zI (i 5)), .int (zI (i 6)), .int (zI (i 7)), .int (zI (i 8)), .int (zI (i 9)), .int (zI (i 10)), .ref (q 1), .int (zI (i 11)), .int (zI (i 12)), .ref (q 2), .ref (q 3), .ref (q 4), .ref (q 5), .ref (q 6), .ref (q 7), .ref (q 8), .ref (q 9), .ref (q 10), .ref (q 11), .ref (q 12), .ref (q 13), .ref (q 14), .ref (q 15), .ref (q 16), .int (zI (i 13)), .int (zI (i 14)), .int (zI (i 15)), .int (zI (i 16)), .int (zI (i 17)), .int (zI (i 18)), .ref (q 17), .ref (q 18), .ref (q 19), .ref (q 20)])), (a, .inl (cI, 200, .inl (fun k => zI (g_p k)))), (f, .inl (cI, 200, .inl (fun k => zI (gq2 k))))] H → va_D A [(y, .inr (9, [.int (zI (i 0)), .ref (q 0), .int (zI (i 1)), .int (zI (i 2)), .int (zI (i 3)), .int (zI (i 4)), .int (zI (i 5)), .int (zI (i 6)), .int (zI (i 7)), .int (zI (i 8)), .int (zI (i 9)), .int (zI (i 10)), .ref (q 1), .int (zI (i 11)), .int (zI (i 12)), .ref (q 2), .ref (q 3), .ref (q 4), .ref (q 5), .ref (q 6), .ref (q 7), .ref (q 8), .ref (q 9), .ref (q 10), .ref (q 11), .ref (q 12), .ref (q 13), .ref (q 14), .ref (q 15), .ref (q 16), .int (zI (i 13)), .int (zI (i 14)), .int (zI (i 15)), .int (zI (i 16)), .int (zI (i 17)), .int (zI (i 18)), .ref (q 17), .ref (q 18), .ref (q 19), .ref (q 20)])), (a, .inl (cI, 200, .inl (fun k => zI (g_p k)))), (f, .inl (cI, 200, .inl (fun k => zI (gq2 k))))] → va_S A s.heap H locs → ∀ ls : Array Slot, lv_has ls 8 [(7, .int (zI v7)), (6, .int (zI (20 * v5))), (5, .int (zI v5)), (0, .ref y), (1, .ref a), (2, .int (zI x)), (3, .int (zI w)), (4, .ref f)] → W p l e rm_X9_merge s m ([.ref y, .ref a, .int (zI x), .int (zI w), .ref f] : List Value).toArray below meth c H locs 0 0 Q (F0 m 229 ls [])) ((4 - 0 : Int).toNat + 1) 0 g109 _ _ (by omega) (by omega) hqp110 hmt111 hP hD hS ls hl
                        clear hP hD hS hl ls
                        intro n9_3
                        induction n9_3 with
                        | zero =>
                          intro v7 gq2 H locs hI hM
                          exact absurd hM (by omega)
                        | succ n9_3 ih3 =>
                          intro v7 gq2 H locs hI3 hM3 hqp2 hmt2 hP hD hS ls hl
                          refine lv_iload hx hb dX9_merge_229 (lv_at hl 0 rfl) ?_
                          refine lv_aload hx hb dX9_merge_231 (lv_at hl 7 rfl) ?_
                          refine lv_iload hx hb dX9_merge_233 (lv_at hl 1 rfl) ?_
                          refine lv_iconst (v := zI 1) hx hb dX9_merge_235 rfl ?_
                          refine r_iadd (v := zI ((20 * v5) + 1)) F dX9_merge_236 (zI_add _ _) ?_
                          refine rz_iald F hK hP 2 0 rfl rfl (by omega) (by omega) dX9_merge_237 ?_
                          have hpl112 : 0 ≤ (gq2 (((20 * v5) + 1)).toNat) ∧ (gq2 (((20 * v5) + 1)).toNat) ≤ 4 := ProgR.at hqp2.1 (e := ((20 * v5) + 1)) v5 1 (by omega) (by omega) (by decide) rfl
                          refine rz_icmp_ge (tgt := 296) F (by omega) (by omega) dX9_merge_238 (by decide) (fun h238_112 => ?_) (fun h238_112 => ?_)
                          · refine lv_iinc (v := zI (v5 + 1)) (lv' := [(5, .int (zI (v5 + 1))), (7, .int (zI v7)), (6, .int (zI (20 * v5))), (0, .ref y), (1, .ref a), (2, .int (zI x)), (3, .int (zI w)), (4, .ref f)]) hx hb dX9_merge_296 hl (k := 2) rfl (zI_add _ _) (by decide) rfl (fun ls hl => ?_)
                            refine lv_goto (tgt := 132) hx hb dX9_merge_299 (by decide) ?_
                            exact ih2 (v5 + 1) gq2 _ _ (by omega) (by omega) hqp2 hmt2 hP hD hS ls (lv_sub hl [0, 3, 4, 5, 6, 7] rfl)
                          · refine lv_aload hx hb dX9_merge_241 (lv_at hl 7 rfl) ?_
                            refine lv_iload hx hb dX9_merge_243 (lv_at hl 1 rfl) ?_
                            refine lv_iconst (v := zI 2) hx hb dX9_merge_245 rfl ?_
                            refine r_iadd (v := zI ((20 * v5) + 2)) F dX9_merge_246 (zI_add _ _) ?_
                            refine lv_iconst (v := zI 3) hx hb dX9_merge_247 rfl ?_
                            refine lv_iload hx hb dX9_merge_248 (lv_at hl 0 rfl) ?_
                            refine r_imul (v := zI (3 * v7)) F dX9_merge_250 (zI_mul _ _) ?_
                            refine r_iadd (v := zI (((20 * v5) + 2) + (3 * v7))) F dX9_merge_251 (zI_add _ _) ?_
                            refine rz_iald F hK hP 2 0 rfl rfl (by omega) (by omega) dX9_merge_252 ?_
                            have hc114 := ProgOk.act hqp2 (i := v5) (n := v7) (k := (((20 * v5) + 2) + (3 * v7))) (by omega) (by omega) (by omega)
                            refine lv_iconst (v := zI 3) hx hb dX9_merge_253 rfl ?_
                            refine rz_icmp_ne (tgt := 290) F (by omega) (by omega) dX9_merge_254 (by decide) (fun h254_114 => ?_) (fun h254_114 => ?_)
                            · refine lv_iinc (v := zI (v7 + 1)) (lv' := [(7, .int (zI (v7 + 1))), (6, .int (zI (20 * v5))), (5, .int (zI v5)), (0, .ref y), (1, .ref a), (2, .int (zI x)), (3, .int (zI w)), (4, .ref f)]) hx hb dX9_merge_290 hl (k := 0) rfl (zI_add _ _) (by decide) rfl (fun ls hl => ?_)
                              refine lv_goto (tgt := 229) hx hb dX9_merge_293 (by decide) ?_
                              exact ih3 (v7 + 1) gq2 _ _ (by omega) (by omega) hqp2 hmt2 hP hD hS ls (lv_sub hl [0, 1, 2, 3, 4, 5, 6, 7] rfl)
                            · refine lv_aload hx hb dX9_merge_257 (lv_at hl 7 rfl) ?_
                              refine lv_iload hx hb dX9_merge_259 (lv_at hl 1 rfl) ?_
                              refine lv_iconst (v := zI 2) hx hb dX9_merge_261 rfl ?_
                              refine r_iadd (v := zI ((20 * v5) + 2)) F dX9_merge_262 (zI_add _ _) ?_
                              refine lv_iconst (v := zI 3) hx hb dX9_merge_263 rfl ?_
                              refine lv_iload hx hb dX9_merge_264 (lv_at hl 0 rfl) ?_
                              refine r_imul (v := zI (3 * v7)) F dX9_merge_266 (zI_mul _ _) ?_
                              refine r_iadd (v := zI (((20 * v5) + 2) + (3 * v7))) F dX9_merge_267 (zI_add _ _) ?_
                              refine lv_iconst (v := zI 1) hx hb dX9_merge_268 rfl ?_
                              refine r_iadd (v := zI ((((20 * v5) + 2) + (3 * v7)) + 1)) F dX9_merge_269 (zI_add _ _) ?_
                              refine rz_iald F hK hP 2 0 rfl rfl (by omega) (by omega) dX9_merge_270 ?_
                              refine rz_top (fun z116 h_z116 => ?_)
                              refine lv_iload_n hx hb dX9_merge_271 rfl (lv_at hl 6 rfl) ?_
                              refine rz_icmp_ne (tgt := 290) F (by omega) (by omega) dX9_merge_272 (by decide) (fun h272_116 => ?_) (fun h272_116 => ?_)
                              · refine lv_iinc (v := zI (v7 + 1)) (lv' := [(7, .int (zI (v7 + 1))), (6, .int (zI (20 * v5))), (5, .int (zI v5)), (0, .ref y), (1, .ref a), (2, .int (zI x)), (3, .int (zI w)), (4, .ref f)]) hx hb dX9_merge_290 hl (k := 0) rfl (zI_add _ _) (by decide) rfl (fun ls hl => ?_)
                                refine lv_goto (tgt := 229) hx hb dX9_merge_293 (by decide) ?_
                                exact ih3 (v7 + 1) gq2 _ _ (by omega) (by omega) hqp2 hmt2 hP hD hS ls (lv_sub hl [0, 1, 2, 3, 4, 5, 6, 7] rfl)
                              · refine lv_aload hx hb dX9_merge_275 (lv_at hl 7 rfl) ?_
                                refine lv_iload hx hb dX9_merge_277 (lv_at hl 1 rfl) ?_
                                refine lv_iconst (v := zI 2) hx hb dX9_merge_279 rfl ?_
                                refine r_iadd (v := zI ((20 * v5) + 2)) F dX9_merge_280 (zI_add _ _) ?_
                                refine lv_iconst (v := zI 3) hx hb dX9_merge_281 rfl ?_
                                refine lv_iload hx hb dX9_merge_282 (lv_at hl 0 rfl) ?_
                                refine r_imul (v := zI (3 * v7)) F dX9_merge_284 (zI_mul _ _) ?_
                                refine r_iadd (v := zI (((20 * v5) + 2) + (3 * v7))) F dX9_merge_285 (zI_add _ _) ?_
                                refine lv_iconst (v := zI 1) hx hb dX9_merge_286 rfl ?_
                                refine r_iadd (v := zI ((((20 * v5) + 2) + (3 * v7)) + 1)) F dX9_merge_287 (zI_add _ _) ?_
                                refine lv_iload_n hx hb dX9_merge_288 rfl (lv_at hl 5 rfl) ?_
                                refine rz_iastG F hK hP hD hS 2 0 rfl rfl (by omega) (by omega) dX9_merge_289 (w1 := fun g118 => [(y, .inr (9, [.int (zI (i 0)), .ref (q 0), .int (zI (i 1)), .int (zI (i 2)), .int (zI (i 3)), .int (zI (i 4)), .int (zI (i 5)), .int (zI (i 6)), .int (zI (i 7)), .int (zI (i 8)), .int (zI (i 9)), .int (zI (i 10)), .ref (q 1), .int (zI (i 11)), .int (zI (i 12)), .ref (q 2), .ref (q 3), .ref (q 4), .ref (q 5), .ref (q 6), .ref (q 7), .ref (q 8), .ref (q 9), .ref (q 10), .ref (q 11), .ref (q 12), .ref (q 13), .ref (q 14), .ref (q 15), .ref (q 16), .int (zI (i 13)), .int (zI (i 14)), .int (zI (i 15)), .int (zI (i 16)), .int (zI (i 17)), .int (zI (i 18)), .ref (q 17), .ref (q 18), .ref (q 19), .ref (q 20)])), (a, .inl (cI, 200, .inl (fun k => zI (g_p k)))), (f, .inl (cI, 200, .inl (fun k => zI (g118 k))))]) (fun _ => rfl) (fun g118 e_g118 H locs hP hD hS => ?_)
                                have hqp119 : ProgOk g118 := ProgOk.tgt3 hqp2 e_g118 (i := v5) (n := v7) (by omega) (by omega) (by omega) (by omega) (j := (((20 * v5) + 2) + (3 * v7)).toNat) (by omega) (by omega)
                                have hmt120 := MT.keepA hmt2 e_g118 (i := v5) (n := v7) (by omega) (by omega) (by omega)
                                refine lv_iinc (v := zI (v7 + 1)) (lv' := [(7, .int (zI (v7 + 1))), (6, .int (zI (20 * v5))), (5, .int (zI v5)), (0, .ref y), (1, .ref a), (2, .int (zI x)), (3, .int (zI w)), (4, .ref f)]) hx hb dX9_merge_290 hl (k := 0) rfl (zI_add _ _) (by decide) rfl (fun ls hl => ?_)
                                refine lv_goto (tgt := 229) hx hb dX9_merge_293 (by decide) ?_
                                exact ih3 (v7 + 1) g118 _ _ (by omega) (by omega) hqp119 hmt120 hP hD hS ls (lv_sub hl [0, 1, 2, 3, 4, 5, 6, 7] rfl)
              · refine lv_goto (tgt := 296) hx hb dX9_merge_158 (by decide) ?_
                refine lv_iinc (v := zI (v5 + 1)) (lv' := [(5, .int (zI (v5 + 1))), (6, .int (zI (20 * v5))), (0, .ref y), (1, .ref a), (2, .int (zI x)), (3, .int (zI w)), (4, .ref f)]) hx hb dX9_merge_296 hl (k := 1) rfl (zI_add _ _) (by decide) rfl (fun ls hl => ?_)
                refine lv_goto (tgt := 132) hx hb dX9_merge_299 (by decide) ?_
                exact ih2 (v5 + 1) gq1 _ _ (by omega) (by omega) hqp1 hmt1 hP hD hS ls (lv_sub hl [0, 2, 3, 4, 5, 6] rfl)
        · refine lv_aload hx hb dX9_merge_95 (lv_at hl 5 rfl) ?_
          refine lv_bipush (v := zI 20) hx hb dX9_merge_97 (by decide) ?_
          refine lv_iload_n hx hb dX9_merge_99 rfl (lv_at hl 3 rfl) ?_
          refine r_imul (v := zI (20 * x)) F dX9_merge_100 (zI_mul _ _) ?_
          refine lv_bipush (v := zI 19) hx hb dX9_merge_101 (by decide) ?_
          refine r_iadd (v := zI ((20 * x) + 19)) F dX9_merge_103 (zI_add _ _) ?_
          refine lv_bipush (v := zI 9) hx hb dX9_merge_104 (by decide) ?_
          refine lv_aload_n hx hb dX9_merge_106 rfl (lv_at hl 2 rfl) ?_
          refine lv_bipush (v := zI 20) hx hb dX9_merge_107 (by decide) ?_
          refine lv_iload_n hx hb dX9_merge_109 rfl (lv_at hl 3 rfl) ?_
          refine r_imul (v := zI (20 * x)) F dX9_merge_110 (zI_mul _ _) ?_
          refine lv_bipush (v := zI 19) hx hb dX9_merge_111 (by decide) ?_
          refine r_iadd (v := zI ((20 * x) + 19)) F dX9_merge_113 (zI_add _ _) ?_
          refine rz_iald F hK hP 1 0 rfl rfl (by omega) (by omega) dX9_merge_114 ?_
          have hpl121 : 0 ≤ (g_p (((20 * x) + 19)).toNat) ∧ (g_p (((20 * x) + 19)).toNat) ≤ 9 := ProgR.at hp.1 (e := ((20 * x) + 19)) x 19 (by omega) (by omega) (by decide) rfl
          refine lv_aload_n hx hb dX9_merge_115 rfl (lv_at hl 2 rfl) ?_
          refine lv_bipush (v := zI 20) hx hb dX9_merge_116 (by decide) ?_
          refine lv_iload_n hx hb dX9_merge_118 rfl (lv_at hl 4 rfl) ?_
          refine r_imul (v := zI (20 * w)) F dX9_merge_119 (zI_mul _ _) ?_
          refine lv_bipush (v := zI 19) hx hb dX9_merge_120 (by decide) ?_
          refine r_iadd (v := zI ((20 * w) + 19)) F dX9_merge_122 (zI_add _ _) ?_
          refine rz_iald F hK hP 1 0 rfl rfl (by omega) (by omega) dX9_merge_123 ?_
          have hpl122 : 0 ≤ (g_p (((20 * w) + 19)).toNat) ∧ (g_p (((20 * w) + 19)).toNat) ≤ 9 := ProgR.at hp.1 (e := ((20 * w) + 19)) w 19 (by omega) (by omega) (by decide) rfl
          refine r_iadd (v := zI ((g_p (((20 * x) + 19)).toNat) + (g_p (((20 * w) + 19)).toNat))) F dX9_merge_124 (zI_add _ _) ?_
          refine r_callSi (As := [.int (zI 9), .int (zI ((g_p (((20 * x) + 19)).toNat) + (g_p (((20 * w) + 19)).toNat)))]) (rest := [.int (zI ((20 * x) + 19)), .ref f]) (wr := [(y, .inr (9, [.int (zI (i 0)), .ref (q 0), .int (zI (i 1)), .int (zI (i 2)), .int (zI (i 3)), .int (zI (i 4)), .int (zI (i 5)), .int (zI (i 6)), .int (zI (i 7)), .int (zI (i 8)), .int (zI (i 9)), .int (zI (i 10)), .ref (q 1), .int (zI (i 11)), .int (zI (i 12)), .ref (q 2), .ref (q 3), .ref (q 4), .ref (q 5), .ref (q 6), .ref (q 7), .ref (q 8), .ref (q 9), .ref (q 10), .ref (q 11), .ref (q 12), .ref (q 13), .ref (q 14), .ref (q 15), .ref (q 16), .int (zI (i 13)), .int (zI (i 14)), .int (zI (i 15)), .int (zI (i 16)), .int (zI (i 17)), .int (zI (i 18)), .ref (q 17), .ref (q 18), .ref (q 19), .ref (q 20)])), (a, .inl (cI, 200, .inl (fun k => zI (g_p k)))), (f, .inl (cI, 200, .inl (fun k => zI (gz9 k))))]) F hK hP hD hS hA hO hE (c_X9_less hO 9 ((g_p (((20 * x) + 19)).toNat) + (g_p (((20 * w) + 19)).toNat)) (by omega) (by omega)) k_1456 ks_X9_less 2 rfl (by decide +kernel) ⟨Nat.le_of_ble_eq_true rfl, Nat.le_of_ble_eq_true rfl⟩ [] [0, 1, 2] rfl rfl (by decide) (by decide) (by decide) hl.1 rfl (Nat.le_of_ble_eq_true rfl) dX9_merge_125 ⟨Nat.le_of_ble_eq_true rfl, Nat.le_of_ble_eq_true rfl⟩ (w1 := fun u123 => [(y, .inr (9, [.int (zI (i 0)), .ref (q 0), .int (zI (i 1)), .int (zI (i 2)), .int (zI (i 3)), .int (zI (i 4)), .int (zI (i 5)), .int (zI (i 6)), .int (zI (i 7)), .int (zI (i 8)), .int (zI (i 9)), .int (zI (i 10)), .ref (q 1), .int (zI (i 11)), .int (zI (i 12)), .ref (q 2), .ref (q 3), .ref (q 4), .ref (q 5), .ref (q 6), .ref (q 7), .ref (q 8), .ref (q 9), .ref (q 10), .ref (q 11), .ref (q 12), .ref (q 13), .ref (q 14), .ref (q 15), .ref (q 16), .int (zI (i 13)), .int (zI (i 14)), .int (zI (i 15)), .int (zI (i 16)), .int (zI (i 17)), .int (zI (i 18)), .ref (q 17), .ref (q 18), .ref (q 19), .ref (q 20)])), (a, .inl (cI, 200, .inl (fun k => zI (g_p k)))), (f, .inl (cI, 200, .inl (fun k => zI (gz9 k))))]) (fun _ => rfl) (fun r124 u123 H locs hp125 hP hD hS => ?_)
          obtain ⟨z126, rfl, h_z126⟩ := hp125
          refine rz_iastG F hK hP hD hS 2 0 rfl rfl (by omega) (by omega) dX9_merge_128 (w1 := fun g127 => [(y, .inr (9, [.int (zI (i 0)), .ref (q 0), .int (zI (i 1)), .int (zI (i 2)), .int (zI (i 3)), .int (zI (i 4)), .int (zI (i 5)), .int (zI (i 6)), .int (zI (i 7)), .int (zI (i 8)), .int (zI (i 9)), .int (zI (i 10)), .ref (q 1), .int (zI (i 11)), .int (zI (i 12)), .ref (q 2), .ref (q 3), .ref (q 4), .ref (q 5), .ref (q 6), .ref (q 7), .ref (q 8), .ref (q 9), .ref (q 10), .ref (q 11), .ref (q 12), .ref (q 13), .ref (q 14), .ref (q 15), .ref (q 16), .int (zI (i 13)), .int (zI (i 14)), .int (zI (i 15)), .int (zI (i 16)), .int (zI (i 17)), .int (zI (i 18)), .ref (q 17), .ref (q 18), .ref (q 19), .ref (q 20)])), (a, .inl (cI, 200, .inl (fun k => zI (g_p k)))), (f, .inl (cI, 200, .inl (fun k => zI (g127 k))))]) (fun _ => rfl) (fun g127 e_g127 H locs hP hD hS => ?_)
          have hqp128 : ProgOk g127 := ⟨hqp0.1.set (m := 9) e_g127 19 (by omega) rfl (by omega), hqp0.2.set e_g127 (by omega)⟩
          have hmt129 := hmt0.keep e_g127 (by omega)
          refine lv_iconst (v := zI 0) hx hb dX9_merge_129 rfl ?_
          refine lv_istore (lv' := [(5, .int (zI 0)), (0, .ref y), (1, .ref a), (2, .int (zI x)), (3, .int (zI w)), (4, .ref f)]) hx hb dX9_merge_130 hl (by decide) rfl (fun ls hl => ?_)
          refine W.widen (k := 0) (n := 0) (Nat.le_of_ble_eq_true rfl) (Nat.le_of_ble_eq_true rfl) ?_
          refine (?_ : ∀ (n9_2 : Nat) (v5 : Int) (gq1 : Nat → Int) (H : Heap) (locs : List Loc), (0 ≤ v5 ∧ v5 ≤ 10) → (10 - v5 : Int).toNat < n9_2 → (ProgOk gq1) → (MT g_p gq1 w) → va_P G vwCl [(y, .inr (9, [.int (zI (i 0)), .ref (q 0), .int (zI (i 1)), .int (zI (i 2)), .int (zI (i 3)), .int (zI (i 4)), .int (zI (i 5)), .int (zI (i 6)), .int (zI (i 7)), .int (zI (i 8)), .int (zI (i 9)), .int (zI (i 10)), .ref (q 1), .int (zI (i 11)), .int (zI (i 12)), .ref (q 2), .ref (q 3), .ref (q 4), .ref (q 5), .ref (q 6), .ref (q 7), .ref (q 8), .ref (q 9), .ref (q 10), .ref (q 11), .ref (q 12), .ref (q 13), .ref (q 14), .ref (q 15), .ref (q 16), .int (zI (i 13)), .int (zI (i 14)), .int (zI (i 15)), .int (zI (i 16)), .int (zI (i 17)), .int (zI (i 18)), .ref (q 17), .ref (q 18), .ref (q 19), .ref (q 20)])), (a, .inl (cI, 200, .inl (fun k => zI (g_p k)))), (f, .inl (cI, 200, .inl (fun k => zI (gq1 k))))] H → va_D A [(y, .inr (9, [.int (zI (i 0)), .ref (q 0), .int (zI (i 1)), .int (zI (i 2)), .int (zI (i 3)), .int (zI (i 4)), .int (zI (i 5)), .int (zI (i 6)), .int (zI (i 7)), .int (zI (i 8)), .int (zI (i 9)), .int (zI (i 10)), .ref (q 1), .int (zI (i 11)), .int (zI (i 12)), .ref (q 2), .ref (q 3), .ref (q 4), .ref (q 5), .ref (q 6), .ref (q 7), .ref (q 8), .ref (q 9), .ref (q 10), .ref (q 11), .ref (q 12), .ref (q 13), .ref (q 14), .ref (q 15), .ref (q 16), .int (zI (i 13)), .int (zI (i 14)), .int (zI (i 15)), .int (zI (i 16)), .int (zI (i 17)), .int (zI (i 18)), .ref (q 17), .ref (q 18), .ref (q 19), .ref (q 20)])), (a, .inl (cI, 200, .inl (fun k => zI (g_p k)))), (f, .inl (cI, 200, .inl (fun k => zI (gq1 k))))] → va_S A s.heap H locs → ∀ ls : Array Slot, lv_has ls 8 [(5, .int (zI v5)), (0, .ref y), (1, .ref a), (2, .int (zI x)), (3, .int (zI w)), (4, .ref f)] → W p l e rm_X9_merge s m ([.ref y, .ref a, .int (zI x), .int (zI w), .ref f] : List Value).toArray below meth c H locs 0 0 Q (F0 m 132 ls [])) ((10 - 0 : Int).toNat + 1) 0 g127 _ _ (by omega) (by omega) hqp128 hmt129 hP hD hS ls hl
          clear hP hD hS hl ls
          intro n9_2
          induction n9_2 with
          | zero =>
            intro v5 gq1 H locs hI hM
            exact absurd hM (by omega)
          | succ n9_2 ih2 =>
            intro v5 gq1 H locs hI2 hM2 hqp1 hmt1 hP hD hS ls hl
            refine lv_iload hx hb dX9_merge_132 (lv_at hl 0 rfl) ?_
            refine lv_aload_n hx hb dX9_merge_134 rfl (lv_at hl 1 rfl) ?_
            refine r_get F hK hP 0 30 rfl rfl in_X9 (by decide) k_1193 rfl dX9_merge_135 ?_
            refine rz_icmp_ge (tgt := 302) F (by omega) (by omega) dX9_merge_138 (by decide) (fun h138_129 => ?_) (fun h138_129 => ?_)
            · exact ret (fun k => [((fun _ => 0), fun _ _ => 0), (fun _ => 0, fun _ => gq1)].getD k (fun _ => 0, fun _ _ => 0)) _ _ _ _ _ _ ⟨hqp1, hmt1⟩ (bw_subP (isC := [0, 1, 2]) hP rfl) (hD.sub [0, 1, 2] (by decide) rfl) hS (Nat.le_of_ble_eq_true rfl) (Nat.le_of_ble_eq_true rfl) dX9_merge_302
            · refine lv_bipush (v := zI 20) hx hb dX9_merge_141 (by decide) ?_
              refine lv_iload hx hb dX9_merge_143 (lv_at hl 0 rfl) ?_
              refine r_imul (v := zI (20 * v5)) F dX9_merge_145 (zI_mul _ _) ?_
              refine lv_istore (lv' := [(6, .int (zI (20 * v5))), (5, .int (zI v5)), (0, .ref y), (1, .ref a), (2, .int (zI x)), (3, .int (zI w)), (4, .ref f)]) hx hb dX9_merge_146 hl (by decide) rfl (fun ls hl => ?_)
              refine lv_aload hx hb dX9_merge_148 (lv_at hl 6 rfl) ?_
              refine lv_iload hx hb dX9_merge_150 (lv_at hl 0 rfl) ?_
              refine lv_iconst (v := zI 0) hx hb dX9_merge_152 rfl ?_
              refine r_iadd (v := zI ((20 * v5) + 0)) F dX9_merge_153 (zI_add _ _) ?_
              refine rz_iald F hK hP 2 0 rfl rfl (by omega) (by omega) dX9_merge_154 ?_
              refine rz_top (fun z131 h_z131 => ?_)
              refine rz_if_ne (tgt := 161) F (by omega) dX9_merge_155 (by decide) (fun h155_131 => ?_) (fun h155_131 => ?_)
              · refine lv_aload hx hb dX9_merge_161 (lv_at hl 6 rfl) ?_
                refine lv_iload hx hb dX9_merge_163 (lv_at hl 0 rfl) ?_
                refine lv_bipush (v := zI 14) hx hb dX9_merge_165 (by decide) ?_
                refine r_iadd (v := zI ((20 * v5) + 14)) F dX9_merge_167 (zI_add _ _) ?_
                refine rz_iald F hK hP 2 0 rfl rfl (by omega) (by omega) dX9_merge_168 ?_
                refine rz_top (fun z133 h_z133 => ?_)
                refine rz_if_le (tgt := 193) F (by omega) dX9_merge_169 (by decide) (fun h169_133 => ?_) (fun h169_133 => ?_)
                · refine lv_aload hx hb dX9_merge_193 (lv_at hl 6 rfl) ?_
                  refine lv_iload hx hb dX9_merge_195 (lv_at hl 0 rfl) ?_
                  refine lv_bipush (v := zI 14) hx hb dX9_merge_197 (by decide) ?_
                  refine r_iadd (v := zI ((20 * v5) + 14)) F dX9_merge_199 (zI_add _ _) ?_
                  refine rz_iald F hK hP 2 0 rfl rfl (by omega) (by omega) dX9_merge_200 ?_
                  refine rz_top (fun z135 h_z135 => ?_)
                  refine lv_iconst (v := zI 2) hx hb dX9_merge_201 rfl ?_
                  refine rz_icmp_ne (tgt := 226) F (by omega) (by omega) dX9_merge_202 (by decide) (fun h202_135 => ?_) (fun h202_135 => ?_)
                  · refine lv_iconst (v := zI 0) hx hb dX9_merge_226 rfl ?_
                    refine lv_istore (lv' := [(7, .int (zI 0)), (6, .int (zI (20 * v5))), (5, .int (zI v5)), (0, .ref y), (1, .ref a), (2, .int (zI x)), (3, .int (zI w)), (4, .ref f)]) hx hb dX9_merge_227 hl (by decide) rfl (fun ls hl => ?_)
                    refine W.widen (k := 0) (n := 0) (Nat.le_of_ble_eq_true rfl) (Nat.le_of_ble_eq_true rfl) ?_
                    refine (?_ : ∀ (n9_3 : Nat) (v7 : Int) (gq2 : Nat → Int) (H : Heap) (locs : List Loc), (0 ≤ v7 ∧ v7 ≤ 4) → (4 - v7 : Int).toNat < n9_3 → (ProgOk gq2) → (MT g_p gq2 w) → va_P G vwCl [(y, .inr (9, [.int (zI (i 0)), .ref (q 0), .int (zI (i 1)), .int (zI (i 2)), .int (zI (i 3)), .int (zI (i 4)), .int (zI (i 5)), .int (zI (i 6)), .int (zI (i 7)), .int (zI (i 8)), .int (zI (i 9)), .int (zI (i 10)), .ref (q 1), .int (zI (i 11)), .int (zI (i 12)), .ref (q 2), .ref (q 3), .ref (q 4), .ref (q 5), .ref (q 6), .ref (q 7), .ref (q 8), .ref (q 9), .ref (q 10), .ref (q 11), .ref (q 12), .ref (q 13), .ref (q 14), .ref (q 15), .ref (q 16), .int (zI (i 13)), .int (zI (i 14)), .int (zI (i 15)), .int (zI (i 16)), .int (zI (i 17)), .int (zI (i 18)), .ref (q 17), .ref (q 18), .ref (q 19), .ref (q 20)])), (a, .inl (cI, 200, .inl (fun k => zI (g_p k)))), (f, .inl (cI, 200, .inl (fun k => zI (gq2 k))))] H → va_D A [(y, .inr (9, [.int (zI (i 0)), .ref (q 0), .int (zI (i 1)), .int (zI (i 2)), .int (zI (i 3)), .int (zI (i 4)), .int (zI (i 5)), .int (zI (i 6)), .int (zI (i 7)), .int (zI (i 8)), .int (zI (i 9)), .int (zI (i 10)), .ref (q 1), .int (zI (i 11)), .int (zI (i 12)), .ref (q 2), .ref (q 3), .ref (q 4), .ref (q 5), .ref (q 6), .ref (q 7), .ref (q 8), .ref (q 9), .ref (q 10), .ref (q 11), .ref (q 12), .ref (q 13), .ref (q 14), .ref (q 15), .ref (q 16), .int (zI (i 13)), .int (zI (i 14)), .int (zI (i 15)), .int (zI (i 16)), .int (zI (i 17)), .int (zI (i 18)), .ref (q 17), .ref (q 18), .ref (q 19), .ref (q 20)])), (a, .inl (cI, 200, .inl (fun k => zI (g_p k)))), (f, .inl (cI, 200, .inl (fun k => zI (gq2 k))))] → va_S A s.heap H locs → ∀ ls : Array Slot, lv_has ls 8 [(7, .int (zI v7)), (6, .int (zI (20 * v5))), (5, .int (zI v5)), (0, .ref y), (1, .ref a), (2, .int (zI x)), (3, .int (zI w)), (4, .ref f)] → W p l e rm_X9_merge s m ([.ref y, .ref a, .int (zI x), .int (zI w), .ref f] : List Value).toArray below meth c H locs 0 0 Q (F0 m 229 ls [])) ((4 - 0 : Int).toNat + 1) 0 gq1 _ _ (by omega) (by omega) hqp1 hmt1 hP hD hS ls hl
                    clear hP hD hS hl ls
                    intro n9_3
                    induction n9_3 with
                    | zero =>
                      intro v7 gq2 H locs hI hM
                      exact absurd hM (by omega)
                    | succ n9_3 ih3 =>
                      intro v7 gq2 H locs hI3 hM3 hqp2 hmt2 hP hD hS ls hl
                      refine lv_iload hx hb dX9_merge_229 (lv_at hl 0 rfl) ?_
                      refine lv_aload hx hb dX9_merge_231 (lv_at hl 7 rfl) ?_
                      refine lv_iload hx hb dX9_merge_233 (lv_at hl 1 rfl) ?_
                      refine lv_iconst (v := zI 1) hx hb dX9_merge_235 rfl ?_
                      refine r_iadd (v := zI ((20 * v5) + 1)) F dX9_merge_236 (zI_add _ _) ?_
                      refine rz_iald F hK hP 2 0 rfl rfl (by omega) (by omega) dX9_merge_237 ?_
                      have hpl137 : 0 ≤ (gq2 (((20 * v5) + 1)).toNat) ∧ (gq2 (((20 * v5) + 1)).toNat) ≤ 4 := ProgR.at hqp2.1 (e := ((20 * v5) + 1)) v5 1 (by omega) (by omega) (by decide) rfl
                      refine rz_icmp_ge (tgt := 296) F (by omega) (by omega) dX9_merge_238 (by decide) (fun h238_137 => ?_) (fun h238_137 => ?_)
                      · refine lv_iinc (v := zI (v5 + 1)) (lv' := [(5, .int (zI (v5 + 1))), (7, .int (zI v7)), (6, .int (zI (20 * v5))), (0, .ref y), (1, .ref a), (2, .int (zI x)), (3, .int (zI w)), (4, .ref f)]) hx hb dX9_merge_296 hl (k := 2) rfl (zI_add _ _) (by decide) rfl (fun ls hl => ?_)
                        refine lv_goto (tgt := 132) hx hb dX9_merge_299 (by decide) ?_
                        exact ih2 (v5 + 1) gq2 _ _ (by omega) (by omega) hqp2 hmt2 hP hD hS ls (lv_sub hl [0, 3, 4, 5, 6, 7] rfl)
                      · refine lv_aload hx hb dX9_merge_241 (lv_at hl 7 rfl) ?_
                        refine lv_iload hx hb dX9_merge_243 (lv_at hl 1 rfl) ?_
                        refine lv_iconst (v := zI 2) hx hb dX9_merge_245 rfl ?_
                        refine r_iadd (v := zI ((20 * v5) + 2)) F dX9_merge_246 (zI_add _ _) ?_
                        refine lv_iconst (v := zI 3) hx hb dX9_merge_247 rfl ?_
                        refine lv_iload hx hb dX9_merge_248 (lv_at hl 0 rfl) ?_
                        refine r_imul (v := zI (3 * v7)) F dX9_merge_250 (zI_mul _ _) ?_
                        refine r_iadd (v := zI (((20 * v5) + 2) + (3 * v7))) F dX9_merge_251 (zI_add _ _) ?_
                        refine rz_iald F hK hP 2 0 rfl rfl (by omega) (by omega) dX9_merge_252 ?_
                        have hc139 := ProgOk.act hqp2 (i := v5) (n := v7) (k := (((20 * v5) + 2) + (3 * v7))) (by omega) (by omega) (by omega)
                        refine lv_iconst (v := zI 3) hx hb dX9_merge_253 rfl ?_
                        refine rz_icmp_ne (tgt := 290) F (by omega) (by omega) dX9_merge_254 (by decide) (fun h254_139 => ?_) (fun h254_139 => ?_)
                        · refine lv_iinc (v := zI (v7 + 1)) (lv' := [(7, .int (zI (v7 + 1))), (6, .int (zI (20 * v5))), (5, .int (zI v5)), (0, .ref y), (1, .ref a), (2, .int (zI x)), (3, .int (zI w)), (4, .ref f)]) hx hb dX9_merge_290 hl (k := 0) rfl (zI_add _ _) (by decide) rfl (fun ls hl => ?_)
                          refine lv_goto (tgt := 229) hx hb dX9_merge_293 (by decide) ?_
                          exact ih3 (v7 + 1) gq2 _ _ (by omega) (by omega) hqp2 hmt2 hP hD hS ls (lv_sub hl [0, 1, 2, 3, 4, 5, 6, 7] rfl)
                        · refine lv_aload hx hb dX9_merge_257 (lv_at hl 7 rfl) ?_
                          refine lv_iload hx hb dX9_merge_259 (lv_at hl 1 rfl) ?_
                          refine lv_iconst (v := zI 2) hx hb dX9_merge_261 rfl ?_
                          refine r_iadd (v := zI ((20 * v5) + 2)) F dX9_merge_262 (zI_add _ _) ?_
                          refine lv_iconst (v := zI 3) hx hb dX9_merge_263 rfl ?_
                          refine lv_iload hx hb dX9_merge_264 (lv_at hl 0 rfl) ?_
                          refine r_imul (v := zI (3 * v7)) F dX9_merge_266 (zI_mul _ _) ?_
                          refine r_iadd (v := zI (((20 * v5) + 2) + (3 * v7))) F dX9_merge_267 (zI_add _ _) ?_
                          refine lv_iconst (v := zI 1) hx hb dX9_merge_268 rfl ?_
                          refine r_iadd (v := zI ((((20 * v5) + 2) + (3 * v7)) + 1)) F dX9_merge_269 (zI_add _ _) ?_
                          refine rz_iald F hK hP 2 0 rfl rfl (by omega) (by omega) dX9_merge_270 ?_
                          refine rz_top (fun z141 h_z141 => ?_)
                          refine lv_iload_n hx hb dX9_merge_271 rfl (lv_at hl 6 rfl) ?_
                          refine rz_icmp_ne (tgt := 290) F (by omega) (by omega) dX9_merge_272 (by decide) (fun h272_141 => ?_) (fun h272_141 => ?_)
                          · refine lv_iinc (v := zI (v7 + 1)) (lv' := [(7, .int (zI (v7 + 1))), (6, .int (zI (20 * v5))), (5, .int (zI v5)), (0, .ref y), (1, .ref a), (2, .int (zI x)), (3, .int (zI w)), (4, .ref f)]) hx hb dX9_merge_290 hl (k := 0) rfl (zI_add _ _) (by decide) rfl (fun ls hl => ?_)
                            refine lv_goto (tgt := 229) hx hb dX9_merge_293 (by decide) ?_
                            exact ih3 (v7 + 1) gq2 _ _ (by omega) (by omega) hqp2 hmt2 hP hD hS ls (lv_sub hl [0, 1, 2, 3, 4, 5, 6, 7] rfl)
                          · refine lv_aload hx hb dX9_merge_275 (lv_at hl 7 rfl) ?_
                            refine lv_iload hx hb dX9_merge_277 (lv_at hl 1 rfl) ?_
                            refine lv_iconst (v := zI 2) hx hb dX9_merge_279 rfl ?_
                            refine r_iadd (v := zI ((20 * v5) + 2)) F dX9_merge_280 (zI_add _ _) ?_
                            refine lv_iconst (v := zI 3) hx hb dX9_merge_281 rfl ?_
                            refine lv_iload hx hb dX9_merge_282 (lv_at hl 0 rfl) ?_
                            refine r_imul (v := zI (3 * v7)) F dX9_merge_284 (zI_mul _ _) ?_
                            refine r_iadd (v := zI (((20 * v5) + 2) + (3 * v7))) F dX9_merge_285 (zI_add _ _) ?_
                            refine lv_iconst (v := zI 1) hx hb dX9_merge_286 rfl ?_
                            refine r_iadd (v := zI ((((20 * v5) + 2) + (3 * v7)) + 1)) F dX9_merge_287 (zI_add _ _) ?_
                            refine lv_iload_n hx hb dX9_merge_288 rfl (lv_at hl 5 rfl) ?_
                            refine rz_iastG F hK hP hD hS 2 0 rfl rfl (by omega) (by omega) dX9_merge_289 (w1 := fun g143 => [(y, .inr (9, [.int (zI (i 0)), .ref (q 0), .int (zI (i 1)), .int (zI (i 2)), .int (zI (i 3)), .int (zI (i 4)), .int (zI (i 5)), .int (zI (i 6)), .int (zI (i 7)), .int (zI (i 8)), .int (zI (i 9)), .int (zI (i 10)), .ref (q 1), .int (zI (i 11)), .int (zI (i 12)), .ref (q 2), .ref (q 3), .ref (q 4), .ref (q 5), .ref (q 6), .ref (q 7), .ref (q 8), .ref (q 9), .ref (q 10), .ref (q 11), .ref (q 12), .ref (q 13), .ref (q 14), .ref (q 15), .ref (q 16), .int (zI (i 13)), .int (zI (i 14)), .int (zI (i 15)), .int (zI (i 16)), .int (zI (i 17)), .int (zI (i 18)), .ref (q 17), .ref (q 18), .ref (q 19), .ref (q 20)])), (a, .inl (cI, 200, .inl (fun k => zI (g_p k)))), (f, .inl (cI, 200, .inl (fun k => zI (g143 k))))]) (fun _ => rfl) (fun g143 e_g143 H locs hP hD hS => ?_)
                            have hqp144 : ProgOk g143 := ProgOk.tgt3 hqp2 e_g143 (i := v5) (n := v7) (by omega) (by omega) (by omega) (by omega) (j := (((20 * v5) + 2) + (3 * v7)).toNat) (by omega) (by omega)
                            have hmt145 := MT.keepA hmt2 e_g143 (i := v5) (n := v7) (by omega) (by omega) (by omega)
                            refine lv_iinc (v := zI (v7 + 1)) (lv' := [(7, .int (zI (v7 + 1))), (6, .int (zI (20 * v5))), (5, .int (zI v5)), (0, .ref y), (1, .ref a), (2, .int (zI x)), (3, .int (zI w)), (4, .ref f)]) hx hb dX9_merge_290 hl (k := 0) rfl (zI_add _ _) (by decide) rfl (fun ls hl => ?_)
                            refine lv_goto (tgt := 229) hx hb dX9_merge_293 (by decide) ?_
                            exact ih3 (v7 + 1) g143 _ _ (by omega) (by omega) hqp144 hmt145 hP hD hS ls (lv_sub hl [0, 1, 2, 3, 4, 5, 6, 7] rfl)
                  · refine lv_aload hx hb dX9_merge_205 (lv_at hl 6 rfl) ?_
                    refine lv_iload hx hb dX9_merge_207 (lv_at hl 0 rfl) ?_
                    refine lv_bipush (v := zI 18) hx hb dX9_merge_209 (by decide) ?_
                    refine r_iadd (v := zI ((20 * v5) + 18)) F dX9_merge_211 (zI_add _ _) ?_
                    refine rz_iald F hK hP 2 0 rfl rfl (by omega) (by omega) dX9_merge_212 ?_
                    refine rz_top (fun z146 h_z146 => ?_)
                    refine lv_iload_n hx hb dX9_merge_213 rfl (lv_at hl 5 rfl) ?_
                    refine rz_icmp_ne (tgt := 226) F (by omega) (by omega) dX9_merge_214 (by decide) (fun h214_146 => ?_) (fun h214_146 => ?_)
                    · refine lv_iconst (v := zI 0) hx hb dX9_merge_226 rfl ?_
                      refine lv_istore (lv' := [(7, .int (zI 0)), (6, .int (zI (20 * v5))), (5, .int (zI v5)), (0, .ref y), (1, .ref a), (2, .int (zI x)), (3, .int (zI w)), (4, .ref f)]) hx hb dX9_merge_227 hl (by decide) rfl (fun ls hl => ?_)
                      refine W.widen (k := 0) (n := 0) (Nat.le_of_ble_eq_true rfl) (Nat.le_of_ble_eq_true rfl) ?_
                      refine (?_ : ∀ (n9_3 : Nat) (v7 : Int) (gq2 : Nat → Int) (H : Heap) (locs : List Loc), (0 ≤ v7 ∧ v7 ≤ 4) → (4 - v7 : Int).toNat < n9_3 → (ProgOk gq2) → (MT g_p gq2 w) → va_P G vwCl [(y, .inr (9, [.int (zI (i 0)), .ref (q 0), .int (zI (i 1)), .int (zI (i 2)), .int (zI (i 3)), .int (zI (i 4)), .int (zI (i 5)), .int (zI (i 6)), .int (zI (i 7)), .int (zI (i 8)), .int (zI (i 9)), .int (zI (i 10)), .ref (q 1), .int (zI (i 11)), .int (zI (i 12)), .ref (q 2), .ref (q 3), .ref (q 4), .ref (q 5), .ref (q 6), .ref (q 7), .ref (q 8), .ref (q 9), .ref (q 10), .ref (q 11), .ref (q 12), .ref (q 13), .ref (q 14), .ref (q 15), .ref (q 16), .int (zI (i 13)), .int (zI (i 14)), .int (zI (i 15)), .int (zI (i 16)), .int (zI (i 17)), .int (zI (i 18)), .ref (q 17), .ref (q 18), .ref (q 19), .ref (q 20)])), (a, .inl (cI, 200, .inl (fun k => zI (g_p k)))), (f, .inl (cI, 200, .inl (fun k => zI (gq2 k))))] H → va_D A [(y, .inr (9, [.int (zI (i 0)), .ref (q 0), .int (zI (i 1)), .int (zI (i 2)), .int (zI (i 3)), .int (zI (i 4)), .int (zI (i 5)), .int (zI (i 6)), .int (zI (i 7)), .int (zI (i 8)), .int (zI (i 9)), .int (zI (i 10)), .ref (q 1), .int (zI (i 11)), .int (zI (i 12)), .ref (q 2), .ref (q 3), .ref (q 4), .ref (q 5), .ref (q 6), .ref (q 7), .ref (q 8), .ref (q 9), .ref (q 10), .ref (q 11), .ref (q 12), .ref (q 13), .ref (q 14), .ref (q 15), .ref (q 16), .int (zI (i 13)), .int (zI (i 14)), .int (zI (i 15)), .int (zI (i 16)), .int (zI (i 17)), .int (zI (i 18)), .ref (q 17), .ref (q 18), .ref (q 19), .ref (q 20)])), (a, .inl (cI, 200, .inl (fun k => zI (g_p k)))), (f, .inl (cI, 200, .inl (fun k => zI (gq2 k))))] → va_S A s.heap H locs → ∀ ls : Array Slot, lv_has ls 8 [(7, .int (zI v7)), (6, .int (zI (20 * v5))), (5, .int (zI v5)), (0, .ref y), (1, .ref a), (2, .int (zI x)), (3, .int (zI w)), (4, .ref f)] → W p l e rm_X9_merge s m ([.ref y, .ref a, .int (zI x), .int (zI w), .ref f] : List Value).toArray below meth c H locs 0 0 Q (F0 m 229 ls [])) ((4 - 0 : Int).toNat + 1) 0 gq1 _ _ (by omega) (by omega) hqp1 hmt1 hP hD hS ls hl
                      clear hP hD hS hl ls
                      intro n9_3
                      induction n9_3 with
                      | zero =>
                        intro v7 gq2 H locs hI hM
                        exact absurd hM (by omega)
                      | succ n9_3 ih3 =>
                        intro v7 gq2 H locs hI3 hM3 hqp2 hmt2 hP hD hS ls hl
                        refine lv_iload hx hb dX9_merge_229 (lv_at hl 0 rfl) ?_
                        refine lv_aload hx hb dX9_merge_231 (lv_at hl 7 rfl) ?_
                        refine lv_iload hx hb dX9_merge_233 (lv_at hl 1 rfl) ?_
                        refine lv_iconst (v := zI 1) hx hb dX9_merge_235 rfl ?_
                        refine r_iadd (v := zI ((20 * v5) + 1)) F dX9_merge_236 (zI_add _ _) ?_
                        refine rz_iald F hK hP 2 0 rfl rfl (by omega) (by omega) dX9_merge_237 ?_
                        have hpl148 : 0 ≤ (gq2 (((20 * v5) + 1)).toNat) ∧ (gq2 (((20 * v5) + 1)).toNat) ≤ 4 := ProgR.at hqp2.1 (e := ((20 * v5) + 1)) v5 1 (by omega) (by omega) (by decide) rfl
                        refine rz_icmp_ge (tgt := 296) F (by omega) (by omega) dX9_merge_238 (by decide) (fun h238_148 => ?_) (fun h238_148 => ?_)
                        · refine lv_iinc (v := zI (v5 + 1)) (lv' := [(5, .int (zI (v5 + 1))), (7, .int (zI v7)), (6, .int (zI (20 * v5))), (0, .ref y), (1, .ref a), (2, .int (zI x)), (3, .int (zI w)), (4, .ref f)]) hx hb dX9_merge_296 hl (k := 2) rfl (zI_add _ _) (by decide) rfl (fun ls hl => ?_)
                          refine lv_goto (tgt := 132) hx hb dX9_merge_299 (by decide) ?_
                          exact ih2 (v5 + 1) gq2 _ _ (by omega) (by omega) hqp2 hmt2 hP hD hS ls (lv_sub hl [0, 3, 4, 5, 6, 7] rfl)
                        · refine lv_aload hx hb dX9_merge_241 (lv_at hl 7 rfl) ?_
                          refine lv_iload hx hb dX9_merge_243 (lv_at hl 1 rfl) ?_
                          refine lv_iconst (v := zI 2) hx hb dX9_merge_245 rfl ?_
                          refine r_iadd (v := zI ((20 * v5) + 2)) F dX9_merge_246 (zI_add _ _) ?_
                          refine lv_iconst (v := zI 3) hx hb dX9_merge_247 rfl ?_
                          refine lv_iload hx hb dX9_merge_248 (lv_at hl 0 rfl) ?_
                          refine r_imul (v := zI (3 * v7)) F dX9_merge_250 (zI_mul _ _) ?_
                          refine r_iadd (v := zI (((20 * v5) + 2) + (3 * v7))) F dX9_merge_251 (zI_add _ _) ?_
                          refine rz_iald F hK hP 2 0 rfl rfl (by omega) (by omega) dX9_merge_252 ?_
                          have hc150 := ProgOk.act hqp2 (i := v5) (n := v7) (k := (((20 * v5) + 2) + (3 * v7))) (by omega) (by omega) (by omega)
                          refine lv_iconst (v := zI 3) hx hb dX9_merge_253 rfl ?_
                          refine rz_icmp_ne (tgt := 290) F (by omega) (by omega) dX9_merge_254 (by decide) (fun h254_150 => ?_) (fun h254_150 => ?_)
                          · refine lv_iinc (v := zI (v7 + 1)) (lv' := [(7, .int (zI (v7 + 1))), (6, .int (zI (20 * v5))), (5, .int (zI v5)), (0, .ref y), (1, .ref a), (2, .int (zI x)), (3, .int (zI w)), (4, .ref f)]) hx hb dX9_merge_290 hl (k := 0) rfl (zI_add _ _) (by decide) rfl (fun ls hl => ?_)
                            refine lv_goto (tgt := 229) hx hb dX9_merge_293 (by decide) ?_
                            exact ih3 (v7 + 1) gq2 _ _ (by omega) (by omega) hqp2 hmt2 hP hD hS ls (lv_sub hl [0, 1, 2, 3, 4, 5, 6, 7] rfl)
                          · refine lv_aload hx hb dX9_merge_257 (lv_at hl 7 rfl) ?_
                            refine lv_iload hx hb dX9_merge_259 (lv_at hl 1 rfl) ?_
                            refine lv_iconst (v := zI 2) hx hb dX9_merge_261 rfl ?_
                            refine r_iadd (v := zI ((20 * v5) + 2)) F dX9_merge_262 (zI_add _ _) ?_
                            refine lv_iconst (v := zI 3) hx hb dX9_merge_263 rfl ?_
                            refine lv_iload hx hb dX9_merge_264 (lv_at hl 0 rfl) ?_
                            refine r_imul (v := zI (3 * v7)) F dX9_merge_266 (zI_mul _ _) ?_
                            refine r_iadd (v := zI (((20 * v5) + 2) + (3 * v7))) F dX9_merge_267 (zI_add _ _) ?_
                            refine lv_iconst (v := zI 1) hx hb dX9_merge_268 rfl ?_
                            refine r_iadd (v := zI ((((20 * v5) + 2) + (3 * v7)) + 1)) F dX9_merge_269 (zI_add _ _) ?_
                            refine rz_iald F hK hP 2 0 rfl rfl (by omega) (by omega) dX9_merge_270 ?_
                            refine rz_top (fun z152 h_z152 => ?_)
                            refine lv_iload_n hx hb dX9_merge_271 rfl (lv_at hl 6 rfl) ?_
                            refine rz_icmp_ne (tgt := 290) F (by omega) (by omega) dX9_merge_272 (by decide) (fun h272_152 => ?_) (fun h272_152 => ?_)
                            · refine lv_iinc (v := zI (v7 + 1)) (lv' := [(7, .int (zI (v7 + 1))), (6, .int (zI (20 * v5))), (5, .int (zI v5)), (0, .ref y), (1, .ref a), (2, .int (zI x)), (3, .int (zI w)), (4, .ref f)]) hx hb dX9_merge_290 hl (k := 0) rfl (zI_add _ _) (by decide) rfl (fun ls hl => ?_)
                              refine lv_goto (tgt := 229) hx hb dX9_merge_293 (by decide) ?_
                              exact ih3 (v7 + 1) gq2 _ _ (by omega) (by omega) hqp2 hmt2 hP hD hS ls (lv_sub hl [0, 1, 2, 3, 4, 5, 6, 7] rfl)
                            · refine lv_aload hx hb dX9_merge_275 (lv_at hl 7 rfl) ?_
                              refine lv_iload hx hb dX9_merge_277 (lv_at hl 1 rfl) ?_
                              refine lv_iconst (v := zI 2) hx hb dX9_merge_279 rfl ?_
                              refine r_iadd (v := zI ((20 * v5) + 2)) F dX9_merge_280 (zI_add _ _) ?_
                              refine lv_iconst (v := zI 3) hx hb dX9_merge_281 rfl ?_
                              refine lv_iload hx hb dX9_merge_282 (lv_at hl 0 rfl) ?_
                              refine r_imul (v := zI (3 * v7)) F dX9_merge_284 (zI_mul _ _) ?_
                              refine r_iadd (v := zI (((20 * v5) + 2) + (3 * v7))) F dX9_merge_285 (zI_add _ _) ?_
                              refine lv_iconst (v := zI 1) hx hb dX9_merge_286 rfl ?_
                              refine r_iadd (v := zI ((((20 * v5) + 2) + (3 * v7)) + 1)) F dX9_merge_287 (zI_add _ _) ?_
                              refine lv_iload_n hx hb dX9_merge_288 rfl (lv_at hl 5 rfl) ?_
                              refine rz_iastG F hK hP hD hS 2 0 rfl rfl (by omega) (by omega) dX9_merge_289 (w1 := fun g154 => [(y, .inr (9, [.int (zI (i 0)), .ref (q 0), .int (zI (i 1)), .int (zI (i 2)), .int (zI (i 3)), .int (zI (i 4)), .int (zI (i 5)), .int (zI (i 6)), .int (zI (i 7)), .int (zI (i 8)), .int (zI (i 9)), .int (zI (i 10)), .ref (q 1), .int (zI (i 11)), .int (zI (i 12)), .ref (q 2), .ref (q 3), .ref (q 4), .ref (q 5), .ref (q 6), .ref (q 7), .ref (q 8), .ref (q 9), .ref (q 10), .ref (q 11), .ref (q 12), .ref (q 13), .ref (q 14), .ref (q 15), .ref (q 16), .int (zI (i 13)), .int (zI (i 14)), .int (zI (i 15)), .int (zI (i 16)), .int (zI (i 17)), .int (zI (i 18)), .ref (q 17), .ref (q 18), .ref (q 19), .ref (q 20)])), (a, .inl (cI, 200, .inl (fun k => zI (g_p k)))), (f, .inl (cI, 200, .inl (fun k => zI (g154 k))))]) (fun _ => rfl) (fun g154 e_g154 H locs hP hD hS => ?_)
                              have hqp155 : ProgOk g154 := ProgOk.tgt3 hqp2 e_g154 (i := v5) (n := v7) (by omega) (by omega) (by omega) (by omega) (j := (((20 * v5) + 2) + (3 * v7)).toNat) (by omega) (by omega)
                              have hmt156 := MT.keepA hmt2 e_g154 (i := v5) (n := v7) (by omega) (by omega) (by omega)
                              refine lv_iinc (v := zI (v7 + 1)) (lv' := [(7, .int (zI (v7 + 1))), (6, .int (zI (20 * v5))), (5, .int (zI v5)), (0, .ref y), (1, .ref a), (2, .int (zI x)), (3, .int (zI w)), (4, .ref f)]) hx hb dX9_merge_290 hl (k := 0) rfl (zI_add _ _) (by decide) rfl (fun ls hl => ?_)
                              refine lv_goto (tgt := 229) hx hb dX9_merge_293 (by decide) ?_
                              exact ih3 (v7 + 1) g154 _ _ (by omega) (by omega) hqp155 hmt156 hP hD hS ls (lv_sub hl [0, 1, 2, 3, 4, 5, 6, 7] rfl)
                    · refine lv_aload hx hb dX9_merge_217 (lv_at hl 6 rfl) ?_
                      refine lv_iload hx hb dX9_merge_219 (lv_at hl 0 rfl) ?_
                      refine lv_bipush (v := zI 18) hx hb dX9_merge_221 (by decide) ?_
                      refine r_iadd (v := zI ((20 * v5) + 18)) F dX9_merge_223 (zI_add _ _) ?_
                      refine lv_iload_n hx hb dX9_merge_224 rfl (lv_at hl 4 rfl) ?_
                      refine rz_iastG F hK hP hD hS 2 0 rfl rfl (by omega) (by omega) dX9_merge_225 (w1 := fun g157 => [(y, .inr (9, [.int (zI (i 0)), .ref (q 0), .int (zI (i 1)), .int (zI (i 2)), .int (zI (i 3)), .int (zI (i 4)), .int (zI (i 5)), .int (zI (i 6)), .int (zI (i 7)), .int (zI (i 8)), .int (zI (i 9)), .int (zI (i 10)), .ref (q 1), .int (zI (i 11)), .int (zI (i 12)), .ref (q 2), .ref (q 3), .ref (q 4), .ref (q 5), .ref (q 6), .ref (q 7), .ref (q 8), .ref (q 9), .ref (q 10), .ref (q 11), .ref (q 12), .ref (q 13), .ref (q 14), .ref (q 15), .ref (q 16), .int (zI (i 13)), .int (zI (i 14)), .int (zI (i 15)), .int (zI (i 16)), .int (zI (i 17)), .int (zI (i 18)), .ref (q 17), .ref (q 18), .ref (q 19), .ref (q 20)])), (a, .inl (cI, 200, .inl (fun k => zI (g_p k)))), (f, .inl (cI, 200, .inl (fun k => zI (g157 k))))]) (fun _ => rfl) (fun g157 e_g157 H locs hP hD hS => ?_)
                      have hqp158 : ProgOk g157 := ⟨hqp1.1.set (m := 9) e_g157 18 (by omega) rfl (by omega), hqp1.2.set e_g157 (by omega)⟩
                      have hmt159 := hmt1.keep e_g157 (by omega)
                      refine lv_iconst (v := zI 0) hx hb dX9_merge_226 rfl ?_
                      refine lv_istore (lv' := [(7, .int (zI 0)), (6, .int (zI (20 * v5))), (5, .int (zI v5)), (0, .ref y), (1, .ref a), (2, .int (zI x)), (3, .int (zI w)), (4, .ref f)]) hx hb dX9_merge_227 hl (by decide) rfl (fun ls hl => ?_)
                      refine W.widen (k := 0) (n := 0) (Nat.le_of_ble_eq_true rfl) (Nat.le_of_ble_eq_true rfl) ?_
                      refine (?_ : ∀ (n9_3 : Nat) (v7 : Int) (gq2 : Nat → Int) (H : Heap) (locs : List Loc), (0 ≤ v7 ∧ v7 ≤ 4) → (4 - v7 : Int).toNat < n9_3 → (ProgOk gq2) → (MT g_p gq2 w) → va_P G vwCl [(y, .inr (9, [.int (zI (i 0)), .ref (q 0), .int (zI (i 1)), .int (zI (i 2)), .int (zI (i 3)), .int (zI (i 4)), .int (zI (i 5)), .int (zI (i 6)), .int (zI (i 7)), .int (zI (i 8)), .int (zI (i 9)), .int (zI (i 10)), .ref (q 1), .int (zI (i 11)), .int (zI (i 12)), .ref (q 2), .ref (q 3), .ref (q 4), .ref (q 5), .ref (q 6), .ref (q 7), .ref (q 8), .ref (q 9), .ref (q 10), .ref (q 11), .ref (q 12), .ref (q 13), .ref (q 14), .ref (q 15), .ref (q 16), .int (zI (i 13)), .int (zI (i 14)), .int (zI (i 15)), .int (zI (i 16)), .int (zI (i 17)), .int (zI (i 18)), .ref (q 17), .ref (q 18), .ref (q 19), .ref (q 20)])), (a, .inl (cI, 200, .inl (fun k => zI (g_p k)))), (f, .inl (cI, 200, .inl (fun k => zI (gq2 k))))] H → va_D A [(y, .inr (9, [.int (zI (i 0)), .ref (q 0), .int (zI (i 1)), .int (zI (i 2)), .int (zI (i 3)), .int (zI (i 4)), .int (zI (i 5)), .int (zI (i 6)), .int (zI (i 7)), .int (zI (i 8)), .int (zI (i 9)), .int (zI (i 10)), .ref (q 1), .int (zI (i 11)), .int (zI (i 12)), .ref (q 2), .ref (q 3), .ref (q 4), .ref (q 5), .ref (q 6), .ref (q 7), .ref (q 8), .ref (q 9), .ref (q 10), .ref (q 11), .ref (q 12), .ref (q 13), .ref (q 14), .ref (q 15), .ref (q 16), .int (zI (i 13)), .int (zI (i 14)), .int (zI (i 15)), .int (zI (i 16)), .int (zI (i 17)), .int (zI (i 18)), .ref (q 17), .ref (q 18), .ref (q 19), .ref (q 20)])), (a, .inl (cI, 200, .inl (fun k => zI (g_p k)))), (f, .inl (cI, 200, .inl (fun k => zI (gq2 k))))] → va_S A s.heap H locs → ∀ ls : Array Slot, lv_has ls 8 [(7, .int (zI v7)), (6, .int (zI (20 * v5))), (5, .int (zI v5)), (0, .ref y), (1, .ref a), (2, .int (zI x)), (3, .int (zI w)), (4, .ref f)] → W p l e rm_X9_merge s m ([.ref y, .ref a, .int (zI x), .int (zI w), .ref f] : List Value).toArray below meth c H locs 0 0 Q (F0 m 229 ls [])) ((4 - 0 : Int).toNat + 1) 0 g157 _ _ (by omega) (by omega) hqp158 hmt159 hP hD hS ls hl
                      clear hP hD hS hl ls
                      intro n9_3
                      induction n9_3 with
                      | zero =>
                        intro v7 gq2 H locs hI hM
                        exact absurd hM (by omega)
                      | succ n9_3 ih3 =>
                        intro v7 gq2 H locs hI3 hM3 hqp2 hmt2 hP hD hS ls hl
                        refine lv_iload hx hb dX9_merge_229 (lv_at hl 0 rfl) ?_
                        refine lv_aload hx hb dX9_merge_231 (lv_at hl 7 rfl) ?_
                        refine lv_iload hx hb dX9_merge_233 (lv_at hl 1 rfl) ?_
                        refine lv_iconst (v := zI 1) hx hb dX9_merge_235 rfl ?_
                        refine r_iadd (v := zI ((20 * v5) + 1)) F dX9_merge_236 (zI_add _ _) ?_
                        refine rz_iald F hK hP 2 0 rfl rfl (by omega) (by omega) dX9_merge_237 ?_
                        have hpl160 : 0 ≤ (gq2 (((20 * v5) + 1)).toNat) ∧ (gq2 (((20 * v5) + 1)).toNat) ≤ 4 := ProgR.at hqp2.1 (e := ((20 * v5) + 1)) v5 1 (by omega) (by omega) (by decide) rfl
                        refine rz_icmp_ge (tgt := 296) F (by omega) (by omega) dX9_merge_238 (by decide) (fun h238_160 => ?_) (fun h238_160 => ?_)
                        · refine lv_iinc (v := zI (v5 + 1)) (lv' := [(5, .int (zI (v5 + 1))), (7, .int (zI v7)), (6, .int (zI (20 * v5))), (0, .ref y), (1, .ref a), (2, .int (zI x)), (3, .int (zI w)), (4, .ref f)]) hx hb dX9_merge_296 hl (k := 2) rfl (zI_add _ _) (by decide) rfl (fun ls hl => ?_)
                          refine lv_goto (tgt := 132) hx hb dX9_merge_299 (by decide) ?_
                          exact ih2 (v5 + 1) gq2 _ _ (by omega) (by omega) hqp2 hmt2 hP hD hS ls (lv_sub hl [0, 3, 4, 5, 6, 7] rfl)
                        · refine lv_aload hx hb dX9_merge_241 (lv_at hl 7 rfl) ?_
                          refine lv_iload hx hb dX9_merge_243 (lv_at hl 1 rfl) ?_
                          refine lv_iconst (v := zI 2) hx hb dX9_merge_245 rfl ?_
                          refine r_iadd (v := zI ((20 * v5) + 2)) F dX9_merge_246 (zI_add _ _) ?_
                          refine lv_iconst (v := zI 3) hx hb dX9_merge_247 rfl ?_
                          refine lv_iload hx hb dX9_merge_248 (lv_at hl 0 rfl) ?_
                          refine r_imul (v := zI (3 * v7)) F dX9_merge_250 (zI_mul _ _) ?_
                          refine r_iadd (v := zI (((20 * v5) + 2) + (3 * v7))) F dX9_merge_251 (zI_add _ _) ?_
                          refine rz_iald F hK hP 2 0 rfl rfl (by omega) (by omega) dX9_merge_252 ?_
                          have hc162 := ProgOk.act hqp2 (i := v5) (n := v7) (k := (((20 * v5) + 2) + (3 * v7))) (by omega) (by omega) (by omega)
                          refine lv_iconst (v := zI 3) hx hb dX9_merge_253 rfl ?_
                          refine rz_icmp_ne (tgt := 290) F (by omega) (by omega) dX9_merge_254 (by decide) (fun h254_162 => ?_) (fun h254_162 => ?_)
                          · refine lv_iinc (v := zI (v7 + 1)) (lv' := [(7, .int (zI (v7 + 1))), (6, .int (zI (20 * v5))), (5, .int (zI v5)), (0, .ref y), (1, .ref a), (2, .int (zI x)), (3, .int (zI w)), (4, .ref f)]) hx hb dX9_merge_290 hl (k := 0) rfl (zI_add _ _) (by decide) rfl (fun ls hl => ?_)
                            refine lv_goto (tgt := 229) hx hb dX9_merge_293 (by decide) ?_
                            exact ih3 (v7 + 1) gq2 _ _ (by omega) (by omega) hqp2 hmt2 hP hD hS ls (lv_sub hl [0, 1, 2, 3, 4, 5, 6, 7] rfl)
                          · refine lv_aload hx hb dX9_merge_257 (lv_at hl 7 rfl) ?_
                            refine lv_iload hx hb dX9_merge_259 (lv_at hl 1 rfl) ?_
                            refine lv_iconst (v := zI 2) hx hb dX9_merge_261 rfl ?_
                            refine r_iadd (v := zI ((20 * v5) + 2)) F dX9_merge_262 (zI_add _ _) ?_
                            refine lv_iconst (v := zI 3) hx hb dX9_merge_263 rfl ?_
                            refine lv_iload hx hb dX9_merge_264 (lv_at hl 0 rfl) ?_
                            refine r_imul (v := zI (3 * v7)) F dX9_merge_266 (zI_mul _ _) ?_
                            refine r_iadd (v := zI (((20 * v5) + 2) + (3 * v7))) F dX9_merge_267 (zI_add _ _) ?_
                            refine lv_iconst (v := zI 1) hx hb dX9_merge_268 rfl ?_
                            refine r_iadd (v := zI ((((20 * v5) + 2) + (3 * v7)) + 1)) F dX9_merge_269 (zI_add _ _) ?_
                            refine rz_iald F hK hP 2 0 rfl rfl (by omega) (by omega) dX9_merge_270 ?_
                            refine rz_top (fun z164 h_z164 => ?_)
                            refine lv_iload_n hx hb dX9_merge_271 rfl (lv_at hl 6 rfl) ?_
                            refine rz_icmp_ne (tgt := 290) F (by omega) (by omega) dX9_merge_272 (by decide) (fun h272_164 => ?_) (fun h272_164 => ?_)
                            · refine lv_iinc (v := zI (v7 + 1)) (lv' := [(7, .int (zI (v7 + 1))), (6, .int (zI (20 * v5))), (5, .int (zI v5)), (0, .ref y), (1, .ref a), (2, .int (zI x)), (3, .int (zI w)), (4, .ref f)]) hx hb dX9_merge_290 hl (k := 0) rfl (zI_add _ _) (by decide) rfl (fun ls hl => ?_)
                              refine lv_goto (tgt := 229) hx hb dX9_merge_293 (by decide) ?_
                              exact ih3 (v7 + 1) gq2 _ _ (by omega) (by omega) hqp2 hmt2 hP hD hS ls (lv_sub hl [0, 1, 2, 3, 4, 5, 6, 7] rfl)
                            · refine lv_aload hx hb dX9_merge_275 (lv_at hl 7 rfl) ?_
                              refine lv_iload hx hb dX9_merge_277 (lv_at hl 1 rfl) ?_
                              refine lv_iconst (v := zI 2) hx hb dX9_merge_279 rfl ?_
                              refine r_iadd (v := zI ((20 * v5) + 2)) F dX9_merge_280 (zI_add _ _) ?_
                              refine lv_iconst (v := zI 3) hx hb dX9_merge_281 rfl ?_
                              refine lv_iload hx hb dX9_merge_282 (lv_at hl 0 rfl) ?_
                              refine r_imul (v := zI (3 * v7)) F dX9_merge_284 (zI_mul _ _) ?_
                              refine r_iadd (v := zI (((20 * v5) + 2) + (3 * v7))) F dX9_merge_285 (zI_add _ _) ?_
                              refine lv_iconst (v := zI 1) hx hb dX9_merge_286 rfl ?_
                              refine r_iadd (v := zI ((((20 * v5) + 2) + (3 * v7)) + 1)) F dX9_merge_287 (zI_add _ _) ?_
                              refine lv_iload_n hx hb dX9_merge_288 rfl (lv_at hl 5 rfl) ?_
                              refine rz_iastG F hK hP hD hS 2 0 rfl rfl (by omega) (by omega) dX9_merge_289 (w1 := fun g166 => [(y, .inr (9, [.int (zI (i 0)), .ref (q 0), .int (zI (i 1)), .int (zI (i 2)), .int (zI (i 3)), .int (zI (i 4)), .int (zI (i 5)), .int (zI (i 6)), .int (zI (i 7)), .int (zI (i 8)), .int (zI (i 9)), .int (zI (i 10)), .ref (q 1), .int (zI (i 11)), .int (zI (i 12)), .ref (q 2), .ref (q 3), .ref (q 4), .ref (q 5), .ref (q 6), .ref (q 7), .ref (q 8), .ref (q 9), .ref (q 10), .ref (q 11), .ref (q 12), .ref (q 13), .ref (q 14), .ref (q 15), .ref (q 16), .int (zI (i 13)), .int (zI (i 14)), .int (zI (i 15)), .int (zI (i 16)), .int (zI (i 17)), .int (zI (i 18)), .ref (q 17), .ref (q 18), .ref (q 19), .ref (q 20)])), (a, .inl (cI, 200, .inl (fun k => zI (g_p k)))), (f, .inl (cI, 200, .inl (fun k => zI (g166 k))))]) (fun _ => rfl) (fun g166 e_g166 H locs hP hD hS => ?_)
                              have hqp167 : ProgOk g166 := ProgOk.tgt3 hqp2 e_g166 (i := v5) (n := v7) (by omega) (by omega) (by omega) (by omega) (j := (((20 * v5) + 2) + (3 * v7)).toNat) (by omega) (by omega)
                              have hmt168 := MT.keepA hmt2 e_g166 (i := v5) (n := v7) (by omega) (by omega) (by omega)
                              refine lv_iinc (v := zI (v7 + 1)) (lv' := [(7, .int (zI (v7 + 1))), (6, .int (zI (20 * v5))), (5, .int (zI v5)), (0, .ref y), (1, .ref a), (2, .int (zI x)), (3, .int (zI w)), (4, .ref f)]) hx hb dX9_merge_290 hl (k := 0) rfl (zI_add _ _) (by decide) rfl (fun ls hl => ?_)
                              refine lv_goto (tgt := 229) hx hb dX9_merge_293 (by decide) ?_
                              exact ih3 (v7 + 1) g166 _ _ (by omega) (by omega) hqp167 hmt168 hP hD hS ls (lv_sub hl [0, 1, 2, 3, 4, 5, 6, 7] rfl)
                · refine lv_aload hx hb dX9_merge_172 (lv_at hl 6 rfl) ?_
                  refine lv_iload hx hb dX9_merge_174 (lv_at hl 0 rfl) ?_
                  refine lv_bipush (v := zI 16) hx hb dX9_merge_176 (by decide) ?_
                  refine r_iadd (v := zI ((20 * v5) + 16)) F dX9_merge_178 (zI_add _ _) ?_
                  refine rz_iald F hK hP 2 0 rfl rfl (by omega) (by omega) dX9_merge_179 ?_
                  refine rz_top (fun z169 h_z169 => ?_)
                  refine lv_iload_n hx hb dX9_merge_180 rfl (lv_at hl 5 rfl) ?_
                  refine rz_icmp_ne (tgt := 193) F (by omega) (by omega) dX9_merge_181 (by decide) (fun h181_169 => ?_) (fun h181_169 => ?_)
                  · refine lv_aload hx hb dX9_merge_193 (lv_at hl 6 rfl) ?_
                    refine lv_iload hx hb dX9_merge_195 (lv_at hl 0 rfl) ?_
                    refine lv_bipush (v := zI 14) hx hb dX9_merge_197 (by decide) ?_
                    refine r_iadd (v := zI ((20 * v5) + 14)) F dX9_merge_199 (zI_add _ _) ?_
                    refine rz_iald F hK hP 2 0 rfl rfl (by omega) (by omega) dX9_merge_200 ?_
                    refine rz_top (fun z171 h_z171 => ?_)
                    refine lv_iconst (v := zI 2) hx hb dX9_merge_201 rfl ?_
                    refine rz_icmp_ne (tgt := 226) F (by omega) (by omega) dX9_merge_202 (by decide) (fun h202_171 => ?_) (fun h202_171 => ?_)
                    · refine lv_iconst (v := zI 0) hx hb dX9_merge_226 rfl ?_
                      refine lv_istore (lv' := [(7, .int (zI 0)), (6, .int (zI (20 * v5))), (5, .int (zI v5)), (0, .ref y), (1, .ref a), (2, .int (zI x)), (3, .int (zI w)), (4, .ref f)]) hx hb dX9_merge_227 hl (by decide) rfl (fun ls hl => ?_)
                      refine W.widen (k := 0) (n := 0) (Nat.le_of_ble_eq_true rfl) (Nat.le_of_ble_eq_true rfl) ?_
                      refine (?_ : ∀ (n9_3 : Nat) (v7 : Int) (gq2 : Nat → Int) (H : Heap) (locs : List Loc), (0 ≤ v7 ∧ v7 ≤ 4) → (4 - v7 : Int).toNat < n9_3 → (ProgOk gq2) → (MT g_p gq2 w) → va_P G vwCl [(y, .inr (9, [.int (zI (i 0)), .ref (q 0), .int (zI (i 1)), .int (zI (i 2)), .int (zI (i 3)), .int (zI (i 4)), .int (zI (i 5)), .int (zI (i 6)), .int (zI (i 7)), .int (zI (i 8)), .int (zI (i 9)), .int (zI (i 10)), .ref (q 1), .int (zI (i 11)), .int (zI (i 12)), .ref (q 2), .ref (q 3), .ref (q 4), .ref (q 5), .ref (q 6), .ref (q 7), .ref (q 8), .ref (q 9), .ref (q 10), .ref (q 11), .ref (q 12), .ref (q 13), .ref (q 14), .ref (q 15), .ref (q 16), .int (zI (i 13)), .int (zI (i 14)), .int (zI (i 15)), .int (zI (i 16)), .int (zI (i 17)), .int (zI (i 18)), .ref (q 17), .ref (q 18), .ref (q 19), .ref (q 20)])), (a, .inl (cI, 200, .inl (fun k => zI (g_p k)))), (f, .inl (cI, 200, .inl (fun k => zI (gq2 k))))] H → va_D A [(y, .inr (9, [.int (zI (i 0)), .ref (q 0), .int (zI (i 1)), .int (zI (i 2)), .int (zI (i 3)), .int (zI (i 4)), .int (zI (i 5)), .int (zI (i 6)), .int (zI (i 7)), .int (zI (i 8)), .int (zI (i 9)), .int (zI (i 10)), .ref (q 1), .int (zI (i 11)), .int (zI (i 12)), .ref (q 2), .ref (q 3), .ref (q 4), .ref (q 5), .ref (q 6), .ref (q 7), .ref (q 8), .ref (q 9), .ref (q 10), .ref (q 11), .ref (q 12), .ref (q 13), .ref (q 14), .ref (q 15), .ref (q 16), .int (zI (i 13)), .int (zI (i 14)), .int (zI (i 15)), .int (zI (i 16)), .int (zI (i 17)), .int (zI (i 18)), .ref (q 17), .ref (q 18), .ref (q 19), .ref (q 20)])), (a, .inl (cI, 200, .inl (fun k => zI (g_p k)))), (f, .inl (cI, 200, .inl (fun k => zI (gq2 k))))] → va_S A s.heap H locs → ∀ ls : Array Slot, lv_has ls 8 [(7, .int (zI v7)), (6, .int (zI (20 * v5))), (5, .int (zI v5)), (0, .ref y), (1, .ref a), (2, .int (zI x)), (3, .int (zI w)), (4, .ref f)] → W p l e rm_X9_merge s m ([.ref y, .ref a, .int (zI x), .int (zI w), .ref f] : List Value).toArray below meth c H locs 0 0 Q (F0 m 229 ls [])) ((4 - 0 : Int).toNat + 1) 0 gq1 _ _ (by omega) (by omega) hqp1 hmt1 hP hD hS ls hl
                      clear hP hD hS hl ls
                      intro n9_3
                      induction n9_3 with
                      | zero =>
                        intro v7 gq2 H locs hI hM
                        exact absurd hM (by omega)
                      | succ n9_3 ih3 =>
                        intro v7 gq2 H locs hI3 hM3 hqp2 hmt2 hP hD hS ls hl
                        refine lv_iload hx hb dX9_merge_229 (lv_at hl 0 rfl) ?_
                        refine lv_aload hx hb dX9_merge_231 (lv_at hl 7 rfl) ?_
                        refine lv_iload hx hb dX9_merge_233 (lv_at hl 1 rfl) ?_
                        refine lv_iconst (v := zI 1) hx hb dX9_merge_235 rfl ?_
                        refine r_iadd (v := zI ((20 * v5) + 1)) F dX9_merge_236 (zI_add _ _) ?_
                        refine rz_iald F hK hP 2 0 rfl rfl (by omega) (by omega) dX9_merge_237 ?_
                        have hpl173 : 0 ≤ (gq2 (((20 * v5) + 1)).toNat) ∧ (gq2 (((20 * v5) + 1)).toNat) ≤ 4 := ProgR.at hqp2.1 (e := ((20 * v5) + 1)) v5 1 (by omega) (by omega) (by decide) rfl
                        refine rz_icmp_ge (tgt := 296) F (by omega) (by omega) dX9_merge_238 (by decide) (fun h238_173 => ?_) (fun h238_173 => ?_)
                        · refine lv_iinc (v := zI (v5 + 1)) (lv' := [(5, .int (zI (v5 + 1))), (7, .int (zI v7)), (6, .int (zI (20 * v5))), (0, .ref y), (1, .ref a), (2, .int (zI x)), (3, .int (zI w)), (4, .ref f)]) hx hb dX9_merge_296 hl (k := 2) rfl (zI_add _ _) (by decide) rfl (fun ls hl => ?_)
                          refine lv_goto (tgt := 132) hx hb dX9_merge_299 (by decide) ?_
                          exact ih2 (v5 + 1) gq2 _ _ (by omega) (by omega) hqp2 hmt2 hP hD hS ls (lv_sub hl [0, 3, 4, 5, 6, 7] rfl)
                        · refine lv_aload hx hb dX9_merge_241 (lv_at hl 7 rfl) ?_
                          refine lv_iload hx hb dX9_merge_243 (lv_at hl 1 rfl) ?_
                          refine lv_iconst (v := zI 2) hx hb dX9_merge_245 rfl ?_
                          refine r_iadd (v := zI ((20 * v5) + 2)) F dX9_merge_246 (zI_add _ _) ?_
                          refine lv_iconst (v := zI 3) hx hb dX9_merge_247 rfl ?_
                          refine lv_iload hx hb dX9_merge_248 (lv_at hl 0 rfl) ?_
                          refine r_imul (v := zI (3 * v7)) F dX9_merge_250 (zI_mul _ _) ?_
                          refine r_iadd (v := zI (((20 * v5) + 2) + (3 * v7))) F dX9_merge_251 (zI_add _ _) ?_
                          refine rz_iald F hK hP 2 0 rfl rfl (by omega) (by omega) dX9_merge_252 ?_
                          have hc175 := ProgOk.act hqp2 (i := v5) (n := v7) (k := (((20 * v5) + 2) + (3 * v7))) (by omega) (by omega) (by omega)
                          refine lv_iconst (v := zI 3) hx hb dX9_merge_253 rfl ?_
                          refine rz_icmp_ne (tgt := 290) F (by omega) (by omega) dX9_merge_254 (by decide) (fun h254_175 => ?_) (fun h254_175 => ?_)
                          · refine lv_iinc (v := zI (v7 + 1)) (lv' := [(7, .int (zI (v7 + 1))), (6, .int (zI (20 * v5))), (5, .int (zI v5)), (0, .ref y), (1, .ref a), (2, .int (zI x)), (3, .int (zI w)), (4, .ref f)]) hx hb dX9_merge_290 hl (k := 0) rfl (zI_add _ _) (by decide) rfl (fun ls hl => ?_)
                            refine lv_goto (tgt := 229) hx hb dX9_merge_293 (by decide) ?_
                            exact ih3 (v7 + 1) gq2 _ _ (by omega) (by omega) hqp2 hmt2 hP hD hS ls (lv_sub hl [0, 1, 2, 3, 4, 5, 6, 7] rfl)
                          · refine lv_aload hx hb dX9_merge_257 (lv_at hl 7 rfl) ?_
                            refine lv_iload hx hb dX9_merge_259 (lv_at hl 1 rfl) ?_
                            refine lv_iconst (v := zI 2) hx hb dX9_merge_261 rfl ?_
                            refine r_iadd (v := zI ((20 * v5) + 2)) F dX9_merge_262 (zI_add _ _) ?_
                            refine lv_iconst (v := zI 3) hx hb dX9_merge_263 rfl ?_
                            refine lv_iload hx hb dX9_merge_264 (lv_at hl 0 rfl) ?_
                            refine r_imul (v := zI (3 * v7)) F dX9_merge_266 (zI_mul _ _) ?_
                            refine r_iadd (v := zI (((20 * v5) + 2) + (3 * v7))) F dX9_merge_267 (zI_add _ _) ?_
                            refine lv_iconst (v := zI 1) hx hb dX9_merge_268 rfl ?_
                            refine r_iadd (v := zI ((((20 * v5) + 2) + (3 * v7)) + 1)) F dX9_merge_269 (zI_add _ _) ?_
                            refine rz_iald F hK hP 2 0 rfl rfl (by omega) (by omega) dX9_merge_270 ?_
                            refine rz_top (fun z177 h_z177 => ?_)
                            refine lv_iload_n hx hb dX9_merge_271 rfl (lv_at hl 6 rfl) ?_
                            refine rz_icmp_ne (tgt := 290) F (by omega) (by omega) dX9_merge_272 (by decide) (fun h272_177 => ?_) (fun h272_177 => ?_)
                            · refine lv_iinc (v := zI (v7 + 1)) (lv' := [(7, .int (zI (v7 + 1))), (6, .int (zI (20 * v5))), (5, .int (zI v5)), (0, .ref y), (1, .ref a), (2, .int (zI x)), (3, .int (zI w)), (4, .ref f)]) hx hb dX9_merge_290 hl (k := 0) rfl (zI_add _ _) (by decide) rfl (fun ls hl => ?_)
                              refine lv_goto (tgt := 229) hx hb dX9_merge_293 (by decide) ?_
                              exact ih3 (v7 + 1) gq2 _ _ (by omega) (by omega) hqp2 hmt2 hP hD hS ls (lv_sub hl [0, 1, 2, 3, 4, 5, 6, 7] rfl)
                            · refine lv_aload hx hb dX9_merge_275 (lv_at hl 7 rfl) ?_
                              refine lv_iload hx hb dX9_merge_277 (lv_at hl 1 rfl) ?_
                              refine lv_iconst (v := zI 2) hx hb dX9_merge_279 rfl ?_
                              refine r_iadd (v := zI ((20 * v5) + 2)) F dX9_merge_280 (zI_add _ _) ?_
                              refine lv_iconst (v := zI 3) hx hb dX9_merge_281 rfl ?_
                              refine lv_iload hx hb dX9_merge_282 (lv_at hl 0 rfl) ?_
                              refine r_imul (v := zI (3 * v7)) F dX9_merge_284 (zI_mul _ _) ?_
                              refine r_iadd (v := zI (((20 * v5) + 2) + (3 * v7))) F dX9_merge_285 (zI_add _ _) ?_
                              refine lv_iconst (v := zI 1) hx hb dX9_merge_286 rfl ?_
                              refine r_iadd (v := zI ((((20 * v5) + 2) + (3 * v7)) + 1)) F dX9_merge_287 (zI_add _ _) ?_
                              refine lv_iload_n hx hb dX9_merge_288 rfl (lv_at hl 5 rfl) ?_
                              refine rz_iastG F hK hP hD hS 2 0 rfl rfl (by omega) (by omega) dX9_merge_289 (w1 := fun g179 => [(y, .inr (9, [.int (zI (i 0)), .ref (q 0), .int (zI (i 1)), .int (zI (i 2)), .int (zI (i 3)), .int (zI (i 4)), .int (zI (i 5)), .int (zI (i 6)), .int (zI (i 7)), .int (zI (i 8)), .int (zI (i 9)), .int (zI (i 10)), .ref (q 1), .int (zI (i 11)), .int (zI (i 12)), .ref (q 2), .ref (q 3), .ref (q 4), .ref (q 5), .ref (q 6), .ref (q 7), .ref (q 8), .ref (q 9), .ref (q 10), .ref (q 11), .ref (q 12), .ref (q 13), .ref (q 14), .ref (q 15), .ref (q 16), .int (zI (i 13)), .int (zI (i 14)), .int (zI (i 15)), .int (zI (i 16)), .int (zI (i 17)), .int (zI (i 18)), .ref (q 17), .ref (q 18), .ref (q 19), .ref (q 20)])), (a, .inl (cI, 200, .inl (fun k => zI (g_p k)))), (f, .inl (cI, 200, .inl (fun k => zI (g179 k))))]) (fun _ => rfl) (fun g179 e_g179 H locs hP hD hS => ?_)
                              have hqp180 : ProgOk g179 := ProgOk.tgt3 hqp2 e_g179 (i := v5) (n := v7) (by omega) (by omega) (by omega) (by omega) (j := (((20 * v5) + 2) + (3 * v7)).toNat) (by omega) (by omega)
                              have hmt181 := MT.keepA hmt2 e_g179 (i := v5) (n := v7) (by omega) (by omega) (by omega)
                              refine lv_iinc (v := zI (v7 + 1)) (lv' := [(7, .int (zI (v7 + 1))), (6, .int (zI (20 * v5))), (5, .int (zI v5)), (0, .ref y), (1, .ref a), (2, .int (zI x)), (3, .int (zI w)), (4, .ref f)]) hx hb dX9_merge_290 hl (k := 0) rfl (zI_add _ _) (by decide) rfl (fun ls hl => ?_)
                              refine lv_goto (tgt := 229) hx hb dX9_merge_293 (by decide) ?_
                              exact ih3 (v7 + 1) g179 _ _ (by omega) (by omega) hqp180 hmt181 hP hD hS ls (lv_sub hl [0, 1, 2, 3, 4, 5, 6, 7] rfl)
                    · refine lv_aload hx hb dX9_merge_205 (lv_at hl 6 rfl) ?_
                      refine lv_iload hx hb dX9_merge_207 (lv_at hl 0 rfl) ?_
                      refine lv_bipush (v := zI 18) hx hb dX9_merge_209 (by decide) ?_
                      refine r_iadd (v := zI ((20 * v5) + 18)) F dX9_merge_211 (zI_add _ _) ?_
                      refine rz_iald F hK hP 2 0 rfl rfl (by omega) (by omega) dX9_merge_212 ?_
                      refine rz_top (fun z182 h_z182 => ?_)
                      refine lv_iload_n hx hb dX9_merge_213 rfl (lv_at hl 5 rfl) ?_
                      refine rz_icmp_ne (tgt := 226) F (by omega) (by omega) dX9_merge_214 (by decide) (fun h214_182 => ?_) (fun h214_182 => ?_)
                      · refine lv_iconst (v := zI 0) hx hb dX9_merge_226 rfl ?_
                        refine lv_istore (lv' := [(7, .int (zI 0)), (6, .int (zI (20 * v5))), (5, .int (zI v5)), (0, .ref y), (1, .ref a), (2, .int (zI x)), (3, .int (zI w)), (4, .ref f)]) hx hb dX9_merge_227 hl (by decide) rfl (fun ls hl => ?_)
                        refine W.widen (k := 0) (n := 0) (Nat.le_of_ble_eq_true rfl) (Nat.le_of_ble_eq_true rfl) ?_
                        refine (?_ : ∀ (n9_3 : Nat) (v7 : Int) (gq2 : Nat → Int) (H : Heap) (locs : List Loc), (0 ≤ v7 ∧ v7 ≤ 4) → (4 - v7 : Int).toNat < n9_3 → (ProgOk gq2) → (MT g_p gq2 w) → va_P G vwCl [(y, .inr (9, [.int (zI (i 0)), .ref (q 0), .int (zI (i 1)), .int (zI (i 2)), .int (zI (i 3)), .int (zI (i 4)), .int (zI (i 5)), .int (zI (i 6)), .int (zI (i 7)), .int (zI (i 8)), .int (zI (i 9)), .int (zI (i 10)), .ref (q 1), .int (zI (i 11)), .int (zI (i 12)), .ref (q 2), .ref (q 3), .ref (q 4), .ref (q 5), .ref (q 6), .ref (q 7), .ref (q 8), .ref (q 9), .ref (q 10), .ref (q 11), .ref (q 12), .ref (q 13), .ref (q 14), .ref (q 15), .ref (q 16), .int (zI (i 13)), .int (zI (i 14)), .int (zI (i 15)), .int (zI (i 16)), .int (zI (i 17)), .int (zI (i 18)), .ref (q 17), .ref (q 18), .ref (q 19), .ref (q 20)])), (a, .inl (cI, 200, .inl (fun k => zI (g_p k)))), (f, .inl (cI, 200, .inl (fun k => zI (gq2 k))))] H → va_D A [(y, .inr (9, [.int (zI (i 0)), .ref (q 0), .int (zI (i 1)), .int (zI (i 2)), .int (zI (i 3)), .int (zI (i 4)), .int (zI (i 5)), .int (zI (i 6)), .int (zI (i 7)), .int (zI (i 8)), .int (zI (i 9)), .int (zI (i 10)), .ref (q 1), .int (zI (i 11)), .int (zI (i 12)), .ref (q 2), .ref (q 3), .ref (q 4), .ref (q 5), .ref (q 6), .ref (q 7), .ref (q 8), .ref (q 9), .ref (q 10), .ref (q 11), .ref (q 12), .ref (q 13), .ref (q 14), .ref (q 15), .ref (q 16), .int (zI (i 13)), .int (zI (i 14)), .int (zI (i 15)), .int (zI (i 16)), .int (zI (i 17)), .int (zI (i 18)), .ref (q 17), .ref (q 18), .ref (q 19), .ref (q 20)])), (a, .inl (cI, 200, .inl (fun k => zI (g_p k)))), (f, .inl (cI, 200, .inl (fun k => zI (gq2 k))))] → va_S A s.heap H locs → ∀ ls : Array Slot, lv_has ls 8 [(7, .int (zI v7)), (6, .int (zI (20 * v5))), (5, .int (zI v5)), (0, .ref y), (1, .ref a), (2, .int (zI x)), (3, .int (zI w)), (4, .ref f)] → W p l e rm_X9_merge s m ([.ref y, .ref a, .int (zI x), .int (zI w), .ref f] : List Value).toArray below meth c H locs 0 0 Q (F0 m 229 ls [])) ((4 - 0 : Int).toNat + 1) 0 gq1 _ _ (by omega) (by omega) hqp1 hmt1 hP hD hS ls hl
                        clear hP hD hS hl ls
                        intro n9_3
                        induction n9_3 with
                        | zero =>
                          intro v7 gq2 H locs hI hM
                          exact absurd hM (by omega)
                        | succ n9_3 ih3 =>
                          intro v7 gq2 H locs hI3 hM3 hqp2 hmt2 hP hD hS ls hl
                          refine lv_iload hx hb dX9_merge_229 (lv_at hl 0 rfl) ?_
                          refine lv_aload hx hb dX9_merge_231 (lv_at hl 7 rfl) ?_
                          refine lv_iload hx hb dX9_merge_233 (lv_at hl 1 rfl) ?_
                          refine lv_iconst (v := zI 1) hx hb dX9_merge_235 rfl ?_
                          refine r_iadd (v := zI ((20 * v5) + 1)) F dX9_merge_236 (zI_add _ _) ?_
                          refine rz_iald F hK hP 2 0 rfl rfl (by omega) (by omega) dX9_merge_237 ?_
                          have hpl184 : 0 ≤ (gq2 (((20 * v5) + 1)).toNat) ∧ (gq2 (((20 * v5) + 1)).toNat) ≤ 4 := ProgR.at hqp2.1 (e := ((20 * v5) + 1)) v5 1 (by omega) (by omega) (by decide) rfl
                          refine rz_icmp_ge (tgt := 296) F (by omega) (by omega) dX9_merge_238 (by decide) (fun h238_184 => ?_) (fun h238_184 => ?_)
                          · refine lv_iinc (v := zI (v5 + 1)) (lv' := [(5, .int (zI (v5 + 1))), (7, .int (zI v7)), (6, .int (zI (20 * v5))), (0, .ref y), (1, .ref a), (2, .int (zI x)), (3, .int (zI w)), (4, .ref f)]) hx hb dX9_merge_296 hl (k := 2) rfl (zI_add _ _) (by decide) rfl (fun ls hl => ?_)
                            refine lv_goto (tgt := 132) hx hb dX9_merge_299 (by decide) ?_
                            exact ih2 (v5 + 1) gq2 _ _ (by omega) (by omega) hqp2 hmt2 hP hD hS ls (lv_sub hl [0, 3, 4, 5, 6, 7] rfl)
                          · refine lv_aload hx hb dX9_merge_241 (lv_at hl 7 rfl) ?_
                            refine lv_iload hx hb dX9_merge_243 (lv_at hl 1 rfl) ?_
                            refine lv_iconst (v := zI 2) hx hb dX9_merge_245 rfl ?_
                            refine r_iadd (v := zI ((20 * v5) + 2)) F dX9_merge_246 (zI_add _ _) ?_
                            refine lv_iconst (v := zI 3) hx hb dX9_merge_247 rfl ?_
                            refine lv_iload hx hb dX9_merge_248 (lv_at hl 0 rfl) ?_
                            refine r_imul (v := zI (3 * v7)) F dX9_merge_250 (zI_mul _ _) ?_
                            refine r_iadd (v := zI (((20 * v5) + 2) + (3 * v7))) F dX9_merge_251 (zI_add _ _) ?_
                            refine rz_iald F hK hP 2 0 rfl rfl (by omega) (by omega) dX9_merge_252 ?_
                            have hc186 := ProgOk.act hqp2 (i := v5) (n := v7) (k := (((20 * v5) + 2) + (3 * v7))) (by omega) (by omega) (by omega)
                            refine lv_iconst (v := zI 3) hx hb dX9_merge_253 rfl ?_
                            refine rz_icmp_ne (tgt := 290) F (by omega) (by omega) dX9_merge_254 (by decide) (fun h254_186 => ?_) (fun h254_186 => ?_)
                            · refine lv_iinc (v := zI (v7 + 1)) (lv' := [(7, .int (zI (v7 + 1))), (6, .int (zI (20 * v5))), (5, .int (zI v5)), (0, .ref y), (1, .ref a), (2, .int (zI x)), (3, .int (zI w)), (4, .ref f)]) hx hb dX9_merge_290 hl (k := 0) rfl (zI_add _ _) (by decide) rfl (fun ls hl => ?_)
                              refine lv_goto (tgt := 229) hx hb dX9_merge_293 (by decide) ?_
                              exact ih3 (v7 + 1) gq2 _ _ (by omega) (by omega) hqp2 hmt2 hP hD hS ls (lv_sub hl [0, 1, 2, 3, 4, 5, 6, 7] rfl)
                            · refine lv_aload hx hb dX9_merge_257 (lv_at hl 7 rfl) ?_
                              refine lv_iload hx hb dX9_merge_259 (lv_at hl 1 rfl) ?_
                              refine lv_iconst (v := zI 2) hx hb dX9_merge_261 rfl ?_
                              refine r_iadd (v := zI ((20 * v5) + 2)) F dX9_merge_262 (zI_add _ _) ?_
                              refine lv_iconst (v := zI 3) hx hb dX9_merge_263 rfl ?_
                              refine lv_iload hx hb dX9_merge_264 (lv_at hl 0 rfl) ?_
                              refine r_imul (v := zI (3 * v7)) F dX9_merge_266 (zI_mul _ _) ?_
                              refine r_iadd (v := zI (((20 * v5) + 2) + (3 * v7))) F dX9_merge_267 (zI_add _ _) ?_
                              refine lv_iconst (v := zI 1) hx hb dX9_merge_268 rfl ?_
                              refine r_iadd (v := zI ((((20 * v5) + 2) + (3 * v7)) + 1)) F dX9_merge_269 (zI_add _ _) ?_
                              refine rz_iald F hK hP 2 0 rfl rfl (by omega) (by omega) dX9_merge_270 ?_
                              refine rz_top (fun z188 h_z188 => ?_)
                              refine lv_iload_n hx hb dX9_merge_271 rfl (lv_at hl 6 rfl) ?_
                              refine rz_icmp_ne (tgt := 290) F (by omega) (by omega) dX9_merge_272 (by decide) (fun h272_188 => ?_) (fun h272_188 => ?_)
                              · refine lv_iinc (v := zI (v7 + 1)) (lv' := [(7, .int (zI (v7 + 1))), (6, .int (zI (20 * v5))), (5, .int (zI v5)), (0, .ref y), (1, .ref a), (2, .int (zI x)), (3, .int (zI w)), (4, .ref f)]) hx hb dX9_merge_290 hl (k := 0) rfl (zI_add _ _) (by decide) rfl (fun ls hl => ?_)
                                refine lv_goto (tgt := 229) hx hb dX9_merge_293 (by decide) ?_
                                exact ih3 (v7 + 1) gq2 _ _ (by omega) (by omega) hqp2 hmt2 hP hD hS ls (lv_sub hl [0, 1, 2, 3, 4, 5, 6, 7] rfl)
                              · refine lv_aload hx hb dX9_merge_275 (lv_at hl 7 rfl) ?_
                                refine lv_iload hx hb dX9_merge_277 (lv_at hl 1 rfl) ?_
                                refine lv_iconst (v := zI 2) hx hb dX9_merge_279 rfl ?_
                                refine r_iadd (v := zI ((20 * v5) + 2)) F dX9_merge_280 (zI_add _ _) ?_
                                refine lv_iconst (v := zI 3) hx hb dX9_merge_281 rfl ?_
                                refine lv_iload hx hb dX9_merge_282 (lv_at hl 0 rfl) ?_
                                refine r_imul (v := zI (3 * v7)) F dX9_merge_284 (zI_mul _ _) ?_
                                refine r_iadd (v := zI (((20 * v5) + 2) + (3 * v7))) F dX9_merge_285 (zI_add _ _) ?_
                                refine lv_iconst (v := zI 1) hx hb dX9_merge_286 rfl ?_
                                refine r_iadd (v := zI ((((20 * v5) + 2) + (3 * v7)) + 1)) F dX9_merge_287 (zI_add _ _) ?_
                                refine lv_iload_n hx hb dX9_merge_288 rfl (lv_at hl 5 rfl) ?_
                                refine rz_iastG F hK hP hD hS 2 0 rfl rfl (by omega) (by omega) dX9_merge_289 (w1 := fun g190 => [(y, .inr (9, [.int (zI (i 0)), .ref (q 0), .int (zI (i 1)), .int (zI (i 2)), .int (zI (i 3)), .int (zI (i 4)), .int (zI (i 5)), .int (zI (i 6)), .int (zI (i 7)), .int (zI (i 8)), .int (zI (i 9)), .int (zI (i 10)), .ref (q 1), .int (zI (i 11)), .int (zI (i 12)), .ref (q 2), .ref (q 3), .ref (q 4), .ref (q 5), .ref (q 6), .ref (q 7), .ref (q 8), .ref (q 9), .ref (q 10), .ref (q 11), .ref (q 12), .ref (q 13), .ref (q 14), .ref (q 15), .ref (q 16), .int (zI (i 13)), .int (zI (i 14)), .int (zI (i 15)), .int (zI (i 16)), .int (zI (i 17)), .int (zI (i 18)), .ref (q 17), .ref (q 18), .ref (q 19), .ref (q 20)])), (a, .inl (cI, 200, .inl (fun k => zI (g_p k)))), (f, .inl (cI, 200, .inl (fun k => zI (g190 k))))]) (fun _ => rfl) (fun g190 e_g190 H locs hP hD hS => ?_)
                                have hqp191 : ProgOk g190 := ProgOk.tgt3 hqp2 e_g190 (i := v5) (n := v7) (by omega) (by omega) (by omega) (by omega) (j := (((20 * v5) + 2) + (3 * v7)).toNat) (by omega) (by omega)
                                have hmt192 := MT.keepA hmt2 e_g190 (i := v5) (n := v7) (by omega) (by omega) (by omega)
                                refine lv_iinc (v := zI (v7 + 1)) (lv' := [(7, .int (zI (v7 + 1))), (6, .int (zI (20 * v5))), (5, .int (zI v5)), (0, .ref y), (1, .ref a), (2, .int (zI x)), (3, .int (zI w)), (4, .ref f)]) hx hb dX9_merge_290 hl (k := 0) rfl (zI_add _ _) (by decide) rfl (fun ls hl => ?_)
                                refine lv_goto (tgt := 229) hx hb dX9_merge_293 (by decide) ?_
                                exact ih3 (v7 + 1) g190 _ _ (by omega) (by omega) hqp191 hmt192 hP hD hS ls (lv_sub hl [0, 1, 2, 3, 4, 5, 6, 7] rfl)
                      · refine lv_aload hx hb dX9_merge_217 (lv_at hl 6 rfl) ?_
                        refine lv_iload hx hb dX9_merge_219 (lv_at hl 0 rfl) ?_
                        refine lv_bipush (v := zI 18) hx hb dX9_merge_221 (by decide) ?_
                        refine r_iadd (v := zI ((20 * v5) + 18)) F dX9_merge_223 (zI_add _ _) ?_
                        refine lv_iload_n hx hb dX9_merge_224 rfl (lv_at hl 4 rfl) ?_
                        refine rz_iastG F hK hP hD hS 2 0 rfl rfl (by omega) (by omega) dX9_merge_225 (w1 := fun g193 => [(y, .inr (9, [.int (zI (i 0)), .ref (q 0), .int (zI (i 1)), .int (zI (i 2)), .int (zI (i 3)), .int (zI (i 4)), .int (zI (i 5)), .int (zI (i 6)), .int (zI (i 7)), .int (zI (i 8)), .int (zI (i 9)), .int (zI (i 10)), .ref (q 1), .int (zI (i 11)), .int (zI (i 12)), .ref (q 2), .ref (q 3), .ref (q 4), .ref (q 5), .ref (q 6), .ref (q 7), .ref (q 8), .ref (q 9), .ref (q 10), .ref (q 11), .ref (q 12), .ref (q 13), .ref (q 14), .ref (q 15), .ref (q 16), .int (zI (i 13)), .int (zI (i 14)), .int (zI (i 15)), .int (zI (i 16)), .int (zI (i 17)), .int (zI (i 18)), .ref (q 17), .ref (q 18), .ref (q 19), .ref (q 20)])), (a, .inl (cI, 200, .inl (fun k => zI (g_p k)))), (f, .inl (cI, 200, .inl (fun k => zI (g193 k))))]) (fun _ => rfl) (fun g193 e_g193 H locs hP hD hS => ?_)
                        have hqp194 : ProgOk g193 := ⟨hqp1.1.set (m := 9) e_g193 18 (by omega) rfl (by omega), hqp1.2.set e_g193 (by omega)⟩
                        have hmt195 := hmt1.keep e_g193 (by omega)
                        refine lv_iconst (v := zI 0) hx hb dX9_merge_226 rfl ?_
                        refine lv_istore (lv' := [(7, .int (zI 0)), (6, .int (zI (20 * v5))), (5, .int (zI v5)), (0, .ref y), (1, .ref a), (2, .int (zI x)), (3, .int (zI w)), (4, .ref f)]) hx hb dX9_merge_227 hl (by decide) rfl (fun ls hl => ?_)
                        refine W.widen (k := 0) (n := 0) (Nat.le_of_ble_eq_true rfl) (Nat.le_of_ble_eq_true rfl) ?_
                        refine (?_ : ∀ (n9_3 : Nat) (v7 : Int) (gq2 : Nat → Int) (H : Heap) (locs : List Loc), (0 ≤ v7 ∧ v7 ≤ 4) → (4 - v7 : Int).toNat < n9_3 → (ProgOk gq2) → (MT g_p gq2 w) → va_P G vwCl [(y, .inr (9, [.int (zI (i 0)), .ref (q 0), .int (zI (i 1)), .int (zI (i 2)), .int (zI (i 3)), .int (zI (i 4)), .int (zI (i 5)), .int (zI (i 6)), .int (zI (i 7)), .int (zI (i 8)), .int (zI (i 9)), .int (zI (i 10)), .ref (q 1), .int (zI (i 11)), .int (zI (i 12)), .ref (q 2), .ref (q 3), .ref (q 4), .ref (q 5), .ref (q 6), .ref (q 7), .ref (q 8), .ref (q 9), .ref (q 10), .ref (q 11), .ref (q 12), .ref (q 13), .ref (q 14), .ref (q 15), .ref (q 16), .int (zI (i 13)), .int (zI (i 14)), .int (zI (i 15)), .int (zI (i 16)), .int (zI (i 17)), .int (zI (i 18)), .ref (q 17), .ref (q 18), .ref (q 19), .ref (q 20)])), (a, .inl (cI, 200, .inl (fun k => zI (g_p k)))), (f, .inl (cI, 200, .inl (fun k => zI (gq2 k))))] H → va_D A [(y, .inr (9, [.int (zI (i 0)), .ref (q 0), .int (zI (i 1)), .int (zI (i 2)), .int (zI (i 3)), .int (zI (i 4)), .int (zI (i 5)), .int (zI (i 6)), .int (zI (i 7)), .int (zI (i 8)), .int (zI (i 9)), .int (zI (i 10)), .ref (q 1), .int (zI (i 11)), .int (zI (i 12)), .ref (q 2), .ref (q 3), .ref (q 4), .ref (q 5), .ref (q 6), .ref (q 7), .ref (q 8), .ref (q 9), .ref (q 10), .ref (q 11), .ref (q 12), .ref (q 13), .ref (q 14), .ref (q 15), .ref (q 16), .int (zI (i 13)), .int (zI (i 14)), .int (zI (i 15)), .int (zI (i 16)), .int (zI (i 17)), .int (zI (i 18)), .ref (q 17), .ref (q 18), .ref (q 19), .ref (q 20)])), (a, .inl (cI, 200, .inl (fun k => zI (g_p k)))), (f, .inl (cI, 200, .inl (fun k => zI (gq2 k))))] → va_S A s.heap H locs → ∀ ls : Array Slot, lv_has ls 8 [(7, .int (zI v7)), (6, .int (zI (20 * v5))), (5, .int (zI v5)), (0, .ref y), (1, .ref a), (2, .int (zI x)), (3, .int (zI w)), (4, .ref f)] → W p l e rm_X9_merge s m ([.ref y, .ref a, .int (zI x), .int (zI w), .ref f] : List Value).toArray below meth c H locs 0 0 Q (F0 m 229 ls [])) ((4 - 0 : Int).toNat + 1) 0 g193 _ _ (by omega) (by omega) hqp194 hmt195 hP hD hS ls hl
                        clear hP hD hS hl ls
                        intro n9_3
                        induction n9_3 with
                        | zero =>
                          intro v7 gq2 H locs hI hM
                          exact absurd hM (by omega)
                        | succ n9_3 ih3 =>
                          intro v7 gq2 H locs hI3 hM3 hqp2 hmt2 hP hD hS ls hl
                          refine lv_iload hx hb dX9_merge_229 (lv_at hl 0 rfl) ?_
                          refine lv_aload hx hb dX9_merge_231 (lv_at hl 7 rfl) ?_
                          refine lv_iload hx hb dX9_merge_233 (lv_at hl 1 rfl) ?_
                          refine lv_iconst (v := zI 1) hx hb dX9_merge_235 rfl ?_
                          refine r_iadd (v := zI ((20 * v5) + 1)) F dX9_merge_236 (zI_add _ _) ?_
                          refine rz_iald F hK hP 2 0 rfl rfl (by omega) (by omega) dX9_merge_237 ?_
                          have hpl196 : 0 ≤ (gq2 (((20 * v5) + 1)).toNat) ∧ (gq2 (((20 * v5) + 1)).toNat) ≤ 4 := ProgR.at hqp2.1 (e := ((20 * v5) + 1)) v5 1 (by omega) (by omega) (by decide) rfl
                          refine rz_icmp_ge (tgt := 296) F (by omega) (by omega) dX9_merge_238 (by decide) (fun h238_196 => ?_) (fun h238_196 => ?_)
                          · refine lv_iinc (v := zI (v5 + 1)) (lv' := [(5, .int (zI (v5 + 1))), (7, .int (zI v7)), (6, .int (zI (20 * v5))), (0, .ref y), (1, .ref a), (2, .int (zI x)), (3, .int (zI w)), (4, .ref f)]) hx hb dX9_merge_296 hl (k := 2) rfl (zI_add _ _) (by decide) rfl (fun ls hl => ?_)
                            refine lv_goto (tgt := 132) hx hb dX9_merge_299 (by decide) ?_
                            exact ih2 (v5 + 1) gq2 _ _ (by omega) (by omega) hqp2 hmt2 hP hD hS ls (lv_sub hl [0, 3, 4, 5, 6, 7] rfl)
                          · refine lv_aload hx hb dX9_merge_241 (lv_at hl 7 rfl) ?_
                            refine lv_iload hx hb dX9_merge_243 (lv_at hl 1 rfl) ?_
                            refine lv_iconst (v := zI 2) hx hb dX9_merge_245 rfl ?_
                            refine r_iadd (v := zI ((20 * v5) + 2)) F dX9_merge_246 (zI_add _ _) ?_
                            refine lv_iconst (v := zI 3) hx hb dX9_merge_247 rfl ?_
                            refine lv_iload hx hb dX9_merge_248 (lv_at hl 0 rfl) ?_
                            refine r_imul (v := zI (3 * v7)) F dX9_merge_250 (zI_mul _ _) ?_
                            refine r_iadd (v := zI (((20 * v5) + 2) + (3 * v7))) F dX9_merge_251 (zI_add _ _) ?_
                            refine rz_iald F hK hP 2 0 rfl rfl (by omega) (by omega) dX9_merge_252 ?_
                            have hc198 := ProgOk.act hqp2 (i := v5) (n := v7) (k := (((20 * v5) + 2) + (3 * v7))) (by omega) (by omega) (by omega)
                            refine lv_iconst (v := zI 3) hx hb dX9_merge_253 rfl ?_
                            refine rz_icmp_ne (tgt := 290) F (by omega) (by omega) dX9_merge_254 (by decide) (fun h254_198 => ?_) (fun h254_198 => ?_)
                            · refine lv_iinc (v := zI (v7 + 1)) (lv' := [(7, .int (zI (v7 + 1))), (6, .int (zI (20 * v5))), (5, .int (zI v5)), (0, .ref y), (1, .ref a), (2, .int (zI x)), (3, .int (zI w)), (4, .ref f)]) hx hb dX9_merge_290 hl (k := 0) rfl (zI_add _ _) (by decide) rfl (fun ls hl => ?_)
                              refine lv_goto (tgt := 229) hx hb dX9_merge_293 (by decide) ?_
                              exact ih3 (v7 + 1) gq2 _ _ (by omega) (by omega) hqp2 hmt2 hP hD hS ls (lv_sub hl [0, 1, 2, 3, 4, 5, 6, 7] rfl)
                            · refine lv_aload hx hb dX9_merge_257 (lv_at hl 7 rfl) ?_
                              refine lv_iload hx hb dX9_merge_259 (lv_at hl 1 rfl) ?_
                              refine lv_iconst (v := zI 2) hx hb dX9_merge_261 rfl ?_
                              refine r_iadd (v := zI ((20 * v5) + 2)) F dX9_merge_262 (zI_add _ _) ?_
                              refine lv_iconst (v := zI 3) hx hb dX9_merge_263 rfl ?_
                              refine lv_iload hx hb dX9_merge_264 (lv_at hl 0 rfl) ?_
                              refine r_imul (v := zI (3 * v7)) F dX9_merge_266 (zI_mul _ _) ?_
                              refine r_iadd (v := zI (((20 * v5) + 2) + (3 * v7))) F dX9_merge_267 (zI_add _ _) ?_
                              refine lv_iconst (v := zI 1) hx hb dX9_merge_268 rfl ?_
                              refine r_iadd (v := zI ((((20 * v5) + 2) + (3 * v7)) + 1)) F dX9_merge_269 (zI_add _ _) ?_
                              refine rz_iald F hK hP 2 0 rfl rfl (by omega) (by omega) dX9_merge_270 ?_
                              refine rz_top (fun z200 h_z200 => ?_)
                              refine lv_iload_n hx hb dX9_merge_271 rfl (lv_at hl 6 rfl) ?_
                              refine rz_icmp_ne (tgt := 290) F (by omega) (by omega) dX9_merge_272 (by decide) (fun h272_200 => ?_) (fun h272_200 => ?_)
                              · refine lv_iinc (v := zI (v7 + 1)) (lv' := [(7, .int (zI (v7 + 1))), (6, .int (zI (20 * v5))), (5, .int (zI v5)), (0, .ref y), (1, .ref a), (2, .int (zI x)), (3, .int (zI w)), (4, .ref f)]) hx hb dX9_merge_290 hl (k := 0) rfl (zI_add _ _) (by decide) rfl (fun ls hl => ?_)
                                refine lv_goto (tgt := 229) hx hb dX9_merge_293 (by decide) ?_
                                exact ih3 (v7 + 1) gq2 _ _ (by omega) (by omega) hqp2 hmt2 hP hD hS ls (lv_sub hl [0, 1, 2, 3, 4, 5, 6, 7] rfl)
                              · refine lv_aload hx hb dX9_merge_275 (lv_at hl 7 rfl) ?_
                                refine lv_iload hx hb dX9_merge_277 (lv_at hl 1 rfl) ?_
                                refine lv_iconst (v := zI 2) hx hb dX9_merge_279 rfl ?_
                                refine r_iadd (v := zI ((20 * v5) + 2)) F dX9_merge_280 (zI_add _ _) ?_
                                refine lv_iconst (v := zI 3) hx hb dX9_merge_281 rfl ?_
                                refine lv_iload hx hb dX9_merge_282 (lv_at hl 0 rfl) ?_
                                refine r_imul (v := zI (3 * v7)) F dX9_merge_284 (zI_mul _ _) ?_
                                refine r_iadd (v := zI (((20 * v5) + 2) + (3 * v7))) F dX9_merge_285 (zI_add _ _) ?_
                                refine lv_iconst (v := zI 1) hx hb dX9_merge_286 rfl ?_
                                refine r_iadd (v := zI ((((20 * v5) + 2) + (3 * v7)) + 1)) F dX9_merge_287 (zI_add _ _) ?_
                                refine lv_iload_n hx hb dX9_merge_288 rfl (lv_at hl 5 rfl) ?_
                                refine rz_iastG F hK hP hD hS 2 0 rfl rfl (by omega) (by omega) dX9_merge_289 (w1 := fun g202 => [(y, .inr (9, [.int (zI (i 0)), .ref (q 0), .int (zI (i 1)), .int (zI (i 2)), .int (zI (i 3)), .int (zI (i 4)), .int (zI (i 5)), .int (zI (i 6)), .int (zI (i 7)), .int (zI (i 8)), .int (zI (i 9)), .int (zI (i 10)), .ref (q 1), .int (zI (i 11)), .int (zI (i 12)), .ref (q 2), .ref (q 3), .ref (q 4), .ref (q 5), .ref (q 6), .ref (q 7), .ref (q 8), .ref (q 9), .ref (q 10), .ref (q 11), .ref (q 12), .ref (q 13), .ref (q 14), .ref (q 15), .ref (q 16), .int (zI (i 13)), .int (zI (i 14)), .int (zI (i 15)), .int (zI (i 16)), .int (zI (i 17)), .int (zI (i 18)), .ref (q 17), .ref (q 18), .ref (q 19), .ref (q 20)])), (a, .inl (cI, 200, .inl (fun k => zI (g_p k)))), (f, .inl (cI, 200, .inl (fun k => zI (g202 k))))]) (fun _ => rfl) (fun g202 e_g202 H locs hP hD hS => ?_)
                                have hqp203 : ProgOk g202 := ProgOk.tgt3 hqp2 e_g202 (i := v5) (n := v7) (by omega) (by omega) (by omega) (by omega) (j := (((20 * v5) + 2) + (3 * v7)).toNat) (by omega) (by omega)
                                have hmt204 := MT.keepA hmt2 e_g202 (i := v5) (n := v7) (by omega) (by omega) (by omega)
                                refine lv_iinc (v := zI (v7 + 1)) (lv' := [(7, .int (zI (v7 + 1))), (6, .int (zI (20 * v5))), (5, .int (zI v5)), (0, .ref y), (1, .ref a), (2, .int (zI x)), (3, .int (zI w)), (4, .ref f)]) hx hb dX9_merge_290 hl (k := 0) rfl (zI_add _ _) (by decide) rfl (fun ls hl => ?_)
                                refine lv_goto (tgt := 229) hx hb dX9_merge_293 (by decide) ?_
                                exact ih3 (v7 + 1) g202 _ _ (by omega) (by omega) hqp203 hmt204 hP hD hS ls (lv_sub hl [0, 1, 2, 3, 4, 5, 6, 7] rfl)
                  · refine lv_aload hx hb dX9_merge_184 (lv_at hl 6 rfl) ?_
                    refine lv_iload hx hb dX9_merge_186 (lv_at hl 0 rfl) ?_
                    refine lv_bipush (v := zI 16) hx hb dX9_merge_188 (by decide) ?_
                    refine r_iadd (v := zI ((20 * v5) + 16)) F dX9_merge_190 (zI_add _ _) ?_
                    refine lv_iload_n hx hb dX9_merge_191 rfl (lv_at hl 4 rfl) ?_
                    refine rz_iastG F hK hP hD hS 2 0 rfl rfl (by omega) (by omega) dX9_merge_192 (w1 := fun g205 => [(y, .inr (9, [.int (zI (i 0)), .ref (q 0), .int (zI (i 1)), .int (zI (i 2)), .int (zI (i 3)), .int (zI (i 4)), .int (zI (i 5)), .int (zI (i 6)), .int (zI (i 7)), .int (zI (i 8)), .int (zI (i 9)), .int (zI (i 10)), .ref (q 1), .int (zI (i 11)), .int (zI (i 12)), .ref (q 2), .ref (q 3), .ref (q 4), .ref (q 5), .ref (q 6), .ref (q 7), .ref (q 8), .ref (q 9), .ref (q 10), .ref (q 11), .ref (q 12), .ref (q 13), .ref (q 14), .ref (q 15), .ref (q 16), .int (zI (i 13)), .int (zI (i 14)), .int (zI (i 15)), .int (zI (i 16)), .int (zI (i 17)), .int (zI (i 18)), .ref (q 17), .ref (q 18), .ref (q 19), .ref (q 20)])), (a, .inl (cI, 200, .inl (fun k => zI (g_p k)))), (f, .inl (cI, 200, .inl (fun k => zI (g205 k))))]) (fun _ => rfl) (fun g205 e_g205 H locs hP hD hS => ?_)
                    have hqp206 : ProgOk g205 := ⟨hqp1.1.set (m := 9) e_g205 16 (by omega) rfl (by omega), hqp1.2.set e_g205 (by omega)⟩
                    have hmt207 := hmt1.keep e_g205 (by omega)
                    refine lv_aload hx hb dX9_merge_193 (lv_at hl 6 rfl) ?_
                    refine lv_iload hx hb dX9_merge_195 (lv_at hl 0 rfl) ?_
                    refine lv_bipush (v := zI 14) hx hb dX9_merge_197 (by decide) ?_
                    refine r_iadd (v := zI ((20 * v5) + 14)) F dX9_merge_199 (zI_add _ _) ?_
                    refine rz_iald F hK hP 2 0 rfl rfl (by omega) (by omega) dX9_merge_200 ?_
                    refine rz_top (fun z208 h_z208 => ?_)
                    refine lv_iconst (v := zI 2) hx hb dX9_merge_201 rfl ?_
                    refine rz_icmp_ne (tgt := 226) F (by omega) (by omega) dX9_merge_202 (by decide) (fun h202_208 => ?_) (fun h202_208 => ?_)
                    · refine lv_iconst (v := zI 0) hx hb dX9_merge_226 rfl ?_
                      refine lv_istore (lv' := [(7, .int (zI 0)), (6, .int (zI (20 * v5))), (5, .int (zI v5)), (0, .ref y), (1, .ref a), (2, .int (zI x)), (3, .int (zI w)), (4, .ref f)]) hx hb dX9_merge_227 hl (by decide) rfl (fun ls hl => ?_)
                      refine W.widen (k := 0) (n := 0) (Nat.le_of_ble_eq_true rfl) (Nat.le_of_ble_eq_true rfl) ?_
                      refine (?_ : ∀ (n9_3 : Nat) (v7 : Int) (gq2 : Nat → Int) (H : Heap) (locs : List Loc), (0 ≤ v7 ∧ v7 ≤ 4) → (4 - v7 : Int).toNat < n9_3 → (ProgOk gq2) → (MT g_p gq2 w) → va_P G vwCl [(y, .inr (9, [.int (zI (i 0)), .ref (q 0), .int (zI (i 1)), .int (zI (i 2)), .int (zI (i 3)), .int (zI (i 4)), .int (zI (i 5)), .int (zI (i 6)), .int (zI (i 7)), .int (zI (i 8)), .int (zI (i 9)), .int (zI (i 10)), .ref (q 1), .int (zI (i 11)), .int (zI (i 12)), .ref (q 2), .ref (q 3), .ref (q 4), .ref (q 5), .ref (q 6), .ref (q 7), .ref (q 8), .ref (q 9), .ref (q 10), .ref (q 11), .ref (q 12), .ref (q 13), .ref (q 14), .ref (q 15), .ref (q 16), .int (zI (i 13)), .int (zI (i 14)), .int (zI (i 15)), .int (zI (i 16)), .int (zI (i 17)), .int (zI (i 18)), .ref (q 17), .ref (q 18), .ref (q 19), .ref (q 20)])), (a, .inl (cI, 200, .inl (fun k => zI (g_p k)))), (f, .inl (cI, 200, .inl (fun k => zI (gq2 k))))] H → va_D A [(y, .inr (9, [.int (zI (i 0)), .ref (q 0), .int (zI (i 1)), .int (zI (i 2)), .int (zI (i 3)), .int (zI (i 4)), .int (zI (i 5)), .int (zI (i 6)), .int (zI (i 7)), .int (zI (i 8)), .int (zI (i 9)), .int (zI (i 10)), .ref (q 1), .int (zI (i 11)), .int (zI (i 12)), .ref (q 2), .ref (q 3), .ref (q 4), .ref (q 5), .ref (q 6), .ref (q 7), .ref (q 8), .ref (q 9), .ref (q 10), .ref (q 11), .ref (q 12), .ref (q 13), .ref (q 14), .ref (q 15), .ref (q 16), .int (zI (i 13)), .int (zI (i 14)), .int (zI (i 15)), .int (zI (i 16)), .int (zI (i 17)), .int (zI (i 18)), .ref (q 17), .ref (q 18), .ref (q 19), .ref (q 20)])), (a, .inl (cI, 200, .inl (fun k => zI (g_p k)))), (f, .inl (cI, 200, .inl (fun k => zI (gq2 k))))] → va_S A s.heap H locs → ∀ ls : Array Slot, lv_has ls 8 [(7, .int (zI v7)), (6, .int (zI (20 * v5))), (5, .int (zI v5)), (0, .ref y), (1, .ref a), (2, .int (zI x)), (3, .int (zI w)), (4, .ref f)] → W p l e rm_X9_merge s m ([.ref y, .ref a, .int (zI x), .int (zI w), .ref f] : List Value).toArray below meth c H locs 0 0 Q (F0 m 229 ls [])) ((4 - 0 : Int).toNat + 1) 0 g205 _ _ (by omega) (by omega) hqp206 hmt207 hP hD hS ls hl
                      clear hP hD hS hl ls
                      intro n9_3
                      induction n9_3 with
                      | zero =>
                        intro v7 gq2 H locs hI hM
                        exact absurd hM (by omega)
                      | succ n9_3 ih3 =>
                        intro v7 gq2 H locs hI3 hM3 hqp2 hmt2 hP hD hS ls hl
                        refine lv_iload hx hb dX9_merge_229 (lv_at hl 0 rfl) ?_
                        refine lv_aload hx hb dX9_merge_231 (lv_at hl 7 rfl) ?_
                        refine lv_iload hx hb dX9_merge_233 (lv_at hl 1 rfl) ?_
                        refine lv_iconst (v := zI 1) hx hb dX9_merge_235 rfl ?_
                        refine r_iadd (v := zI ((20 * v5) + 1)) F dX9_merge_236 (zI_add _ _) ?_
                        refine rz_iald F hK hP 2 0 rfl rfl (by omega) (by omega) dX9_merge_237 ?_
                        have hpl210 : 0 ≤ (gq2 (((20 * v5) + 1)).toNat) ∧ (gq2 (((20 * v5) + 1)).toNat) ≤ 4 := ProgR.at hqp2.1 (e := ((20 * v5) + 1)) v5 1 (by omega) (by omega) (by decide) rfl
                        refine rz_icmp_ge (tgt := 296) F (by omega) (by omega) dX9_merge_238 (by decide) (fun h238_210 => ?_) (fun h238_210 => ?_)
                        · refine lv_iinc (v := zI (v5 + 1)) (lv' := [(5, .int (zI (v5 + 1))), (7, .int (zI v7)), (6, .int (zI (20 * v5))), (0, .ref y), (1, .ref a), (2, .int (zI x)), (3, .int (zI w)), (4, .ref f)]) hx hb dX9_merge_296 hl (k := 2) rfl (zI_add _ _) (by decide) rfl (fun ls hl => ?_)
                          refine lv_goto (tgt := 132) hx hb dX9_merge_299 (by decide) ?_
                          exact ih2 (v5 + 1) gq2 _ _ (by omega) (by omega) hqp2 hmt2 hP hD hS ls (lv_sub hl [0, 3, 4, 5, 6, 7] rfl)
                        · refine lv_aload hx hb dX9_merge_241 (lv_at hl 7 rfl) ?_
                          refine lv_iload hx hb dX9_merge_243 (lv_at hl 1 rfl) ?_
                          refine lv_iconst (v := zI 2) hx hb dX9_merge_245 rfl ?_
                          refine r_iadd (v := zI ((20 * v5) + 2)) F dX9_merge_246 (zI_add _ _) ?_
                          refine lv_iconst (v := zI 3) hx hb dX9_merge_247 rfl ?_
                          refine lv_iload hx hb dX9_merge_248 (lv_at hl 0 rfl) ?_
                          refine r_imul (v := zI (3 * v7)) F dX9_merge_250 (zI_mul _ _) ?_
                          refine r_iadd (v := zI (((20 * v5) + 2) + (3 * v7))) F dX9_merge_251 (zI_add _ _) ?_
                          refine rz_iald F hK hP 2 0 rfl rfl (by omega) (by omega) dX9_merge_252 ?_
                          have hc212 := ProgOk.act hqp2 (i := v5) (n := v7) (k := (((20 * v5) + 2) + (3 * v7))) (by omega) (by omega) (by omega)
                          refine lv_iconst (v := zI 3) hx hb dX9_merge_253 rfl ?_
                          refine rz_icmp_ne (tgt := 290) F (by omega) (by omega) dX9_merge_254 (by decide) (fun h254_212 => ?_) (fun h254_212 => ?_)
                          · refine lv_iinc (v := zI (v7 + 1)) (lv' := [(7, .int (zI (v7 + 1))), (6, .int (zI (20 * v5))), (5, .int (zI v5)), (0, .ref y), (1, .ref a), (2, .int (zI x)), (3, .int (zI w)), (4, .ref f)]) hx hb dX9_merge_290 hl (k := 0) rfl (zI_add _ _) (by decide) rfl (fun ls hl => ?_)
                            refine lv_goto (tgt := 229) hx hb dX9_merge_293 (by decide) ?_
                            exact ih3 (v7 + 1) gq2 _ _ (by omega) (by omega) hqp2 hmt2 hP hD hS ls (lv_sub hl [0, 1, 2, 3, 4, 5, 6, 7] rfl)
                          · refine lv_aload hx hb dX9_merge_257 (lv_at hl 7 rfl) ?_
                            refine lv_iload hx hb dX9_merge_259 (lv_at hl 1 rfl) ?_
                            refine lv_iconst (v := zI 2) hx hb dX9_merge_261 rfl ?_
                            refine r_iadd (v := zI ((20 * v5) + 2)) F dX9_merge_262 (zI_add _ _) ?_
                            refine lv_iconst (v := zI 3) hx hb dX9_merge_263 rfl ?_
                            refine lv_iload hx hb dX9_merge_264 (lv_at hl 0 rfl) ?_
                            refine r_imul (v := zI (3 * v7)) F dX9_merge_266 (zI_mul _ _) ?_
                            refine r_iadd (v := zI (((20 * v5) + 2) + (3 * v7))) F dX9_merge_267 (zI_add _ _) ?_
                            refine lv_iconst (v := zI 1) hx hb dX9_merge_268 rfl ?_
                            refine r_iadd (v := zI ((((20 * v5) + 2) + (3 * v7)) + 1)) F dX9_merge_269 (zI_add _ _) ?_
                            refine rz_iald F hK hP 2 0 rfl rfl (by omega) (by omega) dX9_merge_270 ?_
                            refine rz_top (fun z214 h_z214 => ?_)
                            refine lv_iload_n hx hb dX9_merge_271 rfl (lv_at hl 6 rfl) ?_
                            refine rz_icmp_ne (tgt := 290) F (by omega) (by omega) dX9_merge_272 (by decide) (fun h272_214 => ?_) (fun h272_214 => ?_)
                            · refine lv_iinc (v := zI (v7 + 1)) (lv' := [(7, .int (zI (v7 + 1))), (6, .int (zI (20 * v5))), (5, .int (zI v5)), (0, .ref y), (1, .ref a), (2, .int (zI x)), (3, .int (zI w)), (4, .ref f)]) hx hb dX9_merge_290 hl (k := 0) rfl (zI_add _ _) (by decide) rfl (fun ls hl => ?_)
                              refine lv_goto (tgt := 229) hx hb dX9_merge_293 (by decide) ?_
                              exact ih3 (v7 + 1) gq2 _ _ (by omega) (by omega) hqp2 hmt2 hP hD hS ls (lv_sub hl [0, 1, 2, 3, 4, 5, 6, 7] rfl)
                            · refine lv_aload hx hb dX9_merge_275 (lv_at hl 7 rfl) ?_
                              refine lv_iload hx hb dX9_merge_277 (lv_at hl 1 rfl) ?_
                              refine lv_iconst (v := zI 2) hx hb dX9_merge_279 rfl ?_
                              refine r_iadd (v := zI ((20 * v5) + 2)) F dX9_merge_280 (zI_add _ _) ?_
                              refine lv_iconst (v := zI 3) hx hb dX9_merge_281 rfl ?_
                              refine lv_iload hx hb dX9_merge_282 (lv_at hl 0 rfl) ?_
                              refine r_imul (v := zI (3 * v7)) F dX9_merge_284 (zI_mul _ _) ?_
                              refine r_iadd (v := zI (((20 * v5) + 2) + (3 * v7))) F dX9_merge_285 (zI_add _ _) ?_
                              refine lv_iconst (v := zI 1) hx hb dX9_merge_286 rfl ?_
                              refine r_iadd (v := zI ((((20 * v5) + 2) + (3 * v7)) + 1)) F dX9_merge_287 (zI_add _ _) ?_
                              refine lv_iload_n hx hb dX9_merge_288 rfl (lv_at hl 5 rfl) ?_
                              refine rz_iastG F hK hP hD hS 2 0 rfl rfl (by omega) (by omega) dX9_merge_289 (w1 := fun g216 => [(y, .inr (9, [.int (zI (i 0)), .ref (q 0), .int (zI (i 1)), .int (zI (i 2)), .int (zI (i 3)), .int (zI (i 4)), .int (zI (i 5)), .int (zI (i 6)), .int (zI (i 7)), .int (zI (i 8)), .int (zI (i 9)), .int (zI (i 10)), .ref (q 1), .int (zI (i 11)), .int (zI (i 12)), .ref (q 2), .ref (q 3), .ref (q 4), .ref (q 5), .ref (q 6), .ref (q 7), .ref (q 8), .ref (q 9), .ref (q 10), .ref (q 11), .ref (q 12), .ref (q 13), .ref (q 14), .ref (q 15), .ref (q 16), .int (zI (i 13)), .int (zI (i 14)), .int (zI (i 15)), .int (zI (i 16)), .int (zI (i 17)), .int (zI (i 18)), .ref (q 17), .ref (q 18), .ref (q 19), .ref (q 20)])), (a, .inl (cI, 200, .inl (fun k => zI (g_p k)))), (f, .inl (cI, 200, .inl (fun k => zI (g216 k))))]) (fun _ => rfl) (fun g216 e_g216 H locs hP hD hS => ?_)
                              have hqp217 : ProgOk g216 := ProgOk.tgt3 hqp2 e_g216 (i := v5) (n := v7) (by omega) (by omega) (by omega) (by omega) (j := (((20 * v5) + 2) + (3 * v7)).toNat) (by omega) (by omega)
                              have hmt218 := MT.keepA hmt2 e_g216 (i := v5) (n := v7) (by omega) (by omega) (by omega)
                              refine lv_iinc (v := zI (v7 + 1)) (lv' := [(7, .int (zI (v7 + 1))), (6, .int (zI (20 * v5))), (5, .int (zI v5)), (0, .ref y), (1, .ref a), (2, .int (zI x)), (3, .int (zI w)), (4, .ref f)]) hx hb dX9_merge_290 hl (k := 0) rfl (zI_add _ _) (by decide) rfl (fun ls hl => ?_)
                              refine lv_goto (tgt := 229) hx hb dX9_merge_293 (by decide) ?_
                              exact ih3 (v7 + 1) g216 _ _ (by omega) (by omega) hqp217 hmt218 hP hD hS ls (lv_sub hl [0, 1, 2, 3, 4, 5, 6, 7] rfl)
                    · refine lv_aload hx hb dX9_merge_205 (lv_at hl 6 rfl) ?_
                      refine lv_iload hx hb dX9_merge_207 (lv_at hl 0 rfl) ?_
                      refine lv_bipush (v := zI 18) hx hb dX9_merge_209 (by decide) ?_
                      refine r_iadd (v := zI ((20 * v5) + 18)) F dX9_merge_211 (zI_add _ _) ?_
                      refine rz_iald F hK hP 2 0 rfl rfl (by omega) (by omega) dX9_merge_212 ?_
                      refine rz_top (fun z219 h_z219 => ?_)
                      refine lv_iload_n hx hb dX9_merge_213 rfl (lv_at hl 5 rfl) ?_
                      refine rz_icmp_ne (tgt := 226) F (by omega) (by omega) dX9_merge_214 (by decide) (fun h214_219 => ?_) (fun h214_219 => ?_)
                      · refine lv_iconst (v := zI 0) hx hb dX9_merge_226 rfl ?_
                        refine lv_istore (lv' := [(7, .int (zI 0)), (6, .int (zI (20 * v5))), (5, .int (zI v5)), (0, .ref y), (1, .ref a), (2, .int (zI x)), (3, .int (zI w)), (4, .ref f)]) hx hb dX9_merge_227 hl (by decide) rfl (fun ls hl => ?_)
                        refine W.widen (k := 0) (n := 0) (Nat.le_of_ble_eq_true rfl) (Nat.le_of_ble_eq_true rfl) ?_
                        refine (?_ : ∀ (n9_3 : Nat) (v7 : Int) (gq2 : Nat → Int) (H : Heap) (locs : List Loc), (0 ≤ v7 ∧ v7 ≤ 4) → (4 - v7 : Int).toNat < n9_3 → (ProgOk gq2) → (MT g_p gq2 w) → va_P G vwCl [(y, .inr (9, [.int (zI (i 0)), .ref (q 0), .int (zI (i 1)), .int (zI (i 2)), .int (zI (i 3)), .int (zI (i 4)), .int (zI (i 5)), .int (zI (i 6)), .int (zI (i 7)), .int (zI (i 8)), .int (zI (i 9)), .int (zI (i 10)), .ref (q 1), .int (zI (i 11)), .int (zI (i 12)), .ref (q 2), .ref (q 3), .ref (q 4), .ref (q 5), .ref (q 6), .ref (q 7), .ref (q 8), .ref (q 9), .ref (q 10), .ref (q 11), .ref (q 12), .ref (q 13), .ref (q 14), .ref (q 15), .ref (q 16), .int (zI (i 13)), .int (zI (i 14)), .int (zI (i 15)), .int (zI (i 16)), .int (zI (i 17)), .int (zI (i 18)), .ref (q 17), .ref (q 18), .ref (q 19), .ref (q 20)])), (a, .inl (cI, 200, .inl (fun k => zI (g_p k)))), (f, .inl (cI, 200, .inl (fun k => zI (gq2 k))))] H → va_D A [(y, .inr (9, [.int (zI (i 0)), .ref (q 0), .int (zI (i 1)), .int (zI (i 2)), .int (zI (i 3)), .int (zI (i 4)), .int (zI (i 5)), .int (zI (i 6)), .int (zI (i 7)), .int (zI (i 8)), .int (zI (i 9)), .int (zI (i 10)), .ref (q 1), .int (zI (i 11)), .int (zI (i 12)), .ref (q 2), .ref (q 3), .ref (q 4), .ref (q 5), .ref (q 6), .ref (q 7), .ref (q 8), .ref (q 9), .ref (q 10), .ref (q 11), .ref (q 12), .ref (q 13), .ref (q 14), .ref (q 15), .ref (q 16), .int (zI (i 13)), .int (zI (i 14)), .int (zI (i 15)), .int (zI (i 16)), .int (zI (i 17)), .int (zI (i 18)), .ref (q 17), .ref (q 18), .ref (q 19), .ref (q 20)])), (a, .inl (cI, 200, .inl (fun k => zI (g_p k)))), (f, .inl (cI, 200, .inl (fun k => zI (gq2 k))))] → va_S A s.heap H locs → ∀ ls : Array Slot, lv_has ls 8 [(7, .int (zI v7)), (6, .int (zI (20 * v5))), (5, .int (zI v5)), (0, .ref y), (1, .ref a), (2, .int (zI x)), (3, .int (zI w)), (4, .ref f)] → W p l e rm_X9_merge s m ([.ref y, .ref a, .int (zI x), .int (zI w), .ref f] : List Value).toArray below meth c H locs 0 0 Q (F0 m 229 ls [])) ((4 - 0 : Int).toNat + 1) 0 g205 _ _ (by omega) (by omega) hqp206 hmt207 hP hD hS ls hl
                        clear hP hD hS hl ls
                        intro n9_3
                        induction n9_3 with
                        | zero =>
                          intro v7 gq2 H locs hI hM
                          exact absurd hM (by omega)
                        | succ n9_3 ih3 =>
                          intro v7 gq2 H locs hI3 hM3 hqp2 hmt2 hP hD hS ls hl
                          refine lv_iload hx hb dX9_merge_229 (lv_at hl 0 rfl) ?_
                          refine lv_aload hx hb dX9_merge_231 (lv_at hl 7 rfl) ?_
                          refine lv_iload hx hb dX9_merge_233 (lv_at hl 1 rfl) ?_
                          refine lv_iconst (v := zI 1) hx hb dX9_merge_235 rfl ?_
                          refine r_iadd (v := zI ((20 * v5) + 1)) F dX9_merge_236 (zI_add _ _) ?_
                          refine rz_iald F hK hP 2 0 rfl rfl (by omega) (by omega) dX9_merge_237 ?_
                          have hpl221 : 0 ≤ (gq2 (((20 * v5) + 1)).toNat) ∧ (gq2 (((20 * v5) + 1)).toNat) ≤ 4 := ProgR.at hqp2.1 (e := ((20 * v5) + 1)) v5 1 (by omega) (by omega) (by decide) rfl
                          refine rz_icmp_ge (tgt := 296) F (by omega) (by omega) dX9_merge_238 (by decide) (fun h238_221 => ?_) (fun h238_221 => ?_)
                          · refine lv_iinc (v := zI (v5 + 1)) (lv' := [(5, .int (zI (v5 + 1))), (7, .int (zI v7)), (6, .int (zI (20 * v5))), (0, .ref y), (1, .ref a), (2, .int (zI x)), (3, .int (zI w)), (4, .ref f)]) hx hb dX9_merge_296 hl (k := 2) rfl (zI_add _ _) (by decide) rfl (fun ls hl => ?_)
                            refine lv_goto (tgt := 132) hx hb dX9_merge_299 (by decide) ?_
                            exact ih2 (v5 + 1) gq2 _ _ (by omega) (by omega) hqp2 hmt2 hP hD hS ls (lv_sub hl [0, 3, 4, 5, 6, 7] rfl)
                          · refine lv_aload hx hb dX9_merge_241 (lv_at hl 7 rfl) ?_
                            refine lv_iload hx hb dX9_merge_243 (lv_at hl 1 rfl) ?_
                            refine lv_iconst (v := zI 2) hx hb dX9_merge_245 rfl ?_
                            refine r_iadd (v := zI ((20 * v5) + 2)) F dX9_merge_246 (zI_add _ _) ?_
                            refine lv_iconst (v := zI 3) hx hb dX9_merge_247 rfl ?_
                            refine lv_iload hx hb dX9_merge_248 (lv_at hl 0 rfl) ?_
                            refine r_imul (v := zI (3 * v7)) F dX9_merge_250 (zI_mul _ _) ?_
                            refine r_iadd (v := zI (((20 * v5) + 2) + (3 * v7))) F dX9_merge_251 (zI_add _ _) ?_
                            refine rz_iald F hK hP 2 0 rfl rfl (by omega) (by omega) dX9_merge_252 ?_
                            have hc223 := ProgOk.act hqp2 (i := v5) (n := v7) (k := (((20 * v5) + 2) + (3 * v7))) (by omega) (by omega) (by omega)
                            refine lv_iconst (v := zI 3) hx hb dX9_merge_253 rfl ?_
                            refine rz_icmp_ne (tgt := 290) F (by omega) (by omega) dX9_merge_254 (by decide) (fun h254_223 => ?_) (fun h254_223 => ?_)
                            · refine lv_iinc (v := zI (v7 + 1)) (lv' := [(7, .int (zI (v7 + 1))), (6, .int (zI (20 * v5))), (5, .int (zI v5)), (0, .ref y), (1, .ref a), (2, .int (zI x)), (3, .int (zI w)), (4, .ref f)]) hx hb dX9_merge_290 hl (k := 0) rfl (zI_add _ _) (by decide) rfl (fun ls hl => ?_)
                              refine lv_goto (tgt := 229) hx hb dX9_merge_293 (by decide) ?_
                              exact ih3 (v7 + 1) gq2 _ _ (by omega) (by omega) hqp2 hmt2 hP hD hS ls (lv_sub hl [0, 1, 2, 3, 4, 5, 6, 7] rfl)
                            · refine lv_aload hx hb dX9_merge_257 (lv_at hl 7 rfl) ?_
                              refine lv_iload hx hb dX9_merge_259 (lv_at hl 1 rfl) ?_
                              refine lv_iconst (v := zI 2) hx hb dX9_merge_261 rfl ?_
                              refine r_iadd (v := zI ((20 * v5) + 2)) F dX9_merge_262 (zI_add _ _) ?_
                              refine lv_iconst (v := zI 3) hx hb dX9_merge_263 rfl ?_
                              refine lv_iload hx hb dX9_merge_264 (lv_at hl 0 rfl) ?_
                              refine r_imul (v := zI (3 * v7)) F dX9_merge_266 (zI_mul _ _) ?_
                              refine r_iadd (v := zI (((20 * v5) + 2) + (3 * v7))) F dX9_merge_267 (zI_add _ _) ?_
                              refine lv_iconst (v := zI 1) hx hb dX9_merge_268 rfl ?_
                              refine r_iadd (v := zI ((((20 * v5) + 2) + (3 * v7)) + 1)) F dX9_merge_269 (zI_add _ _) ?_
                              refine rz_iald F hK hP 2 0 rfl rfl (by omega) (by omega) dX9_merge_270 ?_
                              refine rz_top (fun z225 h_z225 => ?_)
                              refine lv_iload_n hx hb dX9_merge_271 rfl (lv_at hl 6 rfl) ?_
                              refine rz_icmp_ne (tgt := 290) F (by omega) (by omega) dX9_merge_272 (by decide) (fun h272_225 => ?_) (fun h272_225 => ?_)
                              · refine lv_iinc (v := zI (v7 + 1)) (lv' := [(7, .int (zI (v7 + 1))), (6, .int (zI (20 * v5))), (5, .int (zI v5)), (0, .ref y), (1, .ref a), (2, .int (zI x)), (3, .int (zI w)), (4, .ref f)]) hx hb dX9_merge_290 hl (k := 0) rfl (zI_add _ _) (by decide) rfl (fun ls hl => ?_)
                                refine lv_goto (tgt := 229) hx hb dX9_merge_293 (by decide) ?_
                                exact ih3 (v7 + 1) gq2 _ _ (by omega) (by omega) hqp2 hmt2 hP hD hS ls (lv_sub hl [0, 1, 2, 3, 4, 5, 6, 7] rfl)
                              · refine lv_aload hx hb dX9_merge_275 (lv_at hl 7 rfl) ?_
                                refine lv_iload hx hb dX9_merge_277 (lv_at hl 1 rfl) ?_
                                refine lv_iconst (v := zI 2) hx hb dX9_merge_279 rfl ?_
                                refine r_iadd (v := zI ((20 * v5) + 2)) F dX9_merge_280 (zI_add _ _) ?_
                                refine lv_iconst (v := zI 3) hx hb dX9_merge_281 rfl ?_
                                refine lv_iload hx hb dX9_merge_282 (lv_at hl 0 rfl) ?_
                                refine r_imul (v := zI (3 * v7)) F dX9_merge_284 (zI_mul _ _) ?_
                                refine r_iadd (v := zI (((20 * v5) + 2) + (3 * v7))) F dX9_merge_285 (zI_add _ _) ?_
                                refine lv_iconst (v := zI 1) hx hb dX9_merge_286 rfl ?_
                                refine r_iadd (v := zI ((((20 * v5) + 2) + (3 * v7)) + 1)) F dX9_merge_287 (zI_add _ _) ?_
                                refine lv_iload_n hx hb dX9_merge_288 rfl (lv_at hl 5 rfl) ?_
                                refine rz_iastG F hK hP hD hS 2 0 rfl rfl (by omega) (by omega) dX9_merge_289 (w1 := fun g227 => [(y, .inr (9, [.int (zI (i 0)), .ref (q 0), .int (zI (i 1)), .int (zI (i 2)), .int (zI (i 3)), .int (zI (i 4)), .int (zI (i 5)), .int (zI (i 6)), .int (zI (i 7)), .int (zI (i 8)), .int (zI (i 9)), .int (zI (i 10)), .ref (q 1), .int (zI (i 11)), .int (zI (i 12)), .ref (q 2), .ref (q 3), .ref (q 4), .ref (q 5), .ref (q 6), .ref (q 7), .ref (q 8), .ref (q 9), .ref (q 10), .ref (q 11), .ref (q 12), .ref (q 13), .ref (q 14), .ref (q 15), .ref (q 16), .int (zI (i 13)), .int (zI (i 14)), .int (zI (i 15)), .int (zI (i 16)), .int (zI (i 17)), .int (zI (i 18)), .ref (q 17), .ref (q 18), .ref (q 19), .ref (q 20)])), (a, .inl (cI, 200, .inl (fun k => zI (g_p k)))), (f, .inl (cI, 200, .inl (fun k => zI (g227 k))))]) (fun _ => rfl) (fun g227 e_g227 H locs hP hD hS => ?_)
                                have hqp228 : ProgOk g227 := ProgOk.tgt3 hqp2 e_g227 (i := v5) (n := v7) (by omega) (by omega) (by omega) (by omega) (j := (((20 * v5) + 2) + (3 * v7)).toNat) (by omega) (by omega)
                                have hmt229 := MT.keepA hmt2 e_g227 (i := v5) (n := v7) (by omega) (by omega) (by omega)
                                refine lv_iinc (v := zI (v7 + 1)) (lv' := [(7, .int (zI (v7 + 1))), (6, .int (zI (20 * v5))), (5, .int (zI v5)), (0, .ref y), (1, .ref a), (2, .int (zI x)), (3, .int (zI w)), (4, .ref f)]) hx hb dX9_merge_290 hl (k := 0) rfl (zI_add _ _) (by decide) rfl (fun ls hl => ?_)
                                refine lv_goto (tgt := 229) hx hb dX9_merge_293 (by decide) ?_
                                exact ih3 (v7 + 1) g227 _ _ (by omega) (by omega) hqp228 hmt229 hP hD hS ls (lv_sub hl [0, 1, 2, 3, 4, 5, 6, 7] rfl)
                      · refine lv_aload hx hb dX9_merge_217 (lv_at hl 6 rfl) ?_
                        refine lv_iload hx hb dX9_merge_219 (lv_at hl 0 rfl) ?_
                        refine lv_bipush (v := zI 18) hx hb dX9_merge_221 (by decide) ?_
                        refine r_iadd (v := zI ((20 * v5) + 18)) F dX9_merge_223 (zI_add _ _) ?_
                        refine lv_iload_n hx hb dX9_merge_224 rfl (lv_at hl 4 rfl) ?_
                        refine rz_iastG F hK hP hD hS 2 0 rfl rfl (by omega) (by omega) dX9_merge_225 (w1 := fun g230 => [(y, .inr (9, [.int (zI (i 0)), .ref (q 0), .int (zI (i 1)), .int (zI (i 2)), .int (zI (i 3)), .int (zI (i 4)), .int (zI (i 5)), .int (zI (i 6)), .int (zI (i 7)), .int (zI (i 8)), .int (zI (i 9)), .int (zI (i 10)), .ref (q 1), .int (zI (i 11)), .int (zI (i 12)), .ref (q 2), .ref (q 3), .ref (q 4), .ref (q 5), .ref (q 6), .ref (q 7), .ref (q 8), .ref (q 9), .ref (q 10), .ref (q 11), .ref (q 12), .ref (q 13), .ref (q 14), .ref (q 15), .ref (q 16), .int (zI (i 13)), .int (zI (i 14)), .int (zI (i 15)), .int (zI (i 16)), .int (zI (i 17)), .int (zI (i 18)), .ref (q 17), .ref (q 18), .ref (q 19), .ref (q 20)])), (a, .inl (cI, 200, .inl (fun k => zI (g_p k)))), (f, .inl (cI, 200, .inl (fun k => zI (g230 k))))]) (fun _ => rfl) (fun g230 e_g230 H locs hP hD hS => ?_)
                        have hqp231 : ProgOk g230 := ⟨hqp206.1.set (m := 9) e_g230 18 (by omega) rfl (by omega), hqp206.2.set e_g230 (by omega)⟩
                        have hmt232 := hmt207.keep e_g230 (by omega)
                        refine lv_iconst (v := zI 0) hx hb dX9_merge_226 rfl ?_
                        refine lv_istore (lv' := [(7, .int (zI 0)), (6, .int (zI (20 * v5))), (5, .int (zI v5)), (0, .ref y), (1, .ref a), (2, .int (zI x)), (3, .int (zI w)), (4, .ref f)]) hx hb dX9_merge_227 hl (by decide) rfl (fun ls hl => ?_)
                        refine W.widen (k := 0) (n := 0) (Nat.le_of_ble_eq_true rfl) (Nat.le_of_ble_eq_true rfl) ?_
                        refine (?_ : ∀ (n9_3 : Nat) (v7 : Int) (gq2 : Nat → Int) (H : Heap) (locs : List Loc), (0 ≤ v7 ∧ v7 ≤ 4) → (4 - v7 : Int).toNat < n9_3 → (ProgOk gq2) → (MT g_p gq2 w) → va_P G vwCl [(y, .inr (9, [.int (zI (i 0)), .ref (q 0), .int (zI (i 1)), .int (zI (i 2)), .int (zI (i 3)), .int (zI (i 4)), .int (zI (i 5)), .int (zI (i 6)), .int (zI (i 7)), .int (zI (i 8)), .int (zI (i 9)), .int (zI (i 10)), .ref (q 1), .int (zI (i 11)), .int (zI (i 12)), .ref (q 2), .ref (q 3), .ref (q 4), .ref (q 5), .ref (q 6), .ref (q 7), .ref (q 8), .ref (q 9), .ref (q 10), .ref (q 11), .ref (q 12), .ref (q 13), .ref (q 14), .ref (q 15), .ref (q 16), .int (zI (i 13)), .int (zI (i 14)), .int (zI (i 15)), .int (zI (i 16)), .int (zI (i 17)), .int (zI (i 18)), .ref (q 17), .ref (q 18), .ref (q 19), .ref (q 20)])), (a, .inl (cI, 200, .inl (fun k => zI (g_p k)))), (f, .inl (cI, 200, .inl (fun k => zI (gq2 k))))] H → va_D A [(y, .inr (9, [.int (zI (i 0)), .ref (q 0), .int (zI (i 1)), .int (zI (i 2)), .int (zI (i 3)), .int (zI (i 4)), .int (zI (i 5)), .int (zI (i 6)), .int (zI (i 7)), .int (zI (i 8)), .int (zI (i 9)), .int (zI (i 10)), .ref (q 1), .int (zI (i 11)), .int (zI (i 12)), .ref (q 2), .ref (q 3), .ref (q 4), .ref (q 5), .ref (q 6), .ref (q 7), .ref (q 8), .ref (q 9), .ref (q 10), .ref (q 11), .ref (q 12), .ref (q 13), .ref (q 14), .ref (q 15), .ref (q 16), .int (zI (i 13)), .int (zI (i 14)), .int (zI (i 15)), .int (zI (i 16)), .int (zI (i 17)), .int (zI (i 18)), .ref (q 17), .ref (q 18), .ref (q 19), .ref (q 20)])), (a, .inl (cI, 200, .inl (fun k => zI (g_p k)))), (f, .inl (cI, 200, .inl (fun k => zI (gq2 k))))] → va_S A s.heap H locs → ∀ ls : Array Slot, lv_has ls 8 [(7, .int (zI v7)), (6, .int (zI (20 * v5))), (5, .int (zI v5)), (0, .ref y), (1, .ref a), (2, .int (zI x)), (3, .int (zI w)), (4, .ref f)] → W p l e rm_X9_merge s m ([.ref y, .ref a, .int (zI x), .int (zI w), .ref f] : List Value).toArray below meth c H locs 0 0 Q (F0 m 229 ls [])) ((4 - 0 : Int).toNat + 1) 0 g230 _ _ (by omega) (by omega) hqp231 hmt232 hP hD hS ls hl
                        clear hP hD hS hl ls
                        intro n9_3
                        induction n9_3 with
                        | zero =>
                          intro v7 gq2 H locs hI hM
                          exact absurd hM (by omega)
                        | succ n9_3 ih3 =>
                          intro v7 gq2 H locs hI3 hM3 hqp2 hmt2 hP hD hS ls hl
                          refine lv_iload hx hb dX9_merge_229 (lv_at hl 0 rfl) ?_
                          refine lv_aload hx hb dX9_merge_231 (lv_at hl 7 rfl) ?_
                          refine lv_iload hx hb dX9_merge_233 (lv_at hl 1 rfl) ?_
                          refine lv_iconst (v := zI 1) hx hb dX9_merge_235 rfl ?_
                          refine r_iadd (v := zI ((20 * v5) + 1)) F dX9_merge_236 (zI_add _ _) ?_
                          refine rz_iald F hK hP 2 0 rfl rfl (by omega) (by omega) dX9_merge_237 ?_
                          have hpl233 : 0 ≤ (gq2 (((20 * v5) + 1)).toNat) ∧ (gq2 (((20 * v5) + 1)).toNat) ≤ 4 := ProgR.at hqp2.1 (e := ((20 * v5) + 1)) v5 1 (by omega) (by omega) (by decide) rfl
                          refine rz_icmp_ge (tgt := 296) F (by omega) (by omega) dX9_merge_238 (by decide) (fun h238_233 => ?_) (fun h238_233 => ?_)
                          · refine lv_iinc (v := zI (v5 + 1)) (lv' := [(5, .int (zI (v5 + 1))), (7, .int (zI v7)), (6, .int (zI (20 * v5))), (0, .ref y), (1, .ref a), (2, .int (zI x)), (3, .int (zI w)), (4, .ref f)]) hx hb dX9_merge_296 hl (k := 2) rfl (zI_add _ _) (by decide) rfl (fun ls hl => ?_)
                            refine lv_goto (tgt := 132) hx hb dX9_merge_299 (by decide) ?_
                            exact ih2 (v5 + 1) gq2 _ _ (by omega) (by omega) hqp2 hmt2 hP hD hS ls (lv_sub hl [0, 3, 4, 5, 6, 7] rfl)
                          · refine lv_aload hx hb dX9_merge_241 (lv_at hl 7 rfl) ?_
                            refine lv_iload hx hb dX9_merge_243 (lv_at hl 1 rfl) ?_
                            refine lv_iconst (v := zI 2) hx hb dX9_merge_245 rfl ?_
                            refine r_iadd (v := zI ((20 * v5) + 2)) F dX9_merge_246 (zI_add _ _) ?_
                            refine lv_iconst (v := zI 3) hx hb dX9_merge_247 rfl ?_
                            refine lv_iload hx hb dX9_merge_248 (lv_at hl 0 rfl) ?_
                            refine r_imul (v := zI (3 * v7)) F dX9_merge_250 (zI_mul _ _) ?_
                            refine r_iadd (v := zI (((20 * v5) + 2) + (3 * v7))) F dX9_merge_251 (zI_add _ _) ?_
                            refine rz_iald F hK hP 2 0 rfl rfl (by omega) (by omega) dX9_merge_252 ?_
                            have hc235 := ProgOk.act hqp2 (i := v5) (n := v7) (k := (((20 * v5) + 2) + (3 * v7))) (by omega) (by omega) (by omega)
                            refine lv_iconst (v := zI 3) hx hb dX9_merge_253 rfl ?_
                            refine rz_icmp_ne (tgt := 290) F (by omega) (by omega) dX9_merge_254 (by decide) (fun h254_235 => ?_) (fun h254_235 => ?_)
                            · refine lv_iinc (v := zI (v7 + 1)) (lv' := [(7, .int (zI (v7 + 1))), (6, .int (zI (20 * v5))), (5, .int (zI v5)), (0, .ref y), (1, .ref a), (2, .int (zI x)), (3, .int (zI w)), (4, .ref f)]) hx hb dX9_merge_290 hl (k := 0) rfl (zI_add _ _) (by decide) rfl (fun ls hl => ?_)
                              refine lv_goto (tgt := 229) hx hb dX9_merge_293 (by decide) ?_
                              exact ih3 (v7 + 1) gq2 _ _ (by omega) (by omega) hqp2 hmt2 hP hD hS ls (lv_sub hl [0, 1, 2, 3, 4, 5, 6, 7] rfl)
                            · refine lv_aload hx hb dX9_merge_257 (lv_at hl 7 rfl) ?_
                              refine lv_iload hx hb dX9_merge_259 (lv_at hl 1 rfl) ?_
                              refine lv_iconst (v := zI 2) hx hb dX9_merge_261 rfl ?_
                              refine r_iadd (v := zI ((20 * v5) + 2)) F dX9_merge_262 (zI_add _ _) ?_
                              refine lv_iconst (v := zI 3) hx hb dX9_merge_263 rfl ?_
                              refine lv_iload hx hb dX9_merge_264 (lv_at hl 0 rfl) ?_
                              refine r_imul (v := zI (3 * v7)) F dX9_merge_266 (zI_mul _ _) ?_
                              refine r_iadd (v := zI (((20 * v5) + 2) + (3 * v7))) F dX9_merge_267 (zI_add _ _) ?_
                              refine lv_iconst (v := zI 1) hx hb dX9_merge_268 rfl ?_
                              refine r_iadd (v := zI ((((20 * v5) + 2) + (3 * v7)) + 1)) F dX9_merge_269 (zI_add _ _) ?_
                              refine rz_iald F hK hP 2 0 rfl rfl (by omega) (by omega) dX9_merge_270 ?_
                              refine rz_top (fun z237 h_z237 => ?_)
                              refine lv_iload_n hx hb dX9_merge_271 rfl (lv_at hl 6 rfl) ?_
                              refine rz_icmp_ne (tgt := 290) F (by omega) (by omega) dX9_merge_272 (by decide) (fun h272_237 => ?_) (fun h272_237 => ?_)
                              · refine lv_iinc (v := zI (v7 + 1)) (lv' := [(7, .int (zI (v7 + 1))), (6, .int (zI (20 * v5))), (5, .int (zI v5)), (0, .ref y), (1, .ref a), (2, .int (zI x)), (3, .int (zI w)), (4, .ref f)]) hx hb dX9_merge_290 hl (k := 0) rfl (zI_add _ _) (by decide) rfl (fun ls hl => ?_)
                                refine lv_goto (tgt := 229) hx hb dX9_merge_293 (by decide) ?_
                                exact ih3 (v7 + 1) gq2 _ _ (by omega) (by omega) hqp2 hmt2 hP hD hS ls (lv_sub hl [0, 1, 2, 3, 4, 5, 6, 7] rfl)
                              · refine lv_aload hx hb dX9_merge_275 (lv_at hl 7 rfl) ?_
                                refine lv_iload hx hb dX9_merge_277 (lv_at hl 1 rfl) ?_
                                refine lv_iconst (v := zI 2) hx hb dX9_merge_279 rfl ?_
                                refine r_iadd (v := zI ((20 * v5) + 2)) F dX9_merge_280 (zI_add _ _) ?_
                                refine lv_iconst (v := zI 3) hx hb dX9_merge_281 rfl ?_
                                refine lv_iload hx hb dX9_merge_282 (lv_at hl 0 rfl) ?_
                                refine r_imul (v := zI (3 * v7)) F dX9_merge_284 (zI_mul _ _) ?_
                                refine r_iadd (v := zI (((20 * v5) + 2) + (3 * v7))) F dX9_merge_285 (zI_add _ _) ?_
                                refine lv_iconst (v := zI 1) hx hb dX9_merge_286 rfl ?_
                                refine r_iadd (v := zI ((((20 * v5) + 2) + (3 * v7)) + 1)) F dX9_merge_287 (zI_add _ _) ?_
                                refine lv_iload_n hx hb dX9_merge_288 rfl (lv_at hl 5 rfl) ?_
                                refine rz_iastG F hK hP hD hS 2 0 rfl rfl (by omega) (by omega) dX9_merge_289 (w1 := fun g239 => [(y, .inr (9, [.int (zI (i 0)), .ref (q 0), .int (zI (i 1)), .int (zI (i 2)), .int (zI (i 3)), .int (zI (i 4)), .int (zI (i 5)), .int (zI (i 6)), .int (zI (i 7)), .int (zI (i 8)), .int (zI (i 9)), .int (zI (i 10)), .ref (q 1), .int (zI (i 11)), .int (zI (i 12)), .ref (q 2), .ref (q 3), .ref (q 4), .ref (q 5), .ref (q 6), .ref (q 7), .ref (q 8), .ref (q 9), .ref (q 10), .ref (q 11), .ref (q 12), .ref (q 13), .ref (q 14), .ref (q 15), .ref (q 16), .int (zI (i 13)), .int (zI (i 14)), .int (zI (i 15)), .int (zI (i 16)), .int (zI (i 17)), .int (zI (i 18)), .ref (q 17), .ref (q 18), .ref (q 19), .ref (q 20)])), (a, .inl (cI, 200, .inl (fun k => zI (g_p k)))), (f, .inl (cI, 200, .inl (fun k => zI (g239 k))))]) (fun _ => rfl) (fun g239 e_g239 H locs hP hD hS => ?_)
                                have hqp240 : ProgOk g239 := ProgOk.tgt3 hqp2 e_g239 (i := v5) (n := v7) (by omega) (by omega) (by omega) (by omega) (j := (((20 * v5) + 2) + (3 * v7)).toNat) (by omega) (by omega)
                                have hmt241 := MT.keepA hmt2 e_g239 (i := v5) (n := v7) (by omega) (by omega) (by omega)
                                refine lv_iinc (v := zI (v7 + 1)) (lv' := [(7, .int (zI (v7 + 1))), (6, .int (zI (20 * v5))), (5, .int (zI v5)), (0, .ref y), (1, .ref a), (2, .int (zI x)), (3, .int (zI w)), (4, .ref f)]) hx hb dX9_merge_290 hl (k := 0) rfl (zI_add _ _) (by decide) rfl (fun ls hl => ?_)
                                refine lv_goto (tgt := 229) hx hb dX9_merge_293 (by decide) ?_
                                exact ih3 (v7 + 1) g239 _ _ (by omega) (by omega) hqp240 hmt241 hP hD hS ls (lv_sub hl [0, 1, 2, 3, 4, 5, 6, 7] rfl)
              · refine lv_goto (tgt := 296) hx hb dX9_merge_158 (by decide) ?_
                refine lv_iinc (v := zI (v5 + 1)) (lv' := [(5, .int (zI (v5 + 1))), (6, .int (zI (20 * v5))), (0, .ref y), (1, .ref a), (2, .int (zI x)), (3, .int (zI w)), (4, .ref f)]) hx hb dX9_merge_296 hl (k := 1) rfl (zI_add _ _) (by decide) rfl (fun ls hl => ?_)
                refine lv_goto (tgt := 132) hx hb dX9_merge_299 (by decide) ?_
                exact ih2 (v5 + 1) gq1 _ _ (by omega) (by omega) hqp1 hmt1 hP hD hS ls (lv_sub hl [0, 2, 3, 4, 5, 6] rfl)
      · refine lv_aload hx hb dX9_merge_48 (lv_at hl 5 rfl) ?_
        refine lv_bipush (v := zI 20) hx hb dX9_merge_50 (by decide) ?_
        refine lv_iload_n hx hb dX9_merge_52 rfl (lv_at hl 3 rfl) ?_
        refine r_imul (v := zI (20 * x)) F dX9_merge_53 (zI_mul _ _) ?_
        refine lv_bipush (v := zI 17) hx hb dX9_merge_54 (by decide) ?_
        refine r_iadd (v := zI ((20 * x) + 17)) F dX9_merge_56 (zI_add _ _) ?_
        refine lv_bipush (v := zI 9) hx hb dX9_merge_57 (by decide) ?_
        refine lv_aload_n hx hb dX9_merge_59 rfl (lv_at hl 2 rfl) ?_
        refine lv_bipush (v := zI 20) hx hb dX9_merge_60 (by decide) ?_
        refine lv_iload_n hx hb dX9_merge_62 rfl (lv_at hl 3 rfl) ?_
        refine r_imul (v := zI (20 * x)) F dX9_merge_63 (zI_mul _ _) ?_
        refine lv_bipush (v := zI 17) hx hb dX9_merge_64 (by decide) ?_
        refine r_iadd (v := zI ((20 * x) + 17)) F dX9_merge_66 (zI_add _ _) ?_
        refine rz_iald F hK hP 1 0 rfl rfl (by omega) (by omega) dX9_merge_67 ?_
        have hpl242 : 0 ≤ (g_p (((20 * x) + 17)).toNat) ∧ (g_p (((20 * x) + 17)).toNat) ≤ 9 := ProgR.at hp.1 (e := ((20 * x) + 17)) x 17 (by omega) (by omega) (by decide) rfl
        refine lv_aload_n hx hb dX9_merge_68 rfl (lv_at hl 2 rfl) ?_
        refine lv_bipush (v := zI 20) hx hb dX9_merge_69 (by decide) ?_
        refine lv_iload_n hx hb dX9_merge_71 rfl (lv_at hl 4 rfl) ?_
        refine r_imul (v := zI (20 * w)) F dX9_merge_72 (zI_mul _ _) ?_
        refine lv_bipush (v := zI 17) hx hb dX9_merge_73 (by decide) ?_
        refine r_iadd (v := zI ((20 * w) + 17)) F dX9_merge_75 (zI_add _ _) ?_
        refine rz_iald F hK hP 1 0 rfl rfl (by omega) (by omega) dX9_merge_76 ?_
        have hpl243 : 0 ≤ (g_p (((20 * w) + 17)).toNat) ∧ (g_p (((20 * w) + 17)).toNat) ≤ 9 := ProgR.at hp.1 (e := ((20 * w) + 17)) w 17 (by omega) (by omega) (by decide) rfl
        refine r_iadd (v := zI ((g_p (((20 * x) + 17)).toNat) + (g_p (((20 * w) + 17)).toNat))) F dX9_merge_77 (zI_add _ _) ?_
        refine r_callSi (As := [.int (zI 9), .int (zI ((g_p (((20 * x) + 17)).toNat) + (g_p (((20 * w) + 17)).toNat)))]) (rest := [.int (zI ((20 * x) + 17)), .ref f]) (wr := [(y, .inr (9, [.int (zI (i 0)), .ref (q 0), .int (zI (i 1)), .int (zI (i 2)), .int (zI (i 3)), .int (zI (i 4)), .int (zI (i 5)), .int (zI (i 6)), .int (zI (i 7)), .int (zI (i 8)), .int (zI (i 9)), .int (zI (i 10)), .ref (q 1), .int (zI (i 11)), .int (zI (i 12)), .ref (q 2), .ref (q 3), .ref (q 4), .ref (q 5), .ref (q 6), .ref (q 7), .ref (q 8), .ref (q 9), .ref (q 10), .ref (q 11), .ref (q 12), .ref (q 13), .ref (q 14), .ref (q 15), .ref (q 16), .int (zI (i 13)), .int (zI (i 14)), .int (zI (i 15)), .int (zI (i 16)), .int (zI (i 17)), .int (zI (i 18)), .ref (q 17), .ref (q 18), .ref (q 19), .ref (q 20)])), (a, .inl (cI, 200, .inl (fun k => zI (g_p k)))), (f, .inl (cI, 200, .inl (fun k => zI (gz9 k))))]) F hK hP hD hS hA hO hE (c_X9_less hO 9 ((g_p (((20 * x) + 17)).toNat) + (g_p (((20 * w) + 17)).toNat)) (by omega) (by omega)) k_1456 ks_X9_less 2 rfl (by decide +kernel) ⟨Nat.le_of_ble_eq_true rfl, Nat.le_of_ble_eq_true rfl⟩ [] [0, 1, 2] rfl rfl (by decide) (by decide) (by decide) hl.1 rfl (Nat.le_of_ble_eq_true rfl) dX9_merge_78 ⟨Nat.le_of_ble_eq_true rfl, Nat.le_of_ble_eq_true rfl⟩ (w1 := fun u244 => [(y, .inr (9, [.int (zI (i 0)), .ref (q 0), .int (zI (i 1)), .int (zI (i 2)), .int (zI (i 3)), .int (zI (i 4)), .int (zI (i 5)), .int (zI (i 6)), .int (zI (i 7)), .int (zI (i 8)), .int (zI (i 9)), .int (zI (i 10)), .ref (q 1), .int (zI (i 11)), .int (zI (i 12)), .ref (q 2), .ref (q 3), .ref (q 4), .ref (q 5), .ref (q 6), .ref (q 7), .ref (q 8), .ref (q 9), .ref (q 10), .ref (q 11), .ref (q 12), .ref (q 13), .ref (q 14), .ref (q 15), .ref (q 16), .int (zI (i 13)), .int (zI (i 14)), .int (zI (i 15)), .int (zI (i 16)), .int (zI (i 17)), .int (zI (i 18)), .ref (q 17), .ref (q 18), .ref (q 19), .ref (q 20)])), (a, .inl (cI, 200, .inl (fun k => zI (g_p k)))), (f, .inl (cI, 200, .inl (fun k => zI (gz9 k))))]) (fun _ => rfl) (fun r245 u244 H locs hp246 hP hD hS => ?_)
        obtain ⟨z247, rfl, h_z247⟩ := hp246
        refine rz_iastG F hK hP hD hS 2 0 rfl rfl (by omega) (by omega) dX9_merge_81 (w1 := fun g248 => [(y, .inr (9, [.int (zI (i 0)), .ref (q 0), .int (zI (i 1)), .int (zI (i 2)), .int (zI (i 3)), .int (zI (i 4)), .int (zI (i 5)), .int (zI (i 6)), .int (zI (i 7)), .int (zI (i 8)), .int (zI (i 9)), .int (zI (i 10)), .ref (q 1), .int (zI (i 11)), .int (zI (i 12)), .ref (q 2), .ref (q 3), .ref (q 4), .ref (q 5), .ref (q 6), .ref (q 7), .ref (q 8), .ref (q 9), .ref (q 10), .ref (q 11), .ref (q 12), .ref (q 13), .ref (q 14), .ref (q 15), .ref (q 16), .int (zI (i 13)), .int (zI (i 14)), .int (zI (i 15)), .int (zI (i 16)), .int (zI (i 17)), .int (zI (i 18)), .ref (q 17), .ref (q 18), .ref (q 19), .ref (q 20)])), (a, .inl (cI, 200, .inl (fun k => zI (g_p k)))), (f, .inl (cI, 200, .inl (fun k => zI (g248 k))))]) (fun _ => rfl) (fun g248 e_g248 H locs hP hD hS => ?_)
        have hqp249 : ProgOk g248 := ⟨hqp0.1.set (m := 9) e_g248 17 (by omega) rfl (by omega), hqp0.2.set e_g248 (by omega)⟩
        have hmt250 := hmt0.keep e_g248 (by omega)
        refine lv_aload_n hx hb dX9_merge_82 rfl (lv_at hl 2 rfl) ?_
        refine lv_bipush (v := zI 20) hx hb dX9_merge_83 (by decide) ?_
        refine lv_iload_n hx hb dX9_merge_85 rfl (lv_at hl 3 rfl) ?_
        refine r_imul (v := zI (20 * x)) F dX9_merge_86 (zI_mul _ _) ?_
        refine lv_bipush (v := zI 14) hx hb dX9_merge_87 (by decide) ?_
        refine r_iadd (v := zI ((20 * x) + 14)) F dX9_merge_89 (zI_add _ _) ?_
        refine rz_iald F hK hP 1 0 rfl rfl (by omega) (by omega) dX9_merge_90 ?_
        refine rz_top (fun z251 h_z251 => ?_)
        refine lv_iconst (v := zI 2) hx hb dX9_merge_91 rfl ?_
        refine rz_icmp_ne (tgt := 129) F (by omega) (by omega) dX9_merge_92 (by decide) (fun h92_251 => ?_) (fun h92_251 => ?_)
        · refine lv_iconst (v := zI 0) hx hb dX9_merge_129 rfl ?_
          refine lv_istore (lv' := [(5, .int (zI 0)), (0, .ref y), (1, .ref a), (2, .int (zI x)), (3, .int (zI w)), (4, .ref f)]) hx hb dX9_merge_130 hl (by decide) rfl (fun ls hl => ?_)
          refine W.widen (k := 0) (n := 0) (Nat.le_of_ble_eq_true rfl) (Nat.le_of_ble_eq_true rfl) ?_
          refine (?_ : ∀ (n9_2 : Nat) (v5 : Int) (gq1 : Nat → Int) (H : Heap) (locs : List Loc), (0 ≤ v5 ∧ v5 ≤ 10) → (10 - v5 : Int).toNat < n9_2 → (ProgOk gq1) → (MT g_p gq1 w) → va_P G vwCl [(y, .inr (9, [.int (zI (i 0)), .ref (q 0), .int (zI (i 1)), .int (zI (i 2)), .int (zI (i 3)), .int (zI (i 4)), .int (zI (i 5)), .int (zI (i 6)), .int (zI (i 7)), .int (zI (i 8)), .int (zI (i 9)), .int (zI (i 10)), .ref (q 1), .int (zI (i 11)), .int (zI (i 12)), .ref (q 2), .ref (q 3), .ref (q 4), .ref (q 5), .ref (q 6), .ref (q 7), .ref (q 8), .ref (q 9), .ref (q 10), .ref (q 11), .ref (q 12), .ref (q 13), .ref (q 14), .ref (q 15), .ref (q 16), .int (zI (i 13)), .int (zI (i 14)), .int (zI (i 15)), .int (zI (i 16)), .int (zI (i 17)), .int (zI (i 18)), .ref (q 17), .ref (q 18), .ref (q 19), .ref (q 20)])), (a, .inl (cI, 200, .inl (fun k => zI (g_p k)))), (f, .inl (cI, 200, .inl (fun k => zI (gq1 k))))] H → va_D A [(y, .inr (9, [.int (zI (i 0)), .ref (q 0), .int (zI (i 1)), .int (zI (i 2)), .int (zI (i 3)), .int (zI (i 4)), .int (zI (i 5)), .int (zI (i 6)), .int (zI (i 7)), .int (zI (i 8)), .int (zI (i 9)), .int (zI (i 10)), .ref (q 1), .int (zI (i 11)), .int (zI (i 12)), .ref (q 2), .ref (q 3), .ref (q 4), .ref (q 5), .ref (q 6), .ref (q 7), .ref (q 8), .ref (q 9), .ref (q 10), .ref (q 11), .ref (q 12), .ref (q 13), .ref (q 14), .ref (q 15), .ref (q 16), .int (zI (i 13)), .int (zI (i 14)), .int (zI (i 15)), .int (zI (i 16)), .int (zI (i 17)), .int (zI (i 18)), .ref (q 17), .ref (q 18), .ref (q 19), .ref (q 20)])), (a, .inl (cI, 200, .inl (fun k => zI (g_p k)))), (f, .inl (cI, 200, .inl (fun k => zI (gq1 k))))] → va_S A s.heap H locs → ∀ ls : Array Slot, lv_has ls 8 [(5, .int (zI v5)), (0, .ref y), (1, .ref a), (2, .int (zI x)), (3, .int (zI w)), (4, .ref f)] → W p l e rm_X9_merge s m ([.ref y, .ref a, .int (zI x), .int (zI w), .ref f] : List Value).toArray below meth c H locs 0 0 Q (F0 m 132 ls [])) ((10 - 0 : Int).toNat + 1) 0 g248 _ _ (by omega) (by omega) hqp249 hmt250 hP hD hS ls hl
          clear hP hD hS hl ls
          intro n9_2
          induction n9_2 with
          | zero =>
            intro v5 gq1 H locs hI hM
            exact absurd hM (by omega)
          | succ n9_2 ih2 =>
            intro v5 gq1 H locs hI2 hM2 hqp1 hmt1 hP hD hS ls hl
            refine lv_iload hx hb dX9_merge_132 (lv_at hl 0 rfl) ?_
            refine lv_aload_n hx hb dX9_merge_134 rfl (lv_at hl 1 rfl) ?_
            refine r_get F hK hP 0 30 rfl rfl in_X9 (by decide) k_1193 rfl dX9_merge_135 ?_
            refine rz_icmp_ge (tgt := 302) F (by omega) (by omega) dX9_merge_138 (by decide) (fun h138_252 => ?_) (fun h138_252 => ?_)
            · exact ret (fun k => [((fun _ => 0), fun _ _ => 0), (fun _ => 0, fun _ => gq1)].getD k (fun _ => 0, fun _ _ => 0)) _ _ _ _ _ _ ⟨hqp1, hmt1⟩ (bw_subP (isC := [0, 1, 2]) hP rfl) (hD.sub [0, 1, 2] (by decide) rfl) hS (Nat.le_of_ble_eq_true rfl) (Nat.le_of_ble_eq_true rfl) dX9_merge_302
            · refine lv_bipush (v := zI 20) hx hb dX9_merge_141 (by decide) ?_
              refine lv_iload hx hb dX9_merge_143 (lv_at hl 0 rfl) ?_
              refine r_imul (v := zI (20 * v5)) F dX9_merge_145 (zI_mul _ _) ?_
              refine lv_istore (lv' := [(6, .int (zI (20 * v5))), (5, .int (zI v5)), (0, .ref y), (1, .ref a), (2, .int (zI x)), (3, .int (zI w)), (4, .ref f)]) hx hb dX9_merge_146 hl (by decide) rfl (fun ls hl => ?_)
              refine lv_aload hx hb dX9_merge_148 (lv_at hl 6 rfl) ?_
              refine lv_iload hx hb dX9_merge_150 (lv_at hl 0 rfl) ?_
              refine lv_iconst (v := zI 0) hx hb dX9_merge_152 rfl ?_
              refine r_iadd (v := zI ((20 * v5) + 0)) F dX9_merge_153 (zI_add _ _) ?_
              refine rz_iald F hK hP 2 0 rfl rfl (by omega) (by omega) dX9_merge_154 ?_
              refine rz_top (fun z254 h_z254 => ?_)
              refine rz_if_ne (tgt := 161) F (by omega) dX9_merge_155 (by decide) (fun h155_254 => ?_) (fun h155_254 => ?_)
              · refine lv_aload hx hb dX9_merge_161 (lv_at hl 6 rfl) ?_
                refine lv_iload hx hb dX9_merge_163 (lv_at hl 0 rfl) ?_
                refine lv_bipush (v := zI 14) hx hb dX9_merge_165 (by decide) ?_
                refine r_iadd (v := zI ((20 * v5) + 14)) F dX9_merge_167 (zI_add _ _) ?_
                refine rz_iald F hK hP 2 0 rfl rfl (by omega) (by omega) dX9_merge_168 ?_
                refine rz_top (fun z256 h_z256 => ?_)
                refine rz_if_le (tgt := 193) F (by omega) dX9_merge_169 (by decide) (fun h169_256 => ?_) (fun h169_256 => ?_)
                · refine lv_aload hx hb dX9_merge_193 (lv_at hl 6 rfl) ?_
                  refine lv_iload hx hb dX9_merge_195 (lv_at hl 0 rfl) ?_
                  refine lv_bipush (v := zI 14) hx hb dX9_merge_197 (by decide) ?_
                  refine r_iadd (v := zI ((20 * v5) + 14)) F dX9_merge_199 (zI_add _ _) ?_
                  refine rz_iald F hK hP 2 0 rfl rfl (by omega) (by omega) dX9_merge_200 ?_
                  refine rz_top (fun z258 h_z258 => ?_)
                  refine lv_iconst (v := zI 2) hx hb dX9_merge_201 rfl ?_
                  refine rz_icmp_ne (tgt := 226) F (by omega) (by omega) dX9_merge_202 (by decide) (fun h202_258 => ?_) (fun h202_258 => ?_)
                  · refine lv_iconst (v := zI 0) hx hb dX9_merge_226 rfl ?_
                    refine lv_istore (lv' := [(7, .int (zI 0)), (6, .int (zI (20 * v5))), (5, .int (zI v5)), (0, .ref y), (1, .ref a), (2, .int (zI x)), (3, .int (zI w)), (4, .ref f)]) hx hb dX9_merge_227 hl (by decide) rfl (fun ls hl => ?_)
                    refine W.widen (k := 0) (n := 0) (Nat.le_of_ble_eq_true rfl) (Nat.le_of_ble_eq_true rfl) ?_
                    refine (?_ : ∀ (n9_3 : Nat) (v7 : Int) (gq2 : Nat → Int) (H : Heap) (locs : List Loc), (0 ≤ v7 ∧ v7 ≤ 4) → (4 - v7 : Int).toNat < n9_3 → (ProgOk gq2) → (MT g_p gq2 w) → va_P G vwCl [(y, .inr (9, [.int (zI (i 0)), .ref (q 0), .int (zI (i 1)), .int (zI (i 2)), .int (zI (i 3)), .int (zI (i 4)), .int (zI (i 5)), .int (zI (i 6)), .int (zI (i 7)), .int (zI (i 8)), .int (zI (i 9)), .int (zI (i 10)), .ref (q 1), .int (zI (i 11)), .int (zI (i 12)), .ref (q 2), .ref (q 3), .ref (q 4), .ref (q 5), .ref (q 6), .ref (q 7), .ref (q 8), .ref (q 9), .ref (q 10), .ref (q 11), .ref (q 12), .ref (q 13), .ref (q 14), .ref (q 15), .ref (q 16), .int (zI (i 13)), .int (zI (i 14)), .int (zI (i 15)), .int (zI (i 16)), .int (zI (i 17)), .int (zI (i 18)), .ref (q 17), .ref (q 18), .ref (q 19), .ref (q 20)])), (a, .inl (cI, 200, .inl (fun k => zI (g_p k)))), (f, .inl (cI, 200, .inl (fun k => zI (gq2 k))))] H → va_D A [(y, .inr (9, [.int (zI (i 0)), .ref (q 0), .int (zI (i 1)), .int (zI (i 2)), .int (zI (i 3)), .int (zI (i 4)), .int (zI (i 5)), .int (zI (i 6)), .int (zI (i 7)), .int (zI (i 8)), .int (zI (i 9)), .int (zI (i 10)), .ref (q 1), .int (zI (i 11)), .int (zI (i 12)), .ref (q 2), .ref (q 3), .ref (q 4), .ref (q 5), .ref (q 6), .ref (q 7), .ref (q 8), .ref (q 9), .ref (q 10), .ref (q 11), .ref (q 12), .ref (q 13), .ref (q 14), .ref (q 15), .ref (q 16), .int (zI (i 13)), .int (zI (i 14)), .int (zI (i 15)), .int (zI (i 16)), .int (zI (i 17)), .int (zI (i 18)), .ref (q 17), .ref (q 18), .ref (q 19), .ref (q 20)])), (a, .inl (cI, 200, .inl (fun k => zI (g_p k)))), (f, .inl (cI, 200, .inl (fun k => zI (gq2 k))))] → va_S A s.heap H locs → ∀ ls : Array Slot, lv_has ls 8 [(7, .int (zI v7)), (6, .int (zI (20 * v5))), (5, .int (zI v5)), (0, .ref y), (1, .ref a), (2, .int (zI x)), (3, .int (zI w)), (4, .ref f)] → W p l e rm_X9_merge s m ([.ref y, .ref a, .int (zI x), .int (zI w), .ref f] : List Value).toArray below meth c H locs 0 0 Q (F0 m 229 ls [])) ((4 - 0 : Int).toNat + 1) 0 gq1 _ _ (by omega) (by omega) hqp1 hmt1 hP hD hS ls hl
                    clear hP hD hS hl ls
                    intro n9_3
                    induction n9_3 with
                    | zero =>
                      intro v7 gq2 H locs hI hM
                      exact absurd hM (by omega)
                    | succ n9_3 ih3 =>
                      intro v7 gq2 H locs hI3 hM3 hqp2 hmt2 hP hD hS ls hl
                      refine lv_iload hx hb dX9_merge_229 (lv_at hl 0 rfl) ?_
                      refine lv_aload hx hb dX9_merge_231 (lv_at hl 7 rfl) ?_
                      refine lv_iload hx hb dX9_merge_233 (lv_at hl 1 rfl) ?_
                      refine lv_iconst (v := zI 1) hx hb dX9_merge_235 rfl ?_
                      refine r_iadd (v := zI ((20 * v5) + 1)) F dX9_merge_236 (zI_add _ _) ?_
                      refine rz_iald F hK hP 2 0 rfl rfl (by omega) (by omega) dX9_merge_237 ?_
                      have hpl260 : 0 ≤ (gq2 (((20 * v5) + 1)).toNat) ∧ (gq2 (((20 * v5) + 1)).toNat) ≤ 4 := ProgR.at hqp2.1 (e := ((20 * v5) + 1)) v5 1 (by omega) (by omega) (by decide) rfl
                      refine rz_icmp_ge (tgt := 296) F (by omega) (by omega) dX9_merge_238 (by decide) (fun h238_260 => ?_) (fun h238_260 => ?_)
                      · refine lv_iinc (v := zI (v5 + 1)) (lv' := [(5, .int (zI (v5 + 1))), (7, .int (zI v7)), (6, .int (zI (20 * v5))), (0, .ref y), (1, .ref a), (2, .int (zI x)), (3, .int (zI w)), (4, .ref f)]) hx hb dX9_merge_296 hl (k := 2) rfl (zI_add _ _) (by decide) rfl (fun ls hl => ?_)
                        refine lv_goto (tgt := 132) hx hb dX9_merge_299 (by decide) ?_
                        exact ih2 (v5 + 1) gq2 _ _ (by omega) (by omega) hqp2 hmt2 hP hD hS ls (lv_sub hl [0, 3, 4, 5, 6, 7] rfl)
                      · refine lv_aload hx hb dX9_merge_241 (lv_at hl 7 rfl) ?_
                        refine lv_iload hx hb dX9_merge_243 (lv_at hl 1 rfl) ?_
                        refine lv_iconst (v := zI 2) hx hb dX9_merge_245 rfl ?_
                        refine r_iadd (v := zI ((20 * v5) + 2)) F dX9_merge_246 (zI_add _ _) ?_
                        refine lv_iconst (v := zI 3) hx hb dX9_merge_247 rfl ?_
                        refine lv_iload hx hb dX9_merge_248 (lv_at hl 0 rfl) ?_
                        refine r_imul (v := zI (3 * v7)) F dX9_merge_250 (zI_mul _ _) ?_
                        refine r_iadd (v := zI (((20 * v5) + 2) + (3 * v7))) F dX9_merge_251 (zI_add _ _) ?_
                        refine rz_iald F hK hP 2 0 rfl rfl (by omega) (by omega) dX9_merge_252 ?_
                        have hc262 := ProgOk.act hqp2 (i := v5) (n := v7) (k := (((20 * v5) + 2) + (3 * v7))) (by omega) (by omega) (by omega)
                        refine lv_iconst (v := zI 3) hx hb dX9_merge_253 rfl ?_
                        refine rz_icmp_ne (tgt := 290) F (by omega) (by omega) dX9_merge_254 (by decide) (fun h254_262 => ?_) (fun h254_262 => ?_)
                        · refine lv_iinc (v := zI (v7 + 1)) (lv' := [(7, .int (zI (v7 + 1))), (6, .int (zI (20 * v5))), (5, .int (zI v5)), (0, .ref y), (1, .ref a), (2, .int (zI x)), (3, .int (zI w)), (4, .ref f)]) hx hb dX9_merge_290 hl (k := 0) rfl (zI_add _ _) (by decide) rfl (fun ls hl => ?_)
                          refine lv_goto (tgt := 229) hx hb dX9_merge_293 (by decide) ?_
                          exact ih3 (v7 + 1) gq2 _ _ (by omega) (by omega) hqp2 hmt2 hP hD hS ls (lv_sub hl [0, 1, 2, 3, 4, 5, 6, 7] rfl)
                        · refine lv_aload hx hb dX9_merge_257 (lv_at hl 7 rfl) ?_
                          refine lv_iload hx hb dX9_merge_259 (lv_at hl 1 rfl) ?_
                          refine lv_iconst (v := zI 2) hx hb dX9_merge_261 rfl ?_
                          refine r_iadd (v := zI ((20 * v5) + 2)) F dX9_merge_262 (zI_add _ _) ?_
                          refine lv_iconst (v := zI 3) hx hb dX9_merge_263 rfl ?_
                          refine lv_iload hx hb dX9_merge_264 (lv_at hl 0 rfl) ?_
                          refine r_imul (v := zI (3 * v7)) F dX9_merge_266 (zI_mul _ _) ?_
                          refine r_iadd (v := zI (((20 * v5) + 2) + (3 * v7))) F dX9_merge_267 (zI_add _ _) ?_
                          refine lv_iconst (v := zI 1) hx hb dX9_merge_268 rfl ?_
                          refine r_iadd (v := zI ((((20 * v5) + 2) + (3 * v7)) + 1)) F dX9_merge_269 (zI_add _ _) ?_
                          refine rz_iald F hK hP 2 0 rfl rfl (by omega) (by omega) dX9_merge_270 ?_
                          refine rz_top (fun z264 h_z264 => ?_)
                          refine lv_iload_n hx hb dX9_merge_271 rfl (lv_at hl 6 rfl) ?_
                          refine rz_icmp_ne (tgt := 290) F (by omega) (by omega) dX9_merge_272 (by decide) (fun h272_264 => ?_) (fun h272_264 => ?_)
                          · refine lv_iinc (v := zI (v7 + 1)) (lv' := [(7, .int (zI (v7 + 1))), (6, .int (zI (20 * v5))), (5, .int (zI v5)), (0, .ref y), (1, .ref a), (2, .int (zI x)), (3, .int (zI w)), (4, .ref f)]) hx hb dX9_merge_290 hl (k := 0) rfl (zI_add _ _) (by decide) rfl (fun ls hl => ?_)
                            refine lv_goto (tgt := 229) hx hb dX9_merge_293 (by decide) ?_
                            exact ih3 (v7 + 1) gq2 _ _ (by omega) (by omega) hqp2 hmt2 hP hD hS ls (lv_sub hl [0, 1, 2, 3, 4, 5, 6, 7] rfl)
                          · refine lv_aload hx hb dX9_merge_275 (lv_at hl 7 rfl) ?_
                            refine lv_iload hx hb dX9_merge_277 (lv_at hl 1 rfl) ?_
                            refine lv_iconst (v := zI 2) hx hb dX9_merge_279 rfl ?_
                            refine r_iadd (v := zI ((20 * v5) + 2)) F dX9_merge_280 (zI_add _ _) ?_
                            refine lv_iconst (v := zI 3) hx hb dX9_merge_281 rfl ?_
                            refine lv_iload hx hb dX9_merge_282 (lv_at hl 0 rfl) ?_
                            refine r_imul (v := zI (3 * v7)) F dX9_merge_284 (zI_mul _ _) ?_
                            refine r_iadd (v := zI (((20 * v5) + 2) + (3 * v7))) F dX9_merge_285 (zI_add _ _) ?_
                            refine lv_iconst (v := zI 1) hx hb dX9_merge_286 rfl ?_
                            refine r_iadd (v := zI ((((20 * v5) + 2) + (3 * v7)) + 1)) F dX9_merge_287 (zI_add _ _) ?_
                            refine lv_iload_n hx hb dX9_merge_288 rfl (lv_at hl 5 rfl) ?_
                            refine rz_iastG F hK hP hD hS 2 0 rfl rfl (by omega) (by omega) dX9_merge_289 (w1 := fun g266 => [(y, .inr (9, [.int (zI (i 0)), .ref (q 0), .int (zI (i 1)), .int (zI (i 2)), .int (zI (i 3)), .int (zI (i 4)), .int (zI (i 5)), .int (zI (i 6)), .int (zI (i 7)), .int (zI (i 8)), .int (zI (i 9)), .int (zI (i 10)), .ref (q 1), .int (zI (i 11)), .int (zI (i 12)), .ref (q 2), .ref (q 3), .ref (q 4), .ref (q 5), .ref (q 6), .ref (q 7), .ref (q 8), .ref (q 9), .ref (q 10), .ref (q 11), .ref (q 12), .ref (q 13), .ref (q 14), .ref (q 15), .ref (q 16), .int (zI (i 13)), .int (zI (i 14)), .int (zI (i 15)), .int (zI (i 16)), .int (zI (i 17)), .int (zI (i 18)), .ref (q 17), .ref (q 18), .ref (q 19), .ref (q 20)])), (a, .inl (cI, 200, .inl (fun k => zI (g_p k)))), (f, .inl (cI, 200, .inl (fun k => zI (g266 k))))]) (fun _ => rfl) (fun g266 e_g266 H locs hP hD hS => ?_)
                            have hqp267 : ProgOk g266 := ProgOk.tgt3 hqp2 e_g266 (i := v5) (n := v7) (by omega) (by omega) (by omega) (by omega) (j := (((20 * v5) + 2) + (3 * v7)).toNat) (by omega) (by omega)
                            have hmt268 := MT.keepA hmt2 e_g266 (i := v5) (n := v7) (by omega) (by omega) (by omega)
                            refine lv_iinc (v := zI (v7 + 1)) (lv' := [(7, .int (zI (v7 + 1))), (6, .int (zI (20 * v5))), (5, .int (zI v5)), (0, .ref y), (1, .ref a), (2, .int (zI x)), (3, .int (zI w)), (4, .ref f)]) hx hb dX9_merge_290 hl (k := 0) rfl (zI_add _ _) (by decide) rfl (fun ls hl => ?_)
                            refine lv_goto (tgt := 229) hx hb dX9_merge_293 (by decide) ?_
                            exact ih3 (v7 + 1) g266 _ _ (by omega) (by omega) hqp267 hmt268 hP hD hS ls (lv_sub hl [0, 1, 2, 3, 4, 5, 6, 7] rfl)
                  · refine lv_aload hx hb dX9_merge_205 (lv_at hl 6 rfl) ?_
                    refine lv_iload hx hb dX9_merge_207 (lv_at hl 0 rfl) ?_
                    refine lv_bipush (v := zI 18) hx hb dX9_merge_209 (by decide) ?_
                    refine r_iadd (v := zI ((20 * v5) + 18)) F dX9_merge_211 (zI_add _ _) ?_
                    refine rz_iald F hK hP 2 0 rfl rfl (by omega) (by omega) dX9_merge_212 ?_
                    refine rz_top (fun z269 h_z269 => ?_)
                    refine lv_iload_n hx hb dX9_merge_213 rfl (lv_at hl 5 rfl) ?_
                    refine rz_icmp_ne (tgt := 226) F (by omega) (by omega) dX9_merge_214 (by decide) (fun h214_269 => ?_) (fun h214_269 => ?_)
                    · refine lv_iconst (v := zI 0) hx hb dX9_merge_226 rfl ?_
                      refine lv_istore (lv' := [(7, .int (zI 0)), (6, .int (zI (20 * v5))), (5, .int (zI v5)), (0, .ref y), (1, .ref a), (2, .int (zI x)), (3, .int (zI w)), (4, .ref f)]) hx hb dX9_merge_227 hl (by decide) rfl (fun ls hl => ?_)
                      refine W.widen (k := 0) (n := 0) (Nat.le_of_ble_eq_true rfl) (Nat.le_of_ble_eq_true rfl) ?_
                      refine (?_ : ∀ (n9_3 : Nat) (v7 : Int) (gq2 : Nat → Int) (H : Heap) (locs : List Loc), (0 ≤ v7 ∧ v7 ≤ 4) → (4 - v7 : Int).toNat < n9_3 → (ProgOk gq2) → (MT g_p gq2 w) → va_P G vwCl [(y, .inr (9, [.int (zI (i 0)), .ref (q 0), .int (zI (i 1)), .int (zI (i 2)), .int (zI (i 3)), .int (zI (i 4)), .int (zI (i 5)), .int (zI (i 6)), .int (zI (i 7)), .int (zI (i 8)), .int (zI (i 9)), .int (zI (i 10)), .ref (q 1), .int (zI (i 11)), .int (zI (i 12)), .ref (q 2), .ref (q 3), .ref (q 4), .ref (q 5), .ref (q 6), .ref (q 7), .ref (q 8), .ref (q 9), .ref (q 10), .ref (q 11), .ref (q 12), .ref (q 13), .ref (q 14), .ref (q 15), .ref (q 16), .int (zI (i 13)), .int (zI (i 14)), .int (zI (i 15)), .int (zI (i 16)), .int (zI (i 17)), .int (zI (i 18)), .ref (q 17), .ref (q 18), .ref (q 19), .ref (q 20)])), (a, .inl (cI, 200, .inl (fun k => zI (g_p k)))), (f, .inl (cI, 200, .inl (fun k => zI (gq2 k))))] H → va_D A [(y, .inr (9, [.int (zI (i 0)), .ref (q 0), .int (zI (i 1)), .int (zI (i 2)), .int (zI (i 3)), .int (zI (i 4)), .int (zI (i 5)), .int (zI (i 6)), .int (zI (i 7)), .int (zI (i 8)), .int (zI (i 9)), .int (zI (i 10)), .ref (q 1), .int (zI (i 11)), .int (zI (i 12)), .ref (q 2), .ref (q 3), .ref (q 4), .ref (q 5), .ref (q 6), .ref (q 7), .ref (q 8), .ref (q 9), .ref (q 10), .ref (q 11), .ref (q 12), .ref (q 13), .ref (q 14), .ref (q 15), .ref (q 16), .int (zI (i 13)), .int (zI (i 14)), .int (zI (i 15)), .int (zI (i 16)), .int (zI (i 17)), .int (zI (i 18)), .ref (q 17), .ref (q 18), .ref (q 19), .ref (q 20)])), (a, .inl (cI, 200, .inl (fun k => zI (g_p k)))), (f, .inl (cI, 200, .inl (fun k => zI (gq2 k))))] → va_S A s.heap H locs → ∀ ls : Array Slot, lv_has ls 8 [(7, .int (zI v7)), (6, .int (zI (20 * v5))), (5, .int (zI v5)), (0, .ref y), (1, .ref a), (2, .int (zI x)), (3, .int (zI w)), (4, .ref f)] → W p l e rm_X9_merge s m ([.ref y, .ref a, .int (zI x), .int (zI w), .ref f] : List Value).toArray below meth c H locs 0 0 Q (F0 m 229 ls [])) ((4 - 0 : Int).toNat + 1) 0 gq1 _ _ (by omega) (by omega) hqp1 hmt1 hP hD hS ls hl
                      clear hP hD hS hl ls
                      intro n9_3
                      induction n9_3 with
                      | zero =>
                        intro v7 gq2 H locs hI hM
                        exact absurd hM (by omega)
                      | succ n9_3 ih3 =>
                        intro v7 gq2 H locs hI3 hM3 hqp2 hmt2 hP hD hS ls hl
                        refine lv_iload hx hb dX9_merge_229 (lv_at hl 0 rfl) ?_
                        refine lv_aload hx hb dX9_merge_231 (lv_at hl 7 rfl) ?_
                        refine lv_iload hx hb dX9_merge_233 (lv_at hl 1 rfl) ?_
                        refine lv_iconst (v := zI 1) hx hb dX9_merge_235 rfl ?_
                        refine r_iadd (v := zI ((20 * v5) + 1)) F dX9_merge_236 (zI_add _ _) ?_
                        refine rz_iald F hK hP 2 0 rfl rfl (by omega) (by omega) dX9_merge_237 ?_
                        have hpl271 : 0 ≤ (gq2 (((20 * v5) + 1)).toNat) ∧ (gq2 (((20 * v5) + 1)).toNat) ≤ 4 := ProgR.at hqp2.1 (e := ((20 * v5) + 1)) v5 1 (by omega) (by omega) (by decide) rfl
                        refine rz_icmp_ge (tgt := 296) F (by omega) (by omega) dX9_merge_238 (by decide) (fun h238_271 => ?_) (fun h238_271 => ?_)
                        · refine lv_iinc (v := zI (v5 + 1)) (lv' := [(5, .int (zI (v5 + 1))), (7, .int (zI v7)), (6, .int (zI (20 * v5))), (0, .ref y), (1, .ref a), (2, .int (zI x)), (3, .int (zI w)), (4, .ref f)]) hx hb dX9_merge_296 hl (k := 2) rfl (zI_add _ _) (by decide) rfl (fun ls hl => ?_)
                          refine lv_goto (tgt := 132) hx hb dX9_merge_299 (by decide) ?_
                          exact ih2 (v5 + 1) gq2 _ _ (by omega) (by omega) hqp2 hmt2 hP hD hS ls (lv_sub hl [0, 3, 4, 5, 6, 7] rfl)
                        · refine lv_aload hx hb dX9_merge_241 (lv_at hl 7 rfl) ?_
                          refine lv_iload hx hb dX9_merge_243 (lv_at hl 1 rfl) ?_
                          refine lv_iconst (v := zI 2) hx hb dX9_merge_245 rfl ?_
                          refine r_iadd (v := zI ((20 * v5) + 2)) F dX9_merge_246 (zI_add _ _) ?_
                          refine lv_iconst (v := zI 3) hx hb dX9_merge_247 rfl ?_
                          refine lv_iload hx hb dX9_merge_248 (lv_at hl 0 rfl) ?_
                          refine r_imul (v := zI (3 * v7)) F dX9_merge_250 (zI_mul _ _) ?_
                          refine r_iadd (v := zI (((20 * v5) + 2) + (3 * v7))) F dX9_merge_251 (zI_add _ _) ?_
                          refine rz_iald F hK hP 2 0 rfl rfl (by omega) (by omega) dX9_merge_252 ?_
                          have hc273 := ProgOk.act hqp2 (i := v5) (n := v7) (k := (((20 * v5) + 2) + (3 * v7))) (by omega) (by omega) (by omega)
                          refine lv_iconst (v := zI 3) hx hb dX9_merge_253 rfl ?_
                          refine rz_icmp_ne (tgt := 290) F (by omega) (by omega) dX9_merge_254 (by decide) (fun h254_273 => ?_) (fun h254_273 => ?_)
                          · refine lv_iinc (v := zI (v7 + 1)) (lv' := [(7, .int (zI (v7 + 1))), (6, .int (zI (20 * v5))), (5, .int (zI v5)), (0, .ref y), (1, .ref a), (2, .int (zI x)), (3, .int (zI w)), (4, .ref f)]) hx hb dX9_merge_290 hl (k := 0) rfl (zI_add _ _) (by decide) rfl (fun ls hl => ?_)
                            refine lv_goto (tgt := 229) hx hb dX9_merge_293 (by decide) ?_
                            exact ih3 (v7 + 1) gq2 _ _ (by omega) (by omega) hqp2 hmt2 hP hD hS ls (lv_sub hl [0, 1, 2, 3, 4, 5, 6, 7] rfl)
                          · refine lv_aload hx hb dX9_merge_257 (lv_at hl 7 rfl) ?_
                            refine lv_iload hx hb dX9_merge_259 (lv_at hl 1 rfl) ?_
                            refine lv_iconst (v := zI 2) hx hb dX9_merge_261 rfl ?_
                            refine r_iadd (v := zI ((20 * v5) + 2)) F dX9_merge_262 (zI_add _ _) ?_
                            refine lv_iconst (v := zI 3) hx hb dX9_merge_263 rfl ?_
                            refine lv_iload hx hb dX9_merge_264 (lv_at hl 0 rfl) ?_
                            refine r_imul (v := zI (3 * v7)) F dX9_merge_266 (zI_mul _ _) ?_
                            refine r_iadd (v := zI (((20 * v5) + 2) + (3 * v7))) F dX9_merge_267 (zI_add _ _) ?_
                            refine lv_iconst (v := zI 1) hx hb dX9_merge_268 rfl ?_
                            refine r_iadd (v := zI ((((20 * v5) + 2) + (3 * v7)) + 1)) F dX9_merge_269 (zI_add _ _) ?_
                            refine rz_iald F hK hP 2 0 rfl rfl (by omega) (by omega) dX9_merge_270 ?_
                            refine rz_top (fun z275 h_z275 => ?_)
                            refine lv_iload_n hx hb dX9_merge_271 rfl (lv_at hl 6 rfl) ?_
                            refine rz_icmp_ne (tgt := 290) F (by omega) (by omega) dX9_merge_272 (by decide) (fun h272_275 => ?_) (fun h272_275 => ?_)
                            · refine lv_iinc (v := zI (v7 + 1)) (lv' := [(7, .int (zI (v7 + 1))), (6, .int (zI (20 * v5))), (5, .int (zI v5)), (0, .ref y), (1, .ref a), (2, .int (zI x)), (3, .int (zI w)), (4, .ref f)]) hx hb dX9_merge_290 hl (k := 0) rfl (zI_add _ _) (by decide) rfl (fun ls hl => ?_)
                              refine lv_goto (tgt := 229) hx hb dX9_merge_293 (by decide) ?_
                              exact ih3 (v7 + 1) gq2 _ _ (by omega) (by omega) hqp2 hmt2 hP hD hS ls (lv_sub hl [0, 1, 2, 3, 4, 5, 6, 7] rfl)
                            · refine lv_aload hx hb dX9_merge_275 (lv_at hl 7 rfl) ?_
                              refine lv_iload hx hb dX9_merge_277 (lv_at hl 1 rfl) ?_
                              refine lv_iconst (v := zI 2) hx hb dX9_merge_279 rfl ?_
                              refine r_iadd (v := zI ((20 * v5) + 2)) F dX9_merge_280 (zI_add _ _) ?_
                              refine lv_iconst (v := zI 3) hx hb dX9_merge_281 rfl ?_
                              refine lv_iload hx hb dX9_merge_282 (lv_at hl 0 rfl) ?_
                              refine r_imul (v := zI (3 * v7)) F dX9_merge_284 (zI_mul _ _) ?_
                              refine r_iadd (v := zI (((20 * v5) + 2) + (3 * v7))) F dX9_merge_285 (zI_add _ _) ?_
                              refine lv_iconst (v := zI 1) hx hb dX9_merge_286 rfl ?_
                              refine r_iadd (v := zI ((((20 * v5) + 2) + (3 * v7)) + 1)) F dX9_merge_287 (zI_add _ _) ?_
                              refine lv_iload_n hx hb dX9_merge_288 rfl (lv_at hl 5 rfl) ?_
                              refine rz_iastG F hK hP hD hS 2 0 rfl rfl (by omega) (by omega) dX9_merge_289 (w1 := fun g277 => [(y, .inr (9, [.int (zI (i 0)), .ref (q 0), .int (zI (i 1)), .int (zI (i 2)), .int (zI (i 3)), .int (zI (i 4)), .int (zI (i 5)), .int (zI (i 6)), .int (zI (i 7)), .int (zI (i 8)), .int (zI (i 9)), .int (zI (i 10)), .ref (q 1), .int (zI (i 11)), .int (zI (i 12)), .ref (q 2), .ref (q 3), .ref (q 4), .ref (q 5), .ref (q 6), .ref (q 7), .ref (q 8), .ref (q 9), .ref (q 10), .ref (q 11), .ref (q 12), .ref (q 13), .ref (q 14), .ref (q 15), .ref (q 16), .int (zI (i 13)), .int (zI (i 14)), .int (zI (i 15)), .int (zI (i 16)), .int (zI (i 17)), .int (zI (i 18)), .ref (q 17), .ref (q 18), .ref (q 19), .ref (q 20)])), (a, .inl (cI, 200, .inl (fun k => zI (g_p k)))), (f, .inl (cI, 200, .inl (fun k => zI (g277 k))))]) (fun _ => rfl) (fun g277 e_g277 H locs hP hD hS => ?_)
                              have hqp278 : ProgOk g277 := ProgOk.tgt3 hqp2 e_g277 (i := v5) (n := v7) (by omega) (by omega) (by omega) (by omega) (j := (((20 * v5) + 2) + (3 * v7)).toNat) (by omega) (by omega)
                              have hmt279 := MT.keepA hmt2 e_g277 (i := v5) (n := v7) (by omega) (by omega) (by omega)
                              refine lv_iinc (v := zI (v7 + 1)) (lv' := [(7, .int (zI (v7 + 1))), (6, .int (zI (20 * v5))), (5, .int (zI v5)), (0, .ref y), (1, .ref a), (2, .int (zI x)), (3, .int (zI w)), (4, .ref f)]) hx hb dX9_merge_290 hl (k := 0) rfl (zI_add _ _) (by decide) rfl (fun ls hl => ?_)
                              refine lv_goto (tgt := 229) hx hb dX9_merge_293 (by decide) ?_
                              exact ih3 (v7 + 1) g277 _ _ (by omega) (by omega) hqp278 hmt279 hP hD hS ls (lv_sub hl [0, 1, 2, 3, 4, 5, 6, 7] rfl)
                    · refine lv_aload hx hb dX9_merge_217 (lv_at hl 6 rfl) ?_
                      refine lv_iload hx hb dX9_merge_219 (lv_at hl 0 rfl) ?_
                      refine lv_bipush (v := zI 18) hx hb dX9_merge_221 (by decide) ?_
                      refine r_iadd (v := zI ((20 * v5) + 18)) F dX9_merge_223 (zI_add _ _) ?_
                      refine lv_iload_n hx hb dX9_merge_224 rfl (lv_at hl 4 rfl) ?_
                      refine rz_iastG F hK hP hD hS 2 0 rfl rfl (by omega) (by omega) dX9_merge_225 (w1 := fun g280 => [(y, .inr (9, [.int (zI (i 0)), .ref (q 0), .int (zI (i 1)), .int (zI (i 2)), .int (zI (i 3)), .int (zI (i 4)), .int (zI (i 5)), .int (zI (i 6)), .int (zI (i 7)), .int (zI (i 8)), .int (zI (i 9)), .int (zI (i 10)), .ref (q 1), .int (zI (i 11)), .int (zI (i 12)), .ref (q 2), .ref (q 3), .ref (q 4), .ref (q 5), .ref (q 6), .ref (q 7), .ref (q 8), .ref (q 9), .ref (q 10), .ref (q 11), .ref (q 12), .ref (q 13), .ref (q 14), .ref (q 15), .ref (q 16), .int (zI (i 13)), .int (zI (i 14)), .int (zI (i 15)), .int (zI (i 16)), .int (zI (i 17)), .int (zI (i 18)), .ref (q 17), .ref (q 18), .ref (q 19), .ref (q 20)])), (a, .inl (cI, 200, .inl (fun k => zI (g_p k)))), (f, .inl (cI, 200, .inl (fun k => zI (g280 k))))]) (fun _ => rfl) (fun g280 e_g280 H locs hP hD hS => ?_)
                      have hqp281 : ProgOk g280 := ⟨hqp1.1.set (m := 9) e_g280 18 (by omega) rfl (by omega), hqp1.2.set e_g280 (by omega)⟩
                      have hmt282 := hmt1.keep e_g280 (by omega)
                      refine lv_iconst (v := zI 0) hx hb dX9_merge_226 rfl ?_
                      refine lv_istore (lv' := [(7, .int (zI 0)), (6, .int (zI (20 * v5))), (5, .int (zI v5)), (0, .ref y), (1, .ref a), (2, .int (zI x)), (3, .int (zI w)), (4, .ref f)]) hx hb dX9_merge_227 hl (by decide) rfl (fun ls hl => ?_)
                      refine W.widen (k := 0) (n := 0) (Nat.le_of_ble_eq_true rfl) (Nat.le_of_ble_eq_true rfl) ?_
                      refine (?_ : ∀ (n9_3 : Nat) (v7 : Int) (gq2 : Nat → Int) (H : Heap) (locs : List Loc), (0 ≤ v7 ∧ v7 ≤ 4) → (4 - v7 : Int).toNat < n9_3 → (ProgOk gq2) → (MT g_p gq2 w) → va_P G vwCl [(y, .inr (9, [.int (zI (i 0)), .ref (q 0), .int (zI (i 1)), .int (zI (i 2)), .int (zI (i 3)), .int (zI (i 4)), .int (zI (i 5)), .int (zI (i 6)), .int (zI (i 7)), .int (zI (i 8)), .int (zI (i 9)), .int (zI (i 10)), .ref (q 1), .int (zI (i 11)), .int (zI (i 12)), .ref (q 2), .ref (q 3), .ref (q 4), .ref (q 5), .ref (q 6), .ref (q 7), .ref (q 8), .ref (q 9), .ref (q 10), .ref (q 11), .ref (q 12), .ref (q 13), .ref (q 14), .ref (q 15), .ref (q 16), .int (zI (i 13)), .int (zI (i 14)), .int (zI (i 15)), .int (zI (i 16)), .int (zI (i 17)), .int (zI (i 18)), .ref (q 17), .ref (q 18), .ref (q 19), .ref (q 20)])), (a, .inl (cI, 200, .inl (fun k => zI (g_p k)))), (f, .inl (cI, 200, .inl (fun k => zI (gq2 k))))] H → va_D A [(y, .inr (9, [.int (zI (i 0)), .ref (q 0), .int (zI (i 1)), .int (zI (i 2)), .int (zI (i 3)), .int (zI (i 4)), .int (zI (i 5)), .int (zI (i 6)), .int (zI (i 7)), .int (zI (i 8)), .int (zI (i 9)), .int (zI (i 10)), .ref (q 1), .int (zI (i 11)), .int (zI (i 12)), .ref (q 2), .ref (q 3), .ref (q 4), .ref (q 5), .ref (q 6), .ref (q 7), .ref (q 8), .ref (q 9), .ref (q 10), .ref (q 11), .ref (q 12), .ref (q 13), .ref (q 14), .ref (q 15), .ref (q 16), .int (zI (i 13)), .int (zI (i 14)), .int (zI (i 15)), .int (zI (i 16)), .int (zI (i 17)), .int (zI (i 18)), .ref (q 17), .ref (q 18), .ref (q 19), .ref (q 20)])), (a, .inl (cI, 200, .inl (fun k => zI (g_p k)))), (f, .inl (cI, 200, .inl (fun k => zI (gq2 k))))] → va_S A s.heap H locs → ∀ ls : Array Slot, lv_has ls 8 [(7, .int (zI v7)), (6, .int (zI (20 * v5))), (5, .int (zI v5)), (0, .ref y), (1, .ref a), (2, .int (zI x)), (3, .int (zI w)), (4, .ref f)] → W p l e rm_X9_merge s m ([.ref y, .ref a, .int (zI x), .int (zI w), .ref f] : List Value).toArray below meth c H locs 0 0 Q (F0 m 229 ls [])) ((4 - 0 : Int).toNat + 1) 0 g280 _ _ (by omega) (by omega) hqp281 hmt282 hP hD hS ls hl
                      clear hP hD hS hl ls
                      intro n9_3
                      induction n9_3 with
                      | zero =>
                        intro v7 gq2 H locs hI hM
                        exact absurd hM (by omega)
                      | succ n9_3 ih3 =>
                        intro v7 gq2 H locs hI3 hM3 hqp2 hmt2 hP hD hS ls hl
                        refine lv_iload hx hb dX9_merge_229 (lv_at hl 0 rfl) ?_
                        refine lv_aload hx hb dX9_merge_231 (lv_at hl 7 rfl) ?_
                        refine lv_iload hx hb dX9_merge_233 (lv_at hl 1 rfl) ?_
                        refine lv_iconst (v := zI 1) hx hb dX9_merge_235 rfl ?_
                        refine r_iadd (v := zI ((20 * v5) + 1)) F dX9_merge_236 (zI_add _ _) ?_
                        refine rz_iald F hK hP 2 0 rfl rfl (by omega) (by omega) dX9_merge_237 ?_
                        have hpl283 : 0 ≤ (gq2 (((20 * v5) + 1)).toNat) ∧ (gq2 (((20 * v5) + 1)).toNat) ≤ 4 := ProgR.at hqp2.1 (e := ((20 * v5) + 1)) v5 1 (by omega) (by omega) (by decide) rfl
                        refine rz_icmp_ge (tgt := 296) F (by omega) (by omega) dX9_merge_238 (by decide) (fun h238_283 => ?_) (fun h238_283 => ?_)
                        · refine lv_iinc (v := zI (v5 + 1)) (lv' := [(5, .int (zI (v5 + 1))), (7, .int (zI v7)), (6, .int (zI (20 * v5))), (0, .ref y), (1, .ref a), (2, .int (zI x)), (3, .int (zI w)), (4, .ref f)]) hx hb dX9_merge_296 hl (k := 2) rfl (zI_add _ _) (by decide) rfl (fun ls hl => ?_)
                          refine lv_goto (tgt := 132) hx hb dX9_merge_299 (by decide) ?_
                          exact ih2 (v5 + 1) gq2 _ _ (by omega) (by omega) hqp2 hmt2 hP hD hS ls (lv_sub hl [0, 3, 4, 5, 6, 7] rfl)
                        · refine lv_aload hx hb dX9_merge_241 (lv_at hl 7 rfl) ?_
                          refine lv_iload hx hb dX9_merge_243 (lv_at hl 1 rfl) ?_
                          refine lv_iconst (v := zI 2) hx hb dX9_merge_245 rfl ?_
                          refine r_iadd (v := zI ((20 * v5) + 2)) F dX9_merge_246 (zI_add _ _) ?_
                          refine lv_iconst (v := zI 3) hx hb dX9_merge_247 rfl ?_
                          refine lv_iload hx hb dX9_merge_248 (lv_at hl 0 rfl) ?_
                          refine r_imul (v := zI (3 * v7)) F dX9_merge_250 (zI_mul _ _) ?_
                          refine r_iadd (v := zI (((20 * v5) + 2) + (3 * v7))) F dX9_merge_251 (zI_add _ _) ?_
                          refine rz_iald F hK hP 2 0 rfl rfl (by omega) (by omega) dX9_merge_252 ?_
                          have hc285 := ProgOk.act hqp2 (i := v5) (n := v7) (k := (((20 * v5) + 2) + (3 * v7))) (by omega) (by omega) (by omega)
                          refine lv_iconst (v := zI 3) hx hb dX9_merge_253 rfl ?_
                          refine rz_icmp_ne (tgt := 290) F (by omega) (by omega) dX9_merge_254 (by decide) (fun h254_285 => ?_) (fun h254_285 => ?_)
                          · refine lv_iinc (v := zI (v7 + 1)) (lv' := [(7, .int (zI (v7 + 1))), (6, .int (zI (20 * v5))), (5, .int (zI v5)), (0, .ref y), (1, .ref a), (2, .int (zI x)), (3, .int (zI w)), (4, .ref f)]) hx hb dX9_merge_290 hl (k := 0) rfl (zI_add _ _) (by decide) rfl (fun ls hl => ?_)
                            refine lv_goto (tgt := 229) hx hb dX9_merge_293 (by decide) ?_
                            exact ih3 (v7 + 1) gq2 _ _ (by omega) (by omega) hqp2 hmt2 hP hD hS ls (lv_sub hl [0, 1, 2, 3, 4, 5, 6, 7] rfl)
                          · refine lv_aload hx hb dX9_merge_257 (lv_at hl 7 rfl) ?_
                            refine lv_iload hx hb dX9_merge_259 (lv_at hl 1 rfl) ?_
                            refine lv_iconst (v := zI 2) hx hb dX9_merge_261 rfl ?_
                            refine r_iadd (v := zI ((20 * v5) + 2)) F dX9_merge_262 (zI_add _ _) ?_
                            refine lv_iconst (v := zI 3) hx hb dX9_merge_263 rfl ?_
                            refine lv_iload hx hb dX9_merge_264 (lv_at hl 0 rfl) ?_
                            refine r_imul (v := zI (3 * v7)) F dX9_merge_266 (zI_mul _ _) ?_
                            refine r_iadd (v := zI (((20 * v5) + 2) + (3 * v7))) F dX9_merge_267 (zI_add _ _) ?_
                            refine lv_iconst (v := zI 1) hx hb dX9_merge_268 rfl ?_
                            refine r_iadd (v := zI ((((20 * v5) + 2) + (3 * v7)) + 1)) F dX9_merge_269 (zI_add _ _) ?_
                            refine rz_iald F hK hP 2 0 rfl rfl (by omega) (by omega) dX9_merge_270 ?_
                            refine rz_top (fun z287 h_z287 => ?_)
                            refine lv_iload_n hx hb dX9_merge_271 rfl (lv_at hl 6 rfl) ?_
                            refine rz_icmp_ne (tgt := 290) F (by omega) (by omega) dX9_merge_272 (by decide) (fun h272_287 => ?_) (fun h272_287 => ?_)
                            · refine lv_iinc (v := zI (v7 + 1)) (lv' := [(7, .int (zI (v7 + 1))), (6, .int (zI (20 * v5))), (5, .int (zI v5)), (0, .ref y), (1, .ref a), (2, .int (zI x)), (3, .int (zI w)), (4, .ref f)]) hx hb dX9_merge_290 hl (k := 0) rfl (zI_add _ _) (by decide) rfl (fun ls hl => ?_)
                              refine lv_goto (tgt := 229) hx hb dX9_merge_293 (by decide) ?_
                              exact ih3 (v7 + 1) gq2 _ _ (by omega) (by omega) hqp2 hmt2 hP hD hS ls (lv_sub hl [0, 1, 2, 3, 4, 5, 6, 7] rfl)
                            · refine lv_aload hx hb dX9_merge_275 (lv_at hl 7 rfl) ?_
                              refine lv_iload hx hb dX9_merge_277 (lv_at hl 1 rfl) ?_
                              refine lv_iconst (v := zI 2) hx hb dX9_merge_279 rfl ?_
                              refine r_iadd (v := zI ((20 * v5) + 2)) F dX9_merge_280 (zI_add _ _) ?_
                              refine lv_iconst (v := zI 3) hx hb dX9_merge_281 rfl ?_
                              refine lv_iload hx hb dX9_merge_282 (lv_at hl 0 rfl) ?_
                              refine r_imul (v := zI (3 * v7)) F dX9_merge_284 (zI_mul _ _) ?_
                              refine r_iadd (v := zI (((20 * v5) + 2) + (3 * v7))) F dX9_merge_285 (zI_add _ _) ?_
                              refine lv_iconst (v := zI 1) hx hb dX9_merge_286 rfl ?_
                              refine r_iadd (v := zI ((((20 * v5) + 2) + (3 * v7)) + 1)) F dX9_merge_287 (zI_add _ _) ?_
                              refine lv_iload_n hx hb dX9_merge_288 rfl (lv_at hl 5 rfl) ?_
                              refine rz_iastG F hK hP hD hS 2 0 rfl rfl (by omega) (by omega) dX9_merge_289 (w1 := fun g289 => [(y, .inr (9, [.int (zI (i 0)), .ref (q 0), .int (zI (i 1)), .int (zI (i 2)), .int (zI (i 3)), .int (zI (i 4)), .int (zI (i 5)), .int (zI (i 6)), .int (zI (i 7)), .int (zI (i 8)), .int (zI (i 9)), .int (zI (i 10)), .ref (q 1), .int (zI (i 11)), .int (zI (i 12)), .ref (q 2), .ref (q 3), .ref (q 4), .ref (q 5), .ref (q 6), .ref (q 7), .ref (q 8), .ref (q 9), .ref (q 10), .ref (q 11), .ref (q 12), .ref (q 13), .ref (q 14), .ref (q 15), .ref (q 16), .int (zI (i 13)), .int (zI (i 14)), .int (zI (i 15)), .int (zI (i 16)), .int (zI (i 17)), .int (zI (i 18)), .ref (q 17), .ref (q 18), .ref (q 19), .ref (q 20)])), (a, .inl (cI, 200, .inl (fun k => zI (g_p k)))), (f, .inl (cI, 200, .inl (fun k => zI (g289 k))))]) (fun _ => rfl) (fun g289 e_g289 H locs hP hD hS => ?_)
                              have hqp290 : ProgOk g289 := ProgOk.tgt3 hqp2 e_g289 (i := v5) (n := v7) (by omega) (by omega) (by omega) (by omega) (j := (((20 * v5) + 2) + (3 * v7)).toNat) (by omega) (by omega)
                              have hmt291 := MT.keepA hmt2 e_g289 (i := v5) (n := v7) (by omega) (by omega) (by omega)
                              refine lv_iinc (v := zI (v7 + 1)) (lv' := [(7, .int (zI (v7 + 1))), (6, .int (zI (20 * v5))), (5, .int (zI v5)), (0, .ref y), (1, .ref a), (2, .int (zI x)), (3, .int (zI w)), (4, .ref f)]) hx hb dX9_merge_290 hl (k := 0) rfl (zI_add _ _) (by decide) rfl (fun ls hl => ?_)
                              refine lv_goto (tgt := 229) hx hb dX9_merge_293 (by decide) ?_
                              exact ih3 (v7 + 1) g289 _ _ (by omega) (by omega) hqp290 hmt291 hP hD hS ls (lv_sub hl [0, 1, 2, 3, 4, 5, 6, 7] rfl)
                · refine lv_aload hx hb dX9_merge_172 (lv_at hl 6 rfl) ?_
                  refine lv_iload hx hb dX9_merge_174 (lv_at hl 0 rfl) ?_
                  refine lv_bipush (v := zI 16) hx hb dX9_merge_176 (by decide) ?_
                  refine r_iadd (v := zI ((20 * v5) + 16)) F dX9_merge_178 (zI_add _ _) ?_
                  refine rz_iald F hK hP 2 0 rfl rfl (by omega) (by omega) dX9_merge_179 ?_
                  refine rz_top (fun z292 h_z292 => ?_)
                  refine lv_iload_n hx hb dX9_merge_180 rfl (lv_at hl 5 rfl) ?_
                  refine rz_icmp_ne (tgt := 193) F (by omega) (by omega) dX9_merge_181 (by decide) (fun h181_292 => ?_) (fun h181_292 => ?_)
                  · refine lv_aload hx hb dX9_merge_193 (lv_at hl 6 rfl) ?_
                    refine lv_iload hx hb dX9_merge_195 (lv_at hl 0 rfl) ?_
                    refine lv_bipush (v := zI 14) hx hb dX9_merge_197 (by decide) ?_
                    refine r_iadd (v := zI ((20 * v5) + 14)) F dX9_merge_199 (zI_add _ _) ?_
                    refine rz_iald F hK hP 2 0 rfl rfl (by omega) (by omega) dX9_merge_200 ?_
                    refine rz_top (fun z294 h_z294 => ?_)
                    refine lv_iconst (v := zI 2) hx hb dX9_merge_201 rfl ?_
                    refine rz_icmp_ne (tgt := 226) F (by omega) (by omega) dX9_merge_202 (by decide) (fun h202_294 => ?_) (fun h202_294 => ?_)
                    · refine lv_iconst (v := zI 0) hx hb dX9_merge_226 rfl ?_
                      refine lv_istore (lv' := [(7, .int (zI 0)), (6, .int (zI (20 * v5))), (5, .int (zI v5)), (0, .ref y), (1, .ref a), (2, .int (zI x)), (3, .int (zI w)), (4, .ref f)]) hx hb dX9_merge_227 hl (by decide) rfl (fun ls hl => ?_)
                      refine W.widen (k := 0) (n := 0) (Nat.le_of_ble_eq_true rfl) (Nat.le_of_ble_eq_true rfl) ?_
                      refine (?_ : ∀ (n9_3 : Nat) (v7 : Int) (gq2 : Nat → Int) (H : Heap) (locs : List Loc), (0 ≤ v7 ∧ v7 ≤ 4) → (4 - v7 : Int).toNat < n9_3 → (ProgOk gq2) → (MT g_p gq2 w) → va_P G vwCl [(y, .inr (9, [.int (zI (i 0)), .ref (q 0), .int (zI (i 1)), .int (zI (i 2)), .int (zI (i 3)), .int (zI (i 4)), .int (zI (i 5)), .int (zI (i 6)), .int (zI (i 7)), .int (zI (i 8)), .int (zI (i 9)), .int (zI (i 10)), .ref (q 1), .int (zI (i 11)), .int (zI (i 12)), .ref (q 2), .ref (q 3), .ref (q 4), .ref (q 5), .ref (q 6), .ref (q 7), .ref (q 8), .ref (q 9), .ref (q 10), .ref (q 11), .ref (q 12), .ref (q 13), .ref (q 14), .ref (q 15), .ref (q 16), .int (zI (i 13)), .int (zI (i 14)), .int (zI (i 15)), .int (zI (i 16)), .int (zI (i 17)), .int (zI (i 18)), .ref (q 17), .ref (q 18), .ref (q 19), .ref (q 20)])), (a, .inl (cI, 200, .inl (fun k => zI (g_p k)))), (f, .inl (cI, 200, .inl (fun k => zI (gq2 k))))] H → va_D A [(y, .inr (9, [.int (zI (i 0)), .ref (q 0), .int (zI (i 1)), .int (zI (i 2)), .int (zI (i 3)), .int (zI (i 4)), .int (zI (i 5)), .int (zI (i 6)), .int (zI (i 7)), .int (zI (i 8)), .int (zI (i 9)), .int (zI (i 10)), .ref (q 1), .int (zI (i 11)), .int (zI (i 12)), .ref (q 2), .ref (q 3), .ref (q 4), .ref (q 5), .ref (q 6), .ref (q 7), .ref (q 8), .ref (q 9), .ref (q 10), .ref (q 11), .ref (q 12), .ref (q 13), .ref (q 14), .ref (q 15), .ref (q 16), .int (zI (i 13)), .int (zI (i 14)), .int (zI (i 15)), .int (zI (i 16)), .int (zI (i 17)), .int (zI (i 18)), .ref (q 17), .ref (q 18), .ref (q 19), .ref (q 20)])), (a, .inl (cI, 200, .inl (fun k => zI (g_p k)))), (f, .inl (cI, 200, .inl (fun k => zI (gq2 k))))] → va_S A s.heap H locs → ∀ ls : Array Slot, lv_has ls 8 [(7, .int (zI v7)), (6, .int (zI (20 * v5))), (5, .int (zI v5)), (0, .ref y), (1, .ref a), (2, .int (zI x)), (3, .int (zI w)), (4, .ref f)] → W p l e rm_X9_merge s m ([.ref y, .ref a, .int (zI x), .int (zI w), .ref f] : List Value).toArray below meth c H locs 0 0 Q (F0 m 229 ls [])) ((4 - 0 : Int).toNat + 1) 0 gq1 _ _ (by omega) (by omega) hqp1 hmt1 hP hD hS ls hl
                      clear hP hD hS hl ls
                      intro n9_3
                      induction n9_3 with
                      | zero =>
                        intro v7 gq2 H locs hI hM
                        exact absurd hM (by omega)
                      | succ n9_3 ih3 =>
                        intro v7 gq2 H locs hI3 hM3 hqp2 hmt2 hP hD hS ls hl
                        refine lv_iload hx hb dX9_merge_229 (lv_at hl 0 rfl) ?_
                        refine lv_aload hx hb dX9_merge_231 (lv_at hl 7 rfl) ?_
                        refine lv_iload hx hb dX9_merge_233 (lv_at hl 1 rfl) ?_
                        refine lv_iconst (v := zI 1) hx hb dX9_merge_235 rfl ?_
                        refine r_iadd (v := zI ((20 * v5) + 1)) F dX9_merge_236 (zI_add _ _) ?_
                        refine rz_iald F hK hP 2 0 rfl rfl (by omega) (by omega) dX9_merge_237 ?_
                        have hpl296 : 0 ≤ (gq2 (((20 * v5) + 1)).toNat) ∧ (gq2 (((20 * v5) + 1)).toNat) ≤ 4 := ProgR.at hqp2.1 (e := ((20 * v5) + 1)) v5 1 (by omega) (by omega) (by decide) rfl
                        refine rz_icmp_ge (tgt := 296) F (by omega) (by omega) dX9_merge_238 (by decide) (fun h238_296 => ?_) (fun h238_296 => ?_)
                        · refine lv_iinc (v := zI (v5 + 1)) (lv' := [(5, .int (zI (v5 + 1))), (7, .int (zI v7)), (6, .int (zI (20 * v5))), (0, .ref y), (1, .ref a), (2, .int (zI x)), (3, .int (zI w)), (4, .ref f)]) hx hb dX9_merge_296 hl (k := 2) rfl (zI_add _ _) (by decide) rfl (fun ls hl => ?_)
                          refine lv_goto (tgt := 132) hx hb dX9_merge_299 (by decide) ?_
                          exact ih2 (v5 + 1) gq2 _ _ (by omega) (by omega) hqp2 hmt2 hP hD hS ls (lv_sub hl [0, 3, 4, 5, 6, 7] rfl)
                        · refine lv_aload hx hb dX9_merge_241 (lv_at hl 7 rfl) ?_
                          refine lv_iload hx hb dX9_merge_243 (lv_at hl 1 rfl) ?_
                          refine lv_iconst (v := zI 2) hx hb dX9_merge_245 rfl ?_
                          refine r_iadd (v := zI ((20 * v5) + 2)) F dX9_merge_246 (zI_add _ _) ?_
                          refine lv_iconst (v := zI 3) hx hb dX9_merge_247 rfl ?_
                          refine lv_iload hx hb dX9_merge_248 (lv_at hl 0 rfl) ?_
                          refine r_imul (v := zI (3 * v7)) F dX9_merge_250 (zI_mul _ _) ?_
                          refine r_iadd (v := zI (((20 * v5) + 2) + (3 * v7))) F dX9_merge_251 (zI_add _ _) ?_
                          refine rz_iald F hK hP 2 0 rfl rfl (by omega) (by omega) dX9_merge_252 ?_
                          have hc298 := ProgOk.act hqp2 (i := v5) (n := v7) (k := (((20 * v5) + 2) + (3 * v7))) (by omega) (by omega) (by omega)
                          refine lv_iconst (v := zI 3) hx hb dX9_merge_253 rfl ?_
                          refine rz_icmp_ne (tgt := 290) F (by omega) (by omega) dX9_merge_254 (by decide) (fun h254_298 => ?_) (fun h254_298 => ?_)
                          · refine lv_iinc (v := zI (v7 + 1)) (lv' := [(7, .int (zI (v7 + 1))), (6, .int (zI (20 * v5))), (5, .int (zI v5)), (0, .ref y), (1, .ref a), (2, .int (zI x)), (3, .int (zI w)), (4, .ref f)]) hx hb dX9_merge_290 hl (k := 0) rfl (zI_add _ _) (by decide) rfl (fun ls hl => ?_)
                            refine lv_goto (tgt := 229) hx hb dX9_merge_293 (by decide) ?_
                            exact ih3 (v7 + 1) gq2 _ _ (by omega) (by omega) hqp2 hmt2 hP hD hS ls (lv_sub hl [0, 1, 2, 3, 4, 5, 6, 7] rfl)
                          · refine lv_aload hx hb dX9_merge_257 (lv_at hl 7 rfl) ?_
                            refine lv_iload hx hb dX9_merge_259 (lv_at hl 1 rfl) ?_
                            refine lv_iconst (v := zI 2) hx hb dX9_merge_261 rfl ?_
                            refine r_iadd (v := zI ((20 * v5) + 2)) F dX9_merge_262 (zI_add _ _) ?_
                            refine lv_iconst (v := zI 3) hx hb dX9_merge_263 rfl ?_
                            refine lv_iload hx hb dX9_merge_264 (lv_at hl 0 rfl) ?_
                            refine r_imul (v := zI (3 * v7)) F dX9_merge_266 (zI_mul _ _) ?_
                            refine r_iadd (v := zI (((20 * v5) + 2) + (3 * v7))) F dX9_merge_267 (zI_add _ _) ?_
                            refine lv_iconst (v := zI 1) hx hb dX9_merge_268 rfl ?_
                            refine r_iadd (v := zI ((((20 * v5) + 2) + (3 * v7)) + 1)) F dX9_merge_269 (zI_add _ _) ?_
                            refine rz_iald F hK hP 2 0 rfl rfl (by omega) (by omega) dX9_merge_270 ?_
                            refine rz_top (fun z300 h_z300 => ?_)
                            refine lv_iload_n hx hb dX9_merge_271 rfl (lv_at hl 6 rfl) ?_
                            refine rz_icmp_ne (tgt := 290) F (by omega) (by omega) dX9_merge_272 (by decide) (fun h272_300 => ?_) (fun h272_300 => ?_)
                            · refine lv_iinc (v := zI (v7 + 1)) (lv' := [(7, .int (zI (v7 + 1))), (6, .int (zI (20 * v5))), (5, .int (zI v5)), (0, .ref y), (1, .ref a), (2, .int (zI x)), (3, .int (zI w)), (4, .ref f)]) hx hb dX9_merge_290 hl (k := 0) rfl (zI_add _ _) (by decide) rfl (fun ls hl => ?_)
                              refine lv_goto (tgt := 229) hx hb dX9_merge_293 (by decide) ?_
                              exact ih3 (v7 + 1) gq2 _ _ (by omega) (by omega) hqp2 hmt2 hP hD hS ls (lv_sub hl [0, 1, 2, 3, 4, 5, 6, 7] rfl)
                            · refine lv_aload hx hb dX9_merge_275 (lv_at hl 7 rfl) ?_
                              refine lv_iload hx hb dX9_merge_277 (lv_at hl 1 rfl) ?_
                              refine lv_iconst (v := zI 2) hx hb dX9_merge_279 rfl ?_
                              refine r_iadd (v := zI ((20 * v5) + 2)) F dX9_merge_280 (zI_add _ _) ?_
                              refine lv_iconst (v := zI 3) hx hb dX9_merge_281 rfl ?_
                              refine lv_iload hx hb dX9_merge_282 (lv_at hl 0 rfl) ?_
                              refine r_imul (v := zI (3 * v7)) F dX9_merge_284 (zI_mul _ _) ?_
                              refine r_iadd (v := zI (((20 * v5) + 2) + (3 * v7))) F dX9_merge_285 (zI_add _ _) ?_
                              refine lv_iconst (v := zI 1) hx hb dX9_merge_286 rfl ?_
                              refine r_iadd (v := zI ((((20 * v5) + 2) + (3 * v7)) + 1)) F dX9_merge_287 (zI_add _ _) ?_
                              refine lv_iload_n hx hb dX9_merge_288 rfl (lv_at hl 5 rfl) ?_
                              refine rz_iastG F hK hP hD hS 2 0 rfl rfl (by omega) (by omega) dX9_merge_289 (w1 := fun g302 => [(y, .inr (9, [.int (zI (i 0)), .ref (q 0), .int (zI (i 1)), .int (zI (i 2)), .int (zI (i 3)), .int (zI (i 4)), .int (zI (i 5)), .int (zI (i 6)), .int (zI (i 7)), .int (zI (i 8)), .int (zI (i 9)), .int (zI (i 10)), .ref (q 1), .int (zI (i 11)), .int (zI (i 12)), .ref (q 2), .ref (q 3), .ref (q 4), .ref (q 5), .ref (q 6), .ref (q 7), .ref (q 8), .ref (q 9), .ref (q 10), .ref (q 11), .ref (q 12), .ref (q 13), .ref (q 14), .ref (q 15), .ref (q 16), .int (zI (i 13)), .int (zI (i 14)), .int (zI (i 15)), .int (zI (i 16)), .int (zI (i 17)), .int (zI (i 18)), .ref (q 17), .ref (q 18), .ref (q 19), .ref (q 20)])), (a, .inl (cI, 200, .inl (fun k => zI (g_p k)))), (f, .inl (cI, 200, .inl (fun k => zI (g302 k))))]) (fun _ => rfl) (fun g302 e_g302 H locs hP hD hS => ?_)
                              have hqp303 : ProgOk g302 := ProgOk.tgt3 hqp2 e_g302 (i := v5) (n := v7) (by omega) (by omega) (by omega) (by omega) (j := (((20 * v5) + 2) + (3 * v7)).toNat) (by omega) (by omega)
                              have hmt304 := MT.keepA hmt2 e_g302 (i := v5) (n := v7) (by omega) (by omega) (by omega)
                              refine lv_iinc (v := zI (v7 + 1)) (lv' := [(7, .int (zI (v7 + 1))), (6, .int (zI (20 * v5))), (5, .int (zI v5)), (0, .ref y), (1, .ref a), (2, .int (zI x)), (3, .int (zI w)), (4, .ref f)]) hx hb dX9_merge_290 hl (k := 0) rfl (zI_add _ _) (by decide) rfl (fun ls hl => ?_)
                              refine lv_goto (tgt := 229) hx hb dX9_merge_293 (by decide) ?_
                              exact ih3 (v7 + 1) g302 _ _ (by omega) (by omega) hqp303 hmt304 hP hD hS ls (lv_sub hl [0, 1, 2, 3, 4, 5, 6, 7] rfl)
                    · refine lv_aload hx hb dX9_merge_205 (lv_at hl 6 rfl) ?_
                      refine lv_iload hx hb dX9_merge_207 (lv_at hl 0 rfl) ?_
                      refine lv_bipush (v := zI 18) hx hb dX9_merge_209 (by decide) ?_
                      refine r_iadd (v := zI ((20 * v5) + 18)) F dX9_merge_211 (zI_add _ _) ?_
                      refine rz_iald F hK hP 2 0 rfl rfl (by omega) (by omega) dX9_merge_212 ?_
                      refine rz_top (fun z305 h_z305 => ?_)
                      refine lv_iload_n hx hb dX9_merge_213 rfl (lv_at hl 5 rfl) ?_
                      refine rz_icmp_ne (tgt := 226) F (by omega) (by omega) dX9_merge_214 (by decide) (fun h214_305 => ?_) (fun h214_305 => ?_)
                      · refine lv_iconst (v := zI 0) hx hb dX9_merge_226 rfl ?_
                        refine lv_istore (lv' := [(7, .int (zI 0)), (6, .int (zI (20 * v5))), (5, .int (zI v5)), (0, .ref y), (1, .ref a), (2, .int (zI x)), (3, .int (zI w)), (4, .ref f)]) hx hb dX9_merge_227 hl (by decide) rfl (fun ls hl => ?_)
                        refine W.widen (k := 0) (n := 0) (Nat.le_of_ble_eq_true rfl) (Nat.le_of_ble_eq_true rfl) ?_
                        refine (?_ : ∀ (n9_3 : Nat) (v7 : Int) (gq2 : Nat → Int) (H : Heap) (locs : List Loc), (0 ≤ v7 ∧ v7 ≤ 4) → (4 - v7 : Int).toNat < n9_3 → (ProgOk gq2) → (MT g_p gq2 w) → va_P G vwCl [(y, .inr (9, [.int (zI (i 0)), .ref (q 0), .int (zI (i 1)), .int (zI (i 2)), .int (zI (i 3)), .int (zI (i 4)), .int (zI (i 5)), .int (zI (i 6)), .int (zI (i 7)), .int (zI (i 8)), .int (zI (i 9)), .int (zI (i 10)), .ref (q 1), .int (zI (i 11)), .int (zI (i 12)), .ref (q 2), .ref (q 3), .ref (q 4), .ref (q 5), .ref (q 6), .ref (q 7), .ref (q 8), .ref (q 9), .ref (q 10), .ref (q 11), .ref (q 12), .ref (q 13), .ref (q 14), .ref (q 15), .ref (q 16), .int (zI (i 13)), .int (zI (i 14)), .int (zI (i 15)), .int (zI (i 16)), .int (zI (i 17)), .int (zI (i 18)), .ref (q 17), .ref (q 18), .ref (q 19), .ref (q 20)])), (a, .inl (cI, 200, .inl (fun k => zI (g_p k)))), (f, .inl (cI, 200, .inl (fun k => zI (gq2 k))))] H → va_D A [(y, .inr (9, [.int (zI (i 0)), .ref (q 0), .int (zI (i 1)), .int (zI (i 2)), .int (zI (i 3)), .int (zI (i 4)), .int (zI (i 5)), .int (zI (i 6)), .int (zI (i 7)), .int (zI (i 8)), .int (zI (i 9)), .int (zI (i 10)), .ref (q 1), .int (zI (i 11)), .int (zI (i 12)), .ref (q 2), .ref (q 3), .ref (q 4), .ref (q 5), .ref (q 6), .ref (q 7), .ref (q 8), .ref (q 9), .ref (q 10), .ref (q 11), .ref (q 12), .ref (q 13), .ref (q 14), .ref (q 15), .ref (q 16), .int (zI (i 13)), .int (zI (i 14)), .int (zI (i 15)), .int (zI (i 16)), .int (zI (i 17)), .int (zI (i 18)), .ref (q 17), .ref (q 18), .ref (q 19), .ref (q 20)])), (a, .inl (cI, 200, .inl (fun k => zI (g_p k)))), (f, .inl (cI, 200, .inl (fun k => zI (gq2 k))))] → va_S A s.heap H locs → ∀ ls : Array Slot, lv_has ls 8 [(7, .int (zI v7)), (6, .int (zI (20 * v5))), (5, .int (zI v5)), (0, .ref y), (1, .ref a), (2, .int (zI x)), (3, .int (zI w)), (4, .ref f)] → W p l e rm_X9_merge s m ([.ref y, .ref a, .int (zI x), .int (zI w), .ref f] : List Value).toArray below meth c H locs 0 0 Q (F0 m 229 ls [])) ((4 - 0 : Int).toNat + 1) 0 gq1 _ _ (by omega) (by omega) hqp1 hmt1 hP hD hS ls hl
                        clear hP hD hS hl ls
                        intro n9_3
                        induction n9_3 with
                        | zero =>
                          intro v7 gq2 H locs hI hM
                          exact absurd hM (by omega)
                        | succ n9_3 ih3 =>
                          intro v7 gq2 H locs hI3 hM3 hqp2 hmt2 hP hD hS ls hl
                          refine lv_iload hx hb dX9_merge_229 (lv_at hl 0 rfl) ?_
                          refine lv_aload hx hb dX9_merge_231 (lv_at hl 7 rfl) ?_
                          refine lv_iload hx hb dX9_merge_233 (lv_at hl 1 rfl) ?_
                          refine lv_iconst (v := zI 1) hx hb dX9_merge_235 rfl ?_
                          refine r_iadd (v := zI ((20 * v5) + 1)) F dX9_merge_236 (zI_add _ _) ?_
                          refine rz_iald F hK hP 2 0 rfl rfl (by omega) (by omega) dX9_merge_237 ?_
                          have hpl307 : 0 ≤ (gq2 (((20 * v5) + 1)).toNat) ∧ (gq2 (((20 * v5) + 1)).toNat) ≤ 4 := ProgR.at hqp2.1 (e := ((20 * v5) + 1)) v5 1 (by omega) (by omega) (by decide) rfl
                          refine rz_icmp_ge (tgt := 296) F (by omega) (by omega) dX9_merge_238 (by decide) (fun h238_307 => ?_) (fun h238_307 => ?_)
                          · refine lv_iinc (v := zI (v5 + 1)) (lv' := [(5, .int (zI (v5 + 1))), (7, .int (zI v7)), (6, .int (zI (20 * v5))), (0, .ref y), (1, .ref a), (2, .int (zI x)), (3, .int (zI w)), (4, .ref f)]) hx hb dX9_merge_296 hl (k := 2) rfl (zI_add _ _) (by decide) rfl (fun ls hl => ?_)
                            refine lv_goto (tgt := 132) hx hb dX9_merge_299 (by decide) ?_
                            exact ih2 (v5 + 1) gq2 _ _ (by omega) (by omega) hqp2 hmt2 hP hD hS ls (lv_sub hl [0, 3, 4, 5, 6, 7] rfl)
                          · refine lv_aload hx hb dX9_merge_241 (lv_at hl 7 rfl) ?_
                            refine lv_iload hx hb dX9_merge_243 (lv_at hl 1 rfl) ?_
                            refine lv_iconst (v := zI 2) hx hb dX9_merge_245 rfl ?_
                            refine r_iadd (v := zI ((20 * v5) + 2)) F dX9_merge_246 (zI_add _ _) ?_
                            refine lv_iconst (v := zI 3) hx hb dX9_merge_247 rfl ?_
                            refine lv_iload hx hb dX9_merge_248 (lv_at hl 0 rfl) ?_
                            refine r_imul (v := zI (3 * v7)) F dX9_merge_250 (zI_mul _ _) ?_
                            refine r_iadd (v := zI (((20 * v5) + 2) + (3 * v7))) F dX9_merge_251 (zI_add _ _) ?_
                            refine rz_iald F hK hP 2 0 rfl rfl (by omega) (by omega) dX9_merge_252 ?_
                            have hc309 := ProgOk.act hqp2 (i := v5) (n := v7) (k := (((20 * v5) + 2) + (3 * v7))) (by omega) (by omega) (by omega)
                            refine lv_iconst (v := zI 3) hx hb dX9_merge_253 rfl ?_
                            refine rz_icmp_ne (tgt := 290) F (by omega) (by omega) dX9_merge_254 (by decide) (fun h254_309 => ?_) (fun h254_309 => ?_)
                            · refine lv_iinc (v := zI (v7 + 1)) (lv' := [(7, .int (zI (v7 + 1))), (6, .int (zI (20 * v5))), (5, .int (zI v5)), (0, .ref y), (1, .ref a), (2, .int (zI x)), (3, .int (zI w)), (4, .ref f)]) hx hb dX9_merge_290 hl (k := 0) rfl (zI_add _ _) (by decide) rfl (fun ls hl => ?_)
                              refine lv_goto (tgt := 229) hx hb dX9_merge_293 (by decide) ?_
                              exact ih3 (v7 + 1) gq2 _ _ (by omega) (by omega) hqp2 hmt2 hP hD hS ls (lv_sub hl [0, 1, 2, 3, 4, 5, 6, 7] rfl)
                            · refine lv_aload hx hb dX9_merge_257 (lv_at hl 7 rfl) ?_
                              refine lv_iload hx hb dX9_merge_259 (lv_at hl 1 rfl) ?_
                              refine lv_iconst (v := zI 2) hx hb dX9_merge_261 rfl ?_
                              refine r_iadd (v := zI ((20 * v5) + 2)) F dX9_merge_262 (zI_add _ _) ?_
                              refine lv_iconst (v := zI 3) hx hb dX9_merge_263 rfl ?_
                              refine lv_iload hx hb dX9_merge_264 (lv_at hl 0 rfl) ?_
                              refine r_imul (v := zI (3 * v7)) F dX9_merge_266 (zI_mul _ _) ?_
                              refine r_iadd (v := zI (((20 * v5) + 2) + (3 * v7))) F dX9_merge_267 (zI_add _ _) ?_
                              refine lv_iconst (v := zI 1) hx hb dX9_merge_268 rfl ?_
                              refine r_iadd (v := zI ((((20 * v5) + 2) + (3 * v7)) + 1)) F dX9_merge_269 (zI_add _ _) ?_
                              refine rz_iald F hK hP 2 0 rfl rfl (by omega) (by omega) dX9_merge_270 ?_
                              refine rz_top (fun z311 h_z311 => ?_)
                              refine lv_iload_n hx hb dX9_merge_271 rfl (lv_at hl 6 rfl) ?_
                              refine rz_icmp_ne (tgt := 290) F (by omega) (by omega) dX9_merge_272 (by decide) (fun h272_311 => ?_) (fun h272_311 => ?_)
                              · refine lv_iinc (v := zI (v7 + 1)) (lv' := [(7, .int (zI (v7 + 1))), (6, .int (zI (20 * v5))), (5, .int (zI v5)), (0, .ref y), (1, .ref a), (2, .int (zI x)), (3, .int (zI w)), (4, .ref f)]) hx hb dX9_merge_290 hl (k := 0) rfl (zI_add _ _) (by decide) rfl (fun ls hl => ?_)
                                refine lv_goto (tgt := 229) hx hb dX9_merge_293 (by decide) ?_
                                exact ih3 (v7 + 1) gq2 _ _ (by omega) (by omega) hqp2 hmt2 hP hD hS ls (lv_sub hl [0, 1, 2, 3, 4, 5, 6, 7] rfl)
                              · refine lv_aload hx hb dX9_merge_275 (lv_at hl 7 rfl) ?_
                                refine lv_iload hx hb dX9_merge_277 (lv_at hl 1 rfl) ?_
                                refine lv_iconst (v := zI 2) hx hb dX9_merge_279 rfl ?_
                                refine r_iadd (v := zI ((20 * v5) + 2)) F dX9_merge_280 (zI_add _ _) ?_
                                refine lv_iconst (v := zI 3) hx hb dX9_merge_281 rfl ?_
                                refine lv_iload hx hb dX9_merge_282 (lv_at hl 0 rfl) ?_
                                refine r_imul (v := zI (3 * v7)) F dX9_merge_284 (zI_mul _ _) ?_
                                refine r_iadd (v := zI (((20 * v5) + 2) + (3 * v7))) F dX9_merge_285 (zI_add _ _) ?_
                                refine lv_iconst (v := zI 1) hx hb dX9_merge_286 rfl ?_
                                refine r_iadd (v := zI ((((20 * v5) + 2) + (3 * v7)) + 1)) F dX9_merge_287 (zI_add _ _) ?_
                                refine lv_iload_n hx hb dX9_merge_288 rfl (lv_at hl 5 rfl) ?_
                                refine rz_iastG F hK hP hD hS 2 0 rfl rfl (by omega) (by omega) dX9_merge_289 (w1 := fun g313 => [(y, .inr (9, [.int (zI (i 0)), .ref (q 0), .int (zI (i 1)), .int (zI (i 2)), .int (zI (i 3)), .int (zI (i 4)), .int (zI (i 5)), .int (zI (i 6)), .int (zI (i 7)), .int (zI (i 8)), .int (zI (i 9)), .int (zI (i 10)), .ref (q 1), .int (zI (i 11)), .int (zI (i 12)), .ref (q 2), .ref (q 3), .ref (q 4), .ref (q 5), .ref (q 6), .ref (q 7), .ref (q 8), .ref (q 9), .ref (q 10), .ref (q 11), .ref (q 12), .ref (q 13), .ref (q 14), .ref (q 15), .ref (q 16), .int (zI (i 13)), .int (zI (i 14)), .int (zI (i 15)), .int (zI (i 16)), .int (zI (i 17)), .int (zI (i 18)), .ref (q 17), .ref (q 18), .ref (q 19), .ref (q 20)])), (a, .inl (cI, 200, .inl (fun k => zI (g_p k)))), (f, .inl (cI, 200, .inl (fun k => zI (g313 k))))]) (fun _ => rfl) (fun g313 e_g313 H locs hP hD hS => ?_)
                                have hqp314 : ProgOk g313 := ProgOk.tgt3 hqp2 e_g313 (i := v5) (n := v7) (by omega) (by omega) (by omega) (by omega) (j := (((20 * v5) + 2) + (3 * v7)).toNat) (by omega) (by omega)
                                have hmt315 := MT.keepA hmt2 e_g313 (i := v5) (n := v7) (by omega) (by omega) (by omega)
                                refine lv_iinc (v := zI (v7 + 1)) (lv' := [(7, .int (zI (v7 + 1))), (6, .int (zI (20 * v5))), (5, .int (zI v5)), (0, .ref y), (1, .ref a), (2, .int (zI x)), (3, .int (zI w)), (4, .ref f)]) hx hb dX9_merge_290 hl (k := 0) rfl (zI_add _ _) (by decide) rfl (fun ls hl => ?_)
                                refine lv_goto (tgt := 229) hx hb dX9_merge_293 (by decide) ?_
                                exact ih3 (v7 + 1) g313 _ _ (by omega) (by omega) hqp314 hmt315 hP hD hS ls (lv_sub hl [0, 1, 2, 3, 4, 5, 6, 7] rfl)
                      · refine lv_aload hx hb dX9_merge_217 (lv_at hl 6 rfl) ?_
                        refine lv_iload hx hb dX9_merge_219 (lv_at hl 0 rfl) ?_
                        refine lv_bipush (v := zI 18) hx hb dX9_merge_221 (by decide) ?_
                        refine r_iadd (v := zI ((20 * v5) + 18)) F dX9_merge_223 (zI_add _ _) ?_
                        refine lv_iload_n hx hb dX9_merge_224 rfl (lv_at hl 4 rfl) ?_
                        refine rz_iastG F hK hP hD hS 2 0 rfl rfl (by omega) (by omega) dX9_merge_225 (w1 := fun g316 => [(y, .inr (9, [.int (zI (i 0)), .ref (q 0), .int (zI (i 1)), .int (zI (i 2)), .int (zI (i 3)), .int (zI (i 4)), .int (zI (i 5)), .int (zI (i 6)), .int (zI (i 7)), .int (zI (i 8)), .int (zI (i 9)), .int (zI (i 10)), .ref (q 1), .int (zI (i 11)), .int (zI (i 12)), .ref (q 2), .ref (q 3), .ref (q 4), .ref (q 5), .ref (q 6), .ref (q 7), .ref (q 8), .ref (q 9), .ref (q 10), .ref (q 11), .ref (q 12), .ref (q 13), .ref (q 14), .ref (q 15), .ref (q 16), .int (zI (i 13)), .int (zI (i 14)), .int (zI (i 15)), .int (zI (i 16)), .int (zI (i 17)), .int (zI (i 18)), .ref (q 17), .ref (q 18), .ref (q 19), .ref (q 20)])), (a, .inl (cI, 200, .inl (fun k => zI (g_p k)))), (f, .inl (cI, 200, .inl (fun k => zI (g316 k))))]) (fun _ => rfl) (fun g316 e_g316 H locs hP hD hS => ?_)
                        have hqp317 : ProgOk g316 := ⟨hqp1.1.set (m := 9) e_g316 18 (by omega) rfl (by omega), hqp1.2.set e_g316 (by omega)⟩
                        have hmt318 := hmt1.keep e_g316 (by omega)
                        refine lv_iconst (v := zI 0) hx hb dX9_merge_226 rfl ?_
                        refine lv_istore (lv' := [(7, .int (zI 0)), (6, .int (zI (20 * v5))), (5, .int (zI v5)), (0, .ref y), (1, .ref a), (2, .int (zI x)), (3, .int (zI w)), (4, .ref f)]) hx hb dX9_merge_227 hl (by decide) rfl (fun ls hl => ?_)
                        refine W.widen (k := 0) (n := 0) (Nat.le_of_ble_eq_true rfl) (Nat.le_of_ble_eq_true rfl) ?_
                        refine (?_ : ∀ (n9_3 : Nat) (v7 : Int) (gq2 : Nat → Int) (H : Heap) (locs : List Loc), (0 ≤ v7 ∧ v7 ≤ 4) → (4 - v7 : Int).toNat < n9_3 → (ProgOk gq2) → (MT g_p gq2 w) → va_P G vwCl [(y, .inr (9, [.int (zI (i 0)), .ref (q 0), .int (zI (i 1)), .int (zI (i 2)), .int (zI (i 3)), .int (zI (i 4)), .int (zI (i 5)), .int (zI (i 6)), .int (zI (i 7)), .int (zI (i 8)), .int (zI (i 9)), .int (zI (i 10)), .ref (q 1), .int (zI (i 11)), .int (zI (i 12)), .ref (q 2), .ref (q 3), .ref (q 4), .ref (q 5), .ref (q 6), .ref (q 7), .ref (q 8), .ref (q 9), .ref (q 10), .ref (q 11), .ref (q 12), .ref (q 13), .ref (q 14), .ref (q 15), .ref (q 16), .int (zI (i 13)), .int (zI (i 14)), .int (zI (i 15)), .int (zI (i 16)), .int (zI (i 17)), .int (zI (i 18)), .ref (q 17), .ref (q 18), .ref (q 19), .ref (q 20)])), (a, .inl (cI, 200, .inl (fun k => zI (g_p k)))), (f, .inl (cI, 200, .inl (fun k => zI (gq2 k))))] H → va_D A [(y, .inr (9, [.int (zI (i 0)), .ref (q 0), .int (zI (i 1)), .int (zI (i 2)), .int (zI (i 3)), .int (zI (i 4)), .int (zI (i 5)), .int (zI (i 6)), .int (zI (i 7)), .int (zI (i 8)), .int (zI (i 9)), .int (zI (i 10)), .ref (q 1), .int (zI (i 11)), .int (zI (i 12)), .ref (q 2), .ref (q 3), .ref (q 4), .ref (q 5), .ref (q 6), .ref (q 7), .ref (q 8), .ref (q 9), .ref (q 10), .ref (q 11), .ref (q 12), .ref (q 13), .ref (q 14), .ref (q 15), .ref (q 16), .int (zI (i 13)), .int (zI (i 14)), .int (zI (i 15)), .int (zI (i 16)), .int (zI (i 17)), .int (zI (i 18)), .ref (q 17), .ref (q 18), .ref (q 19), .ref (q 20)])), (a, .inl (cI, 200, .inl (fun k => zI (g_p k)))), (f, .inl (cI, 200, .inl (fun k => zI (gq2 k))))] → va_S A s.heap H locs → ∀ ls : Array Slot, lv_has ls 8 [(7, .int (zI v7)), (6, .int (zI (20 * v5))), (5, .int (zI v5)), (0, .ref y), (1, .ref a), (2, .int (zI x)), (3, .int (zI w)), (4, .ref f)] → W p l e rm_X9_merge s m ([.ref y, .ref a, .int (zI x), .int (zI w), .ref f] : List Value).toArray below meth c H locs 0 0 Q (F0 m 229 ls [])) ((4 - 0 : Int).toNat + 1) 0 g316 _ _ (by omega) (by omega) hqp317 hmt318 hP hD hS ls hl
                        clear hP hD hS hl ls
                        intro n9_3
                        induction n9_3 with
                        | zero =>
                          intro v7 gq2 H locs hI hM
                          exact absurd hM (by omega)
                        | succ n9_3 ih3 =>
                          intro v7 gq2 H locs hI3 hM3 hqp2 hmt2 hP hD hS ls hl
                          refine lv_iload hx hb dX9_merge_229 (lv_at hl 0 rfl) ?_
                          refine lv_aload hx hb dX9_merge_231 (lv_at hl 7 rfl) ?_
                          refine lv_iload hx hb dX9_merge_233 (lv_at hl 1 rfl) ?_
                          refine lv_iconst (v := zI 1) hx hb dX9_merge_235 rfl ?_
                          refine r_iadd (v := zI ((20 * v5) + 1)) F dX9_merge_236 (zI_add _ _) ?_
                          refine rz_iald F hK hP 2 0 rfl rfl (by omega) (by omega) dX9_merge_237 ?_
                          have hpl319 : 0 ≤ (gq2 (((20 * v5) + 1)).toNat) ∧ (gq2 (((20 * v5) + 1)).toNat) ≤ 4 := ProgR.at hqp2.1 (e := ((20 * v5) + 1)) v5 1 (by omega) (by omega) (by decide) rfl
                          refine rz_icmp_ge (tgt := 296) F (by omega) (by omega) dX9_merge_238 (by decide) (fun h238_319 => ?_) (fun h238_319 => ?_)
                          · refine lv_iinc (v := zI (v5 + 1)) (lv' := [(5, .int (zI (v5 + 1))), (7, .int (zI v7)), (6, .int (zI (20 * v5))), (0, .ref y), (1, .ref a), (2, .int (zI x)), (3, .int (zI w)), (4, .ref f)]) hx hb dX9_merge_296 hl (k := 2) rfl (zI_add _ _) (by decide) rfl (fun ls hl => ?_)
                            refine lv_goto (tgt := 132) hx hb dX9_merge_299 (by decide) ?_
                            exact ih2 (v5 + 1) gq2 _ _ (by omega) (by omega) hqp2 hmt2 hP hD hS ls (lv_sub hl [0, 3, 4, 5, 6, 7] rfl)
                          · refine lv_aload hx hb dX9_merge_241 (lv_at hl 7 rfl) ?_
                            refine lv_iload hx hb dX9_merge_243 (lv_at hl 1 rfl) ?_
                            refine lv_iconst (v := zI 2) hx hb dX9_merge_245 rfl ?_
                            refine r_iadd (v := zI ((20 * v5) + 2)) F dX9_merge_246 (zI_add _ _) ?_
                            refine lv_iconst (v := zI 3) hx hb dX9_merge_247 rfl ?_
                            refine lv_iload hx hb dX9_merge_248 (lv_at hl 0 rfl) ?_
                            refine r_imul (v := zI (3 * v7)) F dX9_merge_250 (zI_mul _ _) ?_
                            refine r_iadd (v := zI (((20 * v5) + 2) + (3 * v7))) F dX9_merge_251 (zI_add _ _) ?_
                            refine rz_iald F hK hP 2 0 rfl rfl (by omega) (by omega) dX9_merge_252 ?_
                            have hc321 := ProgOk.act hqp2 (i := v5) (n := v7) (k := (((20 * v5) + 2) + (3 * v7))) (by omega) (by omega) (by omega)
                            refine lv_iconst (v := zI 3) hx hb dX9_merge_253 rfl ?_
                            refine rz_icmp_ne (tgt := 290) F (by omega) (by omega) dX9_merge_254 (by decide) (fun h254_321 => ?_) (fun h254_321 => ?_)
                            · refine lv_iinc (v := zI (v7 + 1)) (lv' := [(7, .int (zI (v7 + 1))), (6, .int (zI (20 * v5))), (5, .int (zI v5)), (0, .ref y), (1, .ref a), (2, .int (zI x)), (3, .int (zI w)), (4, .ref f)]) hx hb dX9_merge_290 hl (k := 0) rfl (zI_add _ _) (by decide) rfl (fun ls hl => ?_)
                              refine lv_goto (tgt := 229) hx hb dX9_merge_293 (by decide) ?_
                              exact ih3 (v7 + 1) gq2 _ _ (by omega) (by omega) hqp2 hmt2 hP hD hS ls (lv_sub hl [0, 1, 2, 3, 4, 5, 6, 7] rfl)
                            · refine lv_aload hx hb dX9_merge_257 (lv_at hl 7 rfl) ?_
                              refine lv_iload hx hb dX9_merge_259 (lv_at hl 1 rfl) ?_
                              refine lv_iconst (v := zI 2) hx hb dX9_merge_261 rfl ?_
                              refine r_iadd (v := zI ((20 * v5) + 2)) F dX9_merge_262 (zI_add _ _) ?_
                              refine lv_iconst (v := zI 3) hx hb dX9_merge_263 rfl ?_
                              refine lv_iload hx hb dX9_merge_264 (lv_at hl 0 rfl) ?_
                              refine r_imul (v := zI (3 * v7)) F dX9_merge_266 (zI_mul _ _) ?_
                              refine r_iadd (v := zI (((20 * v5) + 2) + (3 * v7))) F dX9_merge_267 (zI_add _ _) ?_
                              refine lv_iconst (v := zI 1) hx hb dX9_merge_268 rfl ?_
                              refine r_iadd (v := zI ((((20 * v5) + 2) + (3 * v7)) + 1)) F dX9_merge_269 (zI_add _ _) ?_
                              refine rz_iald F hK hP 2 0 rfl rfl (by omega) (by omega) dX9_merge_270 ?_
                              refine rz_top (fun z323 h_z323 => ?_)
                              refine lv_iload_n hx hb dX9_merge_271 rfl (lv_at hl 6 rfl) ?_
                              refine rz_icmp_ne (tgt := 290) F (by omega) (by omega) dX9_merge_272 (by decide) (fun h272_323 => ?_) (fun h272_323 => ?_)
                              · refine lv_iinc (v := zI (v7 + 1)) (lv' := [(7, .int (zI (v7 + 1))), (6, .int (zI (20 * v5))), (5, .int (zI v5)), (0, .ref y), (1, .ref a), (2, .int (zI x)), (3, .int (zI w)), (4, .ref f)]) hx hb dX9_merge_290 hl (k := 0) rfl (zI_add _ _) (by decide) rfl (fun ls hl => ?_)
                                refine lv_goto (tgt := 229) hx hb dX9_merge_293 (by decide) ?_
                                exact ih3 (v7 + 1) gq2 _ _ (by omega) (by omega) hqp2 hmt2 hP hD hS ls (lv_sub hl [0, 1, 2, 3, 4, 5, 6, 7] rfl)
                              · refine lv_aload hx hb dX9_merge_275 (lv_at hl 7 rfl) ?_
                                refine lv_iload hx hb dX9_merge_277 (lv_at hl 1 rfl) ?_
                                refine lv_iconst (v := zI 2) hx hb dX9_merge_279 rfl ?_
                                refine r_iadd (v := zI ((20 * v5) + 2)) F dX9_merge_280 (zI_add _ _) ?_
                                refine lv_iconst (v := zI 3) hx hb dX9_merge_281 rfl ?_
                                refine lv_iload hx hb dX9_merge_282 (lv_at hl 0 rfl) ?_
                                refine r_imul (v := zI (3 * v7)) F dX9_merge_284 (zI_mul _ _) ?_
                                refine r_iadd (v := zI (((20 * v5) + 2) + (3 * v7))) F dX9_merge_285 (zI_add _ _) ?_
                                refine lv_iconst (v := zI 1) hx hb dX9_merge_286 rfl ?_
                                refine r_iadd (v := zI ((((20 * v5) + 2) + (3 * v7)) + 1)) F dX9_merge_287 (zI_add _ _) ?_
                                refine lv_iload_n hx hb dX9_merge_288 rfl (lv_at hl 5 rfl) ?_
                                refine rz_iastG F hK hP hD hS 2 0 rfl rfl (by omega) (by omega) dX9_merge_289 (w1 := fun g325 => [(y, .inr (9, [.int (zI (i 0)), .ref (q 0), .int (zI (i 1)), .int (zI (i 2)), .int (zI (i 3)), .int (zI (i 4)), .int (zI (i 5)), .int (zI (i 6)), .int (zI (i 7)), .int (zI (i 8)), .int (zI (i 9)), .int (zI (i 10)), .ref (q 1), .int (zI (i 11)), .int (zI (i 12)), .ref (q 2), .ref (q 3), .ref (q 4), .ref (q 5), .ref (q 6), .ref (q 7), .ref (q 8), .ref (q 9), .ref (q 10), .ref (q 11), .ref (q 12), .ref (q 13), .ref (q 14), .ref (q 15), .ref (q 16), .int (zI (i 13)), .int (zI (i 14)), .int (zI (i 15)), .int (zI (i 16)), .int (zI (i 17)), .int (zI (i 18)), .ref (q 17), .ref (q 18), .ref (q 19), .ref (q 20)])), (a, .inl (cI, 200, .inl (fun k => zI (g_p k)))), (f, .inl (cI, 200, .inl (fun k => zI (g325 k))))]) (fun _ => rfl) (fun g325 e_g325 H locs hP hD hS => ?_)
                                have hqp326 : ProgOk g325 := ProgOk.tgt3 hqp2 e_g325 (i := v5) (n := v7) (by omega) (by omega) (by omega) (by omega) (j := (((20 * v5) + 2) + (3 * v7)).toNat) (by omega) (by omega)
                                have hmt327 := MT.keepA hmt2 e_g325 (i := v5) (n := v7) (by omega) (by omega) (by omega)
                                refine lv_iinc (v := zI (v7 + 1)) (lv' := [(7, .int (zI (v7 + 1))), (6, .int (zI (20 * v5))), (5, .int (zI v5)), (0, .ref y), (1, .ref a), (2, .int (zI x)), (3, .int (zI w)), (4, .ref f)]) hx hb dX9_merge_290 hl (k := 0) rfl (zI_add _ _) (by decide) rfl (fun ls hl => ?_)
                                refine lv_goto (tgt := 229) hx hb dX9_merge_293 (by decide) ?_
                                exact ih3 (v7 + 1) g325 _ _ (by omega) (by omega) hqp326 hmt327 hP hD hS ls (lv_sub hl [0, 1, 2, 3, 4, 5, 6, 7] rfl)
                  · refine lv_aload hx hb dX9_merge_184 (lv_at hl 6 rfl) ?_
                    refine lv_iload hx hb dX9_merge_186 (lv_at hl 0 rfl) ?_
                    refine lv_bipush (v := zI 16) hx hb dX9_merge_188 (by decide) ?_
                    refine r_iadd (v := zI ((20 * v5) + 16)) F dX9_merge_190 (zI_add _ _) ?_
                    refine lv_iload_n hx hb dX9_merge_191 rfl (lv_at hl 4 rfl) ?_
                    refine rz_iastG F hK hP hD hS 2 0 rfl rfl (by omega) (by omega) dX9_merge_192 (w1 := fun g328 => [(y, .inr (9, [.int (zI (i 0)), .ref (q 0), .int (zI (i 1)), .int (zI (i 2)), .int (zI (i 3)), .int (zI (i 4)), .int (zI (i 5)), .int (zI (i 6)), .int (zI (i 7)), .int (zI (i 8)), .int (zI (i 9)), .int (zI (i 10)), .ref (q 1), .int (zI (i 11)), .int (zI (i 12)), .ref (q 2), .ref (q 3), .ref (q 4), .ref (q 5), .ref (q 6), .ref (q 7), .ref (q 8), .ref (q 9), .ref (q 10), .ref (q 11), .ref (q 12), .ref (q 13), .ref (q 14), .ref (q 15), .ref (q 16), .int (zI (i 13)), .int (zI (i 14)), .int (zI (i 15)), .int (zI (i 16)), .int (zI (i 17)), .int (zI (i 18)), .ref (q 17), .ref (q 18), .ref (q 19), .ref (q 20)])), (a, .inl (cI, 200, .inl (fun k => zI (g_p k)))), (f, .inl (cI, 200, .inl (fun k => zI (g328 k))))]) (fun _ => rfl) (fun g328 e_g328 H locs hP hD hS => ?_)
                    have hqp329 : ProgOk g328 := ⟨hqp1.1.set (m := 9) e_g328 16 (by omega) rfl (by omega), hqp1.2.set e_g328 (by omega)⟩
                    have hmt330 := hmt1.keep e_g328 (by omega)
                    refine lv_aload hx hb dX9_merge_193 (lv_at hl 6 rfl) ?_
                    refine lv_iload hx hb dX9_merge_195 (lv_at hl 0 rfl) ?_
                    refine lv_bipush (v := zI 14) hx hb dX9_merge_197 (by decide) ?_
                    refine r_iadd (v := zI ((20 * v5) + 14)) F dX9_merge_199 (zI_add _ _) ?_
                    refine rz_iald F hK hP 2 0 rfl rfl (by omega) (by omega) dX9_merge_200 ?_
                    refine rz_top (fun z331 h_z331 => ?_)
                    refine lv_iconst (v := zI 2) hx hb dX9_merge_201 rfl ?_
                    refine rz_icmp_ne (tgt := 226) F (by omega) (by omega) dX9_merge_202 (by decide) (fun h202_331 => ?_) (fun h202_331 => ?_)
                    · refine lv_iconst (v := zI 0) hx hb dX9_merge_226 rfl ?_
                      refine lv_istore (lv' := [(7, .int (zI 0)), (6, .int (zI (20 * v5))), (5, .int (zI v5)), (0, .ref y), (1, .ref a), (2, .int (zI x)), (3, .int (zI w)), (4, .ref f)]) hx hb dX9_merge_227 hl (by decide) rfl (fun ls hl => ?_)
                      refine W.widen (k := 0) (n := 0) (Nat.le_of_ble_eq_true rfl) (Nat.le_of_ble_eq_true rfl) ?_
                      refine (?_ : ∀ (n9_3 : Nat) (v7 : Int) (gq2 : Nat → Int) (H : Heap) (locs : List Loc), (0 ≤ v7 ∧ v7 ≤ 4) → (4 - v7 : Int).toNat < n9_3 → (ProgOk gq2) → (MT g_p gq2 w) → va_P G vwCl [(y, .inr (9, [.int (zI (i 0)), .ref (q 0), .int (zI (i 1)), .int (zI (i 2)), .int (zI (i 3)), .int (zI (i 4)), .int (zI (i 5)), .int (zI (i 6)), .int (zI (i 7)), .int (zI (i 8)), .int (zI (i 9)), .int (zI (i 10)), .ref (q 1), .int (zI (i 11)), .int (zI (i 12)), .ref (q 2), .ref (q 3), .ref (q 4), .ref (q 5), .ref (q 6), .ref (q 7), .ref (q 8), .ref (q 9), .ref (q 10), .ref (q 11), .ref (q 12), .ref (q 13), .ref (q 14), .ref (q 15), .ref (q 16), .int (zI (i 13)), .int (zI (i 14)), .int (zI (i 15)), .int (zI (i 16)), .int (zI (i 17)), .int (zI (i 18)), .ref (q 17), .ref (q 18), .ref (q 19), .ref (q 20)])), (a, .inl (cI, 200, .inl (fun k => zI (g_p k)))), (f, .inl (cI, 200, .inl (fun k => zI (gq2 k))))] H → va_D A [(y, .inr (9, [.int (zI (i 0)), .ref (q 0), .int (zI (i 1)), .int (zI (i 2)), .int (zI (i 3)), .int (zI (i 4)), .int (zI (i 5)), .int (zI (i 6)), .int (zI (i 7)), .int (zI (i 8)), .int (zI (i 9)), .int (zI (i 10)), .ref (q 1), .int (zI (i 11)), .int (zI (i 12)), .ref (q 2), .ref (q 3), .ref (q 4), .ref (q 5), .ref (q 6), .ref (q 7), .ref (q 8), .ref (q 9), .ref (q 10), .ref (q 11), .ref (q 12), .ref (q 13), .ref (q 14), .ref (q 15), .ref (q 16), .int (zI (i 13)), .int (zI (i 14)), .int (zI (i 15)), .int (zI (i 16)), .int (zI (i 17)), .int (zI (i 18)), .ref (q 17), .ref (q 18), .ref (q 19), .ref (q 20)])), (a, .inl (cI, 200, .inl (fun k => zI (g_p k)))), (f, .inl (cI, 200, .inl (fun k => zI (gq2 k))))] → va_S A s.heap H locs → ∀ ls : Array Slot, lv_has ls 8 [(7, .int (zI v7)), (6, .int (zI (20 * v5))), (5, .int (zI v5)), (0, .ref y), (1, .ref a), (2, .int (zI x)), (3, .int (zI w)), (4, .ref f)] → W p l e rm_X9_merge s m ([.ref y, .ref a, .int (zI x), .int (zI w), .ref f] : List Value).toArray below meth c H locs 0 0 Q (F0 m 229 ls [])) ((4 - 0 : Int).toNat + 1) 0 g328 _ _ (by omega) (by omega) hqp329 hmt330 hP hD hS ls hl
                      clear hP hD hS hl ls
                      intro n9_3
                      induction n9_3 with
                      | zero =>
                        intro v7 gq2 H locs hI hM
                        exact absurd hM (by omega)
                      | succ n9_3 ih3 =>
                        intro v7 gq2 H locs hI3 hM3 hqp2 hmt2 hP hD hS ls hl
                        refine lv_iload hx hb dX9_merge_229 (lv_at hl 0 rfl) ?_
                        refine lv_aload hx hb dX9_merge_231 (lv_at hl 7 rfl) ?_
                        refine lv_iload hx hb dX9_merge_233 (lv_at hl 1 rfl) ?_
                        refine lv_iconst (v := zI 1) hx hb dX9_merge_235 rfl ?_
                        refine r_iadd (v := zI ((20 * v5) + 1)) F dX9_merge_236 (zI_add _ _) ?_
                        refine rz_iald F hK hP 2 0 rfl rfl (by omega) (by omega) dX9_merge_237 ?_
                        have hpl333 : 0 ≤ (gq2 (((20 * v5) + 1)).toNat) ∧ (gq2 (((20 * v5) + 1)).toNat) ≤ 4 := ProgR.at hqp2.1 (e := ((20 * v5) + 1)) v5 1 (by omega) (by omega) (by decide) rfl
                        refine rz_icmp_ge (tgt := 296) F (by omega) (by omega) dX9_merge_238 (by decide) (fun h238_333 => ?_) (fun h238_333 => ?_)
                        · refine lv_iinc (v := zI (v5 + 1)) (lv' := [(5, .int (zI (v5 + 1))), (7, .int (zI v7)), (6, .int (zI (20 * v5))), (0, .ref y), (1, .ref a), (2, .int (zI x)), (3, .int (zI w)), (4, .ref f)]) hx hb dX9_merge_296 hl (k := 2) rfl (zI_add _ _) (by decide) rfl (fun ls hl => ?_)
                          refine lv_goto (tgt := 132) hx hb dX9_merge_299 (by decide) ?_
                          exact ih2 (v5 + 1) gq2 _ _ (by omega) (by omega) hqp2 hmt2 hP hD hS ls (lv_sub hl [0, 3, 4, 5, 6, 7] rfl)
                        · refine lv_aload hx hb dX9_merge_241 (lv_at hl 7 rfl) ?_
                          refine lv_iload hx hb dX9_merge_243 (lv_at hl 1 rfl) ?_
                          refine lv_iconst (v := zI 2) hx hb dX9_merge_245 rfl ?_
                          refine r_iadd (v := zI ((20 * v5) + 2)) F dX9_merge_246 (zI_add _ _) ?_
                          refine lv_iconst (v := zI 3) hx hb dX9_merge_247 rfl ?_
                          refine lv_iload hx hb dX9_merge_248 (lv_at hl 0 rfl) ?_
                          refine r_imul (v := zI (3 * v7)) F dX9_merge_250 (zI_mul _ _) ?_
                          refine r_iadd (v := zI (((20 * v5) + 2) + (3 * v7))) F dX9_merge_251 (zI_add _ _) ?_
                          refine rz_iald F hK hP 2 0 rfl rfl (by omega) (by omega) dX9_merge_252 ?_
                          have hc335 := ProgOk.act hqp2 (i := v5) (n := v7) (k := (((20 * v5) + 2) + (3 * v7))) (by omega) (by omega) (by omega)
                          refine lv_iconst (v := zI 3) hx hb dX9_merge_253 rfl ?_
                          refine rz_icmp_ne (tgt := 290) F (by omega) (by omega) dX9_merge_254 (by decide) (fun h254_335 => ?_) (fun h254_335 => ?_)
                          · refine lv_iinc (v := zI (v7 + 1)) (lv' := [(7, .int (zI (v7 + 1))), (6, .int (zI (20 * v5))), (5, .int (zI v5)), (0, .ref y), (1, .ref a), (2, .int (zI x)), (3, .int (zI w)), (4, .ref f)]) hx hb dX9_merge_290 hl (k := 0) rfl (zI_add _ _) (by decide) rfl (fun ls hl => ?_)
                            refine lv_goto (tgt := 229) hx hb dX9_merge_293 (by decide) ?_
                            exact ih3 (v7 + 1) gq2 _ _ (by omega) (by omega) hqp2 hmt2 hP hD hS ls (lv_sub hl [0, 1, 2, 3, 4, 5, 6, 7] rfl)
                          · refine lv_aload hx hb dX9_merge_257 (lv_at hl 7 rfl) ?_
                            refine lv_iload hx hb dX9_merge_259 (lv_at hl 1 rfl) ?_
                            refine lv_iconst (v := zI 2) hx hb dX9_merge_261 rfl ?_
                            refine r_iadd (v := zI ((20 * v5) + 2)) F dX9_merge_262 (zI_add _ _) ?_
                            refine lv_iconst (v := zI 3) hx hb dX9_merge_263 rfl ?_
                            refine lv_iload hx hb dX9_merge_264 (lv_at hl 0 rfl) ?_
                            refine r_imul (v := zI (3 * v7)) F dX9_merge_266 (zI_mul _ _) ?_
                            refine r_iadd (v := zI (((20 * v5) + 2) + (3 * v7))) F dX9_merge_267 (zI_add _ _) ?_
                            refine lv_iconst (v := zI 1) hx hb dX9_merge_268 rfl ?_
                            refine r_iadd (v := zI ((((20 * v5) + 2) + (3 * v7)) + 1)) F dX9_merge_269 (zI_add _ _) ?_
                            refine rz_iald F hK hP 2 0 rfl rfl (by omega) (by omega) dX9_merge_270 ?_
                            refine rz_top (fun z337 h_z337 => ?_)
                            refine lv_iload_n hx hb dX9_merge_271 rfl (lv_at hl 6 rfl) ?_
                            refine rz_icmp_ne (tgt := 290) F (by omega) (by omega) dX9_merge_272 (by decide) (fun h272_337 => ?_) (fun h272_337 => ?_)
                            · refine lv_iinc (v := zI (v7 + 1)) (lv' := [(7, .int (zI (v7 + 1))), (6, .int (zI (20 * v5))), (5, .int (zI v5)), (0, .ref y), (1, .ref a), (2, .int (zI x)), (3, .int (zI w)), (4, .ref f)]) hx hb dX9_merge_290 hl (k := 0) rfl (zI_add _ _) (by decide) rfl (fun ls hl => ?_)
                              refine lv_goto (tgt := 229) hx hb dX9_merge_293 (by decide) ?_
                              exact ih3 (v7 + 1) gq2 _ _ (by omega) (by omega) hqp2 hmt2 hP hD hS ls (lv_sub hl [0, 1, 2, 3, 4, 5, 6, 7] rfl)
                            · refine lv_aload hx hb dX9_merge_275 (lv_at hl 7 rfl) ?_
                              refine lv_iload hx hb dX9_merge_277 (lv_at hl 1 rfl) ?_
                              refine lv_iconst (v := zI 2) hx hb dX9_merge_279 rfl ?_
                              refine r_iadd (v := zI ((20 * v5) + 2)) F dX9_merge_280 (zI_add _ _) ?_
                              refine lv_iconst (v := zI 3) hx hb dX9_merge_281 rfl ?_
                              refine lv_iload hx hb dX9_merge_282 (lv_at hl 0 rfl) ?_
                              refine r_imul (v := zI (3 * v7)) F dX9_merge_284 (zI_mul _ _) ?_
                              refine r_iadd (v := zI (((20 * v5) + 2) + (3 * v7))) F dX9_merge_285 (zI_add _ _) ?_
                              refine lv_iconst (v := zI 1) hx hb dX9_merge_286 rfl ?_
                              refine r_iadd (v := zI ((((20 * v5) + 2) + (3 * v7)) + 1)) F dX9_merge_287 (zI_add _ _) ?_
                              refine lv_iload_n hx hb dX9_merge_288 rfl (lv_at hl 5 rfl) ?_
                              refine rz_iastG F hK hP hD hS 2 0 rfl rfl (by omega) (by omega) dX9_merge_289 (w1 := fun g339 => [(y, .inr (9, [.int (zI (i 0)), .ref (q 0), .int (zI (i 1)), .int (zI (i 2)), .int (zI (i 3)), .int (zI (i 4)), .int (zI (i 5)), .int (zI (i 6)), .int (zI (i 7)), .int (zI (i 8)), .int (zI (i 9)), .int (zI (i 10)), .ref (q 1), .int (zI (i 11)), .int (zI (i 12)), .ref (q 2), .ref (q 3), .ref (q 4), .ref (q 5), .ref (q 6), .ref (q 7), .ref (q 8), .ref (q 9), .ref (q 10), .ref (q 11), .ref (q 12), .ref (q 13), .ref (q 14), .ref (q 15), .ref (q 16), .int (zI (i 13)), .int (zI (i 14)), .int (zI (i 15)), .int (zI (i 16)), .int (zI (i 17)), .int (zI (i 18)), .ref (q 17), .ref (q 18), .ref (q 19), .ref (q 20)])), (a, .inl (cI, 200, .inl (fun k => zI (g_p k)))), (f, .inl (cI, 200, .inl (fun k => zI (g339 k))))]) (fun _ => rfl) (fun g339 e_g339 H locs hP hD hS => ?_)
                              have hqp340 : ProgOk g339 := ProgOk.tgt3 hqp2 e_g339 (i := v5) (n := v7) (by omega) (by omega) (by omega) (by omega) (j := (((20 * v5) + 2) + (3 * v7)).toNat) (by omega) (by omega)
                              have hmt341 := MT.keepA hmt2 e_g339 (i := v5) (n := v7) (by omega) (by omega) (by omega)
                              refine lv_iinc (v := zI (v7 + 1)) (lv' := [(7, .int (zI (v7 + 1))), (6, .int (zI (20 * v5))), (5, .int (zI v5)), (0, .ref y), (1, .ref a), (2, .int (zI x)), (3, .int (zI w)), (4, .ref f)]) hx hb dX9_merge_290 hl (k := 0) rfl (zI_add _ _) (by decide) rfl (fun ls hl => ?_)
                              refine lv_goto (tgt := 229) hx hb dX9_merge_293 (by decide) ?_
                              exact ih3 (v7 + 1) g339 _ _ (by omega) (by omega) hqp340 hmt341 hP hD hS ls (lv_sub hl [0, 1, 2, 3, 4, 5, 6, 7] rfl)
                    · refine lv_aload hx hb dX9_merge_205 (lv_at hl 6 rfl) ?_
                      refine lv_iload hx hb dX9_merge_207 (lv_at hl 0 rfl) ?_
                      refine lv_bipush (v := zI 18) hx hb dX9_merge_209 (by decide) ?_
                      refine r_iadd (v := zI ((20 * v5) + 18)) F dX9_merge_211 (zI_add _ _) ?_
                      refine rz_iald F hK hP 2 0 rfl rfl (by omega) (by omega) dX9_merge_212 ?_
                      refine rz_top (fun z342 h_z342 => ?_)
                      refine lv_iload_n hx hb dX9_merge_213 rfl (lv_at hl 5 rfl) ?_
                      refine rz_icmp_ne (tgt := 226) F (by omega) (by omega) dX9_merge_214 (by decide) (fun h214_342 => ?_) (fun h214_342 => ?_)
                      · refine lv_iconst (v := zI 0) hx hb dX9_merge_226 rfl ?_
                        refine lv_istore (lv' := [(7, .int (zI 0)), (6, .int (zI (20 * v5))), (5, .int (zI v5)), (0, .ref y), (1, .ref a), (2, .int (zI x)), (3, .int (zI w)), (4, .ref f)]) hx hb dX9_merge_227 hl (by decide) rfl (fun ls hl => ?_)
                        refine W.widen (k := 0) (n := 0) (Nat.le_of_ble_eq_true rfl) (Nat.le_of_ble_eq_true rfl) ?_
                        refine (?_ : ∀ (n9_3 : Nat) (v7 : Int) (gq2 : Nat → Int) (H : Heap) (locs : List Loc), (0 ≤ v7 ∧ v7 ≤ 4) → (4 - v7 : Int).toNat < n9_3 → (ProgOk gq2) → (MT g_p gq2 w) → va_P G vwCl [(y, .inr (9, [.int (zI (i 0)), .ref (q 0), .int (zI (i 1)), .int (zI (i 2)), .int (zI (i 3)), .int (zI (i 4)), .int (zI (i 5)), .int (zI (i 6)), .int (zI (i 7)), .int (zI (i 8)), .int (zI (i 9)), .int (zI (i 10)), .ref (q 1), .int (zI (i 11)), .int (zI (i 12)), .ref (q 2), .ref (q 3), .ref (q 4), .ref (q 5), .ref (q 6), .ref (q 7), .ref (q 8), .ref (q 9), .ref (q 10), .ref (q 11), .ref (q 12), .ref (q 13), .ref (q 14), .ref (q 15), .ref (q 16), .int (zI (i 13)), .int (zI (i 14)), .int (zI (i 15)), .int (zI (i 16)), .int (zI (i 17)), .int (zI (i 18)), .ref (q 17), .ref (q 18), .ref (q 19), .ref (q 20)])), (a, .inl (cI, 200, .inl (fun k => zI (g_p k)))), (f, .inl (cI, 200, .inl (fun k => zI (gq2 k))))] H → va_D A [(y, .inr (9, [.int (zI (i 0)), .ref (q 0), .int (zI (i 1)), .int (zI (i 2)), .int (zI (i 3)), .int (zI (i 4)), .int (zI (i 5)), .int (zI (i 6)), .int (zI (i 7)), .int (zI (i 8)), .int (zI (i 9)), .int (zI (i 10)), .ref (q 1), .int (zI (i 11)), .int (zI (i 12)), .ref (q 2), .ref (q 3), .ref (q 4), .ref (q 5), .ref (q 6), .ref (q 7), .ref (q 8), .ref (q 9), .ref (q 10), .ref (q 11), .ref (q 12), .ref (q 13), .ref (q 14), .ref (q 15), .ref (q 16), .int (zI (i 13)), .int (zI (i 14)), .int (zI (i 15)), .int (zI (i 16)), .int (zI (i 17)), .int (zI (i 18)), .ref (q 17), .ref (q 18), .ref (q 19), .ref (q 20)])), (a, .inl (cI, 200, .inl (fun k => zI (g_p k)))), (f, .inl (cI, 200, .inl (fun k => zI (gq2 k))))] → va_S A s.heap H locs → ∀ ls : Array Slot, lv_has ls 8 [(7, .int (zI v7)), (6, .int (zI (20 * v5))), (5, .int (zI v5)), (0, .ref y), (1, .ref a), (2, .int (zI x)), (3, .int (zI w)), (4, .ref f)] → W p l e rm_X9_merge s m ([.ref y, .ref a, .int (zI x), .int (zI w), .ref f] : List Value).toArray below meth c H locs 0 0 Q (F0 m 229 ls [])) ((4 - 0 : Int).toNat + 1) 0 g328 _ _ (by omega) (by omega) hqp329 hmt330 hP hD hS ls hl
                        clear hP hD hS hl ls
                        intro n9_3
                        induction n9_3 with
                        | zero =>
                          intro v7 gq2 H locs hI hM
                          exact absurd hM (by omega)
                        | succ n9_3 ih3 =>
                          intro v7 gq2 H locs hI3 hM3 hqp2 hmt2 hP hD hS ls hl
                          refine lv_iload hx hb dX9_merge_229 (lv_at hl 0 rfl) ?_
                          refine lv_aload hx hb dX9_merge_231 (lv_at hl 7 rfl) ?_
                          refine lv_iload hx hb dX9_merge_233 (lv_at hl 1 rfl) ?_
                          refine lv_iconst (v := zI 1) hx hb dX9_merge_235 rfl ?_
                          refine r_iadd (v := zI ((20 * v5) + 1)) F dX9_merge_236 (zI_add _ _) ?_
                          refine rz_iald F hK hP 2 0 rfl rfl (by omega) (by omega) dX9_merge_237 ?_
                          have hpl344 : 0 ≤ (gq2 (((20 * v5) + 1)).toNat) ∧ (gq2 (((20 * v5) + 1)).toNat) ≤ 4 := ProgR.at hqp2.1 (e := ((20 * v5) + 1)) v5 1 (by omega) (by omega) (by decide) rfl
                          refine rz_icmp_ge (tgt := 296) F (by omega) (by omega) dX9_merge_238 (by decide) (fun h238_344 => ?_) (fun h238_344 => ?_)
                          · refine lv_iinc (v := zI (v5 + 1)) (lv' := [(5, .int (zI (v5 + 1))), (7, .int (zI v7)), (6, .int (zI (20 * v5))), (0, .ref y), (1, .ref a), (2, .int (zI x)), (3, .int (zI w)), (4, .ref f)]) hx hb dX9_merge_296 hl (k := 2) rfl (zI_add _ _) (by decide) rfl (fun ls hl => ?_)
                            refine lv_goto (tgt := 132) hx hb dX9_merge_299 (by decide) ?_
                            exact ih2 (v5 + 1) gq2 _ _ (by omega) (by omega) hqp2 hmt2 hP hD hS ls (lv_sub hl [0, 3, 4, 5, 6, 7] rfl)
                          · refine lv_aload hx hb dX9_merge_241 (lv_at hl 7 rfl) ?_
                            refine lv_iload hx hb dX9_merge_243 (lv_at hl 1 rfl) ?_
                            refine lv_iconst (v := zI 2) hx hb dX9_merge_245 rfl ?_
                            refine r_iadd (v := zI ((20 * v5) + 2)) F dX9_merge_246 (zI_add _ _) ?_
                            refine lv_iconst (v := zI 3) hx hb dX9_merge_247 rfl ?_
                            refine lv_iload hx hb dX9_merge_248 (lv_at hl 0 rfl) ?_
                            refine r_imul (v := zI (3 * v7)) F dX9_merge_250 (zI_mul _ _) ?_
                            refine r_iadd (v := zI (((20 * v5) + 2) + (3 * v7))) F dX9_merge_251 (zI_add _ _) ?_
                            refine rz_iald F hK hP 2 0 rfl rfl (by omega) (by omega) dX9_merge_252 ?_
                            have hc346 := ProgOk.act hqp2 (i := v5) (n := v7) (k := (((20 * v5) + 2) + (3 * v7))) (by omega) (by omega) (by omega)
                            refine lv_iconst (v := zI 3) hx hb dX9_merge_253 rfl ?_
                            refine rz_icmp_ne (tgt := 290) F (by omega) (by omega) dX9_merge_254 (by decide) (fun h254_346 => ?_) (fun h254_346 => ?_)
                            · refine lv_iinc (v := zI (v7 + 1)) (lv' := [(7, .int (zI (v7 + 1))), (6, .int (zI (20 * v5))), (5, .int (zI v5)), (0, .ref y), (1, .ref a), (2, .int (zI x)), (3, .int (zI w)), (4, .ref f)]) hx hb dX9_merge_290 hl (k := 0) rfl (zI_add _ _) (by decide) rfl (fun ls hl => ?_)
                              refine lv_goto (tgt := 229) hx hb dX9_merge_293 (by decide) ?_
                              exact ih3 (v7 + 1) gq2 _ _ (by omega) (by omega) hqp2 hmt2 hP hD hS ls (lv_sub hl [0, 1, 2, 3, 4, 5, 6, 7] rfl)
                            · refine lv_aload hx hb dX9_merge_257 (lv_at hl 7 rfl) ?_
                              refine lv_iload hx hb dX9_merge_259 (lv_at hl 1 rfl) ?_
                              refine lv_iconst (v := zI 2) hx hb dX9_merge_261 rfl ?_
                              refine r_iadd (v := zI ((20 * v5) + 2)) F dX9_merge_262 (zI_add _ _) ?_
                              refine lv_iconst (v := zI 3) hx hb dX9_merge_263 rfl ?_
                              refine lv_iload hx hb dX9_merge_264 (lv_at hl 0 rfl) ?_
                              refine r_imul (v := zI (3 * v7)) F dX9_merge_266 (zI_mul _ _) ?_
                              refine r_iadd (v := zI (((20 * v5) + 2) + (3 * v7))) F dX9_merge_267 (zI_add _ _) ?_
                              refine lv_iconst (v := zI 1) hx hb dX9_merge_268 rfl ?_
                              refine r_iadd (v := zI ((((20 * v5) + 2) + (3 * v7)) + 1)) F dX9_merge_269 (zI_add _ _) ?_
                              refine rz_iald F hK hP 2 0 rfl rfl (by omega) (by omega) dX9_merge_270 ?_
                              refine rz_top (fun z348 h_z348 => ?_)
                              refine lv_iload_n hx hb dX9_merge_271 rfl (lv_at hl 6 rfl) ?_
                              refine rz_icmp_ne (tgt := 290) F (by omega) (by omega) dX9_merge_272 (by decide) (fun h272_348 => ?_) (fun h272_348 => ?_)
                              · refine lv_iinc (v := zI (v7 + 1)) (lv' := [(7, .int (zI (v7 + 1))), (6, .int (zI (20 * v5))), (5, .int (zI v5)), (0, .ref y), (1, .ref a), (2, .int (zI x)), (3, .int (zI w)), (4, .ref f)]) hx hb dX9_merge_290 hl (k := 0) rfl (zI_add _ _) (by decide) rfl (fun ls hl => ?_)
                                refine lv_goto (tgt := 229) hx hb dX9_merge_293 (by decide) ?_
                                exact ih3 (v7 + 1) gq2 _ _ (by omega) (by omega) hqp2 hmt2 hP hD hS ls (lv_sub hl [0, 1, 2, 3, 4, 5, 6, 7] rfl)
                              · refine lv_aload hx hb dX9_merge_275 (lv_at hl 7 rfl) ?_
                                refine lv_iload hx hb dX9_merge_277 (lv_at hl 1 rfl) ?_
                                refine lv_iconst (v := zI 2) hx hb dX9_merge_279 rfl ?_
                                refine r_iadd (v := zI ((20 * v5) + 2)) F dX9_merge_280 (zI_add _ _) ?_
                                refine lv_iconst (v := zI 3) hx hb dX9_merge_281 rfl ?_
                                refine lv_iload hx hb dX9_merge_282 (lv_at hl 0 rfl) ?_
                                refine r_imul (v := zI (3 * v7)) F dX9_merge_284 (zI_mul _ _) ?_
                                refine r_iadd (v := zI (((20 * v5) + 2) + (3 * v7))) F dX9_merge_285 (zI_add _ _) ?_
                                refine lv_iconst (v := zI 1) hx hb dX9_merge_286 rfl ?_
                                refine r_iadd (v := zI ((((20 * v5) + 2) + (3 * v7)) + 1)) F dX9_merge_287 (zI_add _ _) ?_
                                refine lv_iload_n hx hb dX9_merge_288 rfl (lv_at hl 5 rfl) ?_
                                refine rz_iastG F hK hP hD hS 2 0 rfl rfl (by omega) (by omega) dX9_merge_289 (w1 := fun g350 => [(y, .inr (9, [.int (zI (i 0)), .ref (q 0), .int (zI (i 1)), .int (zI (i 2)), .int (zI (i 3)), .int (zI (i 4)), .int (zI (i 5)), .int (zI (i 6)), .int (zI (i 7)), .int (zI (i 8)), .int (zI (i 9)), .int (zI (i 10)), .ref (q 1), .int (zI (i 11)), .int (zI (i 12)), .ref (q 2), .ref (q 3), .ref (q 4), .ref (q 5), .ref (q 6), .ref (q 7), .ref (q 8), .ref (q 9), .ref (q 10), .ref (q 11), .ref (q 12), .ref (q 13), .ref (q 14), .ref (q 15), .ref (q 16), .int (zI (i 13)), .int (zI (i 14)), .int (zI (i 15)), .int (zI (i 16)), .int (zI (i 17)), .int (zI (i 18)), .ref (q 17), .ref (q 18), .ref (q 19), .ref (q 20)])), (a, .inl (cI, 200, .inl (fun k => zI (g_p k)))), (f, .inl (cI, 200, .inl (fun k => zI (g350 k))))]) (fun _ => rfl) (fun g350 e_g350 H locs hP hD hS => ?_)
                                have hqp351 : ProgOk g350 := ProgOk.tgt3 hqp2 e_g350 (i := v5) (n := v7) (by omega) (by omega) (by omega) (by omega) (j := (((20 * v5) + 2) + (3 * v7)).toNat) (by omega) (by omega)
                                have hmt352 := MT.keepA hmt2 e_g350 (i := v5) (n := v7) (by omega) (by omega) (by omega)
                                refine lv_iinc (v := zI (v7 + 1)) (lv' := [(7, .int (zI (v7 + 1))), (6, .int (zI (20 * v5))), (5, .int (zI v5)), (0, .ref y), (1, .ref a), (2, .int (zI x)), (3, .int (zI w)), (4, .ref f)]) hx hb dX9_merge_290 hl (k := 0) rfl (zI_add _ _) (by decide) rfl (fun ls hl => ?_)
                                refine lv_goto (tgt := 229) hx hb dX9_merge_293 (by decide) ?_
                                exact ih3 (v7 + 1) g350 _ _ (by omega) (by omega) hqp351 hmt352 hP hD hS ls (lv_sub hl [0, 1, 2, 3, 4, 5, 6, 7] rfl)
                      · refine lv_aload hx hb dX9_merge_217 (lv_at hl 6 rfl) ?_
                        refine lv_iload hx hb dX9_merge_219 (lv_at hl 0 rfl) ?_
                        refine lv_bipush (v := zI 18) hx hb dX9_merge_221 (by decide) ?_
                        refine r_iadd (v := zI ((20 * v5) + 18)) F dX9_merge_223 (zI_add _ _) ?_
                        refine lv_iload_n hx hb dX9_merge_224 rfl (lv_at hl 4 rfl) ?_
                        refine rz_iastG F hK hP hD hS 2 0 rfl rfl (by omega) (by omega) dX9_merge_225 (w1 := fun g353 => [(y, .inr (9, [.int (zI (i 0)), .ref (q 0), .int (zI (i 1)), .int (zI (i 2)), .int (zI (i 3)), .int (zI (i 4)), .int (zI (i 5)), .int (zI (i 6)), .int (zI (i 7)), .int (zI (i 8)), .int (zI (i 9)), .int (zI (i 10)), .ref (q 1), .int (zI (i 11)), .int (zI (i 12)), .ref (q 2), .ref (q 3), .ref (q 4), .ref (q 5), .ref (q 6), .ref (q 7), .ref (q 8), .ref (q 9), .ref (q 10), .ref (q 11), .ref (q 12), .ref (q 13), .ref (q 14), .ref (q 15), .ref (q 16), .int (zI (i 13)), .int (zI (i 14)), .int (zI (i 15)), .int (zI (i 16)), .int (zI (i 17)), .int (zI (i 18)), .ref (q 17), .ref (q 18), .ref (q 19), .ref (q 20)])), (a, .inl (cI, 200, .inl (fun k => zI (g_p k)))), (f, .inl (cI, 200, .inl (fun k => zI (g353 k))))]) (fun _ => rfl) (fun g353 e_g353 H locs hP hD hS => ?_)
                        have hqp354 : ProgOk g353 := ⟨hqp329.1.set (m := 9) e_g353 18 (by omega) rfl (by omega), hqp329.2.set e_g353 (by omega)⟩
                        have hmt355 := hmt330.keep e_g353 (by omega)
                        refine lv_iconst (v := zI 0) hx hb dX9_merge_226 rfl ?_
                        refine lv_istore (lv' := [(7, .int (zI 0)), (6, .int (zI (20 * v5))), (5, .int (zI v5)), (0, .ref y), (1, .ref a), (2, .int (zI x)), (3, .int (zI w)), (4, .ref f)]) hx hb dX9_merge_227 hl (by decide) rfl (fun ls hl => ?_)
                        refine W.widen (k := 0) (n := 0) (Nat.le_of_ble_eq_true rfl) (Nat.le_of_ble_eq_true rfl) ?_
                        refine (?_ : ∀ (n9_3 : Nat) (v7 : Int) (gq2 : Nat → Int) (H : Heap) (locs : List Loc), (0 ≤ v7 ∧ v7 ≤ 4) → (4 - v7 : Int).toNat < n9_3 → (ProgOk gq2) → (MT g_p gq2 w) → va_P G vwCl [(y, .inr (9, [.int (zI (i 0)), .ref (q 0), .int (zI (i 1)), .int (zI (i 2)), .int (zI (i 3)), .int (zI (i 4)), .int (zI (i 5)), .int (zI (i 6)), .int (zI (i 7)), .int (zI (i 8)), .int (zI (i 9)), .int (zI (i 10)), .ref (q 1), .int (zI (i 11)), .int (zI (i 12)), .ref (q 2), .ref (q 3), .ref (q 4), .ref (q 5), .ref (q 6), .ref (q 7), .ref (q 8), .ref (q 9), .ref (q 10), .ref (q 11), .ref (q 12), .ref (q 13), .ref (q 14), .ref (q 15), .ref (q 16), .int (zI (i 13)), .int (zI (i 14)), .int (zI (i 15)), .int (zI (i 16)), .int (zI (i 17)), .int (zI (i 18)), .ref (q 17), .ref (q 18), .ref (q 19), .ref (q 20)])), (a, .inl (cI, 200, .inl (fun k => zI (g_p k)))), (f, .inl (cI, 200, .inl (fun k => zI (gq2 k))))] H → va_D A [(y, .inr (9, [.int (zI (i 0)), .ref (q 0), .int (zI (i 1)), .int (zI (i 2)), .int (zI (i 3)), .int (zI (i 4)), .int (zI (i 5)), .int (zI (i 6)), .int (zI (i 7)), .int (zI (i 8)), .int (zI (i 9)), .int (zI (i 10)), .ref (q 1), .int (zI (i 11)), .int (zI (i 12)), .ref (q 2), .ref (q 3), .ref (q 4), .ref (q 5), .ref (q 6), .ref (q 7), .ref (q 8), .ref (q 9), .ref (q 10), .ref (q 11), .ref (q 12), .ref (q 13), .ref (q 14), .ref (q 15), .ref (q 16), .int (zI (i 13)), .int (zI (i 14)), .int (zI (i 15)), .int (zI (i 16)), .int (zI (i 17)), .int (zI (i 18)), .ref (q 17), .ref (q 18), .ref (q 19), .ref (q 20)])), (a, .inl (cI, 200, .inl (fun k => zI (g_p k)))), (f, .inl (cI, 200, .inl (fun k => zI (gq2 k))))] → va_S A s.heap H locs → ∀ ls : Array Slot, lv_has ls 8 [(7, .int (zI v7)), (6, .int (zI (20 * v5))), (5, .int (zI v5)), (0, .ref y), (1, .ref a), (2, .int (zI x)), (3, .int (zI w)), (4, .ref f)] → W p l e rm_X9_merge s m ([.ref y, .ref a, .int (zI x), .int (zI w), .ref f] : List Value).toArray below meth c H locs 0 0 Q (F0 m 229 ls [])) ((4 - 0 : Int).toNat + 1) 0 g353 _ _ (by omega) (by omega) hqp354 hmt355 hP hD hS ls hl
                        clear hP hD hS hl ls
                        intro n9_3
                        induction n9_3 with
                        | zero =>
                          intro v7 gq2 H locs hI hM
                          exact absurd hM (by omega)
                        | succ n9_3 ih3 =>
                          intro v7 gq2 H locs hI3 hM3 hqp2 hmt2 hP hD hS ls hl
                          refine lv_iload hx hb dX9_merge_229 (lv_at hl 0 rfl) ?_
                          refine lv_aload hx hb dX9_merge_231 (lv_at hl 7 rfl) ?_
                          refine lv_iload hx hb dX9_merge_233 (lv_at hl 1 rfl) ?_
                          refine lv_iconst (v := zI 1) hx hb dX9_merge_235 rfl ?_
                          refine r_iadd (v := zI ((20 * v5) + 1)) F dX9_merge_236 (zI_add _ _) ?_
                          refine rz_iald F hK hP 2 0 rfl rfl (by omega) (by omega) dX9_merge_237 ?_
                          have hpl356 : 0 ≤ (gq2 (((20 * v5) + 1)).toNat) ∧ (gq2 (((20 * v5) + 1)).toNat) ≤ 4 := ProgR.at hqp2.1 (e := ((20 * v5) + 1)) v5 1 (by omega) (by omega) (by decide) rfl
                          refine rz_icmp_ge (tgt := 296) F (by omega) (by omega) dX9_merge_238 (by decide) (fun h238_356 => ?_) (fun h238_356 => ?_)
                          · refine lv_iinc (v := zI (v5 + 1)) (lv' := [(5, .int (zI (v5 + 1))), (7, .int (zI v7)), (6, .int (zI (20 * v5))), (0, .ref y), (1, .ref a), (2, .int (zI x)), (3, .int (zI w)), (4, .ref f)]) hx hb dX9_merge_296 hl (k := 2) rfl (zI_add _ _) (by decide) rfl (fun ls hl => ?_)
                            refine lv_goto (tgt := 132) hx hb dX9_merge_299 (by decide) ?_
                            exact ih2 (v5 + 1) gq2 _ _ (by omega) (by omega) hqp2 hmt2 hP hD hS ls (lv_sub hl [0, 3, 4, 5, 6, 7] rfl)
                          · refine lv_aload hx hb dX9_merge_241 (lv_at hl 7 rfl) ?_
                            refine lv_iload hx hb dX9_merge_243 (lv_at hl 1 rfl) ?_
                            refine lv_iconst (v := zI 2) hx hb dX9_merge_245 rfl ?_
                            refine r_iadd (v := zI ((20 * v5) + 2)) F dX9_merge_246 (zI_add _ _) ?_
                            refine lv_iconst (v := zI 3) hx hb dX9_merge_247 rfl ?_
                            refine lv_iload hx hb dX9_merge_248 (lv_at hl 0 rfl) ?_
                            refine r_imul (v := zI (3 * v7)) F dX9_merge_250 (zI_mul _ _) ?_
                            refine r_iadd (v := zI (((20 * v5) + 2) + (3 * v7))) F dX9_merge_251 (zI_add _ _) ?_
                            refine rz_iald F hK hP 2 0 rfl rfl (by omega) (by omega) dX9_merge_252 ?_
                            have hc358 := ProgOk.act hqp2 (i := v5) (n := v7) (k := (((20 * v5) + 2) + (3 * v7))) (by omega) (by omega) (by omega)
                            refine lv_iconst (v := zI 3) hx hb dX9_merge_253 rfl ?_
                            refine rz_icmp_ne (tgt := 290) F (by omega) (by omega) dX9_merge_254 (by decide) (fun h254_358 => ?_) (fun h254_358 => ?_)
                            · refine lv_iinc (v := zI (v7 + 1)) (lv' := [(7, .int (zI (v7 + 1))), (6, .int (zI (20 * v5))), (5, .int (zI v5)), (0, .ref y), (1, .ref a), (2, .int (zI x)), (3, .int (zI w)), (4, .ref f)]) hx hb dX9_merge_290 hl (k := 0) rfl (zI_add _ _) (by decide) rfl (fun ls hl => ?_)
                              refine lv_goto (tgt := 229) hx hb dX9_merge_293 (by decide) ?_
                              exact ih3 (v7 + 1) gq2 _ _ (by omega) (by omega) hqp2 hmt2 hP hD hS ls (lv_sub hl [0, 1, 2, 3, 4, 5, 6, 7] rfl)
                            · refine lv_aload hx hb dX9_merge_257 (lv_at hl 7 rfl) ?_
                              refine lv_iload hx hb dX9_merge_259 (lv_at hl 1 rfl) ?_
                              refine lv_iconst (v := zI 2) hx hb dX9_merge_261 rfl ?_
                              refine r_iadd (v := zI ((20 * v5) + 2)) F dX9_merge_262 (zI_add _ _) ?_
                              refine lv_iconst (v := zI 3) hx hb dX9_merge_263 rfl ?_
                              refine lv_iload hx hb dX9_merge_264 (lv_at hl 0 rfl) ?_
                              refine r_imul (v := zI (3 * v7)) F dX9_merge_266 (zI_mul _ _) ?_
                              refine r_iadd (v := zI (((20 * v5) + 2) + (3 * v7))) F dX9_merge_267 (zI_add _ _) ?_
                              refine lv_iconst (v := zI 1) hx hb dX9_merge_268 rfl ?_
                              refine r_iadd (v := zI ((((20 * v5) + 2) + (3 * v7)) + 1)) F dX9_merge_269 (zI_add _ _) ?_
                              refine rz_iald F hK hP 2 0 rfl rfl (by omega) (by omega) dX9_merge_270 ?_
                              refine rz_top (fun z360 h_z360 => ?_)
                              refine lv_iload_n hx hb dX9_merge_271 rfl (lv_at hl 6 rfl) ?_
                              refine rz_icmp_ne (tgt := 290) F (by omega) (by omega) dX9_merge_272 (by decide) (fun h272_360 => ?_) (fun h272_360 => ?_)
                              · refine lv_iinc (v := zI (v7 + 1)) (lv' := [(7, .int (zI (v7 + 1))), (6, .int (zI (20 * v5))), (5, .int (zI v5)), (0, .ref y), (1, .ref a), (2, .int (zI x)), (3, .int (zI w)), (4, .ref f)]) hx hb dX9_merge_290 hl (k := 0) rfl (zI_add _ _) (by decide) rfl (fun ls hl => ?_)
                                refine lv_goto (tgt := 229) hx hb dX9_merge_293 (by decide) ?_
                                exact ih3 (v7 + 1) gq2 _ _ (by omega) (by omega) hqp2 hmt2 hP hD hS ls (lv_sub hl [0, 1, 2, 3, 4, 5, 6, 7] rfl)
                              · refine lv_aload hx hb dX9_merge_275 (lv_at hl 7 rfl) ?_
                                refine lv_iload hx hb dX9_merge_277 (lv_at hl 1 rfl) ?_
                                refine lv_iconst (v := zI 2) hx hb dX9_merge_279 rfl ?_
                                refine r_iadd (v := zI ((20 * v5) + 2)) F dX9_merge_280 (zI_add _ _) ?_
                                refine lv_iconst (v := zI 3) hx hb dX9_merge_281 rfl ?_
                                refine lv_iload hx hb dX9_merge_282 (lv_at hl 0 rfl) ?_
                                refine r_imul (v := zI (3 * v7)) F dX9_merge_284 (zI_mul _ _) ?_
                                refine r_iadd (v := zI (((20 * v5) + 2) + (3 * v7))) F dX9_merge_285 (zI_add _ _) ?_
                                refine lv_iconst (v := zI 1) hx hb dX9_merge_286 rfl ?_
                                refine r_iadd (v := zI ((((20 * v5) + 2) + (3 * v7)) + 1)) F dX9_merge_287 (zI_add _ _) ?_
                                refine lv_iload_n hx hb dX9_merge_288 rfl (lv_at hl 5 rfl) ?_
                                refine rz_iastG F hK hP hD hS 2 0 rfl rfl (by omega) (by omega) dX9_merge_289 (w1 := fun g362 => [(y, .inr (9, [.int (zI (i 0)), .ref (q 0), .int (zI (i 1)), .int (zI (i 2)), .int (zI (i 3)), .int (zI (i 4)), .int (zI (i 5)), .int (zI (i 6)), .int (zI (i 7)), .int (zI (i 8)), .int (zI (i 9)), .int (zI (i 10)), .ref (q 1), .int (zI (i 11)), .int (zI (i 12)), .ref (q 2), .ref (q 3), .ref (q 4), .ref (q 5), .ref (q 6), .ref (q 7), .ref (q 8), .ref (q 9), .ref (q 10), .ref (q 11), .ref (q 12), .ref (q 13), .ref (q 14), .ref (q 15), .ref (q 16), .int (zI (i 13)), .int (zI (i 14)), .int (zI (i 15)), .int (zI (i 16)), .int (zI (i 17)), .int (zI (i 18)), .ref (q 17), .ref (q 18), .ref (q 19), .ref (q 20)])), (a, .inl (cI, 200, .inl (fun k => zI (g_p k)))), (f, .inl (cI, 200, .inl (fun k => zI (g362 k))))]) (fun _ => rfl) (fun g362 e_g362 H locs hP hD hS => ?_)
                                have hqp363 : ProgOk g362 := ProgOk.tgt3 hqp2 e_g362 (i := v5) (n := v7) (by omega) (by omega) (by omega) (by omega) (j := (((20 * v5) + 2) + (3 * v7)).toNat) (by omega) (by omega)
                                have hmt364 := MT.keepA hmt2 e_g362 (i := v5) (n := v7) (by omega) (by omega) (by omega)
                                refine lv_iinc (v := zI (v7 + 1)) (lv' := [(7, .int (zI (v7 + 1))), (6, .int (zI (20 * v5))), (5, .int (zI v5)), (0, .ref y), (1, .ref a), (2, .int (zI x)), (3, .int (zI w)), (4, .ref f)]) hx hb dX9_merge_290 hl (k := 0) rfl (zI_add _ _) (by decide) rfl (fun ls hl => ?_)
                                refine lv_goto (tgt := 229) hx hb dX9_merge_293 (by decide) ?_
                                exact ih3 (v7 + 1) g362 _ _ (by omega) (by omega) hqp363 hmt364 hP hD hS ls (lv_sub hl [0, 1, 2, 3, 4, 5, 6, 7] rfl)
              · refine lv_goto (tgt := 296) hx hb dX9_merge_158 (by decide) ?_
                refine lv_iinc (v := zI (v5 + 1)) (lv' := [(5, .int (zI (v5 + 1))), (6, .int (zI (20 * v5))), (0, .ref y), (1, .ref a), (2, .int (zI x)), (3, .int (zI w)), (4, .ref f)]) hx hb dX9_merge_296 hl (k := 1) rfl (zI_add _ _) (by decide) rfl (fun ls hl => ?_)
                refine lv_goto (tgt := 132) hx hb dX9_merge_299 (by decide) ?_
                exact ih2 (v5 + 1) gq1 _ _ (by omega) (by omega) hqp1 hmt1 hP hD hS ls (lv_sub hl [0, 2, 3, 4, 5, 6] rfl)
        · refine lv_aload hx hb dX9_merge_95 (lv_at hl 5 rfl) ?_
          refine lv_bipush (v := zI 20) hx hb dX9_merge_97 (by decide) ?_
          refine lv_iload_n hx hb dX9_merge_99 rfl (lv_at hl 3 rfl) ?_
          refine r_imul (v := zI (20 * x)) F dX9_merge_100 (zI_mul _ _) ?_
          refine lv_bipush (v := zI 19) hx hb dX9_merge_101 (by decide) ?_
          refine r_iadd (v := zI ((20 * x) + 19)) F dX9_merge_103 (zI_add _ _) ?_
          refine lv_bipush (v := zI 9) hx hb dX9_merge_104 (by decide) ?_
          refine lv_aload_n hx hb dX9_merge_106 rfl (lv_at hl 2 rfl) ?_
          refine lv_bipush (v := zI 20) hx hb dX9_merge_107 (by decide) ?_
          refine lv_iload_n hx hb dX9_merge_109 rfl (lv_at hl 3 rfl) ?_
          refine r_imul (v := zI (20 * x)) F dX9_merge_110 (zI_mul _ _) ?_
          refine lv_bipush (v := zI 19) hx hb dX9_merge_111 (by decide) ?_
          refine r_iadd (v := zI ((20 * x) + 19)) F dX9_merge_113 (zI_add _ _) ?_
          refine rz_iald F hK hP 1 0 rfl rfl (by omega) (by omega) dX9_merge_114 ?_
          have hpl365 : 0 ≤ (g_p (((20 * x) + 19)).toNat) ∧ (g_p (((20 * x) + 19)).toNat) ≤ 9 := ProgR.at hp.1 (e := ((20 * x) + 19)) x 19 (by omega) (by omega) (by decide) rfl
          refine lv_aload_n hx hb dX9_merge_115 rfl (lv_at hl 2 rfl) ?_
          refine lv_bipush (v := zI 20) hx hb dX9_merge_116 (by decide) ?_
          refine lv_iload_n hx hb dX9_merge_118 rfl (lv_at hl 4 rfl) ?_
          refine r_imul (v := zI (20 * w)) F dX9_merge_119 (zI_mul _ _) ?_
          refine lv_bipush (v := zI 19) hx hb dX9_merge_120 (by decide) ?_
          refine r_iadd (v := zI ((20 * w) + 19)) F dX9_merge_122 (zI_add _ _) ?_
          refine rz_iald F hK hP 1 0 rfl rfl (by omega) (by omega) dX9_merge_123 ?_
          have hpl366 : 0 ≤ (g_p (((20 * w) + 19)).toNat) ∧ (g_p (((20 * w) + 19)).toNat) ≤ 9 := ProgR.at hp.1 (e := ((20 * w) + 19)) w 19 (by omega) (by omega) (by decide) rfl
          refine r_iadd (v := zI ((g_p (((20 * x) + 19)).toNat) + (g_p (((20 * w) + 19)).toNat))) F dX9_merge_124 (zI_add _ _) ?_
          refine r_callSi (As := [.int (zI 9), .int (zI ((g_p (((20 * x) + 19)).toNat) + (g_p (((20 * w) + 19)).toNat)))]) (rest := [.int (zI ((20 * x) + 19)), .ref f]) (wr := [(y, .inr (9, [.int (zI (i 0)), .ref (q 0), .int (zI (i 1)), .int (zI (i 2)), .int (zI (i 3)), .int (zI (i 4)), .int (zI (i 5)), .int (zI (i 6)), .int (zI (i 7)), .int (zI (i 8)), .int (zI (i 9)), .int (zI (i 10)), .ref (q 1), .int (zI (i 11)), .int (zI (i 12)), .ref (q 2), .ref (q 3), .ref (q 4), .ref (q 5), .ref (q 6), .ref (q 7), .ref (q 8), .ref (q 9), .ref (q 10), .ref (q 11), .ref (q 12), .ref (q 13), .ref (q 14), .ref (q 15), .ref (q 16), .int (zI (i 13)), .int (zI (i 14)), .int (zI (i 15)), .int (zI (i 16)), .int (zI (i 17)), .int (zI (i 18)), .ref (q 17), .ref (q 18), .ref (q 19), .ref (q 20)])), (a, .inl (cI, 200, .inl (fun k => zI (g_p k)))), (f, .inl (cI, 200, .inl (fun k => zI (g248 k))))]) F hK hP hD hS hA hO hE (c_X9_less hO 9 ((g_p (((20 * x) + 19)).toNat) + (g_p (((20 * w) + 19)).toNat)) (by omega) (by omega)) k_1456 ks_X9_less 2 rfl (by decide +kernel) ⟨Nat.le_of_ble_eq_true rfl, Nat.le_of_ble_eq_true rfl⟩ [] [0, 1, 2] rfl rfl (by decide) (by decide) (by decide) hl.1 rfl (Nat.le_of_ble_eq_true rfl) dX9_merge_125 ⟨Nat.le_of_ble_eq_true rfl, Nat.le_of_ble_eq_true rfl⟩ (w1 := fun u367 => [(y, .inr (9, [.int (zI (i 0)), .ref (q 0), .int (zI (i 1)), .int (zI (i 2)), .int (zI (i 3)), .int (zI (i 4)), .int (zI (i 5)), .int (zI (i 6)), .int (zI (i 7)), .int (zI (i 8)), .int (zI (i 9)), .int (zI (i 10)), .ref (q 1), .int (zI (i 11)), .int (zI (i 12)), .ref (q 2), .ref (q 3), .ref (q 4), .ref (q 5), .ref (q 6), .ref (q 7), .ref (q 8), .ref (q 9), .ref (q 10), .ref (q 11), .ref (q 12), .ref (q 13), .ref (q 14), .ref (q 15), .ref (q 16), .int (zI (i 13)), .int (zI (i 14)), .int (zI (i 15)), .int (zI (i 16)), .int (zI (i 17)), .int (zI (i 18)), .ref (q 17), .ref (q 18), .ref (q 19), .ref (q 20)])), (a, .inl (cI, 200, .inl (fun k => zI (g_p k)))), (f, .inl (cI, 200, .inl (fun k => zI (g248 k))))]) (fun _ => rfl) (fun r368 u367 H locs hp369 hP hD hS => ?_)
          obtain ⟨z370, rfl, h_z370⟩ := hp369
          refine rz_iastG F hK hP hD hS 2 0 rfl rfl (by omega) (by omega) dX9_merge_128 (w1 := fun g371 => [(y, .inr (9, [.int (zI (i 0)), .ref (q 0), .int (zI (i 1)), .int (zI (i 2)), .int (zI (i 3)), .int (zI (i 4)), .int (zI (i 5)), .int (zI (i 6)), .int (zI (i 7)), .int (zI (i 8)), .int (zI (i 9)), .int (zI (i 10)), .ref (q 1), .int (zI (i 11)), .int (zI (i 12)), .ref (q 2), .ref (q 3), .ref (q 4), .ref (q 5), .ref (q 6), .ref (q 7), .ref (q 8), .ref (q 9), .ref (q 10), .ref (q 11), .ref (q 12), .ref (q 13), .ref (q 14), .ref (q 15), .ref (q 16), .int (zI (i 13)), .int (zI (i 14)), .int (zI (i 15)), .int (zI (i 16)), .int (zI (i 17)), .int (zI (i 18)), .ref (q 17), .ref (q 18), .ref (q 19), .ref (q 20)])), (a, .inl (cI, 200, .inl (fun k => zI (g_p k)))), (f, .inl (cI, 200, .inl (fun k => zI (g371 k))))]) (fun _ => rfl) (fun g371 e_g371 H locs hP hD hS => ?_)
          have hqp372 : ProgOk g371 := ⟨hqp249.1.set (m := 9) e_g371 19 (by omega) rfl (by omega), hqp249.2.set e_g371 (by omega)⟩
          have hmt373 := hmt250.keep e_g371 (by omega)
          refine lv_iconst (v := zI 0) hx hb dX9_merge_129 rfl ?_
          refine lv_istore (lv' := [(5, .int (zI 0)), (0, .ref y), (1, .ref a), (2, .int (zI x)), (3, .int (zI w)), (4, .ref f)]) hx hb dX9_merge_130 hl (by decide) rfl (fun ls hl => ?_)
          refine W.widen (k := 0) (n := 0) (Nat.le_of_ble_eq_true rfl) (Nat.le_of_ble_eq_true rfl) ?_
          refine (?_ : ∀ (n9_2 : Nat) (v5 : Int) (gq1 : Nat → Int) (H : Heap) (locs : List Loc), (0 ≤ v5 ∧ v5 ≤ 10) → (10 - v5 : Int).toNat < n9_2 → (ProgOk gq1) → (MT g_p gq1 w) → va_P G vwCl [(y, .inr (9, [.int (zI (i 0)), .ref (q 0), .int (zI (i 1)), .int (zI (i 2)), .int (zI (i 3)), .int (zI (i 4)), .int (zI (i 5)), .int (zI (i 6)), .int (zI (i 7)), .int (zI (i 8)), .int (zI (i 9)), .int (zI (i 10)), .ref (q 1), .int (zI (i 11)), .int (zI (i 12)), .ref (q 2), .ref (q 3), .ref (q 4), .ref (q 5), .ref (q 6), .ref (q 7), .ref (q 8), .ref (q 9), .ref (q 10), .ref (q 11), .ref (q 12), .ref (q 13), .ref (q 14), .ref (q 15), .ref (q 16), .int (zI (i 13)), .int (zI (i 14)), .int (zI (i 15)), .int (zI (i 16)), .int (zI (i 17)), .int (zI (i 18)), .ref (q 17), .ref (q 18), .ref (q 19), .ref (q 20)])), (a, .inl (cI, 200, .inl (fun k => zI (g_p k)))), (f, .inl (cI, 200, .inl (fun k => zI (gq1 k))))] H → va_D A [(y, .inr (9, [.int (zI (i 0)), .ref (q 0), .int (zI (i 1)), .int (zI (i 2)), .int (zI (i 3)), .int (zI (i 4)), .int (zI (i 5)), .int (zI (i 6)), .int (zI (i 7)), .int (zI (i 8)), .int (zI (i 9)), .int (zI (i 10)), .ref (q 1), .int (zI (i 11)), .int (zI (i 12)), .ref (q 2), .ref (q 3), .ref (q 4), .ref (q 5), .ref (q 6), .ref (q 7), .ref (q 8), .ref (q 9), .ref (q 10), .ref (q 11), .ref (q 12), .ref (q 13), .ref (q 14), .ref (q 15), .ref (q 16), .int (zI (i 13)), .int (zI (i 14)), .int (zI (i 15)), .int (zI (i 16)), .int (zI (i 17)), .int (zI (i 18)), .ref (q 17), .ref (q 18), .ref (q 19), .ref (q 20)])), (a, .inl (cI, 200, .inl (fun k => zI (g_p k)))), (f, .inl (cI, 200, .inl (fun k => zI (gq1 k))))] → va_S A s.heap H locs → ∀ ls : Array Slot, lv_has ls 8 [(5, .int (zI v5)), (0, .ref y), (1, .ref a), (2, .int (zI x)), (3, .int (zI w)), (4, .ref f)] → W p l e rm_X9_merge s m ([.ref y, .ref a, .int (zI x), .int (zI w), .ref f] : List Value).toArray below meth c H locs 0 0 Q (F0 m 132 ls [])) ((10 - 0 : Int).toNat + 1) 0 g371 _ _ (by omega) (by omega) hqp372 hmt373 hP hD hS ls hl
          clear hP hD hS hl ls
          intro n9_2
          induction n9_2 with
          | zero =>
            intro v5 gq1 H locs hI hM
            exact absurd hM (by omega)
          | succ n9_2 ih2 =>
            intro v5 gq1 H locs hI2 hM2 hqp1 hmt1 hP hD hS ls hl
            refine lv_iload hx hb dX9_merge_132 (lv_at hl 0 rfl) ?_
            refine lv_aload_n hx hb dX9_merge_134 rfl (lv_at hl 1 rfl) ?_
            refine r_get F hK hP 0 30 rfl rfl in_X9 (by decide) k_1193 rfl dX9_merge_135 ?_
            refine rz_icmp_ge (tgt := 302) F (by omega) (by omega) dX9_merge_138 (by decide) (fun h138_373 => ?_) (fun h138_373 => ?_)
            · exact ret (fun k => [((fun _ => 0), fun _ _ => 0), (fun _ => 0, fun _ => gq1)].getD k (fun _ => 0, fun _ _ => 0)) _ _ _ _ _ _ ⟨hqp1, hmt1⟩ (bw_subP (isC := [0, 1, 2]) hP rfl) (hD.sub [0, 1, 2] (by decide) rfl) hS (Nat.le_of_ble_eq_true rfl) (Nat.le_of_ble_eq_true rfl) dX9_merge_302
            · refine lv_bipush (v := zI 20) hx hb dX9_merge_141 (by decide) ?_
              refine lv_iload hx hb dX9_merge_143 (lv_at hl 0 rfl) ?_
              refine r_imul (v := zI (20 * v5)) F dX9_merge_145 (zI_mul _ _) ?_
              refine lv_istore (lv' := [(6, .int (zI (20 * v5))), (5, .int (zI v5)), (0, .ref y), (1, .ref a), (2, .int (zI x)), (3, .int (zI w)), (4, .ref f)]) hx hb dX9_merge_146 hl (by decide) rfl (fun ls hl => ?_)
              refine lv_aload hx hb dX9_merge_148 (lv_at hl 6 rfl) ?_
              refine lv_iload hx hb dX9_merge_150 (lv_at hl 0 rfl) ?_
              refine lv_iconst (v := zI 0) hx hb dX9_merge_152 rfl ?_
              refine r_iadd (v := zI ((20 * v5) + 0)) F dX9_merge_153 (zI_add _ _) ?_
              refine rz_iald F hK hP 2 0 rfl rfl (by omega) (by omega) dX9_merge_154 ?_
              refine rz_top (fun z375 h_z375 => ?_)
              refine rz_if_ne (tgt := 161) F (by omega) dX9_merge_155 (by decide) (fun h155_375 => ?_) (fun h155_375 => ?_)
              · refine lv_aload hx hb dX9_merge_161 (lv_at hl 6 rfl) ?_
                refine lv_iload hx hb dX9_merge_163 (lv_at hl 0 rfl) ?_
                refine lv_bipush (v := zI 14) hx hb dX9_merge_165 (by decide) ?_
                refine r_iadd (v := zI ((20 * v5) + 14)) F dX9_merge_167 (zI_add _ _) ?_
                refine rz_iald F hK hP 2 0 rfl rfl (by omega) (by omega) dX9_merge_168 ?_
                refine rz_top (fun z377 h_z377 => ?_)
                refine rz_if_le (tgt := 193) F (by omega) dX9_merge_169 (by decide) (fun h169_377 => ?_) (fun h169_377 => ?_)
                · refine lv_aload hx hb dX9_merge_193 (lv_at hl 6 rfl) ?_
                  refine lv_iload hx hb dX9_merge_195 (lv_at hl 0 rfl) ?_
                  refine lv_bipush (v := zI 14) hx hb dX9_merge_197 (by decide) ?_
                  refine r_iadd (v := zI ((20 * v5) + 14)) F dX9_merge_199 (zI_add _ _) ?_
                  refine rz_iald F hK hP 2 0 rfl rfl (by omega) (by omega) dX9_merge_200 ?_
                  refine rz_top (fun z379 h_z379 => ?_)
                  refine lv_iconst (v := zI 2) hx hb dX9_merge_201 rfl ?_
                  refine rz_icmp_ne (tgt := 226) F (by omega) (by omega) dX9_merge_202 (by decide) (fun h202_379 => ?_) (fun h202_379 => ?_)
                  · refine lv_iconst (v := zI 0) hx hb dX9_merge_226 rfl ?_
                    refine lv_istore (lv' := [(7, .int (zI 0)), (6, .int (zI (20 * v5))), (5, .int (zI v5)), (0, .ref y), (1, .ref a), (2, .int (zI x)), (3, .int (zI w)), (4, .ref f)]) hx hb dX9_merge_227 hl (by decide) rfl (fun ls hl => ?_)
                    refine W.widen (k := 0) (n := 0) (Nat.le_of_ble_eq_true rfl) (Nat.le_of_ble_eq_true rfl) ?_
                    refine (?_ : ∀ (n9_3 : Nat) (v7 : Int) (gq2 : Nat → Int) (H : Heap) (locs : List Loc), (0 ≤ v7 ∧ v7 ≤ 4) → (4 - v7 : Int).toNat < n9_3 → (ProgOk gq2) → (MT g_p gq2 w) → va_P G vwCl [(y, .inr (9, [.int (zI (i 0)), .ref (q 0), .int (zI (i 1)), .int (zI (i 2)), .int (zI (i 3)), .int (zI (i 4)), .int (zI (i 5)), .int (zI (i 6)), .int (zI (i 7)), .int (zI (i 8)), .int (zI (i 9)), .int (zI (i 10)), .ref (q 1), .int (zI (i 11)), .int (zI (i 12)), .ref (q 2), .ref (q 3), .ref (q 4), .ref (q 5), .ref (q 6), .ref (q 7), .ref (q 8), .ref (q 9), .ref (q 10), .ref (q 11), .ref (q 12), .ref (q 13), .ref (q 14), .ref (q 15), .ref (q 16), .int (zI (i 13)), .int (zI (i 14)), .int (zI (i 15)), .int (zI (i 16)), .int (zI (i 17)), .int (zI (i 18)), .ref (q 17), .ref (q 18), .ref (q 19), .ref (q 20)])), (a, .inl (cI, 200, .inl (fun k => zI (g_p k)))), (f, .inl (cI, 200, .inl (fun k => zI (gq2 k))))] H → va_D A [(y, .inr (9, [.int (zI (i 0)), .ref (q 0), .int (zI (i 1)), .int (zI (i 2)), .int (zI (i 3)), .int (zI (i 4)), .int (zI (i 5)), .int (zI (i 6)), .int (zI (i 7)), .int (zI (i 8)), .int (zI (i 9)), .int (zI (i 10)), .ref (q 1), .int (zI (i 11)), .int (zI (i 12)), .ref (q 2), .ref (q 3), .ref (q 4), .ref (q 5), .ref (q 6), .ref (q 7), .ref (q 8), .ref (q 9), .ref (q 10), .ref (q 11), .ref (q 12), .ref (q 13), .ref (q 14), .ref (q 15), .ref (q 16), .int (zI (i 13)), .int (zI (i 14)), .int (zI (i 15)), .int (zI (i 16)), .int (zI (i 17)), .int (zI (i 18)), .ref (q 17), .ref (q 18), .ref (q 19), .ref (q 20)])), (a, .inl (cI, 200, .inl (fun k => zI (g_p k)))), (f, .inl (cI, 200, .inl (fun k => zI (gq2 k))))] → va_S A s.heap H locs → ∀ ls : Array Slot, lv_has ls 8 [(7, .int (zI v7)), (6, .int (zI (20 * v5))), (5, .int (zI v5)), (0, .ref y), (1, .ref a), (2, .int (zI x)), (3, .int (zI w)), (4, .ref f)] → W p l e rm_X9_merge s m ([.ref y, .ref a, .int (zI x), .int (zI w), .ref f] : List Value).toArray below meth c H locs 0 0 Q (F0 m 229 ls [])) ((4 - 0 : Int).toNat + 1) 0 gq1 _ _ (by omega) (by omega) hqp1 hmt1 hP hD hS ls hl
                    clear hP hD hS hl ls
                    intro n9_3
                    induction n9_3 with
                    | zero =>
                      intro v7 gq2 H locs hI hM
                      exact absurd hM (by omega)
                    | succ n9_3 ih3 =>
                      intro v7 gq2 H locs hI3 hM3 hqp2 hmt2 hP hD hS ls hl
                      refine lv_iload hx hb dX9_merge_229 (lv_at hl 0 rfl) ?_
                      refine lv_aload hx hb dX9_merge_231 (lv_at hl 7 rfl) ?_
                      refine lv_iload hx hb dX9_merge_233 (lv_at hl 1 rfl) ?_
                      refine lv_iconst (v := zI 1) hx hb dX9_merge_235 rfl ?_
                      refine r_iadd (v := zI ((20 * v5) + 1)) F dX9_merge_236 (zI_add _ _) ?_
                      refine rz_iald F hK hP 2 0 rfl rfl (by omega) (by omega) dX9_merge_237 ?_
                      have hpl381 : 0 ≤ (gq2 (((20 * v5) + 1)).toNat) ∧ (gq2 (((20 * v5) + 1)).toNat) ≤ 4 := ProgR.at hqp2.1 (e := ((20 * v5) + 1)) v5 1 (by omega) (by omega) (by decide) rfl
                      refine rz_icmp_ge (tgt := 296) F (by omega) (by omega) dX9_merge_238 (by decide) (fun h238_381 => ?_) (fun h238_381 => ?_)
                      · refine lv_iinc (v := zI (v5 + 1)) (lv' := [(5, .int (zI (v5 + 1))), (7, .int (zI v7)), (6, .int (zI (20 * v5))), (0, .ref y), (1, .ref a), (2, .int (zI x)), (3, .int (zI w)), (4, .ref f)]) hx hb dX9_merge_296 hl (k := 2) rfl (zI_add _ _) (by decide) rfl (fun ls hl => ?_)
                        refine lv_goto (tgt := 132) hx hb dX9_merge_299 (by decide) ?_
                        exact ih2 (v5 + 1) gq2 _ _ (by omega) (by omega) hqp2 hmt2 hP hD hS ls (lv_sub hl [0, 3, 4, 5, 6, 7] rfl)
                      · refine lv_aload hx hb dX9_merge_241 (lv_at hl 7 rfl) ?_
                        refine lv_iload hx hb dX9_merge_243 (lv_at hl 1 rfl) ?_
                        refine lv_iconst (v := zI 2) hx hb dX9_merge_245 rfl ?_
                        refine r_iadd (v := zI ((20 * v5) + 2)) F dX9_merge_246 (zI_add _ _) ?_
                        refine lv_iconst (v := zI 3) hx hb dX9_merge_247 rfl ?_
                        refine lv_iload hx hb dX9_merge_248 (lv_at hl 0 rfl) ?_
                        refine r_imul (v := zI (3 * v7)) F dX9_merge_250 (zI_mul _ _) ?_
                        refine r_iadd (v := zI (((20 * v5) + 2) + (3 * v7))) F dX9_merge_251 (zI_add _ _) ?_
                        refine rz_iald F hK hP 2 0 rfl rfl (by omega) (by omega) dX9_merge_252 ?_
                        have hc383 := ProgOk.act hqp2 (i := v5) (n := v7) (k := (((20 * v5) + 2) + (3 * v7))) (by omega) (by omega) (by omega)
                        refine lv_iconst (v := zI 3) hx hb dX9_merge_253 rfl ?_
                        refine rz_icmp_ne (tgt := 290) F (by omega) (by omega) dX9_merge_254 (by decide) (fun h254_383 => ?_) (fun h254_383 => ?_)
                        · refine lv_iinc (v := zI (v7 + 1)) (lv' := [(7, .int (zI (v7 + 1))), (6, .int (zI (20 * v5))), (5, .int (zI v5)), (0, .ref y), (1, .ref a), (2, .int (zI x)), (3, .int (zI w)), (4, .ref f)]) hx hb dX9_merge_290 hl (k := 0) rfl (zI_add _ _) (by decide) rfl (fun ls hl => ?_)
                          refine lv_goto (tgt := 229) hx hb dX9_merge_293 (by decide) ?_
                          exact ih3 (v7 + 1) gq2 _ _ (by omega) (by omega) hqp2 hmt2 hP hD hS ls (lv_sub hl [0, 1, 2, 3, 4, 5, 6, 7] rfl)
                        · refine lv_aload hx hb dX9_merge_257 (lv_at hl 7 rfl) ?_
                          refine lv_iload hx hb dX9_merge_259 (lv_at hl 1 rfl) ?_
                          refine lv_iconst (v := zI 2) hx hb dX9_merge_261 rfl ?_
                          refine r_iadd (v := zI ((20 * v5) + 2)) F dX9_merge_262 (zI_add _ _) ?_
                          refine lv_iconst (v := zI 3) hx hb dX9_merge_263 rfl ?_
                          refine lv_iload hx hb dX9_merge_264 (lv_at hl 0 rfl) ?_
                          refine r_imul (v := zI (3 * v7)) F dX9_merge_266 (zI_mul _ _) ?_
                          refine r_iadd (v := zI (((20 * v5) + 2) + (3 * v7))) F dX9_merge_267 (zI_add _ _) ?_
                          refine lv_iconst (v := zI 1) hx hb dX9_merge_268 rfl ?_
                          refine r_iadd (v := zI ((((20 * v5) + 2) + (3 * v7)) + 1)) F dX9_merge_269 (zI_add _ _) ?_
                          refine rz_iald F hK hP 2 0 rfl rfl (by omega) (by omega) dX9_merge_270 ?_
                          refine rz_top (fun z385 h_z385 => ?_)
                          refine lv_iload_n hx hb dX9_merge_271 rfl (lv_at hl 6 rfl) ?_
                          refine rz_icmp_ne (tgt := 290) F (by omega) (by omega) dX9_merge_272 (by decide) (fun h272_385 => ?_) (fun h272_385 => ?_)
                          · refine lv_iinc (v := zI (v7 + 1)) (lv' := [(7, .int (zI (v7 + 1))), (6, .int (zI (20 * v5))), (5, .int (zI v5)), (0, .ref y), (1, .ref a), (2, .int (zI x)), (3, .int (zI w)), (4, .ref f)]) hx hb dX9_merge_290 hl (k := 0) rfl (zI_add _ _) (by decide) rfl (fun ls hl => ?_)
                            refine lv_goto (tgt := 229) hx hb dX9_merge_293 (by decide) ?_
                            exact ih3 (v7 + 1) gq2 _ _ (by omega) (by omega) hqp2 hmt2 hP hD hS ls (lv_sub hl [0, 1, 2, 3, 4, 5, 6, 7] rfl)
                          · refine lv_aload hx hb dX9_merge_275 (lv_at hl 7 rfl) ?_
                            refine lv_iload hx hb dX9_merge_277 (lv_at hl 1 rfl) ?_
                            refine lv_iconst (v := zI 2) hx hb dX9_merge_279 rfl ?_
                            refine r_iadd (v := zI ((20 * v5) + 2)) F dX9_merge_280 (zI_add _ _) ?_
                            refine lv_iconst (v := zI 3) hx hb dX9_merge_281 rfl ?_
                            refine lv_iload hx hb dX9_merge_282 (lv_at hl 0 rfl) ?_
                            refine r_imul (v := zI (3 * v7)) F dX9_merge_284 (zI_mul _ _) ?_
                            refine r_iadd (v := zI (((20 * v5) + 2) + (3 * v7))) F dX9_merge_285 (zI_add _ _) ?_
                            refine lv_iconst (v := zI 1) hx hb dX9_merge_286 rfl ?_
                            refine r_iadd (v := zI ((((20 * v5) + 2) + (3 * v7)) + 1)) F dX9_merge_287 (zI_add _ _) ?_
                            refine lv_iload_n hx hb dX9_merge_288 rfl (lv_at hl 5 rfl) ?_
                            refine rz_iastG F hK hP hD hS 2 0 rfl rfl (by omega) (by omega) dX9_merge_289 (w1 := fun g387 => [(y, .inr (9, [.int (zI (i 0)), .ref (q 0), .int (zI (i 1)), .int (zI (i 2)), .int (zI (i 3)), .int (zI (i 4)), .int (zI (i 5)), .int (zI (i 6)), .int (zI (i 7)), .int (zI (i 8)), .int (zI (i 9)), .int (zI (i 10)), .ref (q 1), .int (zI (i 11)), .int (zI (i 12)), .ref (q 2), .ref (q 3), .ref (q 4), .ref (q 5), .ref (q 6), .ref (q 7), .ref (q 8), .ref (q 9), .ref (q 10), .ref (q 11), .ref (q 12), .ref (q 13), .ref (q 14), .ref (q 15), .ref (q 16), .int (zI (i 13)), .int (zI (i 14)), .int (zI (i 15)), .int (zI (i 16)), .int (zI (i 17)), .int (zI (i 18)), .ref (q 17), .ref (q 18), .ref (q 19), .ref (q 20)])), (a, .inl (cI, 200, .inl (fun k => zI (g_p k)))), (f, .inl (cI, 200, .inl (fun k => zI (g387 k))))]) (fun _ => rfl) (fun g387 e_g387 H locs hP hD hS => ?_)
                            have hqp388 : ProgOk g387 := ProgOk.tgt3 hqp2 e_g387 (i := v5) (n := v7) (by omega) (by omega) (by omega) (by omega) (j := (((20 * v5) + 2) + (3 * v7)).toNat) (by omega) (by omega)
                            have hmt389 := MT.keepA hmt2 e_g387 (i := v5) (n := v7) (by omega) (by omega) (by omega)
                            refine lv_iinc (v := zI (v7 + 1)) (lv' := [(7, .int (zI (v7 + 1))), (6, .int (zI (20 * v5))), (5, .int (zI v5)), (0, .ref y), (1, .ref a), (2, .int (zI x)), (3, .int (zI w)), (4, .ref f)]) hx hb dX9_merge_290 hl (k := 0) rfl (zI_add _ _) (by decide) rfl (fun ls hl => ?_)
                            refine lv_goto (tgt := 229) hx hb dX9_merge_293 (by decide) ?_
                            exact ih3 (v7 + 1) g387 _ _ (by omega) (by omega) hqp388 hmt389 hP hD hS ls (lv_sub hl [0, 1, 2, 3, 4, 5, 6, 7] rfl)
                  · refine lv_aload hx hb dX9_merge_205 (lv_at hl 6 rfl) ?_
                    refine lv_iload hx hb dX9_merge_207 (lv_at hl 0 rfl) ?_
                    refine lv_bipush (v := zI 18) hx hb dX9_merge_209 (by decide) ?_
                    refine r_iadd (v := zI ((20 * v5) + 18)) F dX9_merge_211 (zI_add _ _) ?_
                    refine rz_iald F hK hP 2 0 rfl rfl (by omega) (by omega) dX9_merge_212 ?_
                    refine rz_top (fun z390 h_z390 => ?_)
                    refine lv_iload_n hx hb dX9_merge_213 rfl (lv_at hl 5 rfl) ?_
                    refine rz_icmp_ne (tgt := 226) F (by omega) (by omega) dX9_merge_214 (by decide) (fun h214_390 => ?_) (fun h214_390 => ?_)
                    · refine lv_iconst (v := zI 0) hx hb dX9_merge_226 rfl ?_
                      refine lv_istore (lv' := [(7, .int (zI 0)), (6, .int (zI (20 * v5))), (5, .int (zI v5)), (0, .ref y), (1, .ref a), (2, .int (zI x)), (3, .int (zI w)), (4, .ref f)]) hx hb dX9_merge_227 hl (by decide) rfl (fun ls hl => ?_)
                      refine W.widen (k := 0) (n := 0) (Nat.le_of_ble_eq_true rfl) (Nat.le_of_ble_eq_true rfl) ?_
                      refine (?_ : ∀ (n9_3 : Nat) (v7 : Int) (gq2 : Nat → Int) (H : Heap) (locs : List Loc), (0 ≤ v7 ∧ v7 ≤ 4) → (4 - v7 : Int).toNat < n9_3 → (ProgOk gq2) → (MT g_p gq2 w) → va_P G vwCl [(y, .inr (9, [.int (zI (i 0)), .ref (q 0), .int (zI (i 1)), .int (zI (i 2)), .int (zI (i 3)), .int (zI (i 4)), .int (zI (i 5)), .int (zI (i 6)), .int (zI (i 7)), .int (zI (i 8)), .int (zI (i 9)), .int (zI (i 10)), .ref (q 1), .int (zI (i 11)), .int (zI (i 12)), .ref (q 2), .ref (q 3), .ref (q 4), .ref (q 5), .ref (q 6), .ref (q 7), .ref (q 8), .ref (q 9), .ref (q 10), .ref (q 11), .ref (q 12), .ref (q 13), .ref (q 14), .ref (q 15), .ref (q 16), .int (zI (i 13)), .int (zI (i 14)), .int (zI (i 15)), .int (zI (i 16)), .int (zI (i 17)), .int (zI (i 18)), .ref (q 17), .ref (q 18), .ref (q 19), .ref (q 20)])), (a, .inl (cI, 200, .inl (fun k => zI (g_p k)))), (f, .inl (cI, 200, .inl (fun k => zI (gq2 k))))] H → va_D A [(y, .inr (9, [.int (zI (i 0)), .ref (q 0), .int (zI (i 1)), .int (zI (i 2)), .int (zI (i 3)), .int (zI (i 4)), .int (zI (i 5)), .int (zI (i 6)), .int (zI (i 7)), .int (zI (i 8)), .int (zI (i 9)), .int (zI (i 10)), .ref (q 1), .int (zI (i 11)), .int (zI (i 12)), .ref (q 2), .ref (q 3), .ref (q 4), .ref (q 5), .ref (q 6), .ref (q 7), .ref (q 8), .ref (q 9), .ref (q 10), .ref (q 11), .ref (q 12), .ref (q 13), .ref (q 14), .ref (q 15), .ref (q 16), .int (zI (i 13)), .int (zI (i 14)), .int (zI (i 15)), .int (zI (i 16)), .int (zI (i 17)), .int (zI (i 18)), .ref (q 17), .ref (q 18), .ref (q 19), .ref (q 20)])), (a, .inl (cI, 200, .inl (fun k => zI (g_p k)))), (f, .inl (cI, 200, .inl (fun k => zI (gq2 k))))] → va_S A s.heap H locs → ∀ ls : Array Slot, lv_has ls 8 [(7, .int (zI v7)), (6, .int (zI (20 * v5))), (5, .int (zI v5)), (0, .ref y), (1, .ref a), (2, .int (zI x)), (3, .int (zI w)), (4, .ref f)] → W p l e rm_X9_merge s m ([.ref y, .ref a, .int (zI x), .int (zI w), .ref f] : List Value).toArray below meth c H locs 0 0 Q (F0 m 229 ls [])) ((4 - 0 : Int).toNat + 1) 0 gq1 _ _ (by omega) (by omega) hqp1 hmt1 hP hD hS ls hl
                      clear hP hD hS hl ls
                      intro n9_3
                      induction n9_3 with
                      | zero =>
                        intro v7 gq2 H locs hI hM
                        exact absurd hM (by omega)
                      | succ n9_3 ih3 =>
                        intro v7 gq2 H locs hI3 hM3 hqp2 hmt2 hP hD hS ls hl
                        refine lv_iload hx hb dX9_merge_229 (lv_at hl 0 rfl) ?_
                        refine lv_aload hx hb dX9_merge_231 (lv_at hl 7 rfl) ?_
                        refine lv_iload hx hb dX9_merge_233 (lv_at hl 1 rfl) ?_
                        refine lv_iconst (v := zI 1) hx hb dX9_merge_235 rfl ?_
                        refine r_iadd (v := zI ((20 * v5) + 1)) F dX9_merge_236 (zI_add _ _) ?_
                        refine rz_iald F hK hP 2 0 rfl rfl (by omega) (by omega) dX9_merge_237 ?_
                        have hpl392 : 0 ≤ (gq2 (((20 * v5) + 1)).toNat) ∧ (gq2 (((20 * v5) + 1)).toNat) ≤ 4 := ProgR.at hqp2.1 (e := ((20 * v5) + 1)) v5 1 (by omega) (by omega) (by decide) rfl
                        refine rz_icmp_ge (tgt := 296) F (by omega) (by omega) dX9_merge_238 (by decide) (fun h238_392 => ?_) (fun h238_392 => ?_)
                        · refine lv_iinc (v := zI (v5 + 1)) (lv' := [(5, .int (zI (v5 + 1))), (7, .int (zI v7)), (6, .int (zI (20 * v5))), (0, .ref y), (1, .ref a), (2, .int (zI x)), (3, .int (zI w)), (4, .ref f)]) hx hb dX9_merge_296 hl (k := 2) rfl (zI_add _ _) (by decide) rfl (fun ls hl => ?_)
                          refine lv_goto (tgt := 132) hx hb dX9_merge_299 (by decide) ?_
                          exact ih2 (v5 + 1) gq2 _ _ (by omega) (by omega) hqp2 hmt2 hP hD hS ls (lv_sub hl [0, 3, 4, 5, 6, 7] rfl)
                        · refine lv_aload hx hb dX9_merge_241 (lv_at hl 7 rfl) ?_
                          refine lv_iload hx hb dX9_merge_243 (lv_at hl 1 rfl) ?_
                          refine lv_iconst (v := zI 2) hx hb dX9_merge_245 rfl ?_
                          refine r_iadd (v := zI ((20 * v5) + 2)) F dX9_merge_246 (zI_add _ _) ?_
                          refine lv_iconst (v := zI 3) hx hb dX9_merge_247 rfl ?_
                          refine lv_iload hx hb dX9_merge_248 (lv_at hl 0 rfl) ?_
                          refine r_imul (v := zI (3 * v7)) F dX9_merge_250 (zI_mul _ _) ?_
                          refine r_iadd (v := zI (((20 * v5) + 2) + (3 * v7))) F dX9_merge_251 (zI_add _ _) ?_
                          refine rz_iald F hK hP 2 0 rfl rfl (by omega) (by omega) dX9_merge_252 ?_
                          have hc394 := ProgOk.act hqp2 (i := v5) (n := v7) (k := (((20 * v5) + 2) + (3 * v7))) (by omega) (by omega) (by omega)
                          refine lv_iconst (v := zI 3) hx hb dX9_merge_253 rfl ?_
                          refine rz_icmp_ne (tgt := 290) F (by omega) (by omega) dX9_merge_254 (by decide) (fun h254_394 => ?_) (fun h254_394 => ?_)
                          · refine lv_iinc (v := zI (v7 + 1)) (lv' := [(7, .int (zI (v7 + 1))), (6, .int (zI (20 * v5))), (5, .int (zI v5)), (0, .ref y), (1, .ref a), (2, .int (zI x)), (3, .int (zI w)), (4, .ref f)]) hx hb dX9_merge_290 hl (k := 0) rfl (zI_add _ _) (by decide) rfl (fun ls hl => ?_)
                            refine lv_goto (tgt := 229) hx hb dX9_merge_293 (by decide) ?_
                            exact ih3 (v7 + 1) gq2 _ _ (by omega) (by omega) hqp2 hmt2 hP hD hS ls (lv_sub hl [0, 1, 2, 3, 4, 5, 6, 7] rfl)
                          · refine lv_aload hx hb dX9_merge_257 (lv_at hl 7 rfl) ?_
                            refine lv_iload hx hb dX9_merge_259 (lv_at hl 1 rfl) ?_
                            refine lv_iconst (v := zI 2) hx hb dX9_merge_261 rfl ?_
                            refine r_iadd (v := zI ((20 * v5) + 2)) F dX9_merge_262 (zI_add _ _) ?_
                            refine lv_iconst (v := zI 3) hx hb dX9_merge_263 rfl ?_
                            refine lv_iload hx hb dX9_merge_264 (lv_at hl 0 rfl) ?_
                            refine r_imul (v := zI (3 * v7)) F dX9_merge_266 (zI_mul _ _) ?_
                            refine r_iadd (v := zI (((20 * v5) + 2) + (3 * v7))) F dX9_merge_267 (zI_add _ _) ?_
                            refine lv_iconst (v := zI 1) hx hb dX9_merge_268 rfl ?_
                            refine r_iadd (v := zI ((((20 * v5) + 2) + (3 * v7)) + 1)) F dX9_merge_269 (zI_add _ _) ?_
                            refine rz_iald F hK hP 2 0 rfl rfl (by omega) (by omega) dX9_merge_270 ?_
                            refine rz_top (fun z396 h_z396 => ?_)
                            refine lv_iload_n hx hb dX9_merge_271 rfl (lv_at hl 6 rfl) ?_
                            refine rz_icmp_ne (tgt := 290) F (by omega) (by omega) dX9_merge_272 (by decide) (fun h272_396 => ?_) (fun h272_396 => ?_)
                            · refine lv_iinc (v := zI (v7 + 1)) (lv' := [(7, .int (zI (v7 + 1))), (6, .int (zI (20 * v5))), (5, .int (zI v5)), (0, .ref y), (1, .ref a), (2, .int (zI x)), (3, .int (zI w)), (4, .ref f)]) hx hb dX9_merge_290 hl (k := 0) rfl (zI_add _ _) (by decide) rfl (fun ls hl => ?_)
                              refine lv_goto (tgt := 229) hx hb dX9_merge_293 (by decide) ?_
                              exact ih3 (v7 + 1) gq2 _ _ (by omega) (by omega) hqp2 hmt2 hP hD hS ls (lv_sub hl [0, 1, 2, 3, 4, 5, 6, 7] rfl)
                            · refine lv_aload hx hb dX9_merge_275 (lv_at hl 7 rfl) ?_
                              refine lv_iload hx hb dX9_merge_277 (lv_at hl 1 rfl) ?_
                              refine lv_iconst (v := zI 2) hx hb dX9_merge_279 rfl ?_
                              refine r_iadd (v := zI ((20 * v5) + 2)) F dX9_merge_280 (zI_add _ _) ?_
                              refine lv_iconst (v := zI 3) hx hb dX9_merge_281 rfl ?_
                              refine lv_iload hx hb dX9_merge_282 (lv_at hl 0 rfl) ?_
                              refine r_imul (v := zI (3 * v7)) F dX9_merge_284 (zI_mul _ _) ?_
                              refine r_iadd (v := zI (((20 * v5) + 2) + (3 * v7))) F dX9_merge_285 (zI_add _ _) ?_
                              refine lv_iconst (v := zI 1) hx hb dX9_merge_286 rfl ?_
                              refine r_iadd (v := zI ((((20 * v5) + 2) + (3 * v7)) + 1)) F dX9_merge_287 (zI_add _ _) ?_
                              refine lv_iload_n hx hb dX9_merge_288 rfl (lv_at hl 5 rfl) ?_
                              refine rz_iastG F hK hP hD hS 2 0 rfl rfl (by omega) (by omega) dX9_merge_289 (w1 := fun g398 => [(y, .inr (9, [.int (zI (i 0)), .ref (q 0), .int (zI (i 1)), .int (zI (i 2)), .int (zI (i 3)), .int (zI (i 4)), .int (zI (i 5)), .int (zI (i 6)), .int (zI (i 7)), .int (zI (i 8)), .int (zI (i 9)), .int (zI (i 10)), .ref (q 1), .int (zI (i 11)), .int (zI (i 12)), .ref (q 2), .ref (q 3), .ref (q 4), .ref (q 5), .ref (q 6), .ref (q 7), .ref (q 8), .ref (q 9), .ref (q 10), .ref (q 11), .ref (q 12), .ref (q 13), .ref (q 14), .ref (q 15), .ref (q 16), .int (zI (i 13)), .int (zI (i 14)), .int (zI (i 15)), .int (zI (i 16)), .int (zI (i 17)), .int (zI (i 18)), .ref (q 17), .ref (q 18), .ref (q 19), .ref (q 20)])), (a, .inl (cI, 200, .inl (fun k => zI (g_p k)))), (f, .inl (cI, 200, .inl (fun k => zI (g398 k))))]) (fun _ => rfl) (fun g398 e_g398 H locs hP hD hS => ?_)
                              have hqp399 : ProgOk g398 := ProgOk.tgt3 hqp2 e_g398 (i := v5) (n := v7) (by omega) (by omega) (by omega) (by omega) (j := (((20 * v5) + 2) + (3 * v7)).toNat) (by omega) (by omega)
                              have hmt400 := MT.keepA hmt2 e_g398 (i := v5) (n := v7) (by omega) (by omega) (by omega)
                              refine lv_iinc (v := zI (v7 + 1)) (lv' := [(7, .int (zI (v7 + 1))), (6, .int (zI (20 * v5))), (5, .int (zI v5)), (0, .ref y), (1, .ref a), (2, .int (zI x)), (3, .int (zI w)), (4, .ref f)]) hx hb dX9_merge_290 hl (k := 0) rfl (zI_add _ _) (by decide) rfl (fun ls hl => ?_)
                              refine lv_goto (tgt := 229) hx hb dX9_merge_293 (by decide) ?_
                              exact ih3 (v7 + 1) g398 _ _ (by omega) (by omega) hqp399 hmt400 hP hD hS ls (lv_sub hl [0, 1, 2, 3, 4, 5, 6, 7] rfl)
                    · refine lv_aload hx hb dX9_merge_217 (lv_at hl 6 rfl) ?_
                      refine lv_iload hx hb dX9_merge_219 (lv_at hl 0 rfl) ?_
                      refine lv_bipush (v := zI 18) hx hb dX9_merge_221 (by decide) ?_
                      refine r_iadd (v := zI ((20 * v5) + 18)) F dX9_merge_223 (zI_add _ _) ?_
                      refine lv_iload_n hx hb dX9_merge_224 rfl (lv_at hl 4 rfl) ?_
                      refine rz_iastG F hK hP hD hS 2 0 rfl rfl (by omega) (by omega) dX9_merge_225 (w1 := fun g401 => [(y, .inr (9, [.int (zI (i 0)), .ref (q 0), .int (zI (i 1)), .int (zI (i 2)), .int (zI (i 3)), .int (zI (i 4)), .int (zI (i 5)), .int (zI (i 6)), .int (zI (i 7)), .int (zI (i 8)), .int (zI (i 9)), .int (zI (i 10)), .ref (q 1), .int (zI (i 11)), .int (zI (i 12)), .ref (q 2), .ref (q 3), .ref (q 4), .ref (q 5), .ref (q 6), .ref (q 7), .ref (q 8), .ref (q 9), .ref (q 10), .ref (q 11), .ref (q 12), .ref (q 13), .ref (q 14), .ref (q 15), .ref (q 16), .int (zI (i 13)), .int (zI (i 14)), .int (zI (i 15)), .int (zI (i 16)), .int (zI (i 17)), .int (zI (i 18)), .ref (q 17), .ref (q 18), .ref (q 19), .ref (q 20)])), (a, .inl (cI, 200, .inl (fun k => zI (g_p k)))), (f, .inl (cI, 200, .inl (fun k => zI (g401 k))))]) (fun _ => rfl) (fun g401 e_g401 H locs hP hD hS => ?_)
                      have hqp402 : ProgOk g401 := ⟨hqp1.1.set (m := 9) e_g401 18 (by omega) rfl (by omega), hqp1.2.set e_g401 (by omega)⟩
                      have hmt403 := hmt1.keep e_g401 (by omega)
                      refine lv_iconst (v := zI 0) hx hb dX9_merge_226 rfl ?_
                      refine lv_istore (lv' := [(7, .int (zI 0)), (6, .int (zI (20 * v5))), (5, .int (zI v5)), (0, .ref y), (1, .ref a), (2, .int (zI x)), (3, .int (zI w)), (4, .ref f)]) hx hb dX9_merge_227 hl (by decide) rfl (fun ls hl => ?_)
                      refine W.widen (k := 0) (n := 0) (Nat.le_of_ble_eq_true rfl) (Nat.le_of_ble_eq_true rfl) ?_
                      refine (?_ : ∀ (n9_3 : Nat) (v7 : Int) (gq2 : Nat → Int) (H : Heap) (locs : List Loc), (0 ≤ v7 ∧ v7 ≤ 4) → (4 - v7 : Int).toNat < n9_3 → (ProgOk gq2) → (MT g_p gq2 w) → va_P G vwCl [(y, .inr (9, [.int (zI (i 0)), .ref (q 0), .int (zI (i 1)), .int (zI (i 2)), .int (zI (i 3)), .int (zI (i 4)), .int (zI (i 5)), .int (zI (i 6)), .int (zI (i 7)), .int (zI (i 8)), .int (zI (i 9)), .int (zI (i 10)), .ref (q 1), .int (zI (i 11)), .int (zI (i 12)), .ref (q 2), .ref (q 3), .ref (q 4), .ref (q 5), .ref (q 6), .ref (q 7), .ref (q 8), .ref (q 9), .ref (q 10), .ref (q 11), .ref (q 12), .ref (q 13), .ref (q 14), .ref (q 15), .ref (q 16), .int (zI (i 13)), .int (zI (i 14)), .int (zI (i 15)), .int (zI (i 16)), .int (zI (i 17)), .int (zI (i 18)), .ref (q 17), .ref (q 18), .ref (q 19), .ref (q 20)])), (a, .inl (cI, 200, .inl (fun k => zI (g_p k)))), (f, .inl (cI, 200, .inl (fun k => zI (gq2 k))))] H → va_D A [(y, .inr (9, [.int (zI (i 0)), .ref (q 0), .int (zI (i 1)), .int (zI (i 2)), .int (zI (i 3)), .int (zI (i 4)), .int (zI (i 5)), .int (zI (i 6)), .int (zI (i 7)), .int (zI (i 8)), .int (zI (i 9)), .int (zI (i 10)), .ref (q 1), .int (zI (i 11)), .int (zI (i 12)), .ref (q 2), .ref (q 3), .ref (q 4), .ref (q 5), .ref (q 6), .ref (q 7), .ref (q 8), .ref (q 9), .ref (q 10), .ref (q 11), .ref (q 12), .ref (q 13), .ref (q 14), .ref (q 15), .ref (q 16), .int (zI (i 13)), .int (zI (i 14)), .int (zI (i 15)), .int (zI (i 16)), .int (zI (i 17)), .int (zI (i 18)), .ref (q 17), .ref (q 18), .ref (q 19), .ref (q 20)])), (a, .inl (cI, 200, .inl (fun k => zI (g_p k)))), (f, .inl (cI, 200, .inl (fun k => zI (gq2 k))))] → va_S A s.heap H locs → ∀ ls : Array Slot, lv_has ls 8 [(7, .int (zI v7)), (6, .int (zI (20 * v5))), (5, .int (zI v5)), (0, .ref y), (1, .ref a), (2, .int (zI x)), (3, .int (zI w)), (4, .ref f)] → W p l e rm_X9_merge s m ([.ref y, .ref a, .int (zI x), .int (zI w), .ref f] : List Value).toArray below meth c H locs 0 0 Q (F0 m 229 ls [])) ((4 - 0 : Int).toNat + 1) 0 g401 _ _ (by omega) (by omega) hqp402 hmt403 hP hD hS ls hl
                      clear hP hD hS hl ls
                      intro n9_3
                      induction n9_3 with
                      | zero =>
                        intro v7 gq2 H locs hI hM
                        exact absurd hM (by omega)
                      | succ n9_3 ih3 =>
                        intro v7 gq2 H locs hI3 hM3 hqp2 hmt2 hP hD hS ls hl
                        refine lv_iload hx hb dX9_merge_229 (lv_at hl 0 rfl) ?_
                        refine lv_aload hx hb dX9_merge_231 (lv_at hl 7 rfl) ?_
                        refine lv_iload hx hb dX9_merge_233 (lv_at hl 1 rfl) ?_
                        refine lv_iconst (v := zI 1) hx hb dX9_merge_235 rfl ?_
                        refine r_iadd (v := zI ((20 * v5) + 1)) F dX9_merge_236 (zI_add _ _) ?_
                        refine rz_iald F hK hP 2 0 rfl rfl (by omega) (by omega) dX9_merge_237 ?_
                        have hpl404 : 0 ≤ (gq2 (((20 * v5) + 1)).toNat) ∧ (gq2 (((20 * v5) + 1)).toNat) ≤ 4 := ProgR.at hqp2.1 (e := ((20 * v5) + 1)) v5 1 (by omega) (by omega) (by decide) rfl
                        refine rz_icmp_ge (tgt := 296) F (by omega) (by omega) dX9_merge_238 (by decide) (fun h238_404 => ?_) (fun h238_404 => ?_)
                        · refine lv_iinc (v := zI (v5 + 1)) (lv' := [(5, .int (zI (v5 + 1))), (7, .int (zI v7)), (6, .int (zI (20 * v5))), (0, .ref y), (1, .ref a), (2, .int (zI x)), (3, .int (zI w)), (4, .ref f)]) hx hb dX9_merge_296 hl (k := 2) rfl (zI_add _ _) (by decide) rfl (fun ls hl => ?_)
                          refine lv_goto (tgt := 132) hx hb dX9_merge_299 (by decide) ?_
                          exact ih2 (v5 + 1) gq2 _ _ (by omega) (by omega) hqp2 hmt2 hP hD hS ls (lv_sub hl [0, 3, 4, 5, 6, 7] rfl)
                        · refine lv_aload hx hb dX9_merge_241 (lv_at hl 7 rfl) ?_
                          refine lv_iload hx hb dX9_merge_243 (lv_at hl 1 rfl) ?_
                          refine lv_iconst (v := zI 2) hx hb dX9_merge_245 rfl ?_
                          refine r_iadd (v := zI ((20 * v5) + 2)) F dX9_merge_246 (zI_add _ _) ?_
                          refine lv_iconst (v := zI 3) hx hb dX9_merge_247 rfl ?_
                          refine lv_iload hx hb dX9_merge_248 (lv_at hl 0 rfl) ?_
                          refine r_imul (v := zI (3 * v7)) F dX9_merge_250 (zI_mul _ _) ?_
                          refine r_iadd (v := zI (((20 * v5) + 2) + (3 * v7))) F dX9_merge_251 (zI_add _ _) ?_
                          refine rz_iald F hK hP 2 0 rfl rfl (by omega) (by omega) dX9_merge_252 ?_
                          have hc406 := ProgOk.act hqp2 (i := v5) (n := v7) (k := (((20 * v5) + 2) + (3 * v7))) (by omega) (by omega) (by omega)
                          refine lv_iconst (v := zI 3) hx hb dX9_merge_253 rfl ?_
                          refine rz_icmp_ne (tgt := 290) F (by omega) (by omega) dX9_merge_254 (by decide) (fun h254_406 => ?_) (fun h254_406 => ?_)
                          · refine lv_iinc (v := zI (v7 + 1)) (lv' := [(7, .int (zI (v7 + 1))), (6, .int (zI (20 * v5))), (5, .int (zI v5)), (0, .ref y), (1, .ref a), (2, .int (zI x)), (3, .int (zI w)), (4, .ref f)]) hx hb dX9_merge_290 hl (k := 0) rfl (zI_add _ _) (by decide) rfl (fun ls hl => ?_)
                            refine lv_goto (tgt := 229) hx hb dX9_merge_293 (by decide) ?_
                            exact ih3 (v7 + 1) gq2 _ _ (by omega) (by omega) hqp2 hmt2 hP hD hS ls (lv_sub hl [0, 1, 2, 3, 4, 5, 6, 7] rfl)
                          · refine lv_aload hx hb dX9_merge_257 (lv_at hl 7 rfl) ?_
                            refine lv_iload hx hb dX9_merge_259 (lv_at hl 1 rfl) ?_
                            refine lv_iconst (v := zI 2) hx hb dX9_merge_261 rfl ?_
                            refine r_iadd (v := zI ((20 * v5) + 2)) F dX9_merge_262 (zI_add _ _) ?_
                            refine lv_iconst (v := zI 3) hx hb dX9_merge_263 rfl ?_
                            refine lv_iload hx hb dX9_merge_264 (lv_at hl 0 rfl) ?_
                            refine r_imul (v := zI (3 * v7)) F dX9_merge_266 (zI_mul _ _) ?_
                            refine r_iadd (v := zI (((20 * v5) + 2) + (3 * v7))) F dX9_merge_267 (zI_add _ _) ?_
                            refine lv_iconst (v := zI 1) hx hb dX9_merge_268 rfl ?_
                            refine r_iadd (v := zI ((((20 * v5) + 2) + (3 * v7)) + 1)) F dX9_merge_269 (zI_add _ _) ?_
                            refine rz_iald F hK hP 2 0 rfl rfl (by omega) (by omega) dX9_merge_270 ?_
                            refine rz_top (fun z408 h_z408 => ?_)
                            refine lv_iload_n hx hb dX9_merge_271 rfl (lv_at hl 6 rfl) ?_
                            refine rz_icmp_ne (tgt := 290) F (by omega) (by omega) dX9_merge_272 (by decide) (fun h272_408 => ?_) (fun h272_408 => ?_)
                            · refine lv_iinc (v := zI (v7 + 1)) (lv' := [(7, .int (zI (v7 + 1))), (6, .int (zI (20 * v5))), (5, .int (zI v5)), (0, .ref y), (1, .ref a), (2, .int (zI x)), (3, .int (zI w)), (4, .ref f)]) hx hb dX9_merge_290 hl (k := 0) rfl (zI_add _ _) (by decide) rfl (fun ls hl => ?_)
                              refine lv_goto (tgt := 229) hx hb dX9_merge_293 (by decide) ?_
                              exact ih3 (v7 + 1) gq2 _ _ (by omega) (by omega) hqp2 hmt2 hP hD hS ls (lv_sub hl [0, 1, 2, 3, 4, 5, 6, 7] rfl)
                            · refine lv_aload hx hb dX9_merge_275 (lv_at hl 7 rfl) ?_
                              refine lv_iload hx hb dX9_merge_277 (lv_at hl 1 rfl) ?_
                              refine lv_iconst (v := zI 2) hx hb dX9_merge_279 rfl ?_
                              refine r_iadd (v := zI ((20 * v5) + 2)) F dX9_merge_280 (zI_add _ _) ?_
                              refine lv_iconst (v := zI 3) hx hb dX9_merge_281 rfl ?_
                              refine lv_iload hx hb dX9_merge_282 (lv_at hl 0 rfl) ?_
                              refine r_imul (v := zI (3 * v7)) F dX9_merge_284 (zI_mul _ _) ?_
                              refine r_iadd (v := zI (((20 * v5) + 2) + (3 * v7))) F dX9_merge_285 (zI_add _ _) ?_
                              refine lv_iconst (v := zI 1) hx hb dX9_merge_286 rfl ?_
                              refine r_iadd (v := zI ((((20 * v5) + 2) + (3 * v7)) + 1)) F dX9_merge_287 (zI_add _ _) ?_
                              refine lv_iload_n hx hb dX9_merge_288 rfl (lv_at hl 5 rfl) ?_
                              refine rz_iastG F hK hP hD hS 2 0 rfl rfl (by omega) (by omega) dX9_merge_289 (w1 := fun g410 => [(y, .inr (9, [.int (zI (i 0)), .ref (q 0), .int (zI (i 1)), .int (zI (i 2)), .int (zI (i 3)), .int (zI (i 4)), .int (zI (i 5)), .int (zI (i 6)), .int (zI (i 7)), .int (zI (i 8)), .int (zI (i 9)), .int (zI (i 10)), .ref (q 1), .int (zI (i 11)), .int (zI (i 12)), .ref (q 2), .ref (q 3), .ref (q 4), .ref (q 5), .ref (q 6), .ref (q 7), .ref (q 8), .ref (q 9), .ref (q 10), .ref (q 11), .ref (q 12), .ref (q 13), .ref (q 14), .ref (q 15), .ref (q 16), .int (zI (i 13)), .int (zI (i 14)), .int (zI (i 15)), .int (zI (i 16)), .int (zI (i 17)), .int (zI (i 18)), .ref (q 17), .ref (q 18), .ref (q 19), .ref (q 20)])), (a, .inl (cI, 200, .inl (fun k => zI (g_p k)))), (f, .inl (cI, 200, .inl (fun k => zI (g410 k))))]) (fun _ => rfl) (fun g410 e_g410 H locs hP hD hS => ?_)
                              have hqp411 : ProgOk g410 := ProgOk.tgt3 hqp2 e_g410 (i := v5) (n := v7) (by omega) (by omega) (by omega) (by omega) (j := (((20 * v5) + 2) + (3 * v7)).toNat) (by omega) (by omega)
                              have hmt412 := MT.keepA hmt2 e_g410 (i := v5) (n := v7) (by omega) (by omega) (by omega)
                              refine lv_iinc (v := zI (v7 + 1)) (lv' := [(7, .int (zI (v7 + 1))), (6, .int (zI (20 * v5))), (5, .int (zI v5)), (0, .ref y), (1, .ref a), (2, .int (zI x)), (3, .int (zI w)), (4, .ref f)]) hx hb dX9_merge_290 hl (k := 0) rfl (zI_add _ _) (by decide) rfl (fun ls hl => ?_)
                              refine lv_goto (tgt := 229) hx hb dX9_merge_293 (by decide) ?_
                              exact ih3 (v7 + 1) g410 _ _ (by omega) (by omega) hqp411 hmt412 hP hD hS ls (lv_sub hl [0, 1, 2, 3, 4, 5, 6, 7] rfl)
                · refine lv_aload hx hb dX9_merge_172 (lv_at hl 6 rfl) ?_
                  refine lv_iload hx hb dX9_merge_174 (lv_at hl 0 rfl) ?_
                  refine lv_bipush (v := zI 16) hx hb dX9_merge_176 (by decide) ?_
                  refine r_iadd (v := zI ((20 * v5) + 16)) F dX9_merge_178 (zI_add _ _) ?_
                  refine rz_iald F hK hP 2 0 rfl rfl (by omega) (by omega) dX9_merge_179 ?_
                  refine rz_top (fun z413 h_z413 => ?_)
                  refine lv_iload_n hx hb dX9_merge_180 rfl (lv_at hl 5 rfl) ?_
                  refine rz_icmp_ne (tgt := 193) F (by omega) (by omega) dX9_merge_181 (by decide) (fun h181_413 => ?_) (fun h181_413 => ?_)
                  · refine lv_aload hx hb dX9_merge_193 (lv_at hl 6 rfl) ?_
                    refine lv_iload hx hb dX9_merge_195 (lv_at hl 0 rfl) ?_
                    refine lv_bipush (v := zI 14) hx hb dX9_merge_197 (by decide) ?_
                    refine r_iadd (v := zI ((20 * v5) + 14)) F dX9_merge_199 (zI_add _ _) ?_
                    refine rz_iald F hK hP 2 0 rfl rfl (by omega) (by omega) dX9_merge_200 ?_
                    refine rz_top (fun z415 h_z415 => ?_)
                    refine lv_iconst (v := zI 2) hx hb dX9_merge_201 rfl ?_
                    refine rz_icmp_ne (tgt := 226) F (by omega) (by omega) dX9_merge_202 (by decide) (fun h202_415 => ?_) (fun h202_415 => ?_)
                    · refine lv_iconst (v := zI 0) hx hb dX9_merge_226 rfl ?_
                      refine lv_istore (lv' := [(7, .int (zI 0)), (6, .int (zI (20 * v5))), (5, .int (zI v5)), (0, .ref y), (1, .ref a), (2, .int (zI x)), (3, .int (zI w)), (4, .ref f)]) hx hb dX9_merge_227 hl (by decide) rfl (fun ls hl => ?_)
                      refine W.widen (k := 0) (n := 0) (Nat.le_of_ble_eq_true rfl) (Nat.le_of_ble_eq_true rfl) ?_
                      refine (?_ : ∀ (n9_3 : Nat) (v7 : Int) (gq2 : Nat → Int) (H : Heap) (locs : List Loc), (0 ≤ v7 ∧ v7 ≤ 4) → (4 - v7 : Int).toNat < n9_3 → (ProgOk gq2) → (MT g_p gq2 w) → va_P G vwCl [(y, .inr (9, [.int (zI (i 0)), .ref (q 0), .int (zI (i 1)), .int (zI (i 2)), .int (zI (i 3)), .int (zI (i 4)), .int (zI (i 5)), .int (zI (i 6)), .int (zI (i 7)), .int (zI (i 8)), .int (zI (i 9)), .int (zI (i 10)), .ref (q 1), .int (zI (i 11)), .int (zI (i 12)), .ref (q 2), .ref (q 3), .ref (q 4), .ref (q 5), .ref (q 6), .ref (q 7), .ref (q 8), .ref (q 9), .ref (q 10), .ref (q 11), .ref (q 12), .ref (q 13), .ref (q 14), .ref (q 15), .ref (q 16), .int (zI (i 13)), .int (zI (i 14)), .int (zI (i 15)), .int (zI (i 16)), .int (zI (i 17)), .int (zI (i 18)), .ref (q 17), .ref (q 18), .ref (q 19), .ref (q 20)])), (a, .inl (cI, 200, .inl (fun k => zI (g_p k)))), (f, .inl (cI, 200, .inl (fun k => zI (gq2 k))))] H → va_D A [(y, .inr (9, [.int (zI (i 0)), .ref (q 0), .int (zI (i 1)), .int (zI (i 2)), .int (zI (i 3)), .int (zI (i 4)), .int (zI (i 5)), .int (zI (i 6)), .int (zI (i 7)), .int (zI (i 8)), .int (zI (i 9)), .int (zI (i 10)), .ref (q 1), .int (zI (i 11)), .int (zI (i 12)), .ref (q 2), .ref (q 3), .ref (q 4), .ref (q 5), .ref (q 6), .ref (q 7), .ref (q 8), .ref (q 9), .ref (q 10), .ref (q 11), .ref (q 12), .ref (q 13), .ref (q 14), .ref (q 15), .ref (q 16), .int (zI (i 13)), .int (zI (i 14)), .int (zI (i 15)), .int (zI (i 16)), .int (zI (i 17)), .int (zI (i 18)), .ref (q 17), .ref (q 18), .ref (q 19), .ref (q 20)])), (a, .inl (cI, 200, .inl (fun k => zI (g_p k)))), (f, .inl (cI, 200, .inl (fun k => zI (gq2 k))))] → va_S A s.heap H locs → ∀ ls : Array Slot, lv_has ls 8 [(7, .int (zI v7)), (6, .int (zI (20 * v5))), (5, .int (zI v5)), (0, .ref y), (1, .ref a), (2, .int (zI x)), (3, .int (zI w)), (4, .ref f)] → W p l e rm_X9_merge s m ([.ref y, .ref a, .int (zI x), .int (zI w), .ref f] : List Value).toArray below meth c H locs 0 0 Q (F0 m 229 ls [])) ((4 - 0 : Int).toNat + 1) 0 gq1 _ _ (by omega) (by omega) hqp1 hmt1 hP hD hS ls hl
                      clear hP hD hS hl ls
                      intro n9_3
                      induction n9_3 with
                      | zero =>
                        intro v7 gq2 H locs hI hM
                        exact absurd hM (by omega)
                      | succ n9_3 ih3 =>
                        intro v7 gq2 H locs hI3 hM3 hqp2 hmt2 hP hD hS ls hl
                        refine lv_iload hx hb dX9_merge_229 (lv_at hl 0 rfl) ?_
                        refine lv_aload hx hb dX9_merge_231 (lv_at hl 7 rfl) ?_
                        refine lv_iload hx hb dX9_merge_233 (lv_at hl 1 rfl) ?_
                        refine lv_iconst (v := zI 1) hx hb dX9_merge_235 rfl ?_
                        refine r_iadd (v := zI ((20 * v5) + 1)) F dX9_merge_236 (zI_add _ _) ?_
                        refine rz_iald F hK hP 2 0 rfl rfl (by omega) (by omega) dX9_merge_237 ?_
                        have hpl417 : 0 ≤ (gq2 (((20 * v5) + 1)).toNat) ∧ (gq2 (((20 * v5) + 1)).toNat) ≤ 4 := ProgR.at hqp2.1 (e := ((20 * v5) + 1)) v5 1 (by omega) (by omega) (by decide) rfl
                        refine rz_icmp_ge (tgt := 296) F (by omega) (by omega) dX9_merge_238 (by decide) (fun h238_417 => ?_) (fun h238_417 => ?_)
                        · refine lv_iinc (v := zI (v5 + 1)) (lv' := [(5, .int (zI (v5 + 1))), (7, .int (zI v7)), (6, .int (zI (20 * v5))), (0, .ref y), (1, .ref a), (2, .int (zI x)), (3, .int (zI w)), (4, .ref f)]) hx hb dX9_merge_296 hl (k := 2) rfl (zI_add _ _) (by decide) rfl (fun ls hl => ?_)
                          refine lv_goto (tgt := 132) hx hb dX9_merge_299 (by decide) ?_
                          exact ih2 (v5 + 1) gq2 _ _ (by omega) (by omega) hqp2 hmt2 hP hD hS ls (lv_sub hl [0, 3, 4, 5, 6, 7] rfl)
                        · refine lv_aload hx hb dX9_merge_241 (lv_at hl 7 rfl) ?_
                          refine lv_iload hx hb dX9_merge_243 (lv_at hl 1 rfl) ?_
                          refine lv_iconst (v := zI 2) hx hb dX9_merge_245 rfl ?_
                          refine r_iadd (v := zI ((20 * v5) + 2)) F dX9_merge_246 (zI_add _ _) ?_
                          refine lv_iconst (v := zI 3) hx hb dX9_merge_247 rfl ?_
                          refine lv_iload hx hb dX9_merge_248 (lv_at hl 0 rfl) ?_
                          refine r_imul (v := zI (3 * v7)) F dX9_merge_250 (zI_mul _ _) ?_
                          refine r_iadd (v := zI (((20 * v5) + 2) + (3 * v7))) F dX9_merge_251 (zI_add _ _) ?_
                          refine rz_iald F hK hP 2 0 rfl rfl (by omega) (by omega) dX9_merge_252 ?_
                          have hc419 := ProgOk.act hqp2 (i := v5) (n := v7) (k := (((20 * v5) + 2) + (3 * v7))) (by omega) (by omega) (by omega)
                          refine lv_iconst (v := zI 3) hx hb dX9_merge_253 rfl ?_
                          refine rz_icmp_ne (tgt := 290) F (by omega) (by omega) dX9_merge_254 (by decide) (fun h254_419 => ?_) (fun h254_419 => ?_)
                          · refine lv_iinc (v := zI (v7 + 1)) (lv' := [(7, .int (zI (v7 + 1))), (6, .int (zI (20 * v5))), (5, .int (zI v5)), (0, .ref y), (1, .ref a), (2, .int (zI x)), (3, .int (zI w)), (4, .ref f)]) hx hb dX9_merge_290 hl (k := 0) rfl (zI_add _ _) (by decide) rfl (fun ls hl => ?_)
                            refine lv_goto (tgt := 229) hx hb dX9_merge_293 (by decide) ?_
                            exact ih3 (v7 + 1) gq2 _ _ (by omega) (by omega) hqp2 hmt2 hP hD hS ls (lv_sub hl [0, 1, 2, 3, 4, 5, 6, 7] rfl)
                          · refine lv_aload hx hb dX9_merge_257 (lv_at hl 7 rfl) ?_
                            refine lv_iload hx hb dX9_merge_259 (lv_at hl 1 rfl) ?_
                            refine lv_iconst (v := zI 2) hx hb dX9_merge_261 rfl ?_
                            refine r_iadd (v := zI ((20 * v5) + 2)) F dX9_merge_262 (zI_add _ _) ?_
                            refine lv_iconst (v := zI 3) hx hb dX9_merge_263 rfl ?_
                            refine lv_iload hx hb dX9_merge_264 (lv_at hl 0 rfl) ?_
                            refine r_imul (v := zI (3 * v7)) F dX9_merge_266 (zI_mul _ _) ?_
                            refine r_iadd (v := zI (((20 * v5) + 2) + (3 * v7))) F dX9_merge_267 (zI_add _ _) ?_
                            refine lv_iconst (v := zI 1) hx hb dX9_merge_268 rfl ?_
                            refine r_iadd (v := zI ((((20 * v5) + 2) + (3 * v7)) + 1)) F dX9_merge_269 (zI_add _ _) ?_
                            refine rz_iald F hK hP 2 0 rfl rfl (by omega) (by omega) dX9_merge_270 ?_
                            refine rz_top (fun z421 h_z421 => ?_)
                            refine lv_iload_n hx hb dX9_merge_271 rfl (lv_at hl 6 rfl) ?_
                            refine rz_icmp_ne (tgt := 290) F (by omega) (by omega) dX9_merge_272 (by decide) (fun h272_421 => ?_) (fun h272_421 => ?_)
                            · refine lv_iinc (v := zI (v7 + 1)) (lv' := [(7, .int (zI (v7 + 1))), (6, .int (zI (20 * v5))), (5, .int (zI v5)), (0, .ref y), (1, .ref a), (2, .int (zI x)), (3, .int (zI w)), (4, .ref f)]) hx hb dX9_merge_290 hl (k := 0) rfl (zI_add _ _) (by decide) rfl (fun ls hl => ?_)
                              refine lv_goto (tgt := 229) hx hb dX9_merge_293 (by decide) ?_
                              exact ih3 (v7 + 1) gq2 _ _ (by omega) (by omega) hqp2 hmt2 hP hD hS ls (lv_sub hl [0, 1, 2, 3, 4, 5, 6, 7] rfl)
                            · refine lv_aload hx hb dX9_merge_275 (lv_at hl 7 rfl) ?_
                              refine lv_iload hx hb dX9_merge_277 (lv_at hl 1 rfl) ?_
                              refine lv_iconst (v := zI 2) hx hb dX9_merge_279 rfl ?_
                              refine r_iadd (v := zI ((20 * v5) + 2)) F dX9_merge_280 (zI_add _ _) ?_
                              refine lv_iconst (v := zI 3) hx hb dX9_merge_281 rfl ?_
                              refine lv_iload hx hb dX9_merge_282 (lv_at hl 0 rfl) ?_
                              refine r_imul (v := zI (3 * v7)) F dX9_merge_284 (zI_mul _ _) ?_
                              refine r_iadd (v := zI (((20 * v5) + 2) + (3 * v7))) F dX9_merge_285 (zI_add _ _) ?_
                              refine lv_iconst (v := zI 1) hx hb dX9_merge_286 rfl ?_
                              refine r_iadd (v := zI ((((20 * v5) + 2) + (3 * v7)) + 1)) F dX9_merge_287 (zI_add _ _) ?_
                              refine lv_iload_n hx hb dX9_merge_288 rfl (lv_at hl 5 rfl) ?_
                              refine rz_iastG F hK hP hD hS 2 0 rfl rfl (by omega) (by omega) dX9_merge_289 (w1 := fun g423 => [(y, .inr (9, [.int (zI (i 0)), .ref (q 0), .int (zI (i 1)), .int (zI (i 2)), .int (zI (i 3)), .int (zI (i 4)), .int (zI (i 5)), .int (zI (i 6)), .int (zI (i 7)), .int (zI (i 8)), .int (zI (i 9)), .int (zI (i 10)), .ref (q 1), .int (zI (i 11)), .int (zI (i 12)), .ref (q 2), .ref (q 3), .ref (q 4), .ref (q 5), .ref (q 6), .ref (q 7), .ref (q 8), .ref (q 9), .ref (q 10), .ref (q 11), .ref (q 12), .ref (q 13), .ref (q 14), .ref (q 15), .ref (q 16), .int (zI (i 13)), .int (zI (i 14)), .int (zI (i 15)), .int (zI (i 16)), .int (zI (i 17)), .int (zI (i 18)), .ref (q 17), .ref (q 18), .ref (q 19), .ref (q 20)])), (a, .inl (cI, 200, .inl (fun k => zI (g_p k)))), (f, .inl (cI, 200, .inl (fun k => zI (g423 k))))]) (fun _ => rfl) (fun g423 e_g423 H locs hP hD hS => ?_)
                              have hqp424 : ProgOk g423 := ProgOk.tgt3 hqp2 e_g423 (i := v5) (n := v7) (by omega) (by omega) (by omega) (by omega) (j := (((20 * v5) + 2) + (3 * v7)).toNat) (by omega) (by omega)
                              have hmt425 := MT.keepA hmt2 e_g423 (i := v5) (n := v7) (by omega) (by omega) (by omega)
                              refine lv_iinc (v := zI (v7 + 1)) (lv' := [(7, .int (zI (v7 + 1))), (6, .int (zI (20 * v5))), (5, .int (zI v5)), (0, .ref y), (1, .ref a), (2, .int (zI x)), (3, .int (zI w)), (4, .ref f)]) hx hb dX9_merge_290 hl (k := 0) rfl (zI_add _ _) (by decide) rfl (fun ls hl => ?_)
                              refine lv_goto (tgt := 229) hx hb dX9_merge_293 (by decide) ?_
                              exact ih3 (v7 + 1) g423 _ _ (by omega) (by omega) hqp424 hmt425 hP hD hS ls (lv_sub hl [0, 1, 2, 3, 4, 5, 6, 7] rfl)
                    · refine lv_aload hx hb dX9_merge_205 (lv_at hl 6 rfl) ?_
                      refine lv_iload hx hb dX9_merge_207 (lv_at hl 0 rfl) ?_
                      refine lv_bipush (v := zI 18) hx hb dX9_merge_209 (by decide) ?_
                      refine r_iadd (v := zI ((20 * v5) + 18)) F dX9_merge_211 (zI_add _ _) ?_
                      refine rz_iald F hK hP 2 0 rfl rfl (by omega) (by omega) dX9_merge_212 ?_
                      refine rz_top (fun z426 h_z426 => ?_)
                      refine lv_iload_n hx hb dX9_merge_213 rfl (lv_at hl 5 rfl) ?_
                      refine rz_icmp_ne (tgt := 226) F (by omega) (by omega) dX9_merge_214 (by decide) (fun h214_426 => ?_) (fun h214_426 => ?_)
                      · refine lv_iconst (v := zI 0) hx hb dX9_merge_226 rfl ?_
                        refine lv_istore (lv' := [(7, .int (zI 0)), (6, .int (zI (20 * v5))), (5, .int (zI v5)), (0, .ref y), (1, .ref a), (2, .int (zI x)), (3, .int (zI w)), (4, .ref f)]) hx hb dX9_merge_227 hl (by decide) rfl (fun ls hl => ?_)
                        refine W.widen (k := 0) (n := 0) (Nat.le_of_ble_eq_true rfl) (Nat.le_of_ble_eq_true rfl) ?_
                        refine (?_ : ∀ (n9_3 : Nat) (v7 : Int) (gq2 : Nat → Int) (H : Heap) (locs : List Loc), (0 ≤ v7 ∧ v7 ≤ 4) → (4 - v7 : Int).toNat < n9_3 → (ProgOk gq2) → (MT g_p gq2 w) → va_P G vwCl [(y, .inr (9, [.int (zI (i 0)), .ref (q 0), .int (zI (i 1)), .int (zI (i 2)), .int (zI (i 3)), .int (zI (i 4)), .int (zI (i 5)), .int (zI (i 6)), .int (zI (i 7)), .int (zI (i 8)), .int (zI (i 9)), .int (zI (i 10)), .ref (q 1), .int (zI (i 11)), .int (zI (i 12)), .ref (q 2), .ref (q 3), .ref (q 4), .ref (q 5), .ref (q 6), .ref (q 7), .ref (q 8), .ref (q 9), .ref (q 10), .ref (q 11), .ref (q 12), .ref (q 13), .ref (q 14), .ref (q 15), .ref (q 16), .int (zI (i 13)), .int (zI (i 14)), .int (zI (i 15)), .int (zI (i 16)), .int (zI (i 17)), .int (zI (i 18)), .ref (q 17), .ref (q 18), .ref (q 19), .ref (q 20)])), (a, .inl (cI, 200, .inl (fun k => zI (g_p k)))), (f, .inl (cI, 200, .inl (fun k => zI (gq2 k))))] H → va_D A [(y, .inr (9, [.int (zI (i 0)), .ref (q 0), .int (zI (i 1)), .int (zI (i 2)), .int (zI (i 3)), .int (zI (i 4)), .int (zI (i 5)), .int (zI (i 6)), .int (zI (i 7)), .int (zI (i 8)), .int (zI (i 9)), .int (zI (i 10)), .ref (q 1), .int (zI (i 11)), .int (zI (i 12)), .ref (q 2), .ref (q 3), .ref (q 4), .ref (q 5), .ref (q 6), .ref (q 7), .ref (q 8), .ref (q 9), .ref (q 10), .ref (q 11), .ref (q 12), .ref (q 13), .ref (q 14), .ref (q 15), .ref (q 16), .int (zI (i 13)), .int (zI (i 14)), .int (zI (i 15)), .int (zI (i 16)), .int (zI (i 17)), .int (zI (i 18)), .ref (q 17), .ref (q 18), .ref (q 19), .ref (q 20)])), (a, .inl (cI, 200, .inl (fun k => zI (g_p k)))), (f, .inl (cI, 200, .inl (fun k => zI (gq2 k))))] → va_S A s.heap H locs → ∀ ls : Array Slot, lv_has ls 8 [(7, .int (zI v7)), (6, .int (zI (20 * v5))), (5, .int (zI v5)), (0, .ref y), (1, .ref a), (2, .int (zI x)), (3, .int (zI w)), (4, .ref f)] → W p l e rm_X9_merge s m ([.ref y, .ref a, .int (zI x), .int (zI w), .ref f] : List Value).toArray below meth c H locs 0 0 Q (F0 m 229 ls [])) ((4 - 0 : Int).toNat + 1) 0 gq1 _ _ (by omega) (by omega) hqp1 hmt1 hP hD hS ls hl
                        clear hP hD hS hl ls
                        intro n9_3
                        induction n9_3 with
                        | zero =>
                          intro v7 gq2 H locs hI hM
                          exact absurd hM (by omega)
                        | succ n9_3 ih3 =>
                          intro v7 gq2 H locs hI3 hM3 hqp2 hmt2 hP hD hS ls hl
                          refine lv_iload hx hb dX9_merge_229 (lv_at hl 0 rfl) ?_
                          refine lv_aload hx hb dX9_merge_231 (lv_at hl 7 rfl) ?_
                          refine lv_iload hx hb dX9_merge_233 (lv_at hl 1 rfl) ?_
                          refine lv_iconst (v := zI 1) hx hb dX9_merge_235 rfl ?_
                          refine r_iadd (v := zI ((20 * v5) + 1)) F dX9_merge_236 (zI_add _ _) ?_
                          refine rz_iald F hK hP 2 0 rfl rfl (by omega) (by omega) dX9_merge_237 ?_
                          have hpl428 : 0 ≤ (gq2 (((20 * v5) + 1)).toNat) ∧ (gq2 (((20 * v5) + 1)).toNat) ≤ 4 := ProgR.at hqp2.1 (e := ((20 * v5) + 1)) v5 1 (by omega) (by omega) (by decide) rfl
                          refine rz_icmp_ge (tgt := 296) F (by omega) (by omega) dX9_merge_238 (by decide) (fun h238_428 => ?_) (fun h238_428 => ?_)
                          · refine lv_iinc (v := zI (v5 + 1)) (lv' := [(5, .int (zI (v5 + 1))), (7, .int (zI v7)), (6, .int (zI (20 * v5))), (0, .ref y), (1, .ref a), (2, .int (zI x)), (3, .int (zI w)), (4, .ref f)]) hx hb dX9_merge_296 hl (k := 2) rfl (zI_add _ _) (by decide) rfl (fun ls hl => ?_)
                            refine lv_goto (tgt := 132) hx hb dX9_merge_299 (by decide) ?_
                            exact ih2 (v5 + 1) gq2 _ _ (by omega) (by omega) hqp2 hmt2 hP hD hS ls (lv_sub hl [0, 3, 4, 5, 6, 7] rfl)
                          · refine lv_aload hx hb dX9_merge_241 (lv_at hl 7 rfl) ?_
                            refine lv_iload hx hb dX9_merge_243 (lv_at hl 1 rfl) ?_
                            refine lv_iconst (v := zI 2) hx hb dX9_merge_245 rfl ?_
                            refine r_iadd (v := zI ((20 * v5) + 2)) F dX9_merge_246 (zI_add _ _) ?_
                            refine lv_iconst (v := zI 3) hx hb dX9_merge_247 rfl ?_
                            refine lv_iload hx hb dX9_merge_248 (lv_at hl 0 rfl) ?_
                            refine r_imul (v := zI (3 * v7)) F dX9_merge_250 (zI_mul _ _) ?_
                            refine r_iadd (v := zI (((20 * v5) + 2) + (3 * v7))) F dX9_merge_251 (zI_add _ _) ?_
                            refine rz_iald F hK hP 2 0 rfl rfl (by omega) (by omega) dX9_merge_252 ?_
                            have hc430 := ProgOk.act hqp2 (i := v5) (n := v7) (k := (((20 * v5) + 2) + (3 * v7))) (by omega) (by omega) (by omega)
                            refine lv_iconst (v := zI 3) hx hb dX9_merge_253 rfl ?_
                            refine rz_icmp_ne (tgt := 290) F (by omega) (by omega) dX9_merge_254 (by decide) (fun h254_430 => ?_) (fun h254_430 => ?_)
                            · refine lv_iinc (v := zI (v7 + 1)) (lv' := [(7, .int (zI (v7 + 1))), (6, .int (zI (20 * v5))), (5, .int (zI v5)), (0, .ref y), (1, .ref a), (2, .int (zI x)), (3, .int (zI w)), (4, .ref f)]) hx hb dX9_merge_290 hl (k := 0) rfl (zI_add _ _) (by decide) rfl (fun ls hl => ?_)
                              refine lv_goto (tgt := 229) hx hb dX9_merge_293 (by decide) ?_
                              exact ih3 (v7 + 1) gq2 _ _ (by omega) (by omega) hqp2 hmt2 hP hD hS ls (lv_sub hl [0, 1, 2, 3, 4, 5, 6, 7] rfl)
                            · refine lv_aload hx hb dX9_merge_257 (lv_at hl 7 rfl) ?_
                              refine lv_iload hx hb dX9_merge_259 (lv_at hl 1 rfl) ?_
                              refine lv_iconst (v := zI 2) hx hb dX9_merge_261 rfl ?_
                              refine r_iadd (v := zI ((20 * v5) + 2)) F dX9_merge_262 (zI_add _ _) ?_
                              refine lv_iconst (v := zI 3) hx hb dX9_merge_263 rfl ?_
                              refine lv_iload hx hb dX9_merge_264 (lv_at hl 0 rfl) ?_
                              refine r_imul (v := zI (3 * v7)) F dX9_merge_266 (zI_mul _ _) ?_
                              refine r_iadd (v := zI (((20 * v5) + 2) + (3 * v7))) F dX9_merge_267 (zI_add _ _) ?_
                              refine lv_iconst (v := zI 1) hx hb dX9_merge_268 rfl ?_
                              refine r_iadd (v := zI ((((20 * v5) + 2) + (3 * v7)) + 1)) F dX9_merge_269 (zI_add _ _) ?_
                              refine rz_iald F hK hP 2 0 rfl rfl (by omega) (by omega) dX9_merge_270 ?_
                              refine rz_top (fun z432 h_z432 => ?_)
                              refine lv_iload_n hx hb dX9_merge_271 rfl (lv_at hl 6 rfl) ?_
                              refine rz_icmp_ne (tgt := 290) F (by omega) (by omega) dX9_merge_272 (by decide) (fun h272_432 => ?_) (fun h272_432 => ?_)
                              · refine lv_iinc (v := zI (v7 + 1)) (lv' := [(7, .int (zI (v7 + 1))), (6, .int (zI (20 * v5))), (5, .int (zI v5)), (0, .ref y), (1, .ref a), (2, .int (zI x)), (3, .int (zI w)), (4, .ref f)]) hx hb dX9_merge_290 hl (k := 0) rfl (zI_add _ _) (by decide) rfl (fun ls hl => ?_)
                                refine lv_goto (tgt := 229) hx hb dX9_merge_293 (by decide) ?_
                                exact ih3 (v7 + 1) gq2 _ _ (by omega) (by omega) hqp2 hmt2 hP hD hS ls (lv_sub hl [0, 1, 2, 3, 4, 5, 6, 7] rfl)
                              · refine lv_aload hx hb dX9_merge_275 (lv_at hl 7 rfl) ?_
                                refine lv_iload hx hb dX9_merge_277 (lv_at hl 1 rfl) ?_
                                refine lv_iconst (v := zI 2) hx hb dX9_merge_279 rfl ?_
                                refine r_iadd (v := zI ((20 * v5) + 2)) F dX9_merge_280 (zI_add _ _) ?_
                                refine lv_iconst (v := zI 3) hx hb dX9_merge_281 rfl ?_
                                refine lv_iload hx hb dX9_merge_282 (lv_at hl 0 rfl) ?_
                                refine r_imul (v := zI (3 * v7)) F dX9_merge_284 (zI_mul _ _) ?_
                                refine r_iadd (v := zI (((20 * v5) + 2) + (3 * v7))) F dX9_merge_285 (zI_add _ _) ?_
                                refine lv_iconst (v := zI 1) hx hb dX9_merge_286 rfl ?_
                                refine r_iadd (v := zI ((((20 * v5) + 2) + (3 * v7)) + 1)) F dX9_merge_287 (zI_add _ _) ?_
                                refine lv_iload_n hx hb dX9_merge_288 rfl (lv_at hl 5 rfl) ?_
                                refine rz_iastG F hK hP hD hS 2 0 rfl rfl (by omega) (by omega) dX9_merge_289 (w1 := fun g434 => [(y, .inr (9, [.int (zI (i 0)), .ref (q 0), .int (zI (i 1)), .int (zI (i 2)), .int (zI (i 3)), .int (zI (i 4)), .int (zI (i 5)), .int (zI (i 6)), .int (zI (i 7)), .int (zI (i 8)), .int (zI (i 9)), .int (zI (i 10)), .ref (q 1), .int (zI (i 11)), .int (zI (i 12)), .ref (q 2), .ref (q 3), .ref (q 4), .ref (q 5), .ref (q 6), .ref (q 7), .ref (q 8), .ref (q 9), .ref (q 10), .ref (q 11), .ref (q 12), .ref (q 13), .ref (q 14), .ref (q 15), .ref (q 16), .int (zI (i 13)), .int (zI (i 14)), .int (zI (i 15)), .int (zI (i 16)), .int (zI (i 17)), .int (zI (i 18)), .ref (q 17), .ref (q 18), .ref (q 19), .ref (q 20)])), (a, .inl (cI, 200, .inl (fun k => zI (g_p k)))), (f, .inl (cI, 200, .inl (fun k => zI (g434 k))))]) (fun _ => rfl) (fun g434 e_g434 H locs hP hD hS => ?_)
                                have hqp435 : ProgOk g434 := ProgOk.tgt3 hqp2 e_g434 (i := v5) (n := v7) (by omega) (by omega) (by omega) (by omega) (j := (((20 * v5) + 2) + (3 * v7)).toNat) (by omega) (by omega)
                                have hmt436 := MT.keepA hmt2 e_g434 (i := v5) (n := v7) (by omega) (by omega) (by omega)
                                refine lv_iinc (v := zI (v7 + 1)) (lv' := [(7, .int (zI (v7 + 1))), (6, .int (zI (20 * v5))), (5, .int (zI v5)), (0, .ref y), (1, .ref a), (2, .int (zI x)), (3, .int (zI w)), (4, .ref f)]) hx hb dX9_merge_290 hl (k := 0) rfl (zI_add _ _) (by decide) rfl (fun ls hl => ?_)
                                refine lv_goto (tgt := 229) hx hb dX9_merge_293 (by decide) ?_
                                exact ih3 (v7 + 1) g434 _ _ (by omega) (by omega) hqp435 hmt436 hP hD hS ls (lv_sub hl [0, 1, 2, 3, 4, 5, 6, 7] rfl)
                      · refine lv_aload hx hb dX9_merge_217 (lv_at hl 6 rfl) ?_
                        refine lv_iload hx hb dX9_merge_219 (lv_at hl 0 rfl) ?_
                        refine lv_bipush (v := zI 18) hx hb dX9_merge_221 (by decide) ?_
                        refine r_iadd (v := zI ((20 * v5) + 18)) F dX9_merge_223 (zI_add _ _) ?_
                        refine lv_iload_n hx hb dX9_merge_224 rfl (lv_at hl 4 rfl) ?_
                        refine rz_iastG F hK hP hD hS 2 0 rfl rfl (by omega) (by omega) dX9_merge_225 (w1 := fun g437 => [(y, .inr (9, [.int (zI (i 0)), .ref (q 0), .int (zI (i 1)), .int (zI (i 2)), .int (zI (i 3)), .int (zI (i 4)), .int (zI (i 5)), .int (zI (i 6)), .int (zI (i 7)), .int (zI (i 8)), .int (zI (i 9)), .int (zI (i 10)), .ref (q 1), .int (zI (i 11)), .int (zI (i 12)), .ref (q 2), .ref (q 3), .ref (q 4), .ref (q 5), .ref (q 6), .ref (q 7), .ref (q 8), .ref (q 9), .ref (q 10), .ref (q 11), .ref (q 12), .ref (q 13), .ref (q 14), .ref (q 15), .ref (q 16), .int (zI (i 13)), .int (zI (i 14)), .int (zI (i 15)), .int (zI (i 16)), .int (zI (i 17)), .int (zI (i 18)), .ref (q 17), .ref (q 18), .ref (q 19), .ref (q 20)])), (a, .inl (cI, 200, .inl (fun k => zI (g_p k)))), (f, .inl (cI, 200, .inl (fun k => zI (g437 k))))]) (fun _ => rfl) (fun g437 e_g437 H locs hP hD hS => ?_)
                        have hqp438 : ProgOk g437 := ⟨hqp1.1.set (m := 9) e_g437 18 (by omega) rfl (by omega), hqp1.2.set e_g437 (by omega)⟩
                        have hmt439 := hmt1.keep e_g437 (by omega)
                        refine lv_iconst (v := zI 0) hx hb dX9_merge_226 rfl ?_
                        refine lv_istore (lv' := [(7, .int (zI 0)), (6, .int (zI (20 * v5))), (5, .int (zI v5)), (0, .ref y), (1, .ref a), (2, .int (zI x)), (3, .int (zI w)), (4, .ref f)]) hx hb dX9_merge_227 hl (by decide) rfl (fun ls hl => ?_)
                        refine W.widen (k := 0) (n := 0) (Nat.le_of_ble_eq_true rfl) (Nat.le_of_ble_eq_true rfl) ?_
                        refine (?_ : ∀ (n9_3 : Nat) (v7 : Int) (gq2 : Nat → Int) (H : Heap) (locs : List Loc), (0 ≤ v7 ∧ v7 ≤ 4) → (4 - v7 : Int).toNat < n9_3 → (ProgOk gq2) → (MT g_p gq2 w) → va_P G vwCl [(y, .inr (9, [.int (zI (i 0)), .ref (q 0), .int (zI (i 1)), .int (zI (i 2)), .int (zI (i 3)), .int (zI (i 4)), .int (zI (i 5)), .int (zI (i 6)), .int (zI (i 7)), .int (zI (i 8)), .int (zI (i 9)), .int (zI (i 10)), .ref (q 1), .int (zI (i 11)), .int (zI (i 12)), .ref (q 2), .ref (q 3), .ref (q 4), .ref (q 5), .ref (q 6), .ref (q 7), .ref (q 8), .ref (q 9), .ref (q 10), .ref (q 11), .ref (q 12), .ref (q 13), .ref (q 14), .ref (q 15), .ref (q 16), .int (zI (i 13)), .int (zI (i 14)), .int (zI (i 15)), .int (zI (i 16)), .int (zI (i 17)), .int (zI (i 18)), .ref (q 17), .ref (q 18), .ref (q 19), .ref (q 20)])), (a, .inl (cI, 200, .inl (fun k => zI (g_p k)))), (f, .inl (cI, 200, .inl (fun k => zI (gq2 k))))] H → va_D A [(y, .inr (9, [.int (zI (i 0)), .ref (q 0), .int (zI (i 1)), .int (zI (i 2)), .int (zI (i 3)), .int (zI (i 4)), .int (zI (i 5)), .int (zI (i 6)), .int (zI (i 7)), .int (zI (i 8)), .int (zI (i 9)), .int (zI (i 10)), .ref (q 1), .int (zI (i 11)), .int (zI (i 12)), .ref (q 2), .ref (q 3), .ref (q 4), .ref (q 5), .ref (q 6), .ref (q 7), .ref (q 8), .ref (q 9), .ref (q 10), .ref (q 11), .ref (q 12), .ref (q 13), .ref (q 14), .ref (q 15), .ref (q 16), .int (zI (i 13)), .int (zI (i 14)), .int (zI (i 15)), .int (zI (i 16)), .int (zI (i 17)), .int (zI (i 18)), .ref (q 17), .ref (q 18), .ref (q 19), .ref (q 20)])), (a, .inl (cI, 200, .inl (fun k => zI (g_p k)))), (f, .inl (cI, 200, .inl (fun k => zI (gq2 k))))] → va_S A s.heap H locs → ∀ ls : Array Slot, lv_has ls 8 [(7, .int (zI v7)), (6, .int (zI (20 * v5))), (5, .int (zI v5)), (0, .ref y), (1, .ref a), (2, .int (zI x)), (3, .int (zI w)), (4, .ref f)] → W p l e rm_X9_merge s m ([.ref y, .ref a, .int (zI x), .int (zI w), .ref f] : List Value).toArray below meth c H locs 0 0 Q (F0 m 229 ls [])) ((4 - 0 : Int).toNat + 1) 0 g437 _ _ (by omega) (by omega) hqp438 hmt439 hP hD hS ls hl
                        clear hP hD hS hl ls
                        intro n9_3
                        induction n9_3 with
                        | zero =>
                          intro v7 gq2 H locs hI hM
                          exact absurd hM (by omega)
                        | succ n9_3 ih3 =>
                          intro v7 gq2 H locs hI3 hM3 hqp2 hmt2 hP hD hS ls hl
                          refine lv_iload hx hb dX9_merge_229 (lv_at hl 0 rfl) ?_
                          refine lv_aload hx hb dX9_merge_231 (lv_at hl 7 rfl) ?_
                          refine lv_iload hx hb dX9_merge_233 (lv_at hl 1 rfl) ?_
                          refine lv_iconst (v := zI 1) hx hb dX9_merge_235 rfl ?_
                          refine r_iadd (v := zI ((20 * v5) + 1)) F dX9_merge_236 (zI_add _ _) ?_
                          refine rz_iald F hK hP 2 0 rfl rfl (by omega) (by omega) dX9_merge_237 ?_
                          have hpl440 : 0 ≤ (gq2 (((20 * v5) + 1)).toNat) ∧ (gq2 (((20 * v5) + 1)).toNat) ≤ 4 := ProgR.at hqp2.1 (e := ((20 * v5) + 1)) v5 1 (by omega) (by omega) (by decide) rfl
                          refine rz_icmp_ge (tgt := 296) F (by omega) (by omega) dX9_merge_238 (by decide) (fun h238_440 => ?_) (fun h238_440 => ?_)
                          · refine lv_iinc (v := zI (v5 + 1)) (lv' := [(5, .int (zI (v5 + 1))), (7, .int (zI v7)), (6, .int (zI (20 * v5))), (0, .ref y), (1, .ref a), (2, .int (zI x)), (3, .int (zI w)), (4, .ref f)]) hx hb dX9_merge_296 hl (k := 2) rfl (zI_add _ _) (by decide) rfl (fun ls hl => ?_)
                            refine lv_goto (tgt := 132) hx hb dX9_merge_299 (by decide) ?_
                            exact ih2 (v5 + 1) gq2 _ _ (by omega) (by omega) hqp2 hmt2 hP hD hS ls (lv_sub hl [0, 3, 4, 5, 6, 7] rfl)
                          · refine lv_aload hx hb dX9_merge_241 (lv_at hl 7 rfl) ?_
                            refine lv_iload hx hb dX9_merge_243 (lv_at hl 1 rfl) ?_
                            refine lv_iconst (v := zI 2) hx hb dX9_merge_245 rfl ?_
                            refine r_iadd (v := zI ((20 * v5) + 2)) F dX9_merge_246 (zI_add _ _) ?_
                            refine lv_iconst (v := zI 3) hx hb dX9_merge_247 rfl ?_
                            refine lv_iload hx hb dX9_merge_248 (lv_at hl 0 rfl) ?_
                            refine r_imul (v := zI (3 * v7)) F dX9_merge_250 (zI_mul _ _) ?_
                            refine r_iadd (v := zI (((20 * v5) + 2) + (3 * v7))) F dX9_merge_251 (zI_add _ _) ?_
                            refine rz_iald F hK hP 2 0 rfl rfl (by omega) (by omega) dX9_merge_252 ?_
                            have hc442 := ProgOk.act hqp2 (i := v5) (n := v7) (k := (((20 * v5) + 2) + (3 * v7))) (by omega) (by omega) (by omega)
                            refine lv_iconst (v := zI 3) hx hb dX9_merge_253 rfl ?_
                            refine rz_icmp_ne (tgt := 290) F (by omega) (by omega) dX9_merge_254 (by decide) (fun h254_442 => ?_) (fun h254_442 => ?_)
                            · refine lv_iinc (v := zI (v7 + 1)) (lv' := [(7, .int (zI (v7 + 1))), (6, .int (zI (20 * v5))), (5, .int (zI v5)), (0, .ref y), (1, .ref a), (2, .int (zI x)), (3, .int (zI w)), (4, .ref f)]) hx hb dX9_merge_290 hl (k := 0) rfl (zI_add _ _) (by decide) rfl (fun ls hl => ?_)
                              refine lv_goto (tgt := 229) hx hb dX9_merge_293 (by decide) ?_
                              exact ih3 (v7 + 1) gq2 _ _ (by omega) (by omega) hqp2 hmt2 hP hD hS ls (lv_sub hl [0, 1, 2, 3, 4, 5, 6, 7] rfl)
                            · refine lv_aload hx hb dX9_merge_257 (lv_at hl 7 rfl) ?_
                              refine lv_iload hx hb dX9_merge_259 (lv_at hl 1 rfl) ?_
                              refine lv_iconst (v := zI 2) hx hb dX9_merge_261 rfl ?_
                              refine r_iadd (v := zI ((20 * v5) + 2)) F dX9_merge_262 (zI_add _ _) ?_
                              refine lv_iconst (v := zI 3) hx hb dX9_merge_263 rfl ?_
                              refine lv_iload hx hb dX9_merge_264 (lv_at hl 0 rfl) ?_
                              refine r_imul (v := zI (3 * v7)) F dX9_merge_266 (zI_mul _ _) ?_
                              refine r_iadd (v := zI (((20 * v5) + 2) + (3 * v7))) F dX9_merge_267 (zI_add _ _) ?_
                              refine lv_iconst (v := zI 1) hx hb dX9_merge_268 rfl ?_
                              refine r_iadd (v := zI ((((20 * v5) + 2) + (3 * v7)) + 1)) F dX9_merge_269 (zI_add _ _) ?_
                              refine rz_iald F hK hP 2 0 rfl rfl (by omega) (by omega) dX9_merge_270 ?_
                              refine rz_top (fun z444 h_z444 => ?_)
                              refine lv_iload_n hx hb dX9_merge_271 rfl (lv_at hl 6 rfl) ?_
                              refine rz_icmp_ne (tgt := 290) F (by omega) (by omega) dX9_merge_272 (by decide) (fun h272_444 => ?_) (fun h272_444 => ?_)
                              · refine lv_iinc (v := zI (v7 + 1)) (lv' := [(7, .int (zI (v7 + 1))), (6, .int (zI (20 * v5))), (5, .int (zI v5)), (0, .ref y), (1, .ref a), (2, .int (zI x)), (3, .int (zI w)), (4, .ref f)]) hx hb dX9_merge_290 hl (k := 0) rfl (zI_add _ _) (by decide) rfl (fun ls hl => ?_)
                                refine lv_goto (tgt := 229) hx hb dX9_merge_293 (by decide) ?_
                                exact ih3 (v7 + 1) gq2 _ _ (by omega) (by omega) hqp2 hmt2 hP hD hS ls (lv_sub hl [0, 1, 2, 3, 4, 5, 6, 7] rfl)
                              · refine lv_aload hx hb dX9_merge_275 (lv_at hl 7 rfl) ?_
                                refine lv_iload hx hb dX9_merge_277 (lv_at hl 1 rfl) ?_
                                refine lv_iconst (v := zI 2) hx hb dX9_merge_279 rfl ?_
                                refine r_iadd (v := zI ((20 * v5) + 2)) F dX9_merge_280 (zI_add _ _) ?_
                                refine lv_iconst (v := zI 3) hx hb dX9_merge_281 rfl ?_
                                refine lv_iload hx hb dX9_merge_282 (lv_at hl 0 rfl) ?_
                                refine r_imul (v := zI (3 * v7)) F dX9_merge_284 (zI_mul _ _) ?_
                                refine r_iadd (v := zI (((20 * v5) + 2) + (3 * v7))) F dX9_merge_285 (zI_add _ _) ?_
                                refine lv_iconst (v := zI 1) hx hb dX9_merge_286 rfl ?_
                                refine r_iadd (v := zI ((((20 * v5) + 2) + (3 * v7)) + 1)) F dX9_merge_287 (zI_add _ _) ?_
                                refine lv_iload_n hx hb dX9_merge_288 rfl (lv_at hl 5 rfl) ?_
                                refine rz_iastG F hK hP hD hS 2 0 rfl rfl (by omega) (by omega) dX9_merge_289 (w1 := fun g446 => [(y, .inr (9, [.int (zI (i 0)), .ref (q 0), .int (zI (i 1)), .int (zI (i 2)), .int (zI (i 3)), .int (zI (i 4)), .int (zI (i 5)), .int (zI (i 6)), .int (zI (i 7)), .int (zI (i 8)), .int (zI (i 9)), .int (zI (i 10)), .ref (q 1), .int (zI (i 11)), .int (zI (i 12)), .ref (q 2), .ref (q 3), .ref (q 4), .ref (q 5), .ref (q 6), .ref (q 7), .ref (q 8), .ref (q 9), .ref (q 10), .ref (q 11), .ref (q 12), .ref (q 13), .ref (q 14), .ref (q 15), .ref (q 16), .int (zI (i 13)), .int (zI (i 14)), .int (zI (i 15)), .int (zI (i 16)), .int (zI (i 17)), .int (zI (i 18)), .ref (q 17), .ref (q 18), .ref (q 19), .ref (q 20)])), (a, .inl (cI, 200, .inl (fun k => zI (g_p k)))), (f, .inl (cI, 200, .inl (fun k => zI (g446 k))))]) (fun _ => rfl) (fun g446 e_g446 H locs hP hD hS => ?_)
                                have hqp447 : ProgOk g446 := ProgOk.tgt3 hqp2 e_g446 (i := v5) (n := v7) (by omega) (by omega) (by omega) (by omega) (j := (((20 * v5) + 2) + (3 * v7)).toNat) (by omega) (by omega)
                                have hmt448 := MT.keepA hmt2 e_g446 (i := v5) (n := v7) (by omega) (by omega) (by omega)
                                refine lv_iinc (v := zI (v7 + 1)) (lv' := [(7, .int (zI (v7 + 1))), (6, .int (zI (20 * v5))), (5, .int (zI v5)), (0, .ref y), (1, .ref a), (2, .int (zI x)), (3, .int (zI w)), (4, .ref f)]) hx hb dX9_merge_290 hl (k := 0) rfl (zI_add _ _) (by decide) rfl (fun ls hl => ?_)
                                refine lv_goto (tgt := 229) hx hb dX9_merge_293 (by decide) ?_
                                exact ih3 (v7 + 1) g446 _ _ (by omega) (by omega) hqp447 hmt448 hP hD hS ls (lv_sub hl [0, 1, 2, 3, 4, 5, 6, 7] rfl)
                  · refine lv_aload hx hb dX9_merge_184 (lv_at hl 6 rfl) ?_
                    refine lv_iload hx hb dX9_merge_186 (lv_at hl 0 rfl) ?_
                    refine lv_bipush (v := zI 16) hx hb dX9_merge_188 (by decide) ?_
                    refine r_iadd (v := zI ((20 * v5) + 16)) F dX9_merge_190 (zI_add _ _) ?_
                    refine lv_iload_n hx hb dX9_merge_191 rfl (lv_at hl 4 rfl) ?_
                    refine rz_iastG F hK hP hD hS 2 0 rfl rfl (by omega) (by omega) dX9_merge_192 (w1 := fun g449 => [(y, .inr (9, [.int (zI (i 0)), .ref (q 0), .int (zI (i 1)), .int (zI (i 2)), .int (zI (i 3)), .int (zI (i 4)), .int (zI (i 5)), .int (zI (i 6)), .int (zI (i 7)), .int (zI (i 8)), .int (zI (i 9)), .int (zI (i 10)), .ref (q 1), .int (zI (i 11)), .int (zI (i 12)), .ref (q 2), .ref (q 3), .ref (q 4), .ref (q 5), .ref (q 6), .ref (q 7), .ref (q 8), .ref (q 9), .ref (q 10), .ref (q 11), .ref (q 12), .ref (q 13), .ref (q 14), .ref (q 15), .ref (q 16), .int (zI (i 13)), .int (zI (i 14)), .int (zI (i 15)), .int (zI (i 16)), .int (zI (i 17)), .int (zI (i 18)), .ref (q 17), .ref (q 18), .ref (q 19), .ref (q 20)])), (a, .inl (cI, 200, .inl (fun k => zI (g_p k)))), (f, .inl (cI, 200, .inl (fun k => zI (g449 k))))]) (fun _ => rfl) (fun g449 e_g449 H locs hP hD hS => ?_)
                    have hqp450 : ProgOk g449 := ⟨hqp1.1.set (m := 9) e_g449 16 (by omega) rfl (by omega), hqp1.2.set e_g449 (by omega)⟩
                    have hmt451 := hmt1.keep e_g449 (by omega)
                    refine lv_aload hx hb dX9_merge_193 (lv_at hl 6 rfl) ?_
                    refine lv_iload hx hb dX9_merge_195 (lv_at hl 0 rfl) ?_
                    refine lv_bipush (v := zI 14) hx hb dX9_merge_197 (by decide) ?_
                    refine r_iadd (v := zI ((20 * v5) + 14)) F dX9_merge_199 (zI_add _ _) ?_
                    refine rz_iald F hK hP 2 0 rfl rfl (by omega) (by omega) dX9_merge_200 ?_
                    refine rz_top (fun z452 h_z452 => ?_)
                    refine lv_iconst (v := zI 2) hx hb dX9_merge_201 rfl ?_
                    refine rz_icmp_ne (tgt := 226) F (by omega) (by omega) dX9_merge_202 (by decide) (fun h202_452 => ?_) (fun h202_452 => ?_)
                    · refine lv_iconst (v := zI 0) hx hb dX9_merge_226 rfl ?_
                      refine lv_istore (lv' := [(7, .int (zI 0)), (6, .int (zI (20 * v5))), (5, .int (zI v5)), (0, .ref y), (1, .ref a), (2, .int (zI x)), (3, .int (zI w)), (4, .ref f)]) hx hb dX9_merge_227 hl (by decide) rfl (fun ls hl => ?_)
                      refine W.widen (k := 0) (n := 0) (Nat.le_of_ble_eq_true rfl) (Nat.le_of_ble_eq_true rfl) ?_
                      refine (?_ : ∀ (n9_3 : Nat) (v7 : Int) (gq2 : Nat → Int) (H : Heap) (locs : List Loc), (0 ≤ v7 ∧ v7 ≤ 4) → (4 - v7 : Int).toNat < n9_3 → (ProgOk gq2) → (MT g_p gq2 w) → va_P G vwCl [(y, .inr (9, [.int (zI (i 0)), .ref (q 0), .int (zI (i 1)), .int (zI (i 2)), .int (zI (i 3)), .int (zI (i 4)), .int (zI (i 5)), .int (zI (i 6)), .int (zI (i 7)), .int (zI (i 8)), .int (zI (i 9)), .int (zI (i 10)), .ref (q 1), .int (zI (i 11)), .int (zI (i 12)), .ref (q 2), .ref (q 3), .ref (q 4), .ref (q 5), .ref (q 6), .ref (q 7), .ref (q 8), .ref (q 9), .ref (q 10), .ref (q 11), .ref (q 12), .ref (q 13), .ref (q 14), .ref (q 15), .ref (q 16), .int (zI (i 13)), .int (zI (i 14)), .int (zI (i 15)), .int (zI (i 16)), .int (zI (i 17)), .int (zI (i 18)), .ref (q 17), .ref (q 18), .ref (q 19), .ref (q 20)])), (a, .inl (cI, 200, .inl (fun k => zI (g_p k)))), (f, .inl (cI, 200, .inl (fun k => zI (gq2 k))))] H → va_D A [(y, .inr (9, [.int (zI (i 0)), .ref (q 0), .int (zI (i 1)), .int (zI (i 2)), .int (zI (i 3)), .int (zI (i 4)), .int (zI (i 5)), .int (zI (i 6)), .int (zI (i 7)), .int (zI (i 8)), .int (zI (i 9)), .int (zI (i 10)), .ref (q 1), .int (zI (i 11)), .int (zI (i 12)), .ref (q 2), .ref (q 3), .ref (q 4), .ref (q 5), .ref (q 6), .ref (q 7), .ref (q 8), .ref (q 9), .ref (q 10), .ref (q 11), .ref (q 12), .ref (q 13), .ref (q 14), .ref (q 15), .ref (q 16), .int (zI (i 13)), .int (zI (i 14)), .int (zI (i 15)), .int (zI (i 16)), .int (zI (i 17)), .int (zI (i 18)), .ref (q 17), .ref (q 18), .ref (q 19), .ref (q 20)])), (a, .inl (cI, 200, .inl (fun k => zI (g_p k)))), (f, .inl (cI, 200, .inl (fun k => zI (gq2 k))))] → va_S A s.heap H locs → ∀ ls : Array Slot, lv_has ls 8 [(7, .int (zI v7)), (6, .int (zI (20 * v5))), (5, .int (zI v5)), (0, .ref y), (1, .ref a), (2, .int (zI x)), (3, .int (zI w)), (4, .ref f)] → W p l e rm_X9_merge s m ([.ref y, .ref a, .int (zI x), .int (zI w), .ref f] : List Value).toArray below meth c H locs 0 0 Q (F0 m 229 ls [])) ((4 - 0 : Int).toNat + 1) 0 g449 _ _ (by omega) (by omega) hqp450 hmt451 hP hD hS ls hl
                      clear hP hD hS hl ls
                      intro n9_3
                      induction n9_3 with
                      | zero =>
                        intro v7 gq2 H locs hI hM
                        exact absurd hM (by omega)
                      | succ n9_3 ih3 =>
                        intro v7 gq2 H locs hI3 hM3 hqp2 hmt2 hP hD hS ls hl
                        refine lv_iload hx hb dX9_merge_229 (lv_at hl 0 rfl) ?_
                        refine lv_aload hx hb dX9_merge_231 (lv_at hl 7 rfl) ?_
                        refine lv_iload hx hb dX9_merge_233 (lv_at hl 1 rfl) ?_
                        refine lv_iconst (v := zI 1) hx hb dX9_merge_235 rfl ?_
                        refine r_iadd (v := zI ((20 * v5) + 1)) F dX9_merge_236 (zI_add _ _) ?_
                        refine rz_iald F hK hP 2 0 rfl rfl (by omega) (by omega) dX9_merge_237 ?_
                        have hpl454 : 0 ≤ (gq2 (((20 * v5) + 1)).toNat) ∧ (gq2 (((20 * v5) + 1)).toNat) ≤ 4 := ProgR.at hqp2.1 (e := ((20 * v5) + 1)) v5 1 (by omega) (by omega) (by decide) rfl
                        refine rz_icmp_ge (tgt := 296) F (by omega) (by omega) dX9_merge_238 (by decide) (fun h238_454 => ?_) (fun h238_454 => ?_)
                        · refine lv_iinc (v := zI (v5 + 1)) (lv' := [(5, .int (zI (v5 + 1))), (7, .int (zI v7)), (6, .int (zI (20 * v5))), (0, .ref y), (1, .ref a), (2, .int (zI x)), (3, .int (zI w)), (4, .ref f)]) hx hb dX9_merge_296 hl (k := 2) rfl (zI_add _ _) (by decide) rfl (fun ls hl => ?_)
                          refine lv_goto (tgt := 132) hx hb dX9_merge_299 (by decide) ?_
                          exact ih2 (v5 + 1) gq2 _ _ (by omega) (by omega) hqp2 hmt2 hP hD hS ls (lv_sub hl [0, 3, 4, 5, 6, 7] rfl)
                        · refine lv_aload hx hb dX9_merge_241 (lv_at hl 7 rfl) ?_
                          refine lv_iload hx hb dX9_merge_243 (lv_at hl 1 rfl) ?_
                          refine lv_iconst (v := zI 2) hx hb dX9_merge_245 rfl ?_
                          refine r_iadd (v := zI ((20 * v5) + 2)) F dX9_merge_246 (zI_add _ _) ?_
                          refine lv_iconst (v := zI 3) hx hb dX9_merge_247 rfl ?_
                          refine lv_iload hx hb dX9_merge_248 (lv_at hl 0 rfl) ?_
                          refine r_imul (v := zI (3 * v7)) F dX9_merge_250 (zI_mul _ _) ?_
                          refine r_iadd (v := zI (((20 * v5) + 2) + (3 * v7))) F dX9_merge_251 (zI_add _ _) ?_
                          refine rz_iald F hK hP 2 0 rfl rfl (by omega) (by omega) dX9_merge_252 ?_
                          have hc456 := ProgOk.act hqp2 (i := v5) (n := v7) (k := (((20 * v5) + 2) + (3 * v7))) (by omega) (by omega) (by omega)
                          refine lv_iconst (v := zI 3) hx hb dX9_merge_253 rfl ?_
                          refine rz_icmp_ne (tgt := 290) F (by omega) (by omega) dX9_merge_254 (by decide) (fun h254_456 => ?_) (fun h254_456 => ?_)
                          · refine lv_iinc (v := zI (v7 + 1)) (lv' := [(7, .int (zI (v7 + 1))), (6, .int (zI (20 * v5))), (5, .int (zI v5)), (0, .ref y), (1, .ref a), (2, .int (zI x)), (3, .int (zI w)), (4, .ref f)]) hx hb dX9_merge_290 hl (k := 0) rfl (zI_add _ _) (by decide) rfl (fun ls hl => ?_)
                            refine lv_goto (tgt := 229) hx hb dX9_merge_293 (by decide) ?_
                            exact ih3 (v7 + 1) gq2 _ _ (by omega) (by omega) hqp2 hmt2 hP hD hS ls (lv_sub hl [0, 1, 2, 3, 4, 5, 6, 7] rfl)
                          · refine lv_aload hx hb dX9_merge_257 (lv_at hl 7 rfl) ?_
                            refine lv_iload hx hb dX9_merge_259 (lv_at hl 1 rfl) ?_
                            refine lv_iconst (v := zI 2) hx hb dX9_merge_261 rfl ?_
                            refine r_iadd (v := zI ((20 * v5) + 2)) F dX9_merge_262 (zI_add _ _) ?_
                            refine lv_iconst (v := zI 3) hx hb dX9_merge_263 rfl ?_
                            refine lv_iload hx hb dX9_merge_264 (lv_at hl 0 rfl) ?_
                            refine r_imul (v := zI (3 * v7)) F dX9_merge_266 (zI_mul _ _) ?_
                            refine r_iadd (v := zI (((20 * v5) + 2) + (3 * v7))) F dX9_merge_267 (zI_add _ _) ?_
                            refine lv_iconst (v := zI 1) hx hb dX9_merge_268 rfl ?_
                            refine r_iadd (v := zI ((((20 * v5) + 2) + (3 * v7)) + 1)) F dX9_merge_269 (zI_add _ _) ?_
                            refine rz_iald F hK hP 2 0 rfl rfl (by omega) (by omega) dX9_merge_270 ?_
                            refine rz_top (fun z458 h_z458 => ?_)
                            refine lv_iload_n hx hb dX9_merge_271 rfl (lv_at hl 6 rfl) ?_
                            refine rz_icmp_ne (tgt := 290) F (by omega) (by omega) dX9_merge_272 (by decide) (fun h272_458 => ?_) (fun h272_458 => ?_)
                            · refine lv_iinc (v := zI (v7 + 1)) (lv' := [(7, .int (zI (v7 + 1))), (6, .int (zI (20 * v5))), (5, .int (zI v5)), (0, .ref y), (1, .ref a), (2, .int (zI x)), (3, .int (zI w)), (4, .ref f)]) hx hb dX9_merge_290 hl (k := 0) rfl (zI_add _ _) (by decide) rfl (fun ls hl => ?_)
                              refine lv_goto (tgt := 229) hx hb dX9_merge_293 (by decide) ?_
                              exact ih3 (v7 + 1) gq2 _ _ (by omega) (by omega) hqp2 hmt2 hP hD hS ls (lv_sub hl [0, 1, 2, 3, 4, 5, 6, 7] rfl)
                            · refine lv_aload hx hb dX9_merge_275 (lv_at hl 7 rfl) ?_
                              refine lv_iload hx hb dX9_merge_277 (lv_at hl 1 rfl) ?_
                              refine lv_iconst (v := zI 2) hx hb dX9_merge_279 rfl ?_
                              refine r_iadd (v := zI ((20 * v5) + 2)) F dX9_merge_280 (zI_add _ _) ?_
                              refine lv_iconst (v := zI 3) hx hb dX9_merge_281 rfl ?_
                              refine lv_iload hx hb dX9_merge_282 (lv_at hl 0 rfl) ?_
                              refine r_imul (v := zI (3 * v7)) F dX9_merge_284 (zI_mul _ _) ?_
                              refine r_iadd (v := zI (((20 * v5) + 2) + (3 * v7))) F dX9_merge_285 (zI_add _ _) ?_
                              refine lv_iconst (v := zI 1) hx hb dX9_merge_286 rfl ?_
                              refine r_iadd (v := zI ((((20 * v5) + 2) + (3 * v7)) + 1)) F dX9_merge_287 (zI_add _ _) ?_
                              refine lv_iload_n hx hb dX9_merge_288 rfl (lv_at hl 5 rfl) ?_
                              refine rz_iastG F hK hP hD hS 2 0 rfl rfl (by omega) (by omega) dX9_merge_289 (w1 := fun g460 => [(y, .inr (9, [.int (zI (i 0)), .ref (q 0), .int (zI (i 1)), .int (zI (i 2)), .int (zI (i 3)), .int (zI (i 4)), .int (zI (i 5)), .int (zI (i 6)), .int (zI (i 7)), .int (zI (i 8)), .int (zI (i 9)), .int (zI (i 10)), .ref (q 1), .int (zI (i 11)), .int (zI (i 12)), .ref (q 2), .ref (q 3), .ref (q 4), .ref (q 5), .ref (q 6), .ref (q 7), .ref (q 8), .ref (q 9), .ref (q 10), .ref (q 11), .ref (q 12), .ref (q 13), .ref (q 14), .ref (q 15), .ref (q 16), .int (zI (i 13)), .int (zI (i 14)), .int (zI (i 15)), .int (zI (i 16)), .int (zI (i 17)), .int (zI (i 18)), .ref (q 17), .ref (q 18), .ref (q 19), .ref (q 20)])), (a, .inl (cI, 200, .inl (fun k => zI (g_p k)))), (f, .inl (cI, 200, .inl (fun k => zI (g460 k))))]) (fun _ => rfl) (fun g460 e_g460 H locs hP hD hS => ?_)
                              have hqp461 : ProgOk g460 := ProgOk.tgt3 hqp2 e_g460 (i := v5) (n := v7) (by omega) (by omega) (by omega) (by omega) (j := (((20 * v5) + 2) + (3 * v7)).toNat) (by omega) (by omega)
                              have hmt462 := MT.keepA hmt2 e_g460 (i := v5) (n := v7) (by omega) (by omega) (by omega)
                              refine lv_iinc (v := zI (v7 + 1)) (lv' := [(7, .int (zI (v7 + 1))), (6, .int (zI (20 * v5))), (5, .int (zI v5)), (0, .ref y), (1, .ref a), (2, .int (zI x)), (3, .int (zI w)), (4, .ref f)]) hx hb dX9_merge_290 hl (k := 0) rfl (zI_add _ _) (by decide) rfl (fun ls hl => ?_)
                              refine lv_goto (tgt := 229) hx hb dX9_merge_293 (by decide) ?_
                              exact ih3 (v7 + 1) g460 _ _ (by omega) (by omega) hqp461 hmt462 hP hD hS ls (lv_sub hl [0, 1, 2, 3, 4, 5, 6, 7] rfl)
                    · refine lv_aload hx hb dX9_merge_205 (lv_at hl 6 rfl) ?_
                      refine lv_iload hx hb dX9_merge_207 (lv_at hl 0 rfl) ?_
                      refine lv_bipush (v := zI 18) hx hb dX9_merge_209 (by decide) ?_
                      refine r_iadd (v := zI ((20 * v5) + 18)) F dX9_merge_211 (zI_add _ _) ?_
                      refine rz_iald F hK hP 2 0 rfl rfl (by omega) (by omega) dX9_merge_212 ?_
                      refine rz_top (fun z463 h_z463 => ?_)
                      refine lv_iload_n hx hb dX9_merge_213 rfl (lv_at hl 5 rfl) ?_
                      refine rz_icmp_ne (tgt := 226) F (by omega) (by omega) dX9_merge_214 (by decide) (fun h214_463 => ?_) (fun h214_463 => ?_)
                      · refine lv_iconst (v := zI 0) hx hb dX9_merge_226 rfl ?_
                        refine lv_istore (lv' := [(7, .int (zI 0)), (6, .int (zI (20 * v5))), (5, .int (zI v5)), (0, .ref y), (1, .ref a), (2, .int (zI x)), (3, .int (zI w)), (4, .ref f)]) hx hb dX9_merge_227 hl (by decide) rfl (fun ls hl => ?_)
                        refine W.widen (k := 0) (n := 0) (Nat.le_of_ble_eq_true rfl) (Nat.le_of_ble_eq_true rfl) ?_
                        refine (?_ : ∀ (n9_3 : Nat) (v7 : Int) (gq2 : Nat → Int) (H : Heap) (locs : List Loc), (0 ≤ v7 ∧ v7 ≤ 4) → (4 - v7 : Int).toNat < n9_3 → (ProgOk gq2) → (MT g_p gq2 w) → va_P G vwCl [(y, .inr (9, [.int (zI (i 0)), .ref (q 0), .int (zI (i 1)), .int (zI (i 2)), .int (zI (i 3)), .int (zI (i 4)), .int (zI (i 5)), .int (zI (i 6)), .int (zI (i 7)), .int (zI (i 8)), .int (zI (i 9)), .int (zI (i 10)), .ref (q 1), .int (zI (i 11)), .int (zI (i 12)), .ref (q 2), .ref (q 3), .ref (q 4), .ref (q 5), .ref (q 6), .ref (q 7), .ref (q 8), .ref (q 9), .ref (q 10), .ref (q 11), .ref (q 12), .ref (q 13), .ref (q 14), .ref (q 15), .ref (q 16), .int (zI (i 13)), .int (zI (i 14)), .int (zI (i 15)), .int (zI (i 16)), .int (zI (i 17)), .int (zI (i 18)), .ref (q 17), .ref (q 18), .ref (q 19), .ref (q 20)])), (a, .inl (cI, 200, .inl (fun k => zI (g_p k)))), (f, .inl (cI, 200, .inl (fun k => zI (gq2 k))))] H → va_D A [(y, .inr (9, [.int (zI (i 0)), .ref (q 0), .int (zI (i 1)), .int (zI (i 2)), .int (zI (i 3)), .int (zI (i 4)), .int (zI (i 5)), .int (zI (i 6)), .int (zI (i 7)), .int (zI (i 8)), .int (zI (i 9)), .int (zI (i 10)), .ref (q 1), .int (zI (i 11)), .int (zI (i 12)), .ref (q 2), .ref (q 3), .ref (q 4), .ref (q 5), .ref (q 6), .ref (q 7), .ref (q 8), .ref (q 9), .ref (q 10), .ref (q 11), .ref (q 12), .ref (q 13), .ref (q 14), .ref (q 15), .ref (q 16), .int (zI (i 13)), .int (zI (i 14)), .int (zI (i 15)), .int (zI (i 16)), .int (zI (i 17)), .int (zI (i 18)), .ref (q 17), .ref (q 18), .ref (q 19), .ref (q 20)])), (a, .inl (cI, 200, .inl (fun k => zI (g_p k)))), (f, .inl (cI, 200, .inl (fun k => zI (gq2 k))))] → va_S A s.heap H locs → ∀ ls : Array Slot, lv_has ls 8 [(7, .int (zI v7)), (6, .int (zI (20 * v5))), (5, .int (zI v5)), (0, .ref y), (1, .ref a), (2, .int (zI x)), (3, .int (zI w)), (4, .ref f)] → W p l e rm_X9_merge s m ([.ref y, .ref a, .int (zI x), .int (zI w), .ref f] : List Value).toArray below meth c H locs 0 0 Q (F0 m 229 ls [])) ((4 - 0 : Int).toNat + 1) 0 g449 _ _ (by omega) (by omega) hqp450 hmt451 hP hD hS ls hl
                        clear hP hD hS hl ls
                        intro n9_3
                        induction n9_3 with
                        | zero =>
                          intro v7 gq2 H locs hI hM
                          exact absurd hM (by omega)
                        | succ n9_3 ih3 =>
                          intro v7 gq2 H locs hI3 hM3 hqp2 hmt2 hP hD hS ls hl
                          refine lv_iload hx hb dX9_merge_229 (lv_at hl 0 rfl) ?_
                          refine lv_aload hx hb dX9_merge_231 (lv_at hl 7 rfl) ?_
                          refine lv_iload hx hb dX9_merge_233 (lv_at hl 1 rfl) ?_
                          refine lv_iconst (v := zI 1) hx hb dX9_merge_235 rfl ?_
                          refine r_iadd (v := zI ((20 * v5) + 1)) F dX9_merge_236 (zI_add _ _) ?_
                          refine rz_iald F hK hP 2 0 rfl rfl (by omega) (by omega) dX9_merge_237 ?_
                          have hpl465 : 0 ≤ (gq2 (((20 * v5) + 1)).toNat) ∧ (gq2 (((20 * v5) + 1)).toNat) ≤ 4 := ProgR.at hqp2.1 (e := ((20 * v5) + 1)) v5 1 (by omega) (by omega) (by decide) rfl
                          refine rz_icmp_ge (tgt := 296) F (by omega) (by omega) dX9_merge_238 (by decide) (fun h238_465 => ?_) (fun h238_465 => ?_)
                          · refine lv_iinc (v := zI (v5 + 1)) (lv' := [(5, .int (zI (v5 + 1))), (7, .int (zI v7)), (6, .int (zI (20 * v5))), (0, .ref y), (1, .ref a), (2, .int (zI x)), (3, .int (zI w)), (4, .ref f)]) hx hb dX9_merge_296 hl (k := 2) rfl (zI_add _ _) (by decide) rfl (fun ls hl => ?_)
                            refine lv_goto (tgt := 132) hx hb dX9_merge_299 (by decide) ?_
                            exact ih2 (v5 + 1) gq2 _ _ (by omega) (by omega) hqp2 hmt2 hP hD hS ls (lv_sub hl [0, 3, 4, 5, 6, 7] rfl)
                          · refine lv_aload hx hb dX9_merge_241 (lv_at hl 7 rfl) ?_
                            refine lv_iload hx hb dX9_merge_243 (lv_at hl 1 rfl) ?_
                            refine lv_iconst (v := zI 2) hx hb dX9_merge_245 rfl ?_
                            refine r_iadd (v := zI ((20 * v5) + 2)) F dX9_merge_246 (zI_add _ _) ?_
                            refine lv_iconst (v := zI 3) hx hb dX9_merge_247 rfl ?_
                            refine lv_iload hx hb dX9_merge_248 (lv_at hl 0 rfl) ?_
                            refine r_imul (v := zI (3 * v7)) F dX9_merge_250 (zI_mul _ _) ?_
                            refine r_iadd (v := zI (((20 * v5) + 2) + (3 * v7))) F dX9_merge_251 (zI_add _ _) ?_
                            refine rz_iald F hK hP 2 0 rfl rfl (by omega) (by omega) dX9_merge_252 ?_
                            have hc467 := ProgOk.act hqp2 (i := v5) (n := v7) (k := (((20 * v5) + 2) + (3 * v7))) (by omega) (by omega) (by omega)
                            refine lv_iconst (v := zI 3) hx hb dX9_merge_253 rfl ?_
                            refine rz_icmp_ne (tgt := 290) F (by omega) (by omega) dX9_merge_254 (by decide) (fun h254_467 => ?_) (fun h254_467 => ?_)
                            · refine lv_iinc (v := zI (v7 + 1)) (lv' := [(7, .int (zI (v7 + 1))), (6, .int (zI (20 * v5))), (5, .int (zI v5)), (0, .ref y), (1, .ref a), (2, .int (zI x)), (3, .int (zI w)), (4, .ref f)]) hx hb dX9_merge_290 hl (k := 0) rfl (zI_add _ _) (by decide) rfl (fun ls hl => ?_)
                              refine lv_goto (tgt := 229) hx hb dX9_merge_293 (by decide) ?_
                              exact ih3 (v7 + 1) gq2 _ _ (by omega) (by omega) hqp2 hmt2 hP hD hS ls (lv_sub hl [0, 1, 2, 3, 4, 5, 6, 7] rfl)
                            · refine lv_aload hx hb dX9_merge_257 (lv_at hl 7 rfl) ?_
                              refine lv_iload hx hb dX9_merge_259 (lv_at hl 1 rfl) ?_
                              refine lv_iconst (v := zI 2) hx hb dX9_merge_261 rfl ?_
                              refine r_iadd (v := zI ((20 * v5) + 2)) F dX9_merge_262 (zI_add _ _) ?_
                              refine lv_iconst (v := zI 3) hx hb dX9_merge_263 rfl ?_
                              refine lv_iload hx hb dX9_merge_264 (lv_at hl 0 rfl) ?_
                              refine r_imul (v := zI (3 * v7)) F dX9_merge_266 (zI_mul _ _) ?_
                              refine r_iadd (v := zI (((20 * v5) + 2) + (3 * v7))) F dX9_merge_267 (zI_add _ _) ?_
                              refine lv_iconst (v := zI 1) hx hb dX9_merge_268 rfl ?_
                              refine r_iadd (v := zI ((((20 * v5) + 2) + (3 * v7)) + 1)) F dX9_merge_269 (zI_add _ _) ?_
                              refine rz_iald F hK hP 2 0 rfl rfl (by omega) (by omega) dX9_merge_270 ?_
                              refine rz_top (fun z469 h_z469 => ?_)
                              refine lv_iload_n hx hb dX9_merge_271 rfl (lv_at hl 6 rfl) ?_
                              refine rz_icmp_ne (tgt := 290) F (by omega) (by omega) dX9_merge_272 (by decide) (fun h272_469 => ?_) (fun h272_469 => ?_)
                              · refine lv_iinc (v := zI (v7 + 1)) (lv' := [(7, .int (zI (v7 + 1))), (6, .int (zI (20 * v5))), (5, .int (zI v5)), (0, .ref y), (1, .ref a), (2, .int (zI x)), (3, .int (zI w)), (4, .ref f)]) hx hb dX9_merge_290 hl (k := 0) rfl (zI_add _ _) (by decide) rfl (fun ls hl => ?_)
                                refine lv_goto (tgt := 229) hx hb dX9_merge_293 (by decide) ?_
                                exact ih3 (v7 + 1) gq2 _ _ (by omega) (by omega) hqp2 hmt2 hP hD hS ls (lv_sub hl [0, 1, 2, 3, 4, 5, 6, 7] rfl)
                              · refine lv_aload hx hb dX9_merge_275 (lv_at hl 7 rfl) ?_
                                refine lv_iload hx hb dX9_merge_277 (lv_at hl 1 rfl) ?_
                                refine lv_iconst (v := zI 2) hx hb dX9_merge_279 rfl ?_
                                refine r_iadd (v := zI ((20 * v5) + 2)) F dX9_merge_280 (zI_add _ _) ?_
                                refine lv_iconst (v := zI 3) hx hb dX9_merge_281 rfl ?_
                                refine lv_iload hx hb dX9_merge_282 (lv_at hl 0 rfl) ?_
                                refine r_imul (v := zI (3 * v7)) F dX9_merge_284 (zI_mul _ _) ?_
                                refine r_iadd (v := zI (((20 * v5) + 2) + (3 * v7))) F dX9_merge_285 (zI_add _ _) ?_
                                refine lv_iconst (v := zI 1) hx hb dX9_merge_286 rfl ?_
                                refine r_iadd (v := zI ((((20 * v5) + 2) + (3 * v7)) + 1)) F dX9_merge_287 (zI_add _ _) ?_
                                refine lv_iload_n hx hb dX9_merge_288 rfl (lv_at hl 5 rfl) ?_
                                refine rz_iastG F hK hP hD hS 2 0 rfl rfl (by omega) (by omega) dX9_merge_289 (w1 := fun g471 => [(y, .inr (9, [.int (zI (i 0)), .ref (q 0), .int (zI (i 1)), .int (zI (i 2)), .int (zI (i 3)), .int (zI (i 4)), .int (zI (i 5)), .int (zI (i 6)), .int (zI (i 7)), .int (zI (i 8)), .int (zI (i 9)), .int (zI (i 10)), .ref (q 1), .int (zI (i 11)), .int (zI (i 12)), .ref (q 2), .ref (q 3), .ref (q 4), .ref (q 5), .ref (q 6), .ref (q 7), .ref (q 8), .ref (q 9), .ref (q 10), .ref (q 11), .ref (q 12), .ref (q 13), .ref (q 14), .ref (q 15), .ref (q 16), .int (zI (i 13)), .int (zI (i 14)), .int (zI (i 15)), .int (zI (i 16)), .int (zI (i 17)), .int (zI (i 18)), .ref (q 17), .ref (q 18), .ref (q 19), .ref (q 20)])), (a, .inl (cI, 200, .inl (fun k => zI (g_p k)))), (f, .inl (cI, 200, .inl (fun k => zI (g471 k))))]) (fun _ => rfl) (fun g471 e_g471 H locs hP hD hS => ?_)
                                have hqp472 : ProgOk g471 := ProgOk.tgt3 hqp2 e_g471 (i := v5) (n := v7) (by omega) (by omega) (by omega) (by omega) (j := (((20 * v5) + 2) + (3 * v7)).toNat) (by omega) (by omega)
                                have hmt473 := MT.keepA hmt2 e_g471 (i := v5) (n := v7) (by omega) (by omega) (by omega)
                                refine lv_iinc (v := zI (v7 + 1)) (lv' := [(7, .int (zI (v7 + 1))), (6, .int (zI (20 * v5))), (5, .int (zI v5)), (0, .ref y), (1, .ref a), (2, .int (zI x)), (3, .int (zI w)), (4, .ref f)]) hx hb dX9_merge_290 hl (k := 0) rfl (zI_add _ _) (by decide) rfl (fun ls hl => ?_)
                                refine lv_goto (tgt := 229) hx hb dX9_merge_293 (by decide) ?_
                                exact ih3 (v7 + 1) g471 _ _ (by omega) (by omega) hqp472 hmt473 hP hD hS ls (lv_sub hl [0, 1, 2, 3, 4, 5, 6, 7] rfl)
                      · refine lv_aload hx hb dX9_merge_217 (lv_at hl 6 rfl) ?_
                        refine lv_iload hx hb dX9_merge_219 (lv_at hl 0 rfl) ?_
                        refine lv_bipush (v := zI 18) hx hb dX9_merge_221 (by decide) ?_
                        refine r_iadd (v := zI ((20 * v5) + 18)) F dX9_merge_223 (zI_add _ _) ?_
                        refine lv_iload_n hx hb dX9_merge_224 rfl (lv_at hl 4 rfl) ?_
                        refine rz_iastG F hK hP hD hS 2 0 rfl rfl (by omega) (by omega) dX9_merge_225 (w1 := fun g474 => [(y, .inr (9, [.int (zI (i 0)), .ref (q 0), .int (zI (i 1)), .int (zI (i 2)), .int (zI (i 3)), .int (zI (i 4)), .int (zI (i 5)), .int (zI (i 6)), .int (zI (i 7)), .int (zI (i 8)), .int (zI (i 9)), .int (zI (i 10)), .ref (q 1), .int (zI (i 11)), .int (zI (i 12)), .ref (q 2), .ref (q 3), .ref (q 4), .ref (q 5), .ref (q 6), .ref (q 7), .ref (q 8), .ref (q 9), .ref (q 10), .ref (q 11), .ref (q 12), .ref (q 13), .ref (q 14), .ref (q 15), .ref (q 16), .int (zI (i 13)), .int (zI (i 14)), .int (zI (i 15)), .int (zI (i 16)), .int (zI (i 17)), .int (zI (i 18)), .ref (q 17), .ref (q 18), .ref (q 19), .ref (q 20)])), (a, .inl (cI, 200, .inl (fun k => zI (g_p k)))), (f, .inl (cI, 200, .inl (fun k => zI (g474 k))))]) (fun _ => rfl) (fun g474 e_g474 H locs hP hD hS => ?_)
                        have hqp475 : ProgOk g474 := ⟨hqp450.1.set (m := 9) e_g474 18 (by omega) rfl (by omega), hqp450.2.set e_g474 (by omega)⟩
                        have hmt476 := hmt451.keep e_g474 (by omega)
                        refine lv_iconst (v := zI 0) hx hb dX9_merge_226 rfl ?_
                        refine lv_istore (lv' := [(7, .int (zI 0)), (6, .int (zI (20 * v5))), (5, .int (zI v5)), (0, .ref y), (1, .ref a), (2, .int (zI x)), (3, .int (zI w)), (4, .ref f)]) hx hb dX9_merge_227 hl (by decide) rfl (fun ls hl => ?_)
                        refine W.widen (k := 0) (n := 0) (Nat.le_of_ble_eq_true rfl) (Nat.le_of_ble_eq_true rfl) ?_
                        refine (?_ : ∀ (n9_3 : Nat) (v7 : Int) (gq2 : Nat → Int) (H : Heap) (locs : List Loc), (0 ≤ v7 ∧ v7 ≤ 4) → (4 - v7 : Int).toNat < n9_3 → (ProgOk gq2) → (MT g_p gq2 w) → va_P G vwCl [(y, .inr (9, [.int (zI (i 0)), .ref (q 0), .int (zI (i 1)), .int (zI (i 2)), .int (zI (i 3)), .int (zI (i 4)), .int (zI (i 5)), .int (zI (i 6)), .int (zI (i 7)), .int (zI (i 8)), .int (zI (i 9)), .int (zI (i 10)), .ref (q 1), .int (zI (i 11)), .int (zI (i 12)), .ref (q 2), .ref (q 3), .ref (q 4), .ref (q 5), .ref (q 6), .ref (q 7), .ref (q 8), .ref (q 9), .ref (q 10), .ref (q 11), .ref (q 12), .ref (q 13), .ref (q 14), .ref (q 15), .ref (q 16), .int (zI (i 13)), .int (zI (i 14)), .int (zI (i 15)), .int (zI (i 16)), .int (zI (i 17)), .int (zI (i 18)), .ref (q 17), .ref (q 18), .ref (q 19), .ref (q 20)])), (a, .inl (cI, 200, .inl (fun k => zI (g_p k)))), (f, .inl (cI, 200, .inl (fun k => zI (gq2 k))))] H → va_D A [(y, .inr (9, [.int (zI (i 0)), .ref (q 0), .int (zI (i 1)), .int (zI (i 2)), .int (zI (i 3)), .int (zI (i 4)), .int (zI (i 5)), .int (zI (i 6)), .int (zI (i 7)), .int (zI (i 8)), .int (zI (i 9)), .int (zI (i 10)), .ref (q 1), .int (zI (i 11)), .int (zI (i 12)), .ref (q 2), .ref (q 3), .ref (q 4), .ref (q 5), .ref (q 6), .ref (q 7), .ref (q 8), .ref (q 9), .ref (q 10), .ref (q 11), .ref (q 12), .ref (q 13), .ref (q 14), .ref (q 15), .ref (q 16), .int (zI (i 13)), .int (zI (i 14)), .int (zI (i 15)), .int (zI (i 16)), .int (zI (i 17)), .int (zI (i 18)), .ref (q 17), .ref (q 18), .ref (q 19), .ref (q 20)])), (a, .inl (cI, 200, .inl (fun k => zI (g_p k)))), (f, .inl (cI, 200, .inl (fun k => zI (gq2 k))))] → va_S A s.heap H locs → ∀ ls : Array Slot, lv_has ls 8 [(7, .int (zI v7)), (6, .int (zI (20 * v5))), (5, .int (zI v5)), (0, .ref y), (1, .ref a), (2, .int (zI x)), (3, .int (zI w)), (4, .ref f)] → W p l e rm_X9_merge s m ([.ref y, .ref a, .int (zI x), .int (zI w), .ref f] : List Value).toArray below meth c H locs 0 0 Q (F0 m 229 ls [])) ((4 - 0 : Int).toNat + 1) 0 g474 _ _ (by omega) (by omega) hqp475 hmt476 hP hD hS ls hl
                        clear hP hD hS hl ls
                        intro n9_3
                        induction n9_3 with
                        | zero =>
                          intro v7 gq2 H locs hI hM
                          exact absurd hM (by omega)
                        | succ n9_3 ih3 =>
                          intro v7 gq2 H locs hI3 hM3 hqp2 hmt2 hP hD hS ls hl
                          refine lv_iload hx hb dX9_merge_229 (lv_at hl 0 rfl) ?_
                          refine lv_aload hx hb dX9_merge_231 (lv_at hl 7 rfl) ?_
                          refine lv_iload hx hb dX9_merge_233 (lv_at hl 1 rfl) ?_
                          refine lv_iconst (v := zI 1) hx hb dX9_merge_235 rfl ?_
                          refine r_iadd (v := zI ((20 * v5) + 1)) F dX9_merge_236 (zI_add _ _) ?_
                          refine rz_iald F hK hP 2 0 rfl rfl (by omega) (by omega) dX9_merge_237 ?_
                          have hpl477 : 0 ≤ (gq2 (((20 * v5) + 1)).toNat) ∧ (gq2 (((20 * v5) + 1)).toNat) ≤ 4 := ProgR.at hqp2.1 (e := ((20 * v5) + 1)) v5 1 (by omega) (by omega) (by decide) rfl
                          refine rz_icmp_ge (tgt := 296) F (by omega) (by omega) dX9_merge_238 (by decide) (fun h238_477 => ?_) (fun h238_477 => ?_)
                          · refine lv_iinc (v := zI (v5 + 1)) (lv' := [(5, .int (zI (v5 + 1))), (7, .int (zI v7)), (6, .int (zI (20 * v5))), (0, .ref y), (1, .ref a), (2, .int (zI x)), (3, .int (zI w)), (4, .ref f)]) hx hb dX9_merge_296 hl (k := 2) rfl (zI_add _ _) (by decide) rfl (fun ls hl => ?_)
                            refine lv_goto (tgt := 132) hx hb dX9_merge_299 (by decide) ?_
                            exact ih2 (v5 + 1) gq2 _ _ (by omega) (by omega) hqp2 hmt2 hP hD hS ls (lv_sub hl [0, 3, 4, 5, 6, 7] rfl)
                          · refine lv_aload hx hb dX9_merge_241 (lv_at hl 7 rfl) ?_
                            refine lv_iload hx hb dX9_merge_243 (lv_at hl 1 rfl) ?_
                            refine lv_iconst (v := zI 2) hx hb dX9_merge_245 rfl ?_
                            refine r_iadd (v := zI ((20 * v5) + 2)) F dX9_merge_246 (zI_add _ _) ?_
                            refine lv_iconst (v := zI 3) hx hb dX9_merge_247 rfl ?_
                            refine lv_iload hx hb dX9_merge_248 (lv_at hl 0 rfl) ?_
                            refine r_imul (v := zI (3 * v7)) F dX9_merge_250 (zI_mul _ _) ?_
                            refine r_iadd (v := zI (((20 * v5) + 2) + (3 * v7))) F dX9_merge_251 (zI_add _ _) ?_
                            refine rz_iald F hK hP 2 0 rfl rfl (by omega) (by omega) dX9_merge_252 ?_
                            have hc479 := ProgOk.act hqp2 (i := v5) (n := v7) (k := (((20 * v5) + 2) + (3 * v7))) (by omega) (by omega) (by omega)
                            refine lv_iconst (v := zI 3) hx hb dX9_merge_253 rfl ?_
                            refine rz_icmp_ne (tgt := 290) F (by omega) (by omega) dX9_merge_254 (by decide) (fun h254_479 => ?_) (fun h254_479 => ?_)
                            · refine lv_iinc (v := zI (v7 + 1)) (lv' := [(7, .int (zI (v7 + 1))), (6, .int (zI (20 * v5))), (5, .int (zI v5)), (0, .ref y), (1, .ref a), (2, .int (zI x)), (3, .int (zI w)), (4, .ref f)]) hx hb dX9_merge_290 hl (k := 0) rfl (zI_add _ _) (by decide) rfl (fun ls hl => ?_)
                              refine lv_goto (tgt := 229) hx hb dX9_merge_293 (by decide) ?_
                              exact ih3 (v7 + 1) gq2 _ _ (by omega) (by omega) hqp2 hmt2 hP hD hS ls (lv_sub hl [0, 1, 2, 3, 4, 5, 6, 7] rfl)
                            · refine lv_aload hx hb dX9_merge_257 (lv_at hl 7 rfl) ?_
                              refine lv_iload hx hb dX9_merge_259 (lv_at hl 1 rfl) ?_
                              refine lv_iconst (v := zI 2) hx hb dX9_merge_261 rfl ?_
                              refine r_iadd (v := zI ((20 * v5) + 2)) F dX9_merge_262 (zI_add _ _) ?_
                              refine lv_iconst (v := zI 3) hx hb dX9_merge_263 rfl ?_
                              refine lv_iload hx hb dX9_merge_264 (lv_at hl 0 rfl) ?_
                              refine r_imul (v := zI (3 * v7)) F dX9_merge_266 (zI_mul _ _) ?_
                              refine r_iadd (v := zI (((20 * v5) + 2) + (3 * v7))) F dX9_merge_267 (zI_add _ _) ?_
                              refine lv_iconst (v := zI 1) hx hb dX9_merge_268 rfl ?_
                              refine r_iadd (v := zI ((((20 * v5) + 2) + (3 * v7)) + 1)) F dX9_merge_269 (zI_add _ _) ?_
                              refine rz_iald F hK hP 2 0 rfl rfl (by omega) (by omega) dX9_merge_270 ?_
                              refine rz_top (fun z481 h_z481 => ?_)
                              refine lv_iload_n hx hb dX9_merge_271 rfl (lv_at hl 6 rfl) ?_
                              refine rz_icmp_ne (tgt := 290) F (by omega) (by omega) dX9_merge_272 (by decide) (fun h272_481 => ?_) (fun h272_481 => ?_)
                              · refine lv_iinc (v := zI (v7 + 1)) (lv' := [(7, .int (zI (v7 + 1))), (6, .int (zI (20 * v5))), (5, .int (zI v5)), (0, .ref y), (1, .ref a), (2, .int (zI x)), (3, .int (zI w)), (4, .ref f)]) hx hb dX9_merge_290 hl (k := 0) rfl (zI_add _ _) (by decide) rfl (fun ls hl => ?_)
                                refine lv_goto (tgt := 229) hx hb dX9_merge_293 (by decide) ?_
                                exact ih3 (v7 + 1) gq2 _ _ (by omega) (by omega) hqp2 hmt2 hP hD hS ls (lv_sub hl [0, 1, 2, 3, 4, 5, 6, 7] rfl)
                              · refine lv_aload hx hb dX9_merge_275 (lv_at hl 7 rfl) ?_
                                refine lv_iload hx hb dX9_merge_277 (lv_at hl 1 rfl) ?_
                                refine lv_iconst (v := zI 2) hx hb dX9_merge_279 rfl ?_
                                refine r_iadd (v := zI ((20 * v5) + 2)) F dX9_merge_280 (zI_add _ _) ?_
                                refine lv_iconst (v := zI 3) hx hb dX9_merge_281 rfl ?_
                                refine lv_iload hx hb dX9_merge_282 (lv_at hl 0 rfl) ?_
                                refine r_imul (v := zI (3 * v7)) F dX9_merge_284 (zI_mul _ _) ?_
                                refine r_iadd (v := zI (((20 * v5) + 2) + (3 * v7))) F dX9_merge_285 (zI_add _ _) ?_
                                refine lv_iconst (v := zI 1) hx hb dX9_merge_286 rfl ?_
                                refine r_iadd (v := zI ((((20 * v5) + 2) + (3 * v7)) + 1)) F dX9_merge_287 (zI_add _ _) ?_
                                refine lv_iload_n hx hb dX9_merge_288 rfl (lv_at hl 5 rfl) ?_
                                refine rz_iastG F hK hP hD hS 2 0 rfl rfl (by omega) (by omega) dX9_merge_289 (w1 := fun g483 => [(y, .inr (9, [.int (zI (i 0)), .ref (q 0), .int (zI (i 1)), .int (zI (i 2)), .int (zI (i 3)), .int (zI (i 4)), .int (zI (i 5)), .int (zI (i 6)), .int (zI (i 7)), .int (zI (i 8)), .int (zI (i 9)), .int (zI (i 10)), .ref (q 1), .int (zI (i 11)), .int (zI (i 12)), .ref (q 2), .ref (q 3), .ref (q 4), .ref (q 5), .ref (q 6), .ref (q 7), .ref (q 8), .ref (q 9), .ref (q 10), .ref (q 11), .ref (q 12), .ref (q 13), .ref (q 14), .ref (q 15), .ref (q 16), .int (zI (i 13)), .int (zI (i 14)), .int (zI (i 15)), .int (zI (i 16)), .int (zI (i 17)), .int (zI (i 18)), .ref (q 17), .ref (q 18), .ref (q 19), .ref (q 20)])), (a, .inl (cI, 200, .inl (fun k => zI (g_p k)))), (f, .inl (cI, 200, .inl (fun k => zI (g483 k))))]) (fun _ => rfl) (fun g483 e_g483 H locs hP hD hS => ?_)
                                have hqp484 : ProgOk g483 := ProgOk.tgt3 hqp2 e_g483 (i := v5) (n := v7) (by omega) (by omega) (by omega) (by omega) (j := (((20 * v5) + 2) + (3 * v7)).toNat) (by omega) (by omega)
                                have hmt485 := MT.keepA hmt2 e_g483 (i := v5) (n := v7) (by omega) (by omega) (by omega)
                                refine lv_iinc (v := zI (v7 + 1)) (lv' := [(7, .int (zI (v7 + 1))), (6, .int (zI (20 * v5))), (5, .int (zI v5)), (0, .ref y), (1, .ref a), (2, .int (zI x)), (3, .int (zI w)), (4, .ref f)]) hx hb dX9_merge_290 hl (k := 0) rfl (zI_add _ _) (by decide) rfl (fun ls hl => ?_)
                                refine lv_goto (tgt := 229) hx hb dX9_merge_293 (by decide) ?_
                                exact ih3 (v7 + 1) g483 _ _ (by omega) (by omega) hqp484 hmt485 hP hD hS ls (lv_sub hl [0, 1, 2, 3, 4, 5, 6, 7] rfl)
              · refine lv_goto (tgt := 296) hx hb dX9_merge_158 (by decide) ?_
                refine lv_iinc (v := zI (v5 + 1)) (lv' := [(5, .int (zI (v5 + 1))), (6, .int (zI (20 * v5))), (0, .ref y), (1, .ref a), (2, .int (zI x)), (3, .int (zI w)), (4, .ref f)]) hx hb dX9_merge_296 hl (k := 1) rfl (zI_add _ _) (by decide) rfl (fun ls hl => ?_)
                refine lv_goto (tgt := 132) hx hb dX9_merge_299 (by decide) ?_
                exact ih2 (v5 + 1) gq1 _ _ (by omega) (by omega) hqp1 hmt1 hP hD hS ls (lv_sub hl [0, 2, 3, 4, 5, 6] rfl)
    · refine lv_aload hx hb dX9_merge_19 (lv_at hl 5 rfl) ?_
      refine lv_bipush (v := zI 20) hx hb dX9_merge_21 (by decide) ?_
      refine lv_iload_n hx hb dX9_merge_23 rfl (lv_at hl 4 rfl) ?_
      refine r_imul (v := zI (20 * w)) F dX9_merge_24 (zI_mul _ _) ?_
      refine lv_iload hx hb dX9_merge_25 (lv_at hl 0 rfl) ?_
      refine r_iadd (v := zI ((20 * w) + v5)) F dX9_merge_27 (zI_add _ _) ?_
      refine lv_iconst (v := zI 0) hx hb dX9_merge_28 rfl ?_
      refine rz_iastG F hK hP hD hS 2 0 rfl rfl (by omega) (by omega) dX9_merge_29 (w1 := fun g486 => [(y, .inr (9, [.int (zI (i 0)), .ref (q 0), .int (zI (i 1)), .int (zI (i 2)), .int (zI (i 3)), .int (zI (i 4)), .int (zI (i 5)), .int (zI (i 6)), .int (zI (i 7)), .int (zI (i 8)), .int (zI (i 9)), .int (zI (i 10)), .ref (q 1), .int (zI (i 11)), .int (zI (i 12)), .ref (q 2), .ref (q 3), .ref (q 4), .ref (q 5), .ref (q 6), .ref (q 7), .ref (q 8), .ref (q 9), .ref (q 10), .ref (q 11), .ref (q 12), .ref (q 13), .ref (q 14), .ref (q 15), .ref (q 16), .int (zI (i 13)), .int (zI (i 14)), .int (zI (i 15)), .int (zI (i 16)), .int (zI (i 17)), .int (zI (i 18)), .ref (q 17), .ref (q 18), .ref (q 19), .ref (q 20)])), (a, .inl (cI, 200, .inl (fun k => zI (g_p k)))), (f, .inl (cI, 200, .inl (fun k => zI (g486 k))))]) (fun _ => rfl) (fun g486 e_g486 H locs hP hD hS => ?_)
      refine lv_iinc (v := zI (v5 + 1)) (lv' := [(5, .int (zI (v5 + 1))), (0, .ref y), (1, .ref a), (2, .int (zI x)), (3, .int (zI w)), (4, .ref f)]) hx hb dX9_merge_30 hl (k := 0) rfl (zI_add _ _) (by decide) rfl (fun ls hl => ?_)
      refine lv_goto (tgt := 12) hx hb dX9_merge_33 (by decide) ?_
      exact ih1 (v5 + 1) g486 _ _ (by omega) (by omega) (zr_step (by omega) hz9 e_g486) hP hD hS ls (lv_sub hl [0, 1, 2, 3, 4, 5] rfl)
