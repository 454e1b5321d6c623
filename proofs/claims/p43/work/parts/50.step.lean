theorem dX9_step_0 : decode cX9_step 0 = .ok (.aload_n 1, 1) := bo_43 (by decide +kernel)
theorem dX9_step_1 : decode cX9_step 1 = .ok (.iconst 4, 1) := bo_7 (by decide +kernel)
theorem dX9_step_2 : decode cX9_step 2 = .ok (.iaload, 1) := bo_46 (by decide +kernel)
theorem dX9_step_3 : decode cX9_step 3 = .ok (.istore_n 2, 1) := bo_61 (by decide +kernel)
theorem dX9_step_4 : decode cX9_step 4 = .ok (.bipush 20, 2) := bo_16 20 (by decide +kernel)
theorem dX9_step_6 : decode cX9_step 6 = .ok (.iload_n 2, 1) := bo_28 (by decide +kernel)
theorem dX9_step_7 : decode cX9_step 7 = .ok (.imul, 1) := bo_104 (by decide +kernel)
theorem dX9_step_8 : decode cX9_step 8 = .ok (.istore_n 3, 1) := bo_62 (by decide +kernel)
theorem dX9_step_9 : decode cX9_step 9 = .ok (.iconst 0, 1) := bo_3 (by decide +kernel)
theorem dX9_step_10 : decode cX9_step 10 = .ok (.istore 4, 2) := bo_54 (by decide +kernel)
theorem dX9_step_12 : decode cX9_step 12 = .ok (.iload 4, 2) := bo_21 (by decide +kernel)
theorem dX9_step_14 : decode cX9_step 14 = .ok (.aload_n 0, 1) := bo_42 (by decide +kernel)
theorem dX9_step_15 : decode cX9_step 15 = .ok (.iload_n 3, 1) := bo_29 (by decide +kernel)
theorem dX9_step_16 : decode cX9_step 16 = .ok (.iconst 1, 1) := bo_4 (by decide +kernel)
theorem dX9_step_17 : decode cX9_step 17 = .ok (.iadd, 1) := bo_96 (by decide +kernel)
theorem dX9_step_18 : decode cX9_step 18 = .ok (.iaload, 1) := bo_46 (by decide +kernel)
theorem dX9_step_19 : decode cX9_step 19 = .ok (.if_icmp .ge 17, 3) := bo_162 0 17 (by decide +kernel)
theorem dX9_step_36 : decode cX9_step 36 = .ok (.aload_n 1, 1) := bo_43 (by decide +kernel)
theorem dX9_step_37 : decode cX9_step 37 = .ok (.iconst 5, 1) := bo_8 (by decide +kernel)
theorem dX9_step_38 : decode cX9_step 38 = .ok (.dup2, 1) := bo_92 (by decide +kernel)
theorem dX9_step_39 : decode cX9_step 39 = .ok (.iaload, 1) := bo_46 (by decide +kernel)
theorem dX9_step_40 : decode cX9_step 40 = .ok (.iconst 1, 1) := bo_4 (by decide +kernel)
theorem dX9_step_41 : decode cX9_step 41 = .ok (.iadd, 1) := bo_96 (by decide +kernel)
theorem dX9_step_42 : decode cX9_step 42 = .ok (.iastore, 1) := bo_79 (by decide +kernel)
theorem dX9_step_43 : decode cX9_step 43 = .ok (.aload_n 0, 1) := bo_42 (by decide +kernel)
theorem dX9_step_44 : decode cX9_step 44 = .ok (.iload_n 3, 1) := bo_29 (by decide +kernel)
theorem dX9_step_45 : decode cX9_step 45 = .ok (.bipush 14, 2) := bo_16 14 (by decide +kernel)
theorem dX9_step_47 : decode cX9_step 47 = .ok (.iadd, 1) := bo_96 (by decide +kernel)
theorem dX9_step_48 : decode cX9_step 48 = .ok (.iaload, 1) := bo_46 (by decide +kernel)
theorem dX9_step_49 : decode cX9_step 49 = .ok (.ifCond .ne 11, 3) := bo_154 0 11 (by decide +kernel)
theorem dX9_step_60 : decode cX9_step 60 = .ok (.aload_n 0, 1) := bo_42 (by decide +kernel)
theorem dX9_step_61 : decode cX9_step 61 = .ok (.iload_n 3, 1) := bo_29 (by decide +kernel)
theorem dX9_step_62 : decode cX9_step 62 = .ok (.bipush 14, 2) := bo_16 14 (by decide +kernel)
theorem dX9_step_64 : decode cX9_step 64 = .ok (.iadd, 1) := bo_96 (by decide +kernel)
theorem dX9_step_65 : decode cX9_step 65 = .ok (.iaload, 1) := bo_46 (by decide +kernel)
theorem dX9_step_66 : decode cX9_step 66 = .ok (.iconst 2, 1) := bo_5 (by decide +kernel)
theorem dX9_step_67 : decode cX9_step 67 = .ok (.if_icmp .ne 18, 3) := bo_160 0 18 (by decide +kernel)
theorem dX9_step_85 : decode cX9_step 85 = .ok (.iconst 0, 1) := bo_3 (by decide +kernel)
theorem dX9_step_86 : decode cX9_step 86 = .ok (.istore 4, 2) := bo_54 (by decide +kernel)
theorem dX9_step_88 : decode cX9_step 88 = .ok (.iconst 2, 1) := bo_5 (by decide +kernel)
theorem dX9_step_89 : decode cX9_step 89 = .ok (.iload_n 2, 1) := bo_28 (by decide +kernel)
theorem dX9_step_90 : decode cX9_step 90 = .ok (.imul, 1) := bo_104 (by decide +kernel)
theorem dX9_step_91 : decode cX9_step 91 = .ok (.iload 4, 2) := bo_21 (by decide +kernel)
theorem dX9_step_93 : decode cX9_step 93 = .ok (.ifCond .eq 7, 3) := bo_153 0 7 (by decide +kernel)
theorem dX9_step_100 : decode cX9_step 100 = .ok (.iconst 0, 1) := bo_3 (by decide +kernel)
theorem dX9_step_101 : decode cX9_step 101 = .ok (.iadd, 1) := bo_96 (by decide +kernel)
theorem dX9_step_102 : decode cX9_step 102 = .ok (.istore 5, 2) := bo_54 (by decide +kernel)
theorem dX9_step_104 : decode cX9_step 104 = .ok (.iload_n 3, 1) := bo_29 (by decide +kernel)
theorem dX9_step_105 : decode cX9_step 105 = .ok (.iload 4, 2) := bo_21 (by decide +kernel)
theorem dX9_step_107 : decode cX9_step 107 = .ok (.ifCond .eq 8, 3) := bo_153 0 8 (by decide +kernel)
theorem dX9_step_115 : decode cX9_step 115 = .ok (.bipush 16, 2) := bo_16 16 (by decide +kernel)
theorem dX9_step_117 : decode cX9_step 117 = .ok (.iadd, 1) := bo_96 (by decide +kernel)
theorem dX9_step_118 : decode cX9_step 118 = .ok (.istore 6, 2) := bo_54 (by decide +kernel)
theorem dX9_step_120 : decode cX9_step 120 = .ok (.aload_n 1, 1) := bo_43 (by decide +kernel)
theorem dX9_step_121 : decode cX9_step 121 = .ok (.bipush 8, 2) := bo_16 8 (by decide +kernel)
theorem dX9_step_123 : decode cX9_step 123 = .ok (.iload 5, 2) := bo_21 (by decide +kernel)
theorem dX9_step_125 : decode cX9_step 125 = .ok (.iadd, 1) := bo_96 (by decide +kernel)
theorem dX9_step_126 : decode cX9_step 126 = .ok (.iaload, 1) := bo_46 (by decide +kernel)
theorem dX9_step_127 : decode cX9_step 127 = .ok (.aload_n 0, 1) := bo_42 (by decide +kernel)
theorem dX9_step_128 : decode cX9_step 128 = .ok (.iload 6, 2) := bo_21 (by decide +kernel)
theorem dX9_step_130 : decode cX9_step 130 = .ok (.iconst 1, 1) := bo_4 (by decide +kernel)
theorem dX9_step_131 : decode cX9_step 131 = .ok (.iadd, 1) := bo_96 (by decide +kernel)
theorem dX9_step_132 : decode cX9_step 132 = .ok (.iaload, 1) := bo_46 (by decide +kernel)
theorem dX9_step_133 : decode cX9_step 133 = .ok (.if_icmp .ne 11, 3) := bo_160 0 11 (by decide +kernel)
theorem dX9_step_144 : decode cX9_step 144 = .ok (.aload_n 1, 1) := bo_43 (by decide +kernel)
theorem dX9_step_145 : decode cX9_step 145 = .ok (.bipush 8, 2) := bo_16 8 (by decide +kernel)
theorem dX9_step_147 : decode cX9_step 147 = .ok (.iload 5, 2) := bo_21 (by decide +kernel)
theorem dX9_step_149 : decode cX9_step 149 = .ok (.iadd, 1) := bo_96 (by decide +kernel)
theorem dX9_step_150 : decode cX9_step 150 = .ok (.dup2, 1) := bo_92 (by decide +kernel)
theorem dX9_step_151 : decode cX9_step 151 = .ok (.iaload, 1) := bo_46 (by decide +kernel)
theorem dX9_step_152 : decode cX9_step 152 = .ok (.iconst 1, 1) := bo_4 (by decide +kernel)
theorem dX9_step_153 : decode cX9_step 153 = .ok (.iadd, 1) := bo_96 (by decide +kernel)
theorem dX9_step_154 : decode cX9_step 154 = .ok (.iastore, 1) := bo_79 (by decide +kernel)
theorem dX9_step_155 : decode cX9_step 155 = .ok (.aload_n 1, 1) := bo_43 (by decide +kernel)
theorem dX9_step_156 : decode cX9_step 156 = .ok (.sipush 139, 3) := bo_17 0 139 (by decide +kernel)
theorem dX9_step_159 : decode cX9_step 159 = .ok (.iload 5, 2) := bo_21 (by decide +kernel)
theorem dX9_step_161 : decode cX9_step 161 = .ok (.iadd, 1) := bo_96 (by decide +kernel)
theorem dX9_step_162 : decode cX9_step 162 = .ok (.dup2, 1) := bo_92 (by decide +kernel)
theorem dX9_step_163 : decode cX9_step 163 = .ok (.iaload, 1) := bo_46 (by decide +kernel)
theorem dX9_step_164 : decode cX9_step 164 = .ok (.iconst 1, 1) := bo_4 (by decide +kernel)
theorem dX9_step_165 : decode cX9_step 165 = .ok (.iadd, 1) := bo_96 (by decide +kernel)
theorem dX9_step_166 : decode cX9_step 166 = .ok (.iastore, 1) := bo_79 (by decide +kernel)
theorem dX9_step_167 : decode cX9_step 167 = .ok (.aload_n 1, 1) := bo_43 (by decide +kernel)
theorem dX9_step_168 : decode cX9_step 168 = .ok (.bipush 7, 2) := bo_16 7 (by decide +kernel)
theorem dX9_step_170 : decode cX9_step 170 = .ok (.dup2, 1) := bo_92 (by decide +kernel)
theorem dX9_step_171 : decode cX9_step 171 = .ok (.iaload, 1) := bo_46 (by decide +kernel)
theorem dX9_step_172 : decode cX9_step 172 = .ok (.iconst 1, 1) := bo_4 (by decide +kernel)
theorem dX9_step_173 : decode cX9_step 173 = .ok (.iadd, 1) := bo_96 (by decide +kernel)
theorem dX9_step_174 : decode cX9_step 174 = .ok (.iastore, 1) := bo_79 (by decide +kernel)
theorem dX9_step_175 : decode cX9_step 175 = .ok (.aload_n 1, 1) := bo_43 (by decide +kernel)
theorem dX9_step_176 : decode cX9_step 176 = .ok (.bipush 38, 2) := bo_16 38 (by decide +kernel)
theorem dX9_step_178 : decode cX9_step 178 = .ok (.dup2, 1) := bo_92 (by decide +kernel)
theorem dX9_step_179 : decode cX9_step 179 = .ok (.iaload, 1) := bo_46 (by decide +kernel)
theorem dX9_step_180 : decode cX9_step 180 = .ok (.iconst 1, 1) := bo_4 (by decide +kernel)
theorem dX9_step_181 : decode cX9_step 181 = .ok (.iload 5, 2) := bo_21 (by decide +kernel)
theorem dX9_step_183 : decode cX9_step 183 = .ok (.ishl, 1) := bo_120 (by decide +kernel)
theorem dX9_step_184 : decode cX9_step 184 = .ok (.ior, 1) := bo_128 (by decide +kernel)
theorem dX9_step_185 : decode cX9_step 185 = .ok (.iastore, 1) := bo_79 (by decide +kernel)
theorem dX9_step_186 : decode cX9_step 186 = .ok (.aload_n 1, 1) := bo_43 (by decide +kernel)
theorem dX9_step_187 : decode cX9_step 187 = .ok (.iconst 4, 1) := bo_7 (by decide +kernel)
theorem dX9_step_188 : decode cX9_step 188 = .ok (.aload_n 0, 1) := bo_42 (by decide +kernel)
theorem dX9_step_189 : decode cX9_step 189 = .ok (.iload 6, 2) := bo_21 (by decide +kernel)
theorem dX9_step_191 : decode cX9_step 191 = .ok (.iaload, 1) := bo_46 (by decide +kernel)
theorem dX9_step_192 : decode cX9_step 192 = .ok (.iastore, 1) := bo_79 (by decide +kernel)
theorem dX9_step_193 : decode cX9_step 193 = .ok (.aload_n 1, 1) := bo_43 (by decide +kernel)
theorem dX9_step_194 : decode cX9_step 194 = .ok (.bipush 6, 2) := bo_16 6 (by decide +kernel)
theorem dX9_step_196 : decode cX9_step 196 = .ok (.aload_n 0, 1) := bo_42 (by decide +kernel)
theorem dX9_step_197 : decode cX9_step 197 = .ok (.aload_n 0, 1) := bo_42 (by decide +kernel)
theorem dX9_step_198 : decode cX9_step 198 = .ok (.iload 6, 2) := bo_21 (by decide +kernel)
theorem dX9_step_200 : decode cX9_step 200 = .ok (.iaload, 1) := bo_46 (by decide +kernel)
theorem dX9_step_201 : decode cX9_step 201 = .ok (.invokestatic 265, 3) := bo_184 1 9 (by decide +kernel)
theorem dX9_step_204 : decode cX9_step 204 = .ok (.ifCond .eq 7, 3) := bo_153 0 7 (by decide +kernel)
theorem dX9_step_211 : decode cX9_step 211 = .ok (.iconst 3, 1) := bo_6 (by decide +kernel)
theorem dX9_step_212 : decode cX9_step 212 = .ok (.iastore, 1) := bo_79 (by decide +kernel)
theorem dX9_step_213 : decode cX9_step 213 = .ok (.aload_n 1, 1) := bo_43 (by decide +kernel)
theorem dX9_step_214 : decode cX9_step 214 = .ok (.iconst 5, 1) := bo_8 (by decide +kernel)
theorem dX9_step_215 : decode cX9_step 215 = .ok (.iaload, 1) := bo_46 (by decide +kernel)
theorem dX9_step_216 : decode cX9_step 216 = .ok (.bipush 100, 2) := bo_16 100 (by decide +kernel)
theorem dX9_step_218 : decode cX9_step 218 = .ok (.if_icmp .ge 14, 3) := bo_162 0 14 (by decide +kernel)
theorem dX9_step_232 : decode cX9_step 232 = .ok (.return_, 1) := bo_177 (by decide +kernel)
theorem dX9_step_221 : decode cX9_step 221 = .ok (.aload_n 1, 1) := bo_43 (by decide +kernel)
theorem dX9_step_222 : decode cX9_step 222 = .ok (.bipush 39, 2) := bo_16 39 (by decide +kernel)
theorem dX9_step_224 : decode cX9_step 224 = .ok (.aload_n 1, 1) := bo_43 (by decide +kernel)
theorem dX9_step_225 : decode cX9_step 225 = .ok (.iconst 5, 1) := bo_8 (by decide +kernel)
theorem dX9_step_226 : decode cX9_step 226 = .ok (.iaload, 1) := bo_46 (by decide +kernel)
theorem dX9_step_227 : decode cX9_step 227 = .ok (.iadd, 1) := bo_96 (by decide +kernel)
theorem dX9_step_228 : decode cX9_step 228 = .ok (.aload_n 1, 1) := bo_43 (by decide +kernel)
theorem dX9_step_229 : decode cX9_step 229 = .ok (.iconst 4, 1) := bo_7 (by decide +kernel)
theorem dX9_step_230 : decode cX9_step 230 = .ok (.iaload, 1) := bo_46 (by decide +kernel)
theorem dX9_step_231 : decode cX9_step 231 = .ok (.iastore, 1) := bo_79 (by decide +kernel)
theorem dX9_step_207 : decode cX9_step 207 = .ok (.iconst 0, 1) := bo_3 (by decide +kernel)
theorem dX9_step_208 : decode cX9_step 208 = .ok (.goto 4, 3) := bo_167 0 4 (by decide +kernel)
theorem dX9_step_136 : decode cX9_step 136 = .ok (.aload_n 1, 1) := bo_43 (by decide +kernel)
theorem dX9_step_137 : decode cX9_step 137 = .ok (.bipush 6, 2) := bo_16 6 (by decide +kernel)
theorem dX9_step_139 : decode cX9_step 139 = .ok (.iconst 2, 1) := bo_5 (by decide +kernel)
theorem dX9_step_140 : decode cX9_step 140 = .ok (.iastore, 1) := bo_79 (by decide +kernel)
theorem dX9_step_141 : decode cX9_step 141 = .ok (.goto 72, 3) := bo_167 0 72 (by decide +kernel)
theorem dX9_step_70 : decode cX9_step 70 = .ok (.aload_n 1, 1) := bo_43 (by decide +kernel)
theorem dX9_step_71 : decode cX9_step 71 = .ok (.aload_n 0, 1) := bo_42 (by decide +kernel)
theorem dX9_step_72 : decode cX9_step 72 = .ok (.iload_n 3, 1) := bo_29 (by decide +kernel)
theorem dX9_step_73 : decode cX9_step 73 = .ok (.bipush 15, 2) := bo_16 15 (by decide +kernel)
theorem dX9_step_75 : decode cX9_step 75 = .ok (.iadd, 1) := bo_96 (by decide +kernel)
theorem dX9_step_76 : decode cX9_step 76 = .ok (.iaload, 1) := bo_46 (by decide +kernel)
theorem dX9_step_77 : decode cX9_step 77 = .ok (.iaload, 1) := bo_46 (by decide +kernel)
theorem dX9_step_78 : decode cX9_step 78 = .ok (.ifCond .ne 7, 3) := bo_154 0 7 (by decide +kernel)
theorem dX9_step_81 : decode cX9_step 81 = .ok (.iconst 1, 1) := bo_4 (by decide +kernel)
theorem dX9_step_82 : decode cX9_step 82 = .ok (.goto 4, 3) := bo_167 0 4 (by decide +kernel)
theorem dX9_step_96 : decode cX9_step 96 = .ok (.iconst 1, 1) := bo_4 (by decide +kernel)
theorem dX9_step_97 : decode cX9_step 97 = .ok (.goto 4, 3) := bo_167 0 4 (by decide +kernel)
theorem dX9_step_110 : decode cX9_step 110 = .ok (.bipush 18, 2) := bo_16 18 (by decide +kernel)
theorem dX9_step_112 : decode cX9_step 112 = .ok (.goto 5, 3) := bo_167 0 5 (by decide +kernel)
theorem dX9_step_52 : decode cX9_step 52 = .ok (.aload_n 1, 1) := bo_43 (by decide +kernel)
theorem dX9_step_53 : decode cX9_step 53 = .ok (.bipush 6, 2) := bo_16 6 (by decide +kernel)
theorem dX9_step_55 : decode cX9_step 55 = .ok (.iconst 1, 1) := bo_4 (by decide +kernel)
theorem dX9_step_56 : decode cX9_step 56 = .ok (.iastore, 1) := bo_79 (by decide +kernel)
theorem dX9_step_57 : decode cX9_step 57 = .ok (.goto 156, 3) := bo_167 0 156 (by decide +kernel)
theorem dX9_step_22 : decode cX9_step 22 = .ok (.aload_n 0, 1) := bo_42 (by decide +kernel)
theorem dX9_step_23 : decode cX9_step 23 = .ok (.aload_n 1, 1) := bo_43 (by decide +kernel)
theorem dX9_step_24 : decode cX9_step 24 = .ok (.iload_n 2, 1) := bo_28 (by decide +kernel)
theorem dX9_step_25 : decode cX9_step 25 = .ok (.iload 4, 2) := bo_21 (by decide +kernel)
theorem dX9_step_27 : decode cX9_step 27 = .ok (.invokestatic 276, 3) := bo_184 1 20 (by decide +kernel)
theorem k_1457 : Cond.methodLink RX9 276 yX9_act ∈ bw_T := bw_m 1457 (by decide +kernel) rfl
theorem ks_X9_act : bw_KS RX9 yX9_act (Cond.code yX9_act cX9_act 6 none) := ⟨bw_m 1458 (by decide +kernel) rfl, bw_m 107 (by decide +kernel) rfl, bw_m 1459 (by decide +kernel) rfl⟩
theorem dX9_step_30 : decode cX9_step 30 = .ok (.iinc 4 1, 3) := bo_132 4 1 (by decide +kernel)
theorem dX9_step_33 : decode cX9_step 33 = .ok (.goto (-21), 3) := bo_167 255 235 (by decide +kernel)
abbrev rm_X9_step : Room := { frames := 2, cells := 0, slots := 0, locals := 46 }
set_option maxRecDepth 100000 in
set_option maxHeartbeats 8000000 in
theorem c_X9_step {l : Launch} {E : (Nat → Prop) → State → Prop} (hO : bw_Ok E) {G : va_G} {cI cB cJ cN cW : ClassId} (a : Nat) (g_p : Nat → Int) (d : Nat) (g_s : Nat → Int) (hp : ProgOk g_p) (hs : StOk g_p g_s) (h6 : g_s 6 = 0) : bw_Cv (S := zV) l yX9_step (bw_ws (Cond.code yX9_step cX9_step 7 none)) rm_X9_step E G (bw_kt cI cB cJ cN cW) [.ref a, .ref d] [(a, .inl (cI, 200, .inl (fun k => zI (g_p k)))), (d, .inl (cI, 159, .inl (fun k => zI (g_s k))))] (fun u => (StOk g_p ((u 1).2 0) ∧ ((u 1).2 0) 5 = g_s 5 + 1)) (fun u => [(a, .inl (cI, 200, .inl (fun k => zI (g_p k)))), (d, .inl (cI, 159, .inl (fun k => zI (((u 1).2 0) k))))]) := by
  refine bw_Cv.of (cc := cX9_step) (maxL := 7) (by decide) rfl (Nat.le_of_ble_eq_true rfl) ?_
  intro p e s m below meth c A Q hx hb hml hts hown hin hK hA hS hP hD hE ret ls hl
  have F : CallFix p m c cX9_step 7 s ([.ref a, .ref d] : List Value).toArray bw_T RX9 := ⟨hx, hb, hml, hown, fun w h => hts w (List.mem_cons_of_mem _ h)⟩
  replace hl : lv_has ls 7 [(0, .ref a), (1, .ref d)] := hl
  have hs2 := hs.1.2.1
  have hs5 := hs.2.1
  have hs6 := hs.2.2 h6
  have hrp := rM_pos hs.1 hp.1.le9
  refine lv_aload_n hx hb dX9_step_0 rfl (lv_at hl 1 rfl) ?_
  refine lv_iconst (v := zI 4) hx hb dX9_step_1 rfl ?_
  refine rz_ialdN F hK hP 1 0 rfl rfl (by omega) (by omega) dX9_step_2 4 rfl ?_
  refine lv_istore_n (lv' := [(2, .int (zI (g_s 4))), (0, .ref a), (1, .ref d)]) hx hb dX9_step_3 rfl hl (by decide) rfl (fun ls hl => ?_)
  refine lv_bipush (v := zI 20) hx hb dX9_step_4 (by decide) ?_
  refine lv_iload_n hx hb dX9_step_6 rfl (lv_at hl 0 rfl) ?_
  refine r_imul (v := zI (20 * (g_s 4))) F dX9_step_7 (zI_mul _ _) ?_
  refine lv_istore_n (lv' := [(3, .int (zI (20 * (g_s 4)))), (2, .int (zI (g_s 4))), (0, .ref a), (1, .ref d)]) hx hb dX9_step_8 rfl hl (by decide) rfl (fun ls hl => ?_)
  refine lv_iconst (v := zI 0) hx hb dX9_step_9 rfl ?_
  refine lv_istore (lv' := [(4, .int (zI 0)), (3, .int (zI (20 * (g_s 4)))), (2, .int (zI (g_s 4))), (0, .ref a), (1, .ref d)]) hx hb dX9_step_10 hl (by decide) rfl (fun ls hl => ?_)
  refine W.widen (k := 0) (n := 0) (Nat.le_of_ble_eq_true rfl) (Nat.le_of_ble_eq_true rfl) ?_
  refine (?_ : ∀ (n9_1 : Nat) (v4 : Int) (gs9 : Nat → Int) (H : Heap) (locs : List Loc), (0 ≤ v4 ∧ v4 ≤ 4) → (4 - v4 : Int).toNat < n9_1 → (SI g_p gs9 ∧ rM gs9 ≤ rM g_s ∧ gs9 4 = g_s 4 ∧ gs9 5 = g_s 5 ∧ gs9 6 = g_s 6) → va_P G vwCl [(a, .inl (cI, 200, .inl (fun k => zI (g_p k)))), (d, .inl (cI, 159, .inl (fun k => zI (gs9 k))))] H → va_D A [(a, .inl (cI, 200, .inl (fun k => zI (g_p k)))), (d, .inl (cI, 159, .inl (fun k => zI (gs9 k))))] → va_S A s.heap H locs → ∀ ls : Array Slot, lv_has ls 7 [(4, .int (zI v4)), (3, .int (zI (20 * (g_s 4)))), (2, .int (zI (g_s 4))), (0, .ref a), (1, .ref d)] → W p l e rm_X9_step s m ([.ref a, .ref d] : List Value).toArray below meth c H locs 0 0 Q (F0 m 12 ls [])) ((4 - 0 : Int).toNat + 1) 0 g_s _ _ (by omega) (by omega) ⟨hs.1, by omega, rfl, rfl, rfl⟩ hP hD hS ls hl
  clear hP hD hS hl ls
  intro n9_1
  induction n9_1 with
  | zero =>
    intro v4 gs9 H locs hI hM
    exact absurd hM (by omega)
  | succ n9_1 ih1 =>
    intro v4 gs9 H locs hI1 hM1 hsi9 hP hD hS ls hl
    refine lv_iload hx hb dX9_step_12 (lv_at hl 0 rfl) ?_
    have hc1 := hsi9.2
    refine lv_aload_n hx hb dX9_step_14 rfl (lv_at hl 3 rfl) ?_
    refine lv_iload_n hx hb dX9_step_15 rfl (lv_at hl 1 rfl) ?_
    refine lv_iconst (v := zI 1) hx hb dX9_step_16 rfl ?_
    refine r_iadd (v := zI ((20 * (g_s 4)) + 1)) F dX9_step_17 (zI_add _ _) ?_
    refine rz_iald F hK hP 0 0 rfl rfl (by omega) (by omega) dX9_step_18 ?_
    have hpl2 : 0 ≤ (g_p (((20 * (g_s 4)) + 1)).toNat) ∧ (g_p (((20 * (g_s 4)) + 1)).toNat) ≤ 4 := ProgR.at hp.1 (e := ((20 * (g_s 4)) + 1)) (g_s 4) 1 (by omega) (by omega) (by decide) rfl
    refine rz_icmp_ge (tgt := 36) F (by omega) (by omega) dX9_step_19 (by decide) (fun h19_2 => ?_) (fun h19_2 => ?_)
    · refine lv_aload_n hx hb dX9_step_36 rfl (lv_at hl 4 rfl) ?_
      refine lv_iconst (v := zI 5) hx hb dX9_step_37 rfl ?_
      refine lv_dup2_11 hx hb dX9_step_38 rfl rfl ?_
      refine rz_ialdN F hK hP 1 0 rfl rfl (by omega) (by omega) dX9_step_39 5 rfl ?_
      refine lv_iconst (v := zI 1) hx hb dX9_step_40 rfl ?_
      refine r_iadd (v := zI ((gs9 5) + 1)) F dX9_step_41 (zI_add _ _) ?_
      refine rz_iastN F hK hP hD hS 1 0 rfl rfl (by omega) (by omega) dX9_step_42 5 rfl (w1 := fun g4 => [(a, .inl (cI, 200, .inl (fun k => zI (g_p k)))), (d, .inl (cI, 159, .inl (fun k => zI (g4 k))))]) (fun _ => rfl) (fun g4 e_g4 H locs hP hD hS => ?_)
      obtain ⟨hsi5, hr_hsi5⟩ := SI.free hsi9.1 e_g4 (by omega)
      have ht6 : g4 4 = gs9 4 := uZ_off e_g4 (by omega)
      have ht7 : g4 5 = ((gs9 5) + 1) := uZ_at e_g4 rfl
      have ht8 : g4 6 = gs9 6 := uZ_off e_g4 (by omega)
      refine lv_aload_n hx hb dX9_step_43 rfl (lv_at hl 3 rfl) ?_
      refine lv_iload_n hx hb dX9_step_44 rfl (lv_at hl 1 rfl) ?_
      refine lv_bipush (v := zI 14) hx hb dX9_step_45 (by decide) ?_
      refine r_iadd (v := zI ((20 * (g_s 4)) + 14)) F dX9_step_47 (zI_add _ _) ?_
      refine rz_iald F hK hP 0 0 rfl rfl (by omega) (by omega) dX9_step_48 ?_
      refine rz_top (fun z9 h_z9 => ?_)
      refine rz_if_ne (tgt := 60) F (by omega) dX9_step_49 (by decide) (fun h49_9 => ?_) (fun h49_9 => ?_)
      · refine lv_aload_n hx hb dX9_step_60 rfl (lv_at hl 3 rfl) ?_
        refine lv_iload_n hx hb dX9_step_61 rfl (lv_at hl 1 rfl) ?_
        refine lv_bipush (v := zI 14) hx hb dX9_step_62 (by decide) ?_
        refine r_iadd (v := zI ((20 * (g_s 4)) + 14)) F dX9_step_64 (zI_add _ _) ?_
        refine rz_iald F hK hP 0 0 rfl rfl (by omega) (by omega) dX9_step_65 ?_
        refine rz_top (fun z11 h_z11 => ?_)
        refine lv_iconst (v := zI 2) hx hb dX9_step_66 rfl ?_
        refine rz_icmp_ne (tgt := 85) F (by omega) (by omega) dX9_step_67 (by decide) (fun h67_11 => ?_) (fun h67_11 => ?_)
        · refine lv_iconst (v := zI 0) hx hb dX9_step_85 rfl ?_
          refine lv_istore (lv' := [(4, .int (zI 0)), (3, .int (zI (20 * (g_s 4)))), (2, .int (zI (g_s 4))), (0, .ref a), (1, .ref d)]) hx hb dX9_step_86 hl (by decide) rfl (fun ls hl => ?_)
          refine lv_iconst (v := zI 2) hx hb dX9_step_88 rfl ?_
          refine lv_iload_n hx hb dX9_step_89 rfl (lv_at hl 2 rfl) ?_
          refine r_imul (v := zI (2 * (g_s 4))) F dX9_step_90 (zI_mul _ _) ?_
          refine lv_iload hx hb dX9_step_91 (lv_at hl 0 rfl) ?_
          refine rz_if_eq (tgt := 100) F (by omega) dX9_step_93 (by decide) (fun h93_12 => ?_) (fun h93_12 => by omega)
          refine lv_iconst (v := zI 0) hx hb dX9_step_100 rfl ?_
          refine r_iadd (v := zI ((2 * (g_s 4)) + 0)) F dX9_step_101 (zI_add _ _) ?_
          refine lv_istore (lv' := [(5, .int (zI ((2 * (g_s 4)) + 0))), (4, .int (zI 0)), (3, .int (zI (20 * (g_s 4)))), (2, .int (zI (g_s 4))), (0, .ref a), (1, .ref d)]) hx hb dX9_step_102 hl (by decide) rfl (fun ls hl => ?_)
          refine lv_iload_n hx hb dX9_step_104 rfl (lv_at hl 2 rfl) ?_
          refine lv_iload hx hb dX9_step_105 (lv_at hl 1 rfl) ?_
          refine rz_if_eq (tgt := 115) F (by omega) dX9_step_107 (by decide) (fun h107_13 => ?_) (fun h107_13 => by omega)
          refine lv_bipush (v := zI 16) hx hb dX9_step_115 (by decide) ?_
          refine r_iadd (v := zI ((20 * (g_s 4)) + 16)) F dX9_step_117 (zI_add _ _) ?_
          refine lv_istore (lv' := [(6, .int (zI ((20 * (g_s 4)) + 16))), (5, .int (zI ((2 * (g_s 4)) + 0))), (4, .int (zI 0)), (3, .int (zI (20 * (g_s 4)))), (2, .int (zI (g_s 4))), (0, .ref a), (1, .ref d)]) hx hb dX9_step_118 hl (by decide) rfl (fun ls hl => ?_)
          refine lv_aload_n hx hb dX9_step_120 rfl (lv_at hl 6 rfl) ?_
          refine lv_bipush (v := zI 8) hx hb dX9_step_121 (by decide) ?_
          refine lv_iload hx hb dX9_step_123 (lv_at hl 1 rfl) ?_
          refine r_iadd (v := zI (8 + ((2 * (g_s 4)) + 0))) F dX9_step_125 (zI_add _ _) ?_
          refine rz_iald F hK hP 1 0 rfl rfl (by omega) (by omega) dX9_step_126 ?_
          refine lv_aload_n hx hb dX9_step_127 rfl (lv_at hl 5 rfl) ?_
          refine lv_iload hx hb dX9_step_128 (lv_at hl 0 rfl) ?_
          refine lv_iconst (v := zI 1) hx hb dX9_step_130 rfl ?_
          refine r_iadd (v := zI (((20 * (g_s 4)) + 16) + 1)) F dX9_step_131 (zI_add _ _) ?_
          refine rz_iald F hK hP 0 0 rfl rfl (by omega) (by omega) dX9_step_132 ?_
          have hc15 := SI.take hsi5 (i := (g_s 4)) (k := (8 + ((2 * (g_s 4)) + 0)).toNat) (l := ((((20 * (g_s 4)) + 16) + 1)).toNat) (by omega) (by omega) (by omega)
          have hc16 := hp.1.le9 ((((20 * (g_s 4)) + 16) + 1)).toNat (by omega)
          refine rz_icmp_ne (tgt := 144) F (by omega) (by omega) dX9_step_133 (by decide) (fun h133_16 => ?_) (fun h133_16 => ?_)
          · refine lv_aload_n hx hb dX9_step_144 rfl (lv_at hl 6 rfl) ?_
            refine lv_bipush (v := zI 8) hx hb dX9_step_145 (by decide) ?_
            refine lv_iload hx hb dX9_step_147 (lv_at hl 1 rfl) ?_
            refine r_iadd (v := zI (8 + ((2 * (g_s 4)) + 0))) F dX9_step_149 (zI_add _ _) ?_
            refine lv_dup2_11 hx hb dX9_step_150 rfl rfl ?_
            refine rz_iald F hK hP 1 0 rfl rfl (by omega) (by omega) dX9_step_151 ?_
            refine lv_iconst (v := zI 1) hx hb dX9_step_152 rfl ?_
            refine r_iadd (v := zI ((g4 ((8 + ((2 * (g_s 4)) + 0))).toNat) + 1)) F dX9_step_153 (zI_add _ _) ?_
            refine rz_iastG F hK hP hD hS 1 0 rfl rfl (by omega) (by omega) dX9_step_154 (w1 := fun g18 => [(a, .inl (cI, 200, .inl (fun k => zI (g_p k)))), (d, .inl (cI, 159, .inl (fun k => zI (g18 k))))]) (fun _ => rfl) (fun g18 e_g18 H locs hP hD hS => ?_)
            obtain ⟨hsi19, hr_hsi19⟩ := SI.tk0 hsi5 e_g18 (l := ((((20 * (g_s 4)) + 16) + 1)).toNat) (i := ((g_s 4)).toNat) (by omega) (by omega) (by omega) (by omega)
            have ht20 : g18 4 = g4 4 := uZ_off e_g18 (by omega)
            have ht21 : g18 5 = g4 5 := uZ_off e_g18 (by omega)
            have ht22 : g18 6 = g4 6 := uZ_off e_g18 (by omega)
            refine lv_aload_n hx hb dX9_step_155 rfl (lv_at hl 6 rfl) ?_
            refine lv_sipush (v := zI 139) hx hb dX9_step_156 (by decide) ?_
            refine lv_iload hx hb dX9_step_159 (lv_at hl 1 rfl) ?_
            refine r_iadd (v := zI (139 + ((2 * (g_s 4)) + 0))) F dX9_step_161 (zI_add _ _) ?_
            refine lv_dup2_11 hx hb dX9_step_162 rfl rfl ?_
            refine rz_iald F hK hP 1 0 rfl rfl (by omega) (by omega) dX9_step_163 ?_
            refine rz_top (fun z23 h_z23 => ?_)
            refine lv_iconst (v := zI 1) hx hb dX9_step_164 rfl ?_
            refine r_iadd (v := zI (z23 + 1)) F dX9_step_165 (zI_add _ _) ?_
            refine rz_iastG F hK hP hD hS 1 0 rfl rfl (by omega) (by omega) dX9_step_166 (w1 := fun g24 => [(a, .inl (cI, 200, .inl (fun k => zI (g_p k)))), (d, .inl (cI, 159, .inl (fun k => zI (g24 k))))]) (fun _ => rfl) (fun g24 e_g24 H locs hP hD hS => ?_)
            obtain ⟨hsi25, hr_hsi25⟩ := SI.free hsi19 e_g24 (by omega)
            have ht26 : g24 4 = g18 4 := uZ_off e_g24 (by omega)
            have ht27 : g24 5 = g18 5 := uZ_off e_g24 (by omega)
            have ht28 : g24 6 = g18 6 := uZ_off e_g24 (by omega)
            refine lv_aload_n hx hb dX9_step_167 rfl (lv_at hl 6 rfl) ?_
            refine lv_bipush (v := zI 7) hx hb dX9_step_168 (by decide) ?_
            refine lv_dup2_11 hx hb dX9_step_170 rfl rfl ?_
            refine rz_ialdN F hK hP 1 0 rfl rfl (by omega) (by omega) dX9_step_171 7 rfl ?_
            refine rz_top (fun z29 h_z29 => ?_)
            refine lv_iconst (v := zI 1) hx hb dX9_step_172 rfl ?_
            refine r_iadd (v := zI (z29 + 1)) F dX9_step_173 (zI_add _ _) ?_
            refine rz_iastN F hK hP hD hS 1 0 rfl rfl (by omega) (by omega) dX9_step_174 7 rfl (w1 := fun g30 => [(a, .inl (cI, 200, .inl (fun k => zI (g_p k)))), (d, .inl (cI, 159, .inl (fun k => zI (g30 k))))]) (fun _ => rfl) (fun g30 e_g30 H locs hP hD hS => ?_)
            obtain ⟨hsi31, hr_hsi31⟩ := SI.free hsi25 e_g30 (by omega)
            have ht32 : g30 4 = g24 4 := uZ_off e_g30 (by omega)
            have ht33 : g30 5 = g24 5 := uZ_off e_g30 (by omega)
            have ht34 : g30 6 = g24 6 := uZ_off e_g30 (by omega)
            refine lv_aload_n hx hb dX9_step_175 rfl (lv_at hl 6 rfl) ?_
            refine lv_bipush (v := zI 38) hx hb dX9_step_176 (by decide) ?_
            refine lv_dup2_11 hx hb dX9_step_178 rfl rfl ?_
            refine rz_ialdN F hK hP 1 0 rfl rfl (by omega) (by omega) dX9_step_179 38 rfl ?_
            refine rz_top (fun z35 h_z35 => ?_)
            refine lv_iconst (v := zI 1) hx hb dX9_step_180 rfl ?_
            refine lv_iload hx hb dX9_step_181 (lv_at hl 1 rfl) ?_
            refine lv_ishl hx hb dX9_step_183 ?_
            refine rz_top (fun z36 h_z36 => ?_)
            refine lv_ior hx hb dX9_step_184 ?_
            refine rz_top (fun z37 h_z37 => ?_)
            refine rz_iastN F hK hP hD hS 1 0 rfl rfl (by omega) (by omega) dX9_step_185 38 rfl (w1 := fun g38 => [(a, .inl (cI, 200, .inl (fun k => zI (g_p k)))), (d, .inl (cI, 159, .inl (fun k => zI (g38 k))))]) (fun _ => rfl) (fun g38 e_g38 H locs hP hD hS => ?_)
            obtain ⟨hsi39, hr_hsi39⟩ := SI.free hsi31 e_g38 (by omega)
            have ht40 : g38 4 = g30 4 := uZ_off e_g38 (by omega)
            have ht41 : g38 5 = g30 5 := uZ_off e_g38 (by omega)
            have ht42 : g38 6 = g30 6 := uZ_off e_g38 (by omega)
            refine lv_aload_n hx hb dX9_step_186 rfl (lv_at hl 6 rfl) ?_
            refine lv_iconst (v := zI 4) hx hb dX9_step_187 rfl ?_
            refine lv_aload_n hx hb dX9_step_188 rfl (lv_at hl 5 rfl) ?_
            refine lv_iload hx hb dX9_step_189 (lv_at hl 0 rfl) ?_
            refine rz_iald F hK hP 0 0 rfl rfl (by omega) (by omega) dX9_step_191 ?_
            have hpl43 : 0 ≤ (g_p (((20 * (g_s 4)) + 16)).toNat) ∧ (g_p (((20 * (g_s 4)) + 16)).toNat) ≤ 9 := ProgR.at hp.1 (e := ((20 * (g_s 4)) + 16)) (g_s 4) 16 (by omega) (by omega) (by decide) rfl
            refine rz_iastN F hK hP hD hS 1 0 rfl rfl (by omega) (by omega) dX9_step_192 4 rfl (w1 := fun g44 => [(a, .inl (cI, 200, .inl (fun k => zI (g_p k)))), (d, .inl (cI, 159, .inl (fun k => zI (g44 k))))]) (fun _ => rfl) (fun g44 e_g44 H locs hP hD hS => ?_)
            obtain ⟨hsi45, hr_hsi45⟩ := SI.ats hsi39 e_g44 (by omega)
            have ht46 : g44 4 = (g_p (((20 * (g_s 4)) + 16)).toNat) := uZ_at e_g44 rfl
            have ht47 : g44 5 = g38 5 := uZ_off e_g44 (by omega)
            have ht48 : g44 6 = g38 6 := uZ_off e_g44 (by omega)
            refine lv_aload_n hx hb dX9_step_193 rfl (lv_at hl 6 rfl) ?_
            refine lv_bipush (v := zI 6) hx hb dX9_step_194 (by decide) ?_
            refine lv_aload_n hx hb dX9_step_196 rfl (lv_at hl 5 rfl) ?_
            refine lv_aload_n hx hb dX9_step_197 rfl (lv_at hl 5 rfl) ?_
            refine lv_iload hx hb dX9_step_198 (lv_at hl 0 rfl) ?_
            refine rz_iald F hK hP 0 0 rfl rfl (by omega) (by omega) dX9_step_200 ?_
            have hpl49 : 0 ≤ (g_p (((20 * (g_s 4)) + 16)).toNat) ∧ (g_p (((20 * (g_s 4)) + 16)).toNat) ≤ 9 := ProgR.at hp.1 (e := ((20 * (g_s 4)) + 16)) (g_s 4) 16 (by omega) (by omega) (by decide) rfl
            refine r_callSi (As := [.ref a, .int (zI (g_p (((20 * (g_s 4)) + 16)).toNat))]) (rest := [.int (zI 6), .ref d]) (wr := [(d, .inl (cI, 159, .inl (fun k => zI (g44 k))))]) F hK hP hD hS hA hO hE (c_X9_isTold hO a g_p (g_p (((20 * (g_s 4)) + 16)).toNat) (by omega) hp (by omega)) k_1424 ks_X9_isTold 2 rfl (by decide +kernel) ⟨Nat.le_of_ble_eq_true rfl, Nat.le_of_ble_eq_true rfl⟩ [0] [1] rfl rfl (by decide) (by decide) (by decide) hl.1 rfl (Nat.le_of_ble_eq_true rfl) dX9_step_201 ⟨Nat.le_of_ble_eq_true rfl, Nat.le_of_ble_eq_true rfl⟩ (w1 := fun u50 => [(d, .inl (cI, 159, .inl (fun k => zI (g44 k)))), (a, .inl (cI, 200, .inl (fun k => zI (g_p k))))]) (fun _ => rfl) (fun r51 u50 H locs hp52 hP hD hS => ?_)
            obtain ⟨z53, rfl, h_z53⟩ := hp52
            refine rz_ifb_eq (tgt := 211) F (by omega) dX9_step_204 (by decide) (fun h204_53 => ?_) (fun h204_53 => ?_)
            · refine lv_iconst (v := zI 3) hx hb dX9_step_211 rfl ?_
              refine rz_iastN F hK hP hD hS 0 0 rfl rfl (by omega) (by omega) dX9_step_212 6 rfl (w1 := fun g55 => [(d, .inl (cI, 159, .inl (fun k => zI (g55 k)))), (a, .inl (cI, 200, .inl (fun k => zI (g_p k))))]) (fun _ => rfl) (fun g55 e_g55 H locs hP hD hS => ?_)
              obtain ⟨hsi56, hr_hsi56⟩ := SI.en hsi45 e_g55 (by omega)
              have ht57 : g55 4 = g44 4 := uZ_off e_g55 (by omega)
              have ht58 : g55 5 = g44 5 := uZ_off e_g55 (by omega)
              have ht59 : g55 6 = 3 := uZ_at e_g55 rfl
              refine lv_aload_n hx hb dX9_step_213 rfl (lv_at hl 6 rfl) ?_
              refine lv_iconst (v := zI 5) hx hb dX9_step_214 rfl ?_
              refine rz_ialdN F hK hP 0 0 rfl rfl (by omega) (by omega) dX9_step_215 5 rfl ?_
              refine lv_bipush (v := zI 100) hx hb dX9_step_216 (by decide) ?_
              refine rz_icmp_ge (tgt := 232) F (by omega) (by omega) dX9_step_218 (by decide) (fun h218_59 => ?_) (fun h218_59 => ?_)
              · exact ret (fun k => [((fun _ => 0), fun _ _ => 0), (fun _ => 0, fun _ => g55)].getD k (fun _ => 0, fun _ _ => 0)) _ _ _ _ _ _ (show StOk g_p g55 ∧ g55 5 = g_s 5 + 1 from ⟨⟨hsi56, (show 0 ≤ g55 5 ∧ g55 5 ≤ 1001 from by omega), (show g55 6 = 0 → g55 5 + rM g55 ≤ 1000 from fun q9 => by omega)⟩, by omega⟩) (bw_subP (isC := [1, 0]) hP rfl) (hD.sub [1, 0] (by decide) rfl) hS (Nat.le_of_ble_eq_true rfl) (Nat.le_of_ble_eq_true rfl) dX9_step_232
              · refine lv_aload_n hx hb dX9_step_221 rfl (lv_at hl 6 rfl) ?_
                refine lv_bipush (v := zI 39) hx hb dX9_step_222 (by decide) ?_
                refine lv_aload_n hx hb dX9_step_224 rfl (lv_at hl 6 rfl) ?_
                refine lv_iconst (v := zI 5) hx hb dX9_step_225 rfl ?_
                refine rz_ialdN F hK hP 0 0 rfl rfl (by omega) (by omega) dX9_step_226 5 rfl ?_
                refine r_iadd (v := zI (39 + (g55 5))) F dX9_step_227 (zI_add _ _) ?_
                refine lv_aload_n hx hb dX9_step_228 rfl (lv_at hl 6 rfl) ?_
                refine lv_iconst (v := zI 4) hx hb dX9_step_229 rfl ?_
                refine rz_ialdN F hK hP 0 0 rfl rfl (by omega) (by omega) dX9_step_230 4 rfl ?_
                refine rz_top (fun z61 h_z61 => ?_)
                refine rz_iastG F hK hP hD hS 0 0 rfl rfl (by omega) (by omega) dX9_step_231 (w1 := fun g62 => [(d, .inl (cI, 159, .inl (fun k => zI (g62 k)))), (a, .inl (cI, 200, .inl (fun k => zI (g_p k))))]) (fun _ => rfl) (fun g62 e_g62 H locs hP hD hS => ?_)
                obtain ⟨hsi63, hr_hsi63⟩ := SI.free hsi56 e_g62 (by omega)
                have ht64 : g62 4 = g55 4 := uZ_off e_g62 (by omega)
                have ht65 : g62 5 = g55 5 := uZ_off e_g62 (by omega)
                have ht66 : g62 6 = g55 6 := uZ_off e_g62 (by omega)
                exact ret (fun k => [((fun _ => 0), fun _ _ => 0), (fun _ => 0, fun _ => g62)].getD k (fun _ => 0, fun _ _ => 0)) _ _ _ _ _ _ (show StOk g_p g62 ∧ g62 5 = g_s 5 + 1 from ⟨⟨hsi63, (show 0 ≤ g62 5 ∧ g62 5 ≤ 1001 from by omega), (show g62 6 = 0 → g62 5 + rM g62 ≤ 1000 from fun q9 => by omega)⟩, by omega⟩) (bw_subP (isC := [1, 0]) hP rfl) (hD.sub [1, 0] (by decide) rfl) hS (Nat.le_of_ble_eq_true rfl) (Nat.le_of_ble_eq_true rfl) dX9_step_232
            · refine lv_iconst (v := zI 0) hx hb dX9_step_207 rfl ?_
              refine lv_goto (tgt := 212) hx hb dX9_step_208 (by decide) ?_
              refine rz_iastN F hK hP hD hS 0 0 rfl rfl (by omega) (by omega) dX9_step_212 6 rfl (w1 := fun g67 => [(d, .inl (cI, 159, .inl (fun k => zI (g67 k)))), (a, .inl (cI, 200, .inl (fun k => zI (g_p k))))]) (fun _ => rfl) (fun g67 e_g67 H locs hP hD hS => ?_)
              obtain ⟨hsi68, hr_hsi68⟩ := SI.en hsi45 e_g67 (by omega)
              have ht69 : g67 4 = g44 4 := uZ_off e_g67 (by omega)
              have ht70 : g67 5 = g44 5 := uZ_off e_g67 (by omega)
              have ht71 : g67 6 = 0 := uZ_at e_g67 rfl
              refine lv_aload_n hx hb dX9_step_213 rfl (lv_at hl 6 rfl) ?_
              refine lv_iconst (v := zI 5) hx hb dX9_step_214 rfl ?_
              refine rz_ialdN F hK hP 0 0 rfl rfl (by omega) (by omega) dX9_step_215 5 rfl ?_
              refine lv_bipush (v := zI 100) hx hb dX9_step_216 (by decide) ?_
              refine rz_icmp_ge (tgt := 232) F (by omega) (by omega) dX9_step_218 (by decide) (fun h218_71 => ?_) (fun h218_71 => ?_)
              · exact ret (fun k => [((fun _ => 0), fun _ _ => 0), (fun _ => 0, fun _ => g67)].getD k (fun _ => 0, fun _ _ => 0)) _ _ _ _ _ _ (show StOk g_p g67 ∧ g67 5 = g_s 5 + 1 from ⟨⟨hsi68, (show 0 ≤ g67 5 ∧ g67 5 ≤ 1001 from by omega), (show g67 6 = 0 → g67 5 + rM g67 ≤ 1000 from fun q9 => by omega)⟩, by omega⟩) (bw_subP (isC := [1, 0]) hP rfl) (hD.sub [1, 0] (by decide) rfl) hS (Nat.le_of_ble_eq_true rfl) (Nat.le_of_ble_eq_true rfl) dX9_step_232
              · refine lv_aload_n hx hb dX9_step_221 rfl (lv_at hl 6 rfl) ?_
                refine lv_bipush (v := zI 39) hx hb dX9_step_222 (by decide) ?_
                refine lv_aload_n hx hb dX9_step_224 rfl (lv_at hl 6 rfl) ?_
                refine lv_iconst (v := zI 5) hx hb dX9_step_225 rfl ?_
                refine rz_ialdN F hK hP 0 0 rfl rfl (by omega) (by omega) dX9_step_226 5 rfl ?_
                refine r_iadd (v := zI (39 + (g67 5))) F dX9_step_227 (zI_add _ _) ?_
                refine lv_aload_n hx hb dX9_step_228 rfl (lv_at hl 6 rfl) ?_
                refine lv_iconst (v := zI 4) hx hb dX9_step_229 rfl ?_
                refine rz_ialdN F hK hP 0 0 rfl rfl (by omega) (by omega) dX9_step_230 4 rfl ?_
                refine rz_top (fun z73 h_z73 => ?_)
                refine rz_iastG F hK hP hD hS 0 0 rfl rfl (by omega) (by omega) dX9_step_231 (w1 := fun g74 => [(d, .inl (cI, 159, .inl (fun k => zI (g74 k)))), (a, .inl (cI, 200, .inl (fun k => zI (g_p k))))]) (fun _ => rfl) (fun g74 e_g74 H locs hP hD hS => ?_)
                obtain ⟨hsi75, hr_hsi75⟩ := SI.free hsi68 e_g74 (by omega)
                have ht76 : g74 4 = g67 4 := uZ_off e_g74 (by omega)
                have ht77 : g74 5 = g67 5 := uZ_off e_g74 (by omega)
                have ht78 : g74 6 = g67 6 := uZ_off e_g74 (by omega)
                exact ret (fun k => [((fun _ => 0), fun _ _ => 0), (fun _ => 0, fun _ => g74)].getD k (fun _ => 0, fun _ _ => 0)) _ _ _ _ _ _ (show StOk g_p g74 ∧ g74 5 = g_s 5 + 1 from ⟨⟨hsi75, (show 0 ≤ g74 5 ∧ g74 5 ≤ 1001 from by omega), (show g74 6 = 0 → g74 5 + rM g74 ≤ 1000 from fun q9 => by omega)⟩, by omega⟩) (bw_subP (isC := [1, 0]) hP rfl) (hD.sub [1, 0] (by decide) rfl) hS (Nat.le_of_ble_eq_true rfl) (Nat.le_of_ble_eq_true rfl) dX9_step_232
          · refine lv_aload_n hx hb dX9_step_136 rfl (lv_at hl 6 rfl) ?_
            refine lv_bipush (v := zI 6) hx hb dX9_step_137 (by decide) ?_
            refine lv_iconst (v := zI 2) hx hb dX9_step_139 rfl ?_
            refine rz_iastN F hK hP hD hS 1 0 rfl rfl (by omega) (by omega) dX9_step_140 6 rfl (w1 := fun g79 => [(a, .inl (cI, 200, .inl (fun k => zI (g_p k)))), (d, .inl (cI, 159, .inl (fun k => zI (g79 k))))]) (fun _ => rfl) (fun g79 e_g79 H locs hP hD hS => ?_)
            obtain ⟨hsi80, hr_hsi80⟩ := SI.en hsi5 e_g79 (by omega)
            have ht81 : g79 4 = g4 4 := uZ_off e_g79 (by omega)
            have ht82 : g79 5 = g4 5 := uZ_off e_g79 (by omega)
            have ht83 : g79 6 = 2 := uZ_at e_g79 rfl
            refine lv_goto (tgt := 213) hx hb dX9_step_141 (by decide) ?_
            refine lv_aload_n hx hb dX9_step_213 rfl (lv_at hl 6 rfl) ?_
            refine lv_iconst (v := zI 5) hx hb dX9_step_214 rfl ?_
            refine rz_ialdN F hK hP 1 0 rfl rfl (by omega) (by omega) dX9_step_215 5 rfl ?_
            refine lv_bipush (v := zI 100) hx hb dX9_step_216 (by decide) ?_
            refine rz_icmp_ge (tgt := 232) F (by omega) (by omega) dX9_step_218 (by decide) (fun h218_83 => ?_) (fun h218_83 => ?_)
            · exact ret (fun k => [((fun _ => 0), fun _ _ => 0), (fun _ => 0, fun _ => g79)].getD k (fun _ => 0, fun _ _ => 0)) _ _ _ _ _ _ (show StOk g_p g79 ∧ g79 5 = g_s 5 + 1 from ⟨⟨hsi80, (show 0 ≤ g79 5 ∧ g79 5 ≤ 1001 from by omega), (show g79 6 = 0 → g79 5 + rM g79 ≤ 1000 from fun q9 => by omega)⟩, by omega⟩) (bw_subP (isC := [0, 1]) hP rfl) (hD.sub [0, 1] (by decide) rfl) hS (Nat.le_of_ble_eq_true rfl) (Nat.le_of_ble_eq_true rfl) dX9_step_232
            · refine lv_aload_n hx hb dX9_step_221 rfl (lv_at hl 6 rfl) ?_
              refine lv_bipush (v := zI 39) hx hb dX9_step_222 (by decide) ?_
              refine lv_aload_n hx hb dX9_step_224 rfl (lv_at hl 6 rfl) ?_
              refine lv_iconst (v := zI 5) hx hb dX9_step_225 rfl ?_
              refine rz_ialdN F hK hP 1 0 rfl rfl (by omega) (by omega) dX9_step_226 5 rfl ?_
              refine r_iadd (v := zI (39 + (g79 5))) F dX9_step_227 (zI_add _ _) ?_
              refine lv_aload_n hx hb dX9_step_228 rfl (lv_at hl 6 rfl) ?_
              refine lv_iconst (v := zI 4) hx hb dX9_step_229 rfl ?_
              refine rz_ialdN F hK hP 1 0 rfl rfl (by omega) (by omega) dX9_step_230 4 rfl ?_
              refine rz_top (fun z85 h_z85 => ?_)
              refine rz_iastG F hK hP hD hS 1 0 rfl rfl (by omega) (by omega) dX9_step_231 (w1 := fun g86 => [(a, .inl (cI, 200, .inl (fun k => zI (g_p k)))), (d, .inl (cI, 159, .inl (fun k => zI (g86 k))))]) (fun _ => rfl) (fun g86 e_g86 H locs hP hD hS => ?_)
              obtain ⟨hsi87, hr_hsi87⟩ := SI.free hsi80 e_g86 (by omega)
              have ht88 : g86 4 = g79 4 := uZ_off e_g86 (by omega)
              have ht89 : g86 5 = g79 5 := uZ_off e_g86 (by omega)
              have ht90 : g86 6 = g79 6 := uZ_off e_g86 (by omega)
              exact ret (fun k => [((fun _ => 0), fun _ _ => 0), (fun _ => 0, fun _ => g86)].getD k (fun _ => 0, fun _ _ => 0)) _ _ _ _ _ _ (show StOk g_p g86 ∧ g86 5 = g_s 5 + 1 from ⟨⟨hsi87, (show 0 ≤ g86 5 ∧ g86 5 ≤ 1001 from by omega), (show g86 6 = 0 → g86 5 + rM g86 ≤ 1000 from fun q9 => by omega)⟩, by omega⟩) (bw_subP (isC := [0, 1]) hP rfl) (hD.sub [0, 1] (by decide) rfl) hS (Nat.le_of_ble_eq_true rfl) (Nat.le_of_ble_eq_true rfl) dX9_step_232
        · refine lv_aload_n hx hb dX9_step_70 rfl (lv_at hl 4 rfl) ?_
          refine lv_aload_n hx hb dX9_step_71 rfl (lv_at hl 3 rfl) ?_
          refine lv_iload_n hx hb dX9_step_72 rfl (lv_at hl 1 rfl) ?_
          refine lv_bipush (v := zI 15) hx hb dX9_step_73 (by decide) ?_
          refine r_iadd (v := zI ((20 * (g_s 4)) + 15)) F dX9_step_75 (zI_add _ _) ?_
          refine rz_iald F hK hP 0 0 rfl rfl (by omega) (by omega) dX9_step_76 ?_
          have hpl91 : 0 ≤ (g_p (((20 * (g_s 4)) + 15)).toNat) ∧ (g_p (((20 * (g_s 4)) + 15)).toNat) ≤ 3 := ProgR.at hp.1 (e := ((20 * (g_s 4)) + 15)) (g_s 4) 15 (by omega) (by omega) (by decide) rfl
          refine rz_iald F hK hP 1 0 rfl rfl (by omega) (by omega) dX9_step_77 ?_
          refine rz_top (fun z92 h_z92 => ?_)
          refine rz_if_ne (tgt := 85) F (by omega) dX9_step_78 (by decide) (fun h78_92 => ?_) (fun h78_92 => ?_)
          · refine lv_iconst (v := zI 0) hx hb dX9_step_85 rfl ?_
            refine lv_istore (lv' := [(4, .int (zI 0)), (3, .int (zI (20 * (g_s 4)))), (2, .int (zI (g_s 4))), (0, .ref a), (1, .ref d)]) hx hb dX9_step_86 hl (by decide) rfl (fun ls hl => ?_)
            refine lv_iconst (v := zI 2) hx hb dX9_step_88 rfl ?_
            refine lv_iload_n hx hb dX9_step_89 rfl (lv_at hl 2 rfl) ?_
            refine r_imul (v := zI (2 * (g_s 4))) F dX9_step_90 (zI_mul _ _) ?_
            refine lv_iload hx hb dX9_step_91 (lv_at hl 0 rfl) ?_
            refine rz_if_eq (tgt := 100) F (by omega) dX9_step_93 (by decide) (fun h93_93 => ?_) (fun h93_93 => by omega)
            refine lv_iconst (v := zI 0) hx hb dX9_step_100 rfl ?_
            refine r_iadd (v := zI ((2 * (g_s 4)) + 0)) F dX9_step_101 (zI_add _ _) ?_
            refine lv_istore (lv' := [(5, .int (zI ((2 * (g_s 4)) + 0))), (4, .int (zI 0)), (3, .int (zI (20 * (g_s 4)))), (2, .int (zI (g_s 4))), (0, .ref a), (1, .ref d)]) hx hb dX9_step_102 hl (by decide) rfl (fun ls hl => ?_)
            refine lv_iload_n hx hb dX9_step_104 rfl (lv_at hl 2 rfl) ?_
            refine lv_iload hx hb dX9_step_105 (lv_at hl 1 rfl) ?_
            refine rz_if_eq (tgt := 115) F (by omega) dX9_step_107 (by decide) (fun h107_94 => ?_) (fun h107_94 => by omega)
            refine lv_bipush (v := zI 16) hx hb dX9_step_115 (by decide) ?_
            refine r_iadd (v := zI ((20 * (g_s 4)) + 16)) F dX9_step_117 (zI_add _ _) ?_
            refine lv_istore (lv' := [(6, .int (zI ((20 * (g_s 4)) + 16))), (5, .int (zI ((2 * (g_s 4)) + 0))), (4, .int (zI 0)), (3, .int (zI (20 * (g_s 4)))), (2, .int (zI (g_s 4))), (0, .ref a), (1, .ref d)]) hx hb dX9_step_118 hl (by decide) rfl (fun ls hl => ?_)
            refine lv_aload_n hx hb dX9_step_120 rfl (lv_at hl 6 rfl) ?_
            refine lv_bipush (v := zI 8) hx hb dX9_step_121 (by decide) ?_
            refine lv_iload hx hb dX9_step_123 (lv_at hl 1 rfl) ?_
            refine r_iadd (v := zI (8 + ((2 * (g_s 4)) + 0))) F dX9_step_125 (zI_add _ _) ?_
            refine rz_iald F hK hP 1 0 rfl rfl (by omega) (by omega) dX9_step_126 ?_
            refine lv_aload_n hx hb dX9_step_127 rfl (lv_at hl 5 rfl) ?_
            refine lv_iload hx hb dX9_step_128 (lv_at hl 0 rfl) ?_
            refine lv_iconst (v := zI 1) hx hb dX9_step_130 rfl ?_
            refine r_iadd (v := zI (((20 * (g_s 4)) + 16) + 1)) F dX9_step_131 (zI_add _ _) ?_
            refine rz_iald F hK hP 0 0 rfl rfl (by omega) (by omega) dX9_step_132 ?_
            have hc96 := SI.take hsi5 (i := (g_s 4)) (k := (8 + ((2 * (g_s 4)) + 0)).toNat) (l := ((((20 * (g_s 4)) + 16) + 1)).toNat) (by omega) (by omega) (by omega)
            have hc97 := hp.1.le9 ((((20 * (g_s 4)) + 16) + 1)).toNat (by omega)
            refine rz_icmp_ne (tgt := 144) F (by omega) (by omega) dX9_step_133 (by decide) (fun h133_97 => ?_) (fun h133_97 => ?_)
            · refine lv_aload_n hx hb dX9_step_144 rfl (lv_at hl 6 rfl) ?_
              refine lv_bipush (v := zI 8) hx hb dX9_step_145 (by decide) ?_
              refine lv_iload hx hb dX9_step_147 (lv_at hl 1 rfl) ?_
              refine r_iadd (v := zI (8 + ((2 * (g_s 4)) + 0))) F dX9_step_149 (zI_add _ _) ?_
              refine lv_dup2_11 hx hb dX9_step_150 rfl rfl ?_
              refine rz_iald F hK hP 1 0 rfl rfl (by omega) (by omega) dX9_step_151 ?_
              refine lv_iconst (v := zI 1) hx hb dX9_step_152 rfl ?_
              refine r_iadd (v := zI ((g4 ((8 + ((2 * (g_s 4)) + 0))).toNat) + 1)) F dX9_step_153 (zI_add _ _) ?_
              refine rz_iastG F hK hP hD hS 1 0 rfl rfl (by omega) (by omega) dX9_step_154 (w1 := fun g99 => [(a, .inl (cI, 200, .inl (fun k => zI (g_p k)))), (d, .inl (cI, 159, .inl (fun k => zI (g99 k))))]) (fun _ => rfl) (fun g99 e_g99 H locs hP hD hS => ?_)
              obtain ⟨hsi100, hr_hsi100⟩ := SI.tk0 hsi5 e_g99 (l := ((((20 * (g_s 4)) + 16) + 1)).toNat) (i := ((g_s 4)).toNat) (by omega) (by omega) (by omega) (by omega)
              have ht101 : g99 4 = g4 4 := uZ_off e_g99 (by omega)
              have ht102 : g99 5 = g4 5 := uZ_off e_g99 (by omega)
              have ht103 : g99 6 = g4 6 := uZ_off e_g99 (by omega)
              refine lv_aload_n hx hb dX9_step_155 rfl (lv_at hl 6 rfl) ?_
              refine lv_sipush (v := zI 139) hx hb dX9_step_156 (by decide) ?_
              refine lv_iload hx hb dX9_step_159 (lv_at hl 1 rfl) ?_
              refine r_iadd (v := zI (139 + ((2 * (g_s 4)) + 0))) F dX9_step_161 (zI_add _ _) ?_
              refine lv_dup2_11 hx hb dX9_step_162 rfl rfl ?_
              refine rz_iald F hK hP 1 0 rfl rfl (by omega) (by omega) dX9_step_163 ?_
              refine rz_top (fun z104 h_z104 => ?_)
              refine lv_iconst (v := zI 1) hx hb dX9_step_164 rfl ?_
              refine r_iadd (v := zI (z104 + 1)) F dX9_step_165 (zI_add _ _) ?_
              refine rz_iastG F hK hP hD hS 1 0 rfl rfl (by omega) (by omega) dX9_step_166 (w1 := fun g105 => [(a, .inl (cI, 200, .inl (fun k => zI (g_p k)))), (d, .inl (cI, 159, .inl (fun k => zI (g105 k))))]) (fun _ => rfl) (fun g105 e_g105 H locs hP hD hS => ?_)
              obtain ⟨hsi106, hr_hsi106⟩ := SI.free hsi100 e_g105 (by omega)
              have ht107 : g105 4 = g99 4 := uZ_off e_g105 (by omega)
              have ht108 : g105 5 = g99 5 := uZ_off e_g105 (by omega)
              have ht109 : g105 6 = g99 6 := uZ_off e_g105 (by omega)
              refine lv_aload_n hx hb dX9_step_167 rfl (lv_at hl 6 rfl) ?_
              refine lv_bipush (v := zI 7) hx hb dX9_step_168 (by decide) ?_
              refine lv_dup2_11 hx hb dX9_step_170 rfl rfl ?_
              refine rz_ialdN F hK hP 1 0 rfl rfl (by omega) (by omega) dX9_step_171 7 rfl ?_
              refine rz_top (fun z110 h_z110 => ?_)
              refine lv_iconst (v := zI 1) hx hb dX9_step_172 rfl ?_
              refine r_iadd (v := zI (z110 + 1)) F dX9_step_173 (zI_add _ _) ?_
              refine rz_iastN F hK hP hD hS 1 0 rfl rfl (by omega) (by omega) dX9_step_174 7 rfl (w1 := fun g111 => [(a, .inl (cI, 200, .inl (fun k => zI (g_p k)))), (d, .inl (cI, 159, .inl (fun k => zI (g111 k))))]) (fun _ => rfl) (fun g111 e_g111 H locs hP hD hS => ?_)
              obtain ⟨hsi112, hr_hsi112⟩ := SI.free hsi106 e_g111 (by omega)
              have ht113 : g111 4 = g105 4 := uZ_off e_g111 (by omega)
              have ht114 : g111 5 = g105 5 := uZ_off e_g111 (by omega)
              have ht115 : g111 6 = g105 6 := uZ_off e_g111 (by omega)
              refine lv_aload_n hx hb dX9_step_175 rfl (lv_at hl 6 rfl) ?_
              refine lv_bipush (v := zI 38) hx hb dX9_step_176 (by decide) ?_
              refine lv_dup2_11 hx hb dX9_step_178 rfl rfl ?_
              refine rz_ialdN F hK hP 1 0 rfl rfl (by omega) (by omega) dX9_step_179 38 rfl ?_
              refine rz_top (fun z116 h_z116 => ?_)
              refine lv_iconst (v := zI 1) hx hb dX9_step_180 rfl ?_
              refine lv_iload hx hb dX9_step_181 (lv_at hl 1 rfl) ?_
              refine lv_ishl hx hb dX9_step_183 ?_
              refine rz_top (fun z117 h_z117 => ?_)
              refine lv_ior hx hb dX9_step_184 ?_
              refine rz_top (fun z118 h_z118 => ?_)
              refine rz_iastN F hK hP hD hS 1 0 rfl rfl (by omega) (by omega) dX9_step_185 38 rfl (w1 := fun g119 => [(a, .inl (cI, 200, .inl (fun k => zI (g_p k)))), (d, .inl (cI, 159, .inl (fun k => zI (g119 k))))]) (fun _ => rfl) (fun g119 e_g119 H locs hP hD hS => ?_)
              obtain ⟨hsi120, hr_hsi120⟩ := SI.free hsi112 e_g119 (by omega)
              have ht121 : g119 4 = g111 4 := uZ_off e_g119 (by omega)
              have ht122 : g119 5 = g111 5 := uZ_off e_g119 (by omega)
              have ht123 : g119 6 = g111 6 := uZ_off e_g119 (by omega)
              refine lv_aload_n hx hb dX9_step_186 rfl (lv_at hl 6 rfl) ?_
              refine lv_iconst (v := zI 4) hx hb dX9_step_187 rfl ?_
              refine lv_aload_n hx hb dX9_step_188 rfl (lv_at hl 5 rfl) ?_
              refine lv_iload hx hb dX9_step_189 (lv_at hl 0 rfl) ?_
              refine rz_iald F hK hP 0 0 rfl rfl (by omega) (by omega) dX9_step_191 ?_
              have hpl124 : 0 ≤ (g_p (((20 * (g_s 4)) + 16)).toNat) ∧ (g_p (((20 * (g_s 4)) + 16)).toNat) ≤ 9 := ProgR.at hp.1 (e := ((20 * (g_s 4)) + 16)) (g_s 4) 16 (by omega) (by omega) (by decide) rfl
              refine rz_iastN F hK hP hD hS 1 0 rfl rfl (by omega) (by omega) dX9_step_192 4 rfl (w1 := fun g125 => [(a, .inl (cI, 200, .inl (fun k => zI (g_p k)))), (d, .inl (cI, 159, .inl (fun k => zI (g125 k))))]) (fun _ => rfl) (fun g125 e_g125 H locs hP hD hS => ?_)
              obtain ⟨hsi126, hr_hsi126⟩ := SI.ats hsi120 e_g125 (by omega)
              have ht127 : g125 4 = (g_p (((20 * (g_s 4)) + 16)).toNat) := uZ_at e_g125 rfl
              have ht128 : g125 5 = g119 5 := uZ_off e_g125 (by omega)
              have ht129 : g125 6 = g119 6 := uZ_off e_g125 (by omega)
              refine lv_aload_n hx hb dX9_step_193 rfl (lv_at hl 6 rfl) ?_
              refine lv_bipush (v := zI 6) hx hb dX9_step_194 (by decide) ?_
              refine lv_aload_n hx hb dX9_step_196 rfl (lv_at hl 5 rfl) ?_
              refine lv_aload_n hx hb dX9_step_197 rfl (lv_at hl 5 rfl) ?_
              refine lv_iload hx hb dX9_step_198 (lv_at hl 0 rfl) ?_
              refine rz_iald F hK hP 0 0 rfl rfl (by omega) (by omega) dX9_step_200 ?_
              have hpl130 : 0 ≤ (g_p (((20 * (g_s 4)) + 16)).toNat) ∧ (g_p (((20 * (g_s 4)) + 16)).toNat) ≤ 9 := ProgR.at hp.1 (e := ((20 * (g_s 4)) + 16)) (g_s 4) 16 (by omega) (by omega) (by decide) rfl
              refine r_callSi (As := [.ref a, .int (zI (g_p (((20 * (g_s 4)) + 16)).toNat))]) (rest := [.int (zI 6), .ref d]) (wr := [(d, .inl (cI, 159, .inl (fun k => zI (g125 k))))]) F hK hP hD hS hA hO hE (c_X9_isTold hO a g_p (g_p (((20 * (g_s 4)) + 16)).toNat) (by omega) hp (by omega)) k_1424 ks_X9_isTold 2 rfl (by decide +kernel) ⟨Nat.le_of_ble_eq_true rfl, Nat.le_of_ble_eq_true rfl⟩ [0] [1] rfl rfl (by decide) (by decide) (by decide) hl.1 rfl (Nat.le_of_ble_eq_true rfl) dX9_step_201 ⟨Nat.le_of_ble_eq_true rfl, Nat.le_of_ble_eq_true rfl⟩ (w1 := fun u131 => [(d, .inl (cI, 159, .inl (fun k => zI (g125 k)))), (a, .inl (cI, 200, .inl (fun k => zI (g_p k))))]) (fun _ => rfl) (fun r132 u131 H locs hp133 hP hD hS => ?_)
              obtain ⟨z134, rfl, h_z134⟩ := hp133
              refine rz_ifb_eq (tgt := 211) F (by omega) dX9_step_204 (by decide) (fun h204_134 => ?_) (fun h204_134 => ?_)
              · refine lv_iconst (v := zI 3) hx hb dX9_step_211 rfl ?_
                refine rz_iastN F hK hP hD hS 0 0 rfl rfl (by omega) (by omega) dX9_step_212 6 rfl (w1 := fun g136 => [(d, .inl (cI, 159, .inl (fun k => zI (g136 k)))), (a, .inl (cI, 200, .inl (fun k => zI (g_p k))))]) (fun _ => rfl) (fun g136 e_g136 H locs hP hD hS => ?_)
                obtain ⟨hsi137, hr_hsi137⟩ := SI.en hsi126 e_g136 (by omega)
                have ht138 : g136 4 = g125 4 := uZ_off e_g136 (by omega)
                have ht139 : g136 5 = g125 5 := uZ_off e_g136 (by omega)
                have ht140 : g136 6 = 3 := uZ_at e_g136 rfl
                refine lv_aload_n hx hb dX9_step_213 rfl (lv_at hl 6 rfl) ?_
                refine lv_iconst (v := zI 5) hx hb dX9_step_214 rfl ?_
                refine rz_ialdN F hK hP 0 0 rfl rfl (by omega) (by omega) dX9_step_215 5 rfl ?_
                refine lv_bipush (v := zI 100) hx hb dX9_step_216 (by decide) ?_
                refine rz_icmp_ge (tgt := 232) F (by omega) (by omega) dX9_step_218 (by decide) (fun h218_140 => ?_) (fun h218_140 => ?_)
                · exact ret (fun k => [((fun _ => 0), fun _ _ => 0), (fun _ => 0, fun _ => g136)].getD k (fun _ => 0, fun _ _ => 0)) _ _ _ _ _ _ (show StOk g_p g136 ∧ g136 5 = g_s 5 + 1 from ⟨⟨hsi137, (show 0 ≤ g136 5 ∧ g136 5 ≤ 1001 from by omega), (show g136 6 = 0 → g136 5 + rM g136 ≤ 1000 from fun q9 => by omega)⟩, by omega⟩) (bw_subP (isC := [1, 0]) hP rfl) (hD.sub [1, 0] (by decide) rfl) hS (Nat.le_of_ble_eq_true rfl) (Nat.le_of_ble_eq_true rfl) dX9_step_232
                · refine lv_aload_n hx hb dX9_step_221 rfl (lv_at hl 6 rfl) ?_
                  refine lv_bipush (v := zI 39) hx hb dX9_step_222 (by decide) ?_
                  refine lv_aload_n hx hb dX9_step_224 rfl (lv_at hl 6 rfl) ?_
                  refine lv_iconst (v := zI 5) hx hb dX9_step_225 rfl ?_
                  refine rz_ialdN F hK hP 0 0 rfl rfl (by omega) (by omega) dX9_step_226 5 rfl ?_
                  refine r_iadd (v := zI (39 + (g136 5))) F dX9_step_227 (zI_add _ _) ?_
                  refine lv_aload_n hx hb dX9_step_228 rfl (lv_at hl 6 rfl) ?_
                  refine lv_iconst (v := zI 4) hx hb dX9_step_229 rfl ?_
                  refine rz_ialdN F hK hP 0 0 rfl rfl (by omega) (by omega) dX9_step_230 4 rfl ?_
                  refine rz_top (fun z142 h_z142 => ?_)
                  refine rz_iastG F hK hP hD hS 0 0 rfl rfl (by omega) (by omega) dX9_step_231 (w1 := fun g143 => [(d, .inl (cI, 159, .inl (fun k => zI (g143 k)))), (a, .inl (cI, 200, .inl (fun k => zI (g_p k))))]) (fun _ => rfl) (fun g143 e_g143 H locs hP hD hS => ?_)
                  obtain ⟨hsi144, hr_hsi144⟩ := SI.free hsi137 e_g143 (by omega)
                  have ht145 : g143 4 = g136 4 := uZ_off e_g143 (by omega)
                  have ht146 : g143 5 = g136 5 := uZ_off e_g143 (by omega)
                  have ht147 : g143 6 = g136 6 := uZ_off e_g143 (by omega)
                  exact ret (fun k => [((fun _ => 0), fun _ _ => 0), (fun _ => 0, fun _ => g143)].getD k (fun _ => 0, fun _ _ => 0)) _ _ _ _ _ _ (show StOk g_p g143 ∧ g143 5 = g_s 5 + 1 from ⟨⟨hsi144, (show 0 ≤ g143 5 ∧ g143 5 ≤ 1001 from by omega), (show g143 6 = 0 → g143 5 + rM g143 ≤ 1000 from fun q9 => by omega)⟩, by omega⟩) (bw_subP (isC := [1, 0]) hP rfl) (hD.sub [1, 0] (by decide) rfl) hS (Nat.le_of_ble_eq_true rfl) (Nat.le_of_ble_eq_true rfl) dX9_step_232
              · refine lv_iconst (v := zI 0) hx hb dX9_step_207 rfl ?_
                refine lv_goto (tgt := 212) hx hb dX9_step_208 (by decide) ?_
                refine rz_iastN F hK hP hD hS 0 0 rfl rfl (by omega) (by omega) dX9_step_212 6 rfl (w1 := fun g148 => [(d, .inl (cI, 159, .inl (fun k => zI (g148 k)))), (a, .inl (cI, 200, .inl (fun k => zI (g_p k))))]) (fun _ => rfl) (fun g148 e_g148 H locs hP hD hS => ?_)
                obtain ⟨hsi149, hr_hsi149⟩ := SI.en hsi126 e_g148 (by omega)
                have ht150 : g148 4 = g125 4 := uZ_off e_g148 (by omega)
                have ht151 : g148 5 = g125 5 := uZ_off e_g148 (by omega)
                have ht152 : g148 6 = 0 := uZ_at e_g148 rfl
                refine lv_aload_n hx hb dX9_step_213 rfl (lv_at hl 6 rfl) ?_
                refine lv_iconst (v := zI 5) hx hb dX9_step_214 rfl ?_
                refine rz_ialdN F hK hP 0 0 rfl rfl (by omega) (by omega) dX9_step_215 5 rfl ?_
                refine lv_bipush (v := zI 100) hx hb dX9_step_216 (by decide) ?_
                refine rz_icmp_ge (tgt := 232) F (by omega) (by omega) dX9_step_218 (by decide) (fun h218_152 => ?_) (fun h218_152 => ?_)
                · exact ret (fun k => [((fun _ => 0), fun _ _ => 0), (fun _ => 0, fun _ => g148)].getD k (fun _ => 0, fun _ _ => 0)) _ _ _ _ _ _ (show StOk g_p g148 ∧ g148 5 = g_s 5 + 1 from ⟨⟨hsi149, (show 0 ≤ g148 5 ∧ g148 5 ≤ 1001 from by omega), (show g148 6 = 0 → g148 5 + rM g148 ≤ 1000 from fun q9 => by omega)⟩, by omega⟩) (bw_subP (isC := [1, 0]) hP rfl) (hD.sub [1, 0] (by decide) rfl) hS (Nat.le_of_ble_eq_true rfl) (Nat.le_of_ble_eq_true rfl) dX9_step_232
                · refine lv_aload_n hx hb dX9_step_221 rfl (lv_at hl 6 rfl) ?_
                  refine lv_bipush (v := zI 39) hx hb dX9_step_222 (by decide) ?_
                  refine lv_aload_n hx hb dX9_step_224 rfl (lv_at hl 6 rfl) ?_
                  refine lv_iconst (v := zI 5) hx hb dX9_step_225 rfl ?_
                  refine rz_ialdN F hK hP 0 0 rfl rfl (by omega) (by omega) dX9_step_226 5 rfl ?_
                  refine r_iadd (v := zI (39 + (g148 5))) F dX9_step_227 (zI_add _ _) ?_
                  refine lv_aload_n hx hb dX9_step_228 rfl (lv_at hl 6 rfl) ?_
                  refine lv_iconst (v := zI 4) hx hb dX9_step_229 rfl ?_
                  refine rz_ialdN F hK hP 0 0 rfl rfl (by omega) (by omega) dX9_step_230 4 rfl ?_
                  refine rz_top (fun z154 h_z154 => ?_)
                  refine rz_iastG F hK hP hD hS 0 0 rfl rfl (by omega) (by omega) dX9_step_231 (w1 := fun g155 => [(d, .inl (cI, 159, .inl (fun k => zI (g155 k)))), (a, .inl (cI, 200, .inl (fun k => zI (g_p k))))]) (fun _ => rfl) (fun g155 e_g155 H locs hP hD hS => ?_)
                  obtain ⟨hsi156, hr_hsi156⟩ := SI.free hsi149 e_g155 (by omega)
                  have ht157 : g155 4 = g148 4 := uZ_off e_g155 (by omega)
                  have ht158 : g155 5 = g148 5 := uZ_off e_g155 (by omega)
                  have ht159 : g155 6 = g148 6 := uZ_off e_g155 (by omega)
                  exact ret (fun k => [((fun _ => 0), fun _ _ => 0), (fun _ => 0, fun _ => g155)].getD k (fun _ => 0, fun _ _ => 0)) _ _ _ _ _ _ (show StOk g_p g155 ∧ g155 5 = g_s 5 + 1 from ⟨⟨hsi156, (show 0 ≤ g155 5 ∧ g155 5 ≤ 1001 from by omega), (show g155 6 = 0 → g155 5 + rM g155 ≤ 1000 from fun q9 => by omega)⟩, by omega⟩) (bw_subP (isC := [1, 0]) hP rfl) (hD.sub [1, 0] (by decide) rfl) hS (Nat.le_of_ble_eq_true rfl) (Nat.le_of_ble_eq_true rfl) dX9_step_232
            · refine lv_aload_n hx hb dX9_step_136 rfl (lv_at hl 6 rfl) ?_
              refine lv_bipush (v := zI 6) hx hb dX9_step_137 (by decide) ?_
              refine lv_iconst (v := zI 2) hx hb dX9_step_139 rfl ?_
              refine rz_iastN F hK hP hD hS 1 0 rfl rfl (by omega) (by omega) dX9_step_140 6 rfl (w1 := fun g160 => [(a, .inl (cI, 200, .inl (fun k => zI (g_p k)))), (d, .inl (cI, 159, .inl (fun k => zI (g160 k))))]) (fun _ => rfl) (fun g160 e_g160 H locs hP hD hS => ?_)
              obtain ⟨hsi161, hr_hsi161⟩ := SI.en hsi5 e_g160 (by omega)
              have ht162 : g160 4 = g4 4 := uZ_off e_g160 (by omega)
              have ht163 : g160 5 = g4 5 := uZ_off e_g160 (by omega)
              have ht164 : g160 6 = 2 := uZ_at e_g160 rfl
              refine lv_goto (tgt := 213) hx hb dX9_step_141 (by decide) ?_
              refine lv_aload_n hx hb dX9_step_213 rfl (lv_at hl 6 rfl) ?_
              refine lv_iconst (v := zI 5) hx hb dX9_step_214 rfl ?_
              refine rz_ialdN F hK hP 1 0 rfl rfl (by omega) (by omega) dX9_step_215 5 rfl ?_
              refine lv_bipush (v := zI 100) hx hb dX9_step_216 (by decide) ?_
              refine rz_icmp_ge (tgt := 232) F (by omega) (by omega) dX9_step_218 (by decide) (fun h218_164 => ?_) (fun h218_164 => ?_)
              · exact ret (fun k => [((fun _ => 0), fun _ _ => 0), (fun _ => 0, fun _ => g160)].getD k (fun _ => 0, fun _ _ => 0)) _ _ _ _ _ _ (show StOk g_p g160 ∧ g160 5 = g_s 5 + 1 from ⟨⟨hsi161, (show 0 ≤ g160 5 ∧ g160 5 ≤ 1001 from by omega), (show g160 6 = 0 → g160 5 + rM g160 ≤ 1000 from fun q9 => by omega)⟩, by omega⟩) (bw_subP (isC := [0, 1]) hP rfl) (hD.sub [0, 1] (by decide) rfl) hS (Nat.le_of_ble_eq_true rfl) (Nat.le_of_ble_eq_true rfl) dX9_step_232
              · refine lv_aload_n hx hb dX9_step_221 rfl (lv_at hl 6 rfl) ?_
                refine lv_bipush (v := zI 39) hx hb dX9_step_222 (by decide) ?_
                refine lv_aload_n hx hb dX9_step_224 rfl (lv_at hl 6 rfl) ?_
                refine lv_iconst (v := zI 5) hx hb dX9_step_225 rfl ?_
                refine rz_ialdN F hK hP 1 0 rfl rfl (by omega) (by omega) dX9_step_226 5 rfl ?_
                refine r_iadd (v := zI (39 + (g160 5))) F dX9_step_227 (zI_add _ _) ?_
                refine lv_aload_n hx hb dX9_step_228 rfl (lv_at hl 6 rfl) ?_
                refine lv_iconst (v := zI 4) hx hb dX9_step_229 rfl ?_
                refine rz_ialdN F hK hP 1 0 rfl rfl (by omega) (by omega) dX9_step_230 4 rfl ?_
                refine rz_top (fun z166 h_z166 => ?_)
                refine rz_iastG F hK hP hD hS 1 0 rfl rfl (by omega) (by omega) dX9_step_231 (w1 := fun g167 => [(a, .inl (cI, 200, .inl (fun k => zI (g_p k)))), (d, .inl (cI, 159, .inl (fun k => zI (g167 k))))]) (fun _ => rfl) (fun g167 e_g167 H locs hP hD hS => ?_)
                obtain ⟨hsi168, hr_hsi168⟩ := SI.free hsi161 e_g167 (by omega)
                have ht169 : g167 4 = g160 4 := uZ_off e_g167 (by omega)
                have ht170 : g167 5 = g160 5 := uZ_off e_g167 (by omega)
                have ht171 : g167 6 = g160 6 := uZ_off e_g167 (by omega)
                exact ret (fun k => [((fun _ => 0), fun _ _ => 0), (fun _ => 0, fun _ => g167)].getD k (fun _ => 0, fun _ _ => 0)) _ _ _ _ _ _ (show StOk g_p g167 ∧ g167 5 = g_s 5 + 1 from ⟨⟨hsi168, (show 0 ≤ g167 5 ∧ g167 5 ≤ 1001 from by omega), (show g167 6 = 0 → g167 5 + rM g167 ≤ 1000 from fun q9 => by omega)⟩, by omega⟩) (bw_subP (isC := [0, 1]) hP rfl) (hD.sub [0, 1] (by decide) rfl) hS (Nat.le_of_ble_eq_true rfl) (Nat.le_of_ble_eq_true rfl) dX9_step_232
          · refine lv_iconst (v := zI 1) hx hb dX9_step_81 rfl ?_
            refine lv_goto (tgt := 86) hx hb dX9_step_82 (by decide) ?_
            refine lv_istore (lv' := [(4, .int (zI 1)), (3, .int (zI (20 * (g_s 4)))), (2, .int (zI (g_s 4))), (0, .ref a), (1, .ref d)]) hx hb dX9_step_86 hl (by decide) rfl (fun ls hl => ?_)
            refine lv_iconst (v := zI 2) hx hb dX9_step_88 rfl ?_
            refine lv_iload_n hx hb dX9_step_89 rfl (lv_at hl 2 rfl) ?_
            refine r_imul (v := zI (2 * (g_s 4))) F dX9_step_90 (zI_mul _ _) ?_
            refine lv_iload hx hb dX9_step_91 (lv_at hl 0 rfl) ?_
            refine rz_if_eq (tgt := 100) F (by omega) dX9_step_93 (by decide) (fun h93_171 => by omega) (fun h93_171 => ?_)
            refine lv_iconst (v := zI 1) hx hb dX9_step_96 rfl ?_
            refine lv_goto (tgt := 101) hx hb dX9_step_97 (by decide) ?_
            refine r_iadd (v := zI ((2 * (g_s 4)) + 1)) F dX9_step_101 (zI_add _ _) ?_
            refine lv_istore (lv' := [(5, .int (zI ((2 * (g_s 4)) + 1))), (4, .int (zI 1)), (3, .int (zI (20 * (g_s 4)))), (2, .int (zI (g_s 4))), (0, .ref a), (1, .ref d)]) hx hb dX9_step_102 hl (by decide) rfl (fun ls hl => ?_)
            refine lv_iload_n hx hb dX9_step_104 rfl (lv_at hl 2 rfl) ?_
            refine lv_iload hx hb dX9_step_105 (lv_at hl 1 rfl) ?_
            refine rz_if_eq (tgt := 115) F (by omega) dX9_step_107 (by decide) (fun h107_172 => by omega) (fun h107_172 => ?_)
            refine lv_bipush (v := zI 18) hx hb dX9_step_110 (by decide) ?_
            refine lv_goto (tgt := 117) hx hb dX9_step_112 (by decide) ?_
            refine r_iadd (v := zI ((20 * (g_s 4)) + 18)) F dX9_step_117 (zI_add _ _) ?_
            refine lv_istore (lv' := [(6, .int (zI ((20 * (g_s 4)) + 18))), (5, .int (zI ((2 * (g_s 4)) + 1))), (4, .int (zI 1)), (3, .int (zI (20 * (g_s 4)))), (2, .int (zI (g_s 4))), (0, .ref a), (1, .ref d)]) hx hb dX9_step_118 hl (by decide) rfl (fun ls hl => ?_)
            refine lv_aload_n hx hb dX9_step_120 rfl (lv_at hl 6 rfl) ?_
            refine lv_bipush (v := zI 8) hx hb dX9_step_121 (by decide) ?_
            refine lv_iload hx hb dX9_step_123 (lv_at hl 1 rfl) ?_
            refine r_iadd (v := zI (8 + ((2 * (g_s 4)) + 1))) F dX9_step_125 (zI_add _ _) ?_
            refine rz_iald F hK hP 1 0 rfl rfl (by omega) (by omega) dX9_step_126 ?_
            refine lv_aload_n hx hb dX9_step_127 rfl (lv_at hl 5 rfl) ?_
            refine lv_iload hx hb dX9_step_128 (lv_at hl 0 rfl) ?_
            refine lv_iconst (v := zI 1) hx hb dX9_step_130 rfl ?_
            refine r_iadd (v := zI (((20 * (g_s 4)) + 18) + 1)) F dX9_step_131 (zI_add _ _) ?_
            refine rz_iald F hK hP 0 0 rfl rfl (by omega) (by omega) dX9_step_132 ?_
            have hc174 := SI.take1 hsi5 (i := (g_s 4)) (k := (8 + ((2 * (g_s 4)) + 1)).toNat) (l := ((((20 * (g_s 4)) + 18) + 1)).toNat) (by omega) (by omega) (by omega)
            have hc175 := hp.1.le9 ((((20 * (g_s 4)) + 18) + 1)).toNat (by omega)
            refine rz_icmp_ne (tgt := 144) F (by omega) (by omega) dX9_step_133 (by decide) (fun h133_175 => ?_) (fun h133_175 => ?_)
            · refine lv_aload_n hx hb dX9_step_144 rfl (lv_at hl 6 rfl) ?_
              refine lv_bipush (v := zI 8) hx hb dX9_step_145 (by decide) ?_
              refine lv_iload hx hb dX9_step_147 (lv_at hl 1 rfl) ?_
              refine r_iadd (v := zI (8 + ((2 * (g_s 4)) + 1))) F dX9_step_149 (zI_add _ _) ?_
              refine lv_dup2_11 hx hb dX9_step_150 rfl rfl ?_
              refine rz_iald F hK hP 1 0 rfl rfl (by omega) (by omega) dX9_step_151 ?_
              refine lv_iconst (v := zI 1) hx hb dX9_step_152 rfl ?_
              refine r_iadd (v := zI ((g4 ((8 + ((2 * (g_s 4)) + 1))).toNat) + 1)) F dX9_step_153 (zI_add _ _) ?_
              refine rz_iastG F hK hP hD hS 1 0 rfl rfl (by omega) (by omega) dX9_step_154 (w1 := fun g177 => [(a, .inl (cI, 200, .inl (fun k => zI (g_p k)))), (d, .inl (cI, 159, .inl (fun k => zI (g177 k))))]) (fun _ => rfl) (fun g177 e_g177 H locs hP hD hS => ?_)
              obtain ⟨hsi178, hr_hsi178⟩ := SI.tk1 hsi5 e_g177 (l := ((((20 * (g_s 4)) + 18) + 1)).toNat) (i := ((g_s 4)).toNat) (by omega) (by omega) (by omega) (by omega)
              have ht179 : g177 4 = g4 4 := uZ_off e_g177 (by omega)
              have ht180 : g177 5 = g4 5 := uZ_off e_g177 (by omega)
              have ht181 : g177 6 = g4 6 := uZ_off e_g177 (by omega)
              refine lv_aload_n hx hb dX9_step_155 rfl (lv_at hl 6 rfl) ?_
              refine lv_sipush (v := zI 139) hx hb dX9_step_156 (by decide) ?_
              refine lv_iload hx hb dX9_step_159 (lv_at hl 1 rfl) ?_
              refine r_iadd (v := zI (139 + ((2 * (g_s 4)) + 1))) F dX9_step_161 (zI_add _ _) ?_
              refine lv_dup2_11 hx hb dX9_step_162 rfl rfl ?_
              refine rz_iald F hK hP 1 0 rfl rfl (by omega) (by omega) dX9_step_163 ?_
              refine rz_top (fun z182 h_z182 => ?_)
              refine lv_iconst (v := zI 1) hx hb dX9_step_164 rfl ?_
              refine r_iadd (v := zI (z182 + 1)) F dX9_step_165 (zI_add _ _) ?_
              refine rz_iastG F hK hP hD hS 1 0 rfl rfl (by omega) (by omega) dX9_step_166 (w1 := fun g183 => [(a, .inl (cI, 200, .inl (fun k => zI (g_p k)))), (d, .inl (cI, 159, .inl (fun k => zI (g183 k))))]) (fun _ => rfl) (fun g183 e_g183 H locs hP hD hS => ?_)
              obtain ⟨hsi184, hr_hsi184⟩ := SI.free hsi178 e_g183 (by omega)
              have ht185 : g183 4 = g177 4 := uZ_off e_g183 (by omega)
              have ht186 : g183 5 = g177 5 := uZ_off e_g183 (by omega)
              have ht187 : g183 6 = g177 6 := uZ_off e_g183 (by omega)
              refine lv_aload_n hx hb dX9_step_167 rfl (lv_at hl 6 rfl) ?_
              refine lv_bipush (v := zI 7) hx hb dX9_step_168 (by decide) ?_
              refine lv_dup2_11 hx hb dX9_step_170 rfl rfl ?_
              refine rz_ialdN F hK hP 1 0 rfl rfl (by omega) (by omega) dX9_step_171 7 rfl ?_
              refine rz_top (fun z188 h_z188 => ?_)
              refine lv_iconst (v := zI 1) hx hb dX9_step_172 rfl ?_
              refine r_iadd (v := zI (z188 + 1)) F dX9_step_173 (zI_add _ _) ?_
              refine rz_iastN F hK hP hD hS 1 0 rfl rfl (by omega) (by omega) dX9_step_174 7 rfl (w1 := fun g189 => [(a, .inl (cI, 200, .inl (fun k => zI (g_p k)))), (d, .inl (cI, 159, .inl (fun k => zI (g189 k))))]) (fun _ => rfl) (fun g189 e_g189 H locs hP hD hS => ?_)
              obtain ⟨hsi190, hr_hsi190⟩ := SI.free hsi184 e_g189 (by omega)
              have ht191 : g189 4 = g183 4 := uZ_off e_g189 (by omega)
              have ht192 : g189 5 = g183 5 := uZ_off e_g189 (by omega)
              have ht193 : g189 6 = g183 6 := uZ_off e_g189 (by omega)
              refine lv_aload_n hx hb dX9_step_175 rfl (lv_at hl 6 rfl) ?_
              refine lv_bipush (v := zI 38) hx hb dX9_step_176 (by decide) ?_
              refine lv_dup2_11 hx hb dX9_step_178 rfl rfl ?_
              refine rz_ialdN F hK hP 1 0 rfl rfl (by omega) (by omega) dX9_step_179 38 rfl ?_
              refine rz_top (fun z194 h_z194 => ?_)
              refine lv_iconst (v := zI 1) hx hb dX9_step_180 rfl ?_
              refine lv_iload hx hb dX9_step_181 (lv_at hl 1 rfl) ?_
              refine lv_ishl hx hb dX9_step_183 ?_
              refine rz_top (fun z195 h_z195 => ?_)
              refine lv_ior hx hb dX9_step_184 ?_
              refine rz_top (fun z196 h_z196 => ?_)
              refine rz_iastN F hK hP hD hS 1 0 rfl rfl (by omega) (by omega) dX9_step_185 38 rfl (w1 := fun g197 => [(a, .inl (cI, 200, .inl (fun k => zI (g_p k)))), (d, .inl (cI, 159, .inl (fun k => zI (g197 k))))]) (fun _ => rfl) (fun g197 e_g197 H locs hP hD hS => ?_)
              obtain ⟨hsi198, hr_hsi198⟩ := SI.free hsi190 e_g197 (by omega)
              have ht199 : g197 4 = g189 4 := uZ_off e_g197 (by omega)
              have ht200 : g197 5 = g189 5 := uZ_off e_g197 (by omega)
              have ht201 : g197 6 = g189 6 := uZ_off e_g197 (by omega)
              refine lv_aload_n hx hb dX9_step_186 rfl (lv_at hl 6 rfl) ?_
              refine lv_iconst (v := zI 4) hx hb dX9_step_187 rfl ?_
              refine lv_aload_n hx hb dX9_step_188 rfl (lv_at hl 5 rfl) ?_
              refine lv_iload hx hb dX9_step_189 (lv_at hl 0 rfl) ?_
              refine rz_iald F hK hP 0 0 rfl rfl (by omega) (by omega) dX9_step_191 ?_
              have hpl202 : 0 ≤ (g_p (((20 * (g_s 4)) + 18)).toNat) ∧ (g_p (((20 * (g_s 4)) + 18)).toNat) ≤ 9 := ProgR.at hp.1 (e := ((20 * (g_s 4)) + 18)) (g_s 4) 18 (by omega) (by omega) (by decide) rfl
              refine rz_iastN F hK hP hD hS 1 0 rfl rfl (by omega) (by omega) dX9_step_192 4 rfl (w1 := fun g203 => [(a, .inl (cI, 200, .inl (fun k => zI (g_p k)))), (d, .inl (cI, 159, .inl (fun k => zI (g203 k))))]) (fun _ => rfl) (fun g203 e_g203 H locs hP hD hS => ?_)
              obtain ⟨hsi204, hr_hsi204⟩ := SI.ats hsi198 e_g203 (by omega)
              have ht205 : g203 4 = (g_p (((20 * (g_s 4)) + 18)).toNat) := uZ_at e_g203 rfl
              have ht206 : g203 5 = g197 5 := uZ_off e_g203 (by omega)
              have ht207 : g203 6 = g197 6 := uZ_off e_g203 (by omega)
              refine lv_aload_n hx hb dX9_step_193 rfl (lv_at hl 6 rfl) ?_
              refine lv_bipush (v := zI 6) hx hb dX9_step_194 (by decide) ?_
              refine lv_aload_n hx hb dX9_step_196 rfl (lv_at hl 5 rfl) ?_
              refine lv_aload_n hx hb dX9_step_197 rfl (lv_at hl 5 rfl) ?_
              refine lv_iload hx hb dX9_step_198 (lv_at hl 0 rfl) ?_
              refine rz_iald F hK hP 0 0 rfl rfl (by omega) (by omega) dX9_step_200 ?_
              have hpl208 : 0 ≤ (g_p (((20 * (g_s 4)) + 18)).toNat) ∧ (g_p (((20 * (g_s 4)) + 18)).toNat) ≤ 9 := ProgR.at hp.1 (e := ((20 * (g_s 4)) + 18)) (g_s 4) 18 (by omega) (by omega) (by decide) rfl
              refine r_callSi (As := [.ref a, .int (zI (g_p (((20 * (g_s 4)) + 18)).toNat))]) (rest := [.int (zI 6), .ref d]) (wr := [(d, .inl (cI, 159, .inl (fun k => zI (g203 k))))]) F hK hP hD hS hA hO hE (c_X9_isTold hO a g_p (g_p (((20 * (g_s 4)) + 18)).toNat) (by omega) hp (by omega)) k_1424 ks_X9_isTold 2 rfl (by decide +kernel) ⟨Nat.le_of_ble_eq_true rfl, Nat.le_of_ble_eq_true rfl⟩ [0] [1] rfl rfl (by decide) (by decide) (by decide) hl.1 rfl (Nat.le_of_ble_eq_true rfl) dX9_step_201 ⟨Nat.le_of_ble_eq_true rfl, Nat.le_of_ble_eq_true rfl⟩ (w1 := fun u209 => [(d, .inl (cI, 159, .inl (fun k => zI (g203 k)))), (a, .inl (cI, 200, .inl (fun k => zI (g_p k))))]) (fun _ => rfl) (fun r210 u209 H locs hp211 hP hD hS => ?_)
              obtain ⟨z212, rfl, h_z212⟩ := hp211
              refine rz_ifb_eq (tgt := 211) F (by omega) dX9_step_204 (by decide) (fun h204_212 => ?_) (fun h204_212 => ?_)
              · refine lv_iconst (v := zI 3) hx hb dX9_step_211 rfl ?_
                refine rz_iastN F hK hP hD hS 0 0 rfl rfl (by omega) (by omega) dX9_step_212 6 rfl (w1 := fun g214 => [(d, .inl (cI, 159, .inl (fun k => zI (g214 k)))), (a, .inl (cI, 200, .inl (fun k => zI (g_p k))))]) (fun _ => rfl) (fun g214 e_g214 H locs hP hD hS => ?_)
                obtain ⟨hsi215, hr_hsi215⟩ := SI.en hsi204 e_g214 (by omega)
                have ht216 : g214 4 = g203 4 := uZ_off e_g214 (by omega)
                have ht217 : g214 5 = g203 5 := uZ_off e_g214 (by omega)
                have ht218 : g214 6 = 3 := uZ_at e_g214 rfl
                refine lv_aload_n hx hb dX9_step_213 rfl (lv_at hl 6 rfl) ?_
                refine lv_iconst (v := zI 5) hx hb dX9_step_214 rfl ?_
                refine rz_ialdN F hK hP 0 0 rfl rfl (by omega) (by omega) dX9_step_215 5 rfl ?_
                refine lv_bipush (v := zI 100) hx hb dX9_step_216 (by decide) ?_
                refine rz_icmp_ge (tgt := 232) F (by omega) (by omega) dX9_step_218 (by decide) (fun h218_218 => ?_) (fun h218_218 => ?_)
                · exact ret (fun k => [((fun _ => 0), fun _ _ => 0), (fun _ => 0, fun _ => g214)].getD k (fun _ => 0, fun _ _ => 0)) _ _ _ _ _ _ (show StOk g_p g214 ∧ g214 5 = g_s 5 + 1 from ⟨⟨hsi215, (show 0 ≤ g214 5 ∧ g214 5 ≤ 1001 from by omega), (show g214 6 = 0 → g214 5 + rM g214 ≤ 1000 from fun q9 => by omega)⟩, by omega⟩) (bw_subP (isC := [1, 0]) hP rfl) (hD.sub [1, 0] (by decide) rfl) hS (Nat.le_of_ble_eq_true rfl) (Nat.le_of_ble_eq_true rfl) dX9_step_232
                · refine lv_aload_n hx hb dX9_step_221 rfl (lv_at hl 6 rfl) ?_
                  refine lv_bipush (v := zI 39) hx hb dX9_step_222 (by decide) ?_
                  refine lv_aload_n hx hb dX9_step_224 rfl (lv_at hl 6 rfl) ?_
                  refine lv_iconst (v := zI 5) hx hb dX9_step_225 rfl ?_
                  refine rz_ialdN F hK hP 0 0 rfl rfl (by omega) (by omega) dX9_step_226 5 rfl ?_
                  refine r_iadd (v := zI (39 + (g214 5))) F dX9_step_227 (zI_add _ _) ?_
                  refine lv_aload_n hx hb dX9_step_228 rfl (lv_at hl 6 rfl) ?_
                  refine lv_iconst (v := zI 4) hx hb dX9_step_229 rfl ?_
                  refine rz_ialdN F hK hP 0 0 rfl rfl (by omega) (by omega) dX9_step_230 4 rfl ?_
                  refine rz_top (fun z220 h_z220 => ?_)
                  refine rz_iastG F hK hP hD hS 0 0 rfl rfl (by omega) (by omega) dX9_step_231 (w1 := fun g221 => [(d, .inl (cI, 159, .inl (fun k => zI (g221 k)))), (a, .inl (cI, 200, .inl (fun k => zI (g_p k))))]) (fun _ => rfl) (fun g221 e_g221 H locs hP hD hS => ?_)
                  obtain ⟨hsi222, hr_hsi222⟩ := SI.free hsi215 e_g221 (by omega)
                  have ht223 : g221 4 = g214 4 := uZ_off e_g221 (by omega)
                  have ht224 : g221 5 = g214 5 := uZ_off e_g221 (by omega)
                  have ht225 : g221 6 = g214 6 := uZ_off e_g221 (by omega)
                  exact ret (fun k => [((fun _ => 0), fun _ _ => 0), (fun _ => 0, fun _ => g221)].getD k (fun _ => 0, fun _ _ => 0)) _ _ _ _ _ _ (show StOk g_p g221 ∧ g221 5 = g_s 5 + 1 from ⟨⟨hsi222, (show 0 ≤ g221 5 ∧ g221 5 ≤ 1001 from by omega), (show g221 6 = 0 → g221 5 + rM g221 ≤ 1000 from fun q9 => by omega)⟩, by omega⟩) (bw_subP (isC := [1, 0]) hP rfl) (hD.sub [1, 0] (by decide) rfl) hS (Nat.le_of_ble_eq_true rfl) (Nat.le_of_ble_eq_true rfl) dX9_step_232
              · refine lv_iconst (v := zI 0) hx hb dX9_step_207 rfl ?_
                refine lv_goto (tgt := 212) hx hb dX9_step_208 (by decide) ?_
                refine rz_iastN F hK hP hD hS 0 0 rfl rfl (by omega) (by omega) dX9_step_212 6 rfl (w1 := fun g226 => [(d, .inl (cI, 159, .inl (fun k => zI (g226 k)))), (a, .inl (cI, 200, .inl (fun k => zI (g_p k))))]) (fun _ => rfl) (fun g226 e_g226 H locs hP hD hS => ?_)
                obtain ⟨hsi227, hr_hsi227⟩ := SI.en hsi204 e_g226 (by omega)
                have ht228 : g226 4 = g203 4 := uZ_off e_g226 (by omega)
                have ht229 : g226 5 = g203 5 := uZ_off e_g226 (by omega)
                have ht230 : g226 6 = 0 := uZ_at e_g226 rfl
                refine lv_aload_n hx hb dX9_step_213 rfl (lv_at hl 6 rfl) ?_
                refine lv_iconst (v := zI 5) hx hb dX9_step_214 rfl ?_
                refine rz_ialdN F hK hP 0 0 rfl rfl (by omega) (by omega) dX9_step_215 5 rfl ?_
                refine lv_bipush (v := zI 100) hx hb dX9_step_216 (by decide) ?_
                refine rz_icmp_ge (tgt := 232) F (by omega) (by omega) dX9_step_218 (by decide) (fun h218_230 => ?_) (fun h218_230 => ?_)
                · exact ret (fun k => [((fun _ => 0), fun _ _ => 0), (fun _ => 0, fun _ => g226)].getD k (fun _ => 0, fun _ _ => 0)) _ _ _ _ _ _ (show StOk g_p g226 ∧ g226 5 = g_s 5 + 1 from ⟨⟨hsi227, (show 0 ≤ g226 5 ∧ g226 5 ≤ 1001 from by omega), (show g226 6 = 0 → g226 5 + rM g226 ≤ 1000 from fun q9 => by omega)⟩, by omega⟩) (bw_subP (isC := [1, 0]) hP rfl) (hD.sub [1, 0] (by decide) rfl) hS (Nat.le_of_ble_eq_true rfl) (Nat.le_of_ble_eq_true rfl) dX9_step_232
                · refine lv_aload_n hx hb dX9_step_221 rfl (lv_at hl 6 rfl) ?_
                  refine lv_bipush (v := zI 39) hx hb dX9_step_222 (by decide) ?_
                  refine lv_aload_n hx hb dX9_step_224 rfl (lv_at hl 6 rfl) ?_
                  refine lv_iconst (v := zI 5) hx hb dX9_step_225 rfl ?_
                  refine rz_ialdN F hK hP 0 0 rfl rfl (by omega) (by omega) dX9_step_226 5 rfl ?_
                  refine r_iadd (v := zI (39 + (g226 5))) F dX9_step_227 (zI_add _ _) ?_
                  refine lv_aload_n hx hb dX9_step_228 rfl (lv_at hl 6 rfl) ?_
                  refine lv_iconst (v := zI 4) hx hb dX9_step_229 rfl ?_
                  refine rz_ialdN F hK hP 0 0 rfl rfl (by omega) (by omega) dX9_step_230 4 rfl ?_
                  refine rz_top (fun z232 h_z232 => ?_)
                  refine rz_iastG F hK hP hD hS 0 0 rfl rfl (by omega) (by omega) dX9_step_231 (w1 := fun g233 => [(d, .inl (cI, 159, .inl (fun k => zI (g233 k)))), (a, .inl (cI, 200, .inl (fun k => zI (g_p k))))]) (fun _ => rfl) (fun g233 e_g233 H locs hP hD hS => ?_)
                  obtain ⟨hsi234, hr_hsi234⟩ := SI.free hsi227 e_g233 (by omega)
                  have ht235 : g233 4 = g226 4 := uZ_off e_g233 (by omega)
                  have ht236 : g233 5 = g226 5 := uZ_off e_g233 (by omega)
                  have ht237 : g233 6 = g226 6 := uZ_off e_g233 (by omega)
                  exact ret (fun k => [((fun _ => 0), fun _ _ => 0), (fun _ => 0, fun _ => g233)].getD k (fun _ => 0, fun _ _ => 0)) _ _ _ _ _ _ (show StOk g_p g233 ∧ g233 5 = g_s 5 + 1 from ⟨⟨hsi234, (show 0 ≤ g233 5 ∧ g233 5 ≤ 1001 from by omega), (show g233 6 = 0 → g233 5 + rM g233 ≤ 1000 from fun q9 => by omega)⟩, by omega⟩) (bw_subP (isC := [1, 0]) hP rfl) (hD.sub [1, 0] (by decide) rfl) hS (Nat.le_of_ble_eq_true rfl) (Nat.le_of_ble_eq_true rfl) dX9_step_232
            · refine lv_aload_n hx hb dX9_step_136 rfl (lv_at hl 6 rfl) ?_
              refine lv_bipush (v := zI 6) hx hb dX9_step_137 (by decide) ?_
              refine lv_iconst (v := zI 2) hx hb dX9_step_139 rfl ?_
              refine rz_iastN F hK hP hD hS 1 0 rfl rfl (by omega) (by omega) dX9_step_140 6 rfl (w1 := fun g238 => [(a, .inl (cI, 200, .inl (fun k => zI (g_p k)))), (d, .inl (cI, 159, .inl (fun k => zI (g238 k))))]) (fun _ => rfl) (fun g238 e_g238 H locs hP hD hS => ?_)
              obtain ⟨hsi239, hr_hsi239⟩ := SI.en hsi5 e_g238 (by omega)
              have ht240 : g238 4 = g4 4 := uZ_off e_g238 (by omega)
              have ht241 : g238 5 = g4 5 := uZ_off e_g238 (by omega)
              have ht242 : g238 6 = 2 := uZ_at e_g238 rfl
              refine lv_goto (tgt := 213) hx hb dX9_step_141 (by decide) ?_
              refine lv_aload_n hx hb dX9_step_213 rfl (lv_at hl 6 rfl) ?_
              refine lv_iconst (v := zI 5) hx hb dX9_step_214 rfl ?_
              refine rz_ialdN F hK hP 1 0 rfl rfl (by omega) (by omega) dX9_step_215 5 rfl ?_
              refine lv_bipush (v := zI 100) hx hb dX9_step_216 (by decide) ?_
              refine rz_icmp_ge (tgt := 232) F (by omega) (by omega) dX9_step_218 (by decide) (fun h218_242 => ?_) (fun h218_242 => ?_)
              · exact ret (fun k => [((fun _ => 0), fun _ _ => 0), (fun _ => 0, fun _ => g238)].getD k (fun _ => 0, fun _ _ => 0)) _ _ _ _ _ _ (show StOk g_p g238 ∧ g238 5 = g_s 5 + 1 from ⟨⟨hsi239, (show 0 ≤ g238 5 ∧ g238 5 ≤ 1001 from by omega), (show g238 6 = 0 → g238 5 + rM g238 ≤ 1000 from fun q9 => by omega)⟩, by omega⟩) (bw_subP (isC := [0, 1]) hP rfl) (hD.sub [0, 1] (by decide) rfl) hS (Nat.le_of_ble_eq_true rfl) (Nat.le_of_ble_eq_true rfl) dX9_step_232
              · refine lv_aload_n hx hb dX9_step_221 rfl (lv_at hl 6 rfl) ?_
                refine lv_bipush (v := zI 39) hx hb dX9_step_222 (by decide) ?_
                refine lv_aload_n hx hb dX9_step_224 rfl (lv_at hl 6 rfl) ?_
                refine lv_iconst (v := zI 5) hx hb dX9_step_225 rfl ?_
                refine rz_ialdN F hK hP 1 0 rfl rfl (by omega) (by omega) dX9_step_226 5 rfl ?_
                refine r_iadd (v := zI (39 + (g238 5))) F dX9_step_227 (zI_add _ _) ?_
                refine lv_aload_n hx hb dX9_step_228 rfl (lv_at hl 6 rfl) ?_
                refine lv_iconst (v := zI 4) hx hb dX9_step_229 rfl ?_
                refine rz_ialdN F hK hP 1 0 rfl rfl (by omega) (by omega) dX9_step_230 4 rfl ?_
                refine rz_top (fun z244 h_z244 => ?_)
                refine rz_iastG F hK hP hD hS 1 0 rfl rfl (by omega) (by omega) dX9_step_231 (w1 := fun g245 => [(a, .inl (cI, 200, .inl (fun k => zI (g_p k)))), (d, .inl (cI, 159, .inl (fun k => zI (g245 k))))]) (fun _ => rfl) (fun g245 e_g245 H locs hP hD hS => ?_)
                obtain ⟨hsi246, hr_hsi246⟩ := SI.free hsi239 e_g245 (by omega)
                have ht247 : g245 4 = g238 4 := uZ_off e_g245 (by omega)
                have ht248 : g245 5 = g238 5 := uZ_off e_g245 (by omega)
                have ht249 : g245 6 = g238 6 := uZ_off e_g245 (by omega)
                exact ret (fun k => [((fun _ => 0), fun _ _ => 0), (fun _ => 0, fun _ => g245)].getD k (fun _ => 0, fun _ _ => 0)) _ _ _ _ _ _ (show StOk g_p g245 ∧ g245 5 = g_s 5 + 1 from ⟨⟨hsi246, (show 0 ≤ g245 5 ∧ g245 5 ≤ 1001 from by omega), (show g245 6 = 0 → g245 5 + rM g245 ≤ 1000 from fun q9 => by omega)⟩, by omega⟩) (bw_subP (isC := [0, 1]) hP rfl) (hD.sub [0, 1] (by decide) rfl) hS (Nat.le_of_ble_eq_true rfl) (Nat.le_of_ble_eq_true rfl) dX9_step_232
      · refine lv_aload_n hx hb dX9_step_52 rfl (lv_at hl 4 rfl) ?_
        refine lv_bipush (v := zI 6) hx hb dX9_step_53 (by decide) ?_
        refine lv_iconst (v := zI 1) hx hb dX9_step_55 rfl ?_
        refine rz_iastN F hK hP hD hS 1 0 rfl rfl (by omega) (by omega) dX9_step_56 6 rfl (w1 := fun g250 => [(a, .inl (cI, 200, .inl (fun k => zI (g_p k)))), (d, .inl (cI, 159, .inl (fun k => zI (g250 k))))]) (fun _ => rfl) (fun g250 e_g250 H locs hP hD hS => ?_)
        obtain ⟨hsi251, hr_hsi251⟩ := SI.en hsi5 e_g250 (by omega)
        have ht252 : g250 4 = g4 4 := uZ_off e_g250 (by omega)
        have ht253 : g250 5 = g4 5 := uZ_off e_g250 (by omega)
        have ht254 : g250 6 = 1 := uZ_at e_g250 rfl
        refine lv_goto (tgt := 213) hx hb dX9_step_57 (by decide) ?_
        refine lv_aload_n hx hb dX9_step_213 rfl (lv_at hl 4 rfl) ?_
        refine lv_iconst (v := zI 5) hx hb dX9_step_214 rfl ?_
        refine rz_ialdN F hK hP 1 0 rfl rfl (by omega) (by omega) dX9_step_215 5 rfl ?_
        refine lv_bipush (v := zI 100) hx hb dX9_step_216 (by decide) ?_
        refine rz_icmp_ge (tgt := 232) F (by omega) (by omega) dX9_step_218 (by decide) (fun h218_254 => ?_) (fun h218_254 => ?_)
        · exact ret (fun k => [((fun _ => 0), fun _ _ => 0), (fun _ => 0, fun _ => g250)].getD k (fun _ => 0, fun _ _ => 0)) _ _ _ _ _ _ (show StOk g_p g250 ∧ g250 5 = g_s 5 + 1 from ⟨⟨hsi251, (show 0 ≤ g250 5 ∧ g250 5 ≤ 1001 from by omega), (show g250 6 = 0 → g250 5 + rM g250 ≤ 1000 from fun q9 => by omega)⟩, by omega⟩) (bw_subP (isC := [0, 1]) hP rfl) (hD.sub [0, 1] (by decide) rfl) hS (Nat.le_of_ble_eq_true rfl) (Nat.le_of_ble_eq_true rfl) dX9_step_232
        · refine lv_aload_n hx hb dX9_step_221 rfl (lv_at hl 4 rfl) ?_
          refine lv_bipush (v := zI 39) hx hb dX9_step_222 (by decide) ?_
          refine lv_aload_n hx hb dX9_step_224 rfl (lv_at hl 4 rfl) ?_
          refine lv_iconst (v := zI 5) hx hb dX9_step_225 rfl ?_
          refine rz_ialdN F hK hP 1 0 rfl rfl (by omega) (by omega) dX9_step_226 5 rfl ?_
          refine r_iadd (v := zI (39 + (g250 5))) F dX9_step_227 (zI_add _ _) ?_
          refine lv_aload_n hx hb dX9_step_228 rfl (lv_at hl 4 rfl) ?_
          refine lv_iconst (v := zI 4) hx hb dX9_step_229 rfl ?_
          refine rz_ialdN F hK hP 1 0 rfl rfl (by omega) (by omega) dX9_step_230 4 rfl ?_
          refine rz_top (fun z256 h_z256 => ?_)
          refine rz_iastG F hK hP hD hS 1 0 rfl rfl (by omega) (by omega) dX9_step_231 (w1 := fun g257 => [(a, .inl (cI, 200, .inl (fun k => zI (g_p k)))), (d, .inl (cI, 159, .inl (fun k => zI (g257 k))))]) (fun _ => rfl) (fun g257 e_g257 H locs hP hD hS => ?_)
          obtain ⟨hsi258, hr_hsi258⟩ := SI.free hsi251 e_g257 (by omega)
          have ht259 : g257 4 = g250 4 := uZ_off e_g257 (by omega)
          have ht260 : g257 5 = g250 5 := uZ_off e_g257 (by omega)
          have ht261 : g257 6 = g250 6 := uZ_off e_g257 (by omega)
          exact ret (fun k => [((fun _ => 0), fun _ _ => 0), (fun _ => 0, fun _ => g257)].getD k (fun _ => 0, fun _ _ => 0)) _ _ _ _ _ _ (show StOk g_p g257 ∧ g257 5 = g_s 5 + 1 from ⟨⟨hsi258, (show 0 ≤ g257 5 ∧ g257 5 ≤ 1001 from by omega), (show g257 6 = 0 → g257 5 + rM g257 ≤ 1000 from fun q9 => by omega)⟩, by omega⟩) (bw_subP (isC := [0, 1]) hP rfl) (hD.sub [0, 1] (by decide) rfl) hS (Nat.le_of_ble_eq_true rfl) (Nat.le_of_ble_eq_true rfl) dX9_step_232
    · refine lv_aload_n hx hb dX9_step_22 rfl (lv_at hl 3 rfl) ?_
      refine lv_aload_n hx hb dX9_step_23 rfl (lv_at hl 4 rfl) ?_
      refine lv_iload_n hx hb dX9_step_24 rfl (lv_at hl 2 rfl) ?_
      refine lv_iload hx hb dX9_step_25 (lv_at hl 0 rfl) ?_
      refine r_callZv (As := [.ref a, .ref d, .int (zI (g_s 4)), .int (zI v4)]) (rest := []) (wr := []) F hK hP hD hS hA hO hE (c_X9_act hO a g_p d gs9 (g_s 4) v4 (by omega) (by omega) hp hsi9.1 (by omega) (by omega)) k_1457 ks_X9_act 4 rfl (by decide +kernel) ⟨Nat.le_of_ble_eq_true rfl, Nat.le_of_ble_eq_true rfl⟩ [0, 1] [] rfl rfl (by decide) (by decide) (by decide) hl.1 rfl (Nat.le_of_ble_eq_true rfl) dX9_step_27 ⟨Nat.le_of_ble_eq_true rfl, Nat.le_of_ble_eq_true rfl⟩ (w1 := fun u262 => [(a, .inl (cI, 200, .inl (fun k => zI (g_p k)))), (d, .inl (cI, 159, .inl (fun k => zI (((u262 1).2 0) k))))]) (fun _ => rfl) (fun  u262 H locs hp263 hP hD hS => ?_)
      refine lv_iinc (v := zI (v4 + 1)) (lv' := [(4, .int (zI (v4 + 1))), (3, .int (zI (20 * (g_s 4)))), (2, .int (zI (g_s 4))), (0, .ref a), (1, .ref d)]) hx hb dX9_step_30 hl (k := 0) rfl (zI_add _ _) (by decide) rfl (fun ls hl => ?_)
      refine lv_goto (tgt := 12) hx hb dX9_step_33 (by decide) ?_
      exact ih1 (v4 + 1) ((u262 1).2 0) _ _ (by omega) (by omega) ⟨hp263.1, by omega, by omega, by omega, by omega⟩ hP hD hS ls (lv_sub hl [0, 1, 2, 3, 4] rfl)
theorem dX9_runs_0 : decode cX9_runs 0 = .ok (.aload_n 1, 1) := bo_43 (by decide +kernel)
theorem dX9_runs_1 : decode cX9_runs 1 = .ok (.bipush 6, 2) := bo_16 6 (by decide +kernel)
theorem dX9_runs_3 : decode cX9_runs 3 = .ok (.iaload, 1) := bo_46 (by decide +kernel)
theorem dX9_runs_4 : decode cX9_runs 4 = .ok (.ifCond .ne 11, 3) := bo_154 0 11 (by decide +kernel)
theorem dX9_runs_15 : decode cX9_runs 15 = .ok (.return_, 1) := bo_177 (by decide +kernel)
theorem dX9_runs_7 : decode cX9_runs 7 = .ok (.aload_n 0, 1) := bo_42 (by decide +kernel)
theorem dX9_runs_8 : decode cX9_runs 8 = .ok (.aload_n 1, 1) := bo_43 (by decide +kernel)
theorem dX9_runs_9 : decode cX9_runs 9 = .ok (.invokestatic 280, 3) := bo_184 1 24 (by decide +kernel)
theorem k_1454 : Cond.methodLink RX9 280 yX9_step ∈ bw_T := bw_m 1454 (by decide +kernel) rfl
theorem ks_X9_step : bw_KS RX9 yX9_step (Cond.code yX9_step cX9_step 7 none) := ⟨bw_m 1455 (by decide +kernel) rfl, bw_m 107 (by decide +kernel) rfl, bw_m 1456 (by decide +kernel) rfl⟩
theorem dX9_runs_12 : decode cX9_runs 12 = .ok (.goto (-12), 3) := bo_167 255 244 (by decide +kernel)
abbrev rm_X9_runs : Room := { frames := 3, cells := 0, slots := 0, locals := 72 }
set_option maxRecDepth 100000 in
set_option maxHeartbeats 8000000 in
theorem c_X9_runs {l : Launch} {E : (Nat → Prop) → State → Prop} (hO : bw_Ok E) {G : va_G} {cI cB cJ cN cW : ClassId} (a : Nat) (g_p : Nat → Int) (d : Nat) (g_s : Nat → Int) (hp : ProgOk g_p) (hs : StOk g_p g_s) : bw_Cv (S := zV) l yX9_runs (bw_ws (Cond.code yX9_runs cX9_runs 2 none)) rm_X9_runs E G (bw_kt cI cB cJ cN cW) [.ref a, .ref d] [(a, .inl (cI, 200, .inl (fun k => zI (g_p k)))), (d, .inl (cI, 159, .inl (fun k => zI (g_s k))))] (fun u => (StOk g_p ((u 1).2 0))) (fun u => [(a, .inl (cI, 200, .inl (fun k => zI (g_p k)))), (d, .inl (cI, 159, .inl (fun k => zI (((u 1).2 0) k))))]) := by
  refine bw_Cv.of (cc := cX9_runs) (maxL := 2) (by decide) rfl (Nat.le_of_ble_eq_true rfl) ?_
  intro p e s m below meth c A Q hx hb hml hts hown hin hK hA hS hP hD hE ret ls hl
  have F : CallFix p m c cX9_runs 2 s ([.ref a, .ref d] : List Value).toArray bw_T RX9 := ⟨hx, hb, hml, hown, fun w h => hts w (List.mem_cons_of_mem _ h)⟩
  replace hl : lv_has ls 2 [(0, .ref a), (1, .ref d)] := hl
  have hs5 := hs.2.1
  refine W.widen (k := 0) (n := 0) (Nat.le_of_ble_eq_true rfl) (Nat.le_of_ble_eq_true rfl) ?_
  refine (?_ : ∀ (n9_1 : Nat) (gs9 : Nat → Int) (H : Heap) (locs : List Loc), (0 ≤ gs9 5 ∧ gs9 5 ≤ 1001) → (1002 - gs9 5 : Int).toNat < n9_1 → (StOk g_p gs9) → va_P G vwCl [(a, .inl (cI, 200, .inl (fun k => zI (g_p k)))), (d, .inl (cI, 159, .inl (fun k => zI (gs9 k))))] H → va_D A [(a, .inl (cI, 200, .inl (fun k => zI (g_p k)))), (d, .inl (cI, 159, .inl (fun k => zI (gs9 k))))] → va_S A s.heap H locs → ∀ ls : Array Slot, lv_has ls 2 [(0, .ref a), (1, .ref d)] → W p l e rm_X9_runs s m ([.ref a, .ref d] : List Value).toArray below meth c H locs 0 0 Q (F0 m 0 ls [])) ((1002 - g_s 5 : Int).toNat + 1) g_s _ _ (by omega) (by omega) hs hP hD hS ls hl
  clear hP hD hS hl ls
  intro n9_1
  induction n9_1 with
  | zero =>
    intro gs9 H locs hI hM
    exact absurd hM (by omega)
  | succ n9_1 ih1 =>
    intro gs9 H locs hI1 hM1 hst9 hP hD hS ls hl
    refine lv_aload_n hx hb dX9_runs_0 rfl (lv_at hl 1 rfl) ?_
    refine lv_bipush (v := zI 6) hx hb dX9_runs_1 (by decide) ?_
    refine rz_ialdN F hK hP 1 0 rfl rfl (by omega) (by omega) dX9_runs_3 6 rfl ?_
    have hc1 := hst9.1.2.2.1
    have hc2 := hst9.2.1
    refine rz_if_ne (tgt := 15) F (by omega) dX9_runs_4 (by decide) (fun h4_2 => ?_) (fun h4_2 => ?_)
    · exact ret (fun k => [((fun _ => 0), fun _ _ => 0), (fun _ => 0, fun _ => gs9)].getD k (fun _ => 0, fun _ _ => 0)) _ _ _ _ _ _ hst9 (bw_subP (isC := [0, 1]) hP rfl) (hD.sub [0, 1] (by decide) rfl) hS (Nat.le_of_ble_eq_true rfl) (Nat.le_of_ble_eq_true rfl) dX9_runs_15
    · refine lv_aload_n hx hb dX9_runs_7 rfl (lv_at hl 0 rfl) ?_
      refine lv_aload_n hx hb dX9_runs_8 rfl (lv_at hl 1 rfl) ?_
      refine r_callZv (As := [.ref a, .ref d]) (rest := []) (wr := []) F hK hP hD hS hA hO hE (c_X9_step hO a g_p d gs9 hp hst9 (by omega)) k_1454 ks_X9_step 2 rfl (by decide +kernel) ⟨Nat.le_of_ble_eq_true rfl, Nat.le_of_ble_eq_true rfl⟩ [0, 1] [] rfl rfl (by decide) (by decide) (by decide) hl.1 rfl (Nat.le_of_ble_eq_true rfl) dX9_runs_9 ⟨Nat.le_of_ble_eq_true rfl, Nat.le_of_ble_eq_true rfl⟩ (w1 := fun u4 => [(a, .inl (cI, 200, .inl (fun k => zI (g_p k)))), (d, .inl (cI, 159, .inl (fun k => zI (((u4 1).2 0) k))))]) (fun _ => rfl) (fun  u4 H locs hp5 hP hD hS => ?_)
      have hc6 := hp5.1.2.1
      refine lv_goto (tgt := 0) hx hb dX9_runs_12 (by decide) ?_
      exact ih1 ((u4 1).2 0) _ _ (by omega) (by omega) (hp5.1) hP hD hS ls (lv_sub hl [0, 1] rfl)
