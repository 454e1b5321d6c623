theorem dX9_line_0 : decode cX9_line 0 = .ok (.aload_n 0, 1) := bo_42 (by decide +kernel)
theorem dX9_line_1 : decode cX9_line 1 = .ok (.invokevirtual 197, 3) := bo_182 0 197 (by decide +kernel)
theorem dX9_line_4 : decode cX9_line 4 = .ok (.aload_n 0, 1) := bo_42 (by decide +kernel)
theorem dX9_line_5 : decode cX9_line 5 = .ok (.getfield 222, 3) := bo_180 0 222 (by decide +kernel)
theorem dX9_line_8 : decode cX9_line 8 = .ok (.ifCond .eq 27, 3) := bo_153 0 27 (by decide +kernel)
theorem dX9_line_35 : decode cX9_line 35 = .ok (.aload_n 0, 1) := bo_42 (by decide +kernel)
theorem dX9_line_36 : decode cX9_line 36 = .ok (.iconst 1, 1) := bo_4 (by decide +kernel)
theorem dX9_line_37 : decode cX9_line 37 = .ok (.invokevirtual 200, 3) := bo_182 0 200 (by decide +kernel)
theorem dX9_line_40 : decode cX9_line 40 = .ok (.ireturn, 1) := bo_172 (by decide +kernel)
theorem dX9_line_11 : decode cX9_line 11 = .ok (.iload_n 1, 1) := bo_27 (by decide +kernel)
theorem dX9_line_12 : decode cX9_line 12 = .ok (.iconst 0, 1) := bo_3 (by decide +kernel)
theorem dX9_line_13 : decode cX9_line 13 = .ok (.aload_n 0, 1) := bo_42 (by decide +kernel)
theorem dX9_line_14 : decode cX9_line 14 = .ok (.getfield 213, 3) := bo_180 0 213 (by decide +kernel)
theorem dX9_line_17 : decode cX9_line 17 = .ok (.iconst 1, 1) := bo_4 (by decide +kernel)
theorem dX9_line_18 : decode cX9_line 18 = .ok (.isub, 1) := bo_100 (by decide +kernel)
theorem dX9_line_19 : decode cX9_line 19 = .ok (.invokestatic 146, 3) := bo_184 0 146 (by decide +kernel)
theorem dX9_line_22 : decode cX9_line 22 = .ok (.ifCond .eq 13, 3) := bo_153 0 13 (by decide +kernel)
theorem dX9_line_25 : decode cX9_line 25 = .ok (.iload_n 2, 1) := bo_28 (by decide +kernel)
theorem dX9_line_26 : decode cX9_line 26 = .ok (.iconst 0, 1) := bo_3 (by decide +kernel)
theorem dX9_line_27 : decode cX9_line 27 = .ok (.bipush 6, 2) := bo_16 6 (by decide +kernel)
theorem dX9_line_29 : decode cX9_line 29 = .ok (.invokestatic 146, 3) := bo_184 0 146 (by decide +kernel)
theorem dX9_line_32 : decode cX9_line 32 = .ok (.ifCond .ne 9, 3) := bo_154 0 9 (by decide +kernel)
theorem dX9_line_41 : decode cX9_line 41 = .ok (.bipush 20, 2) := bo_16 20 (by decide +kernel)
theorem dX9_line_43 : decode cX9_line 43 = .ok (.iload_n 1, 1) := bo_27 (by decide +kernel)
theorem dX9_line_44 : decode cX9_line 44 = .ok (.imul, 1) := bo_104 (by decide +kernel)
theorem dX9_line_45 : decode cX9_line 45 = .ok (.istore_n 3, 1) := bo_62 (by decide +kernel)
theorem dX9_line_46 : decode cX9_line 46 = .ok (.aload_n 0, 1) := bo_42 (by decide +kernel)
theorem dX9_line_47 : decode cX9_line 47 = .ok (.getfield 23, 3) := bo_180 0 23 (by decide +kernel)
theorem dX9_line_50 : decode cX9_line 50 = .ok (.iload_n 3, 1) := bo_29 (by decide +kernel)
theorem dX9_line_51 : decode cX9_line 51 = .ok (.iconst 0, 1) := bo_3 (by decide +kernel)
theorem dX9_line_52 : decode cX9_line 52 = .ok (.iadd, 1) := bo_96 (by decide +kernel)
theorem dX9_line_53 : decode cX9_line 53 = .ok (.iaload, 1) := bo_46 (by decide +kernel)
theorem dX9_line_54 : decode cX9_line 54 = .ok (.ifCond .ne 10, 3) := bo_154 0 10 (by decide +kernel)
theorem dX9_line_64 : decode cX9_line 64 = .ok (.aload_n 0, 1) := bo_42 (by decide +kernel)
theorem dX9_line_65 : decode cX9_line 65 = .ok (.getfield 23, 3) := bo_180 0 23 (by decide +kernel)
theorem dX9_line_68 : decode cX9_line 68 = .ok (.iload_n 3, 1) := bo_29 (by decide +kernel)
theorem dX9_line_69 : decode cX9_line 69 = .ok (.bipush 14, 2) := bo_16 14 (by decide +kernel)
theorem dX9_line_71 : decode cX9_line 71 = .ok (.iadd, 1) := bo_96 (by decide +kernel)
theorem dX9_line_72 : decode cX9_line 72 = .ok (.iaload, 1) := bo_46 (by decide +kernel)
theorem dX9_line_73 : decode cX9_line 73 = .ok (.istore 4, 2) := bo_54 (by decide +kernel)
theorem dX9_line_75 : decode cX9_line 75 = .ok (.iload_n 2, 1) := bo_28 (by decide +kernel)
theorem dX9_line_76 : decode cX9_line 76 = .ok (.tableswitch 133 0 5 #[40, 49, 52, 73, 93, 112], 40) := by decide +kernel
theorem dX9_line_116 : decode cX9_line 116 = .ok (.aload_n 0, 1) := bo_42 (by decide +kernel)
theorem dX9_line_117 : decode cX9_line 117 = .ok (.getfield 23, 3) := bo_180 0 23 (by decide +kernel)
theorem dX9_line_120 : decode cX9_line 120 = .ok (.iload_n 3, 1) := bo_29 (by decide +kernel)
theorem dX9_line_121 : decode cX9_line 121 = .ok (.iconst 1, 1) := bo_4 (by decide +kernel)
theorem dX9_line_122 : decode cX9_line 122 = .ok (.iadd, 1) := bo_96 (by decide +kernel)
theorem dX9_line_123 : decode cX9_line 123 = .ok (.iaload, 1) := bo_46 (by decide +kernel)
theorem dX9_line_124 : decode cX9_line 124 = .ok (.ireturn, 1) := bo_172 (by decide +kernel)
theorem dX9_line_125 : decode cX9_line 125 = .ok (.iload 4, 2) := bo_21 (by decide +kernel)
theorem dX9_line_127 : decode cX9_line 127 = .ok (.ireturn, 1) := bo_172 (by decide +kernel)
theorem dX9_line_128 : decode cX9_line 128 = .ok (.iload 4, 2) := bo_21 (by decide +kernel)
theorem dX9_line_130 : decode cX9_line 130 = .ok (.iconst 2, 1) := bo_5 (by decide +kernel)
theorem dX9_line_131 : decode cX9_line 131 = .ok (.if_icmp .ne 15, 3) := bo_160 0 15 (by decide +kernel)
theorem dX9_line_146 : decode cX9_line 146 = .ok (.bipush (-2), 2) := bo_16 254 (by decide +kernel)
theorem dX9_line_148 : decode cX9_line 148 = .ok (.ireturn, 1) := bo_172 (by decide +kernel)
theorem dX9_line_134 : decode cX9_line 134 = .ok (.aload_n 0, 1) := bo_42 (by decide +kernel)
theorem dX9_line_135 : decode cX9_line 135 = .ok (.getfield 23, 3) := bo_180 0 23 (by decide +kernel)
theorem dX9_line_138 : decode cX9_line 138 = .ok (.iload_n 3, 1) := bo_29 (by decide +kernel)
theorem dX9_line_139 : decode cX9_line 139 = .ok (.bipush 15, 2) := bo_16 15 (by decide +kernel)
theorem dX9_line_141 : decode cX9_line 141 = .ok (.iadd, 1) := bo_96 (by decide +kernel)
theorem dX9_line_142 : decode cX9_line 142 = .ok (.iaload, 1) := bo_46 (by decide +kernel)
theorem dX9_line_143 : decode cX9_line 143 = .ok (.goto 5, 3) := bo_167 0 5 (by decide +kernel)
theorem dX9_line_149 : decode cX9_line 149 = .ok (.iload 4, 2) := bo_21 (by decide +kernel)
theorem dX9_line_151 : decode cX9_line 151 = .ok (.ifCond .le 15, 3) := bo_158 0 15 (by decide +kernel)
theorem dX9_line_166 : decode cX9_line 166 = .ok (.bipush (-2), 2) := bo_16 254 (by decide +kernel)
theorem dX9_line_168 : decode cX9_line 168 = .ok (.ireturn, 1) := bo_172 (by decide +kernel)
theorem dX9_line_154 : decode cX9_line 154 = .ok (.aload_n 0, 1) := bo_42 (by decide +kernel)
theorem dX9_line_155 : decode cX9_line 155 = .ok (.getfield 23, 3) := bo_180 0 23 (by decide +kernel)
theorem dX9_line_158 : decode cX9_line 158 = .ok (.iload_n 3, 1) := bo_29 (by decide +kernel)
theorem dX9_line_159 : decode cX9_line 159 = .ok (.bipush 16, 2) := bo_16 16 (by decide +kernel)
theorem dX9_line_161 : decode cX9_line 161 = .ok (.iadd, 1) := bo_96 (by decide +kernel)
theorem dX9_line_162 : decode cX9_line 162 = .ok (.iaload, 1) := bo_46 (by decide +kernel)
theorem dX9_line_163 : decode cX9_line 163 = .ok (.goto 5, 3) := bo_167 0 5 (by decide +kernel)
theorem dX9_line_169 : decode cX9_line 169 = .ok (.iload 4, 2) := bo_21 (by decide +kernel)
theorem dX9_line_171 : decode cX9_line 171 = .ok (.ifCond .le 15, 3) := bo_158 0 15 (by decide +kernel)
theorem dX9_line_186 : decode cX9_line 186 = .ok (.iconst 0, 1) := bo_3 (by decide +kernel)
theorem dX9_line_187 : decode cX9_line 187 = .ok (.ireturn, 1) := bo_172 (by decide +kernel)
theorem dX9_line_174 : decode cX9_line 174 = .ok (.aload_n 0, 1) := bo_42 (by decide +kernel)
theorem dX9_line_175 : decode cX9_line 175 = .ok (.getfield 23, 3) := bo_180 0 23 (by decide +kernel)
theorem dX9_line_178 : decode cX9_line 178 = .ok (.iload_n 3, 1) := bo_29 (by decide +kernel)
theorem dX9_line_179 : decode cX9_line 179 = .ok (.bipush 17, 2) := bo_16 17 (by decide +kernel)
theorem dX9_line_181 : decode cX9_line 181 = .ok (.iadd, 1) := bo_96 (by decide +kernel)
theorem dX9_line_182 : decode cX9_line 182 = .ok (.iaload, 1) := bo_46 (by decide +kernel)
theorem dX9_line_183 : decode cX9_line 183 = .ok (.goto 4, 3) := bo_167 0 4 (by decide +kernel)
theorem dX9_line_188 : decode cX9_line 188 = .ok (.iload 4, 2) := bo_21 (by decide +kernel)
theorem dX9_line_190 : decode cX9_line 190 = .ok (.iconst 2, 1) := bo_5 (by decide +kernel)
theorem dX9_line_191 : decode cX9_line 191 = .ok (.if_icmp .ne 15, 3) := bo_160 0 15 (by decide +kernel)
theorem dX9_line_206 : decode cX9_line 206 = .ok (.bipush (-2), 2) := bo_16 254 (by decide +kernel)
theorem dX9_line_208 : decode cX9_line 208 = .ok (.ireturn, 1) := bo_172 (by decide +kernel)
theorem dX9_line_194 : decode cX9_line 194 = .ok (.aload_n 0, 1) := bo_42 (by decide +kernel)
theorem dX9_line_195 : decode cX9_line 195 = .ok (.getfield 23, 3) := bo_180 0 23 (by decide +kernel)
theorem dX9_line_198 : decode cX9_line 198 = .ok (.iload_n 3, 1) := bo_29 (by decide +kernel)
theorem dX9_line_199 : decode cX9_line 199 = .ok (.bipush 18, 2) := bo_16 18 (by decide +kernel)
theorem dX9_line_201 : decode cX9_line 201 = .ok (.iadd, 1) := bo_96 (by decide +kernel)
theorem dX9_line_202 : decode cX9_line 202 = .ok (.iaload, 1) := bo_46 (by decide +kernel)
theorem dX9_line_203 : decode cX9_line 203 = .ok (.goto 5, 3) := bo_167 0 5 (by decide +kernel)
theorem dX9_line_209 : decode cX9_line 209 = .ok (.iload 4, 2) := bo_21 (by decide +kernel)
theorem dX9_line_211 : decode cX9_line 211 = .ok (.iconst 2, 1) := bo_5 (by decide +kernel)
theorem dX9_line_212 : decode cX9_line 212 = .ok (.if_icmp .ne 15, 3) := bo_160 0 15 (by decide +kernel)
theorem dX9_line_227 : decode cX9_line 227 = .ok (.iconst 0, 1) := bo_3 (by decide +kernel)
theorem dX9_line_228 : decode cX9_line 228 = .ok (.ireturn, 1) := bo_172 (by decide +kernel)
theorem dX9_line_215 : decode cX9_line 215 = .ok (.aload_n 0, 1) := bo_42 (by decide +kernel)
theorem dX9_line_216 : decode cX9_line 216 = .ok (.getfield 23, 3) := bo_180 0 23 (by decide +kernel)
theorem dX9_line_219 : decode cX9_line 219 = .ok (.iload_n 3, 1) := bo_29 (by decide +kernel)
theorem dX9_line_220 : decode cX9_line 220 = .ok (.bipush 19, 2) := bo_16 19 (by decide +kernel)
theorem dX9_line_222 : decode cX9_line 222 = .ok (.iadd, 1) := bo_96 (by decide +kernel)
theorem dX9_line_223 : decode cX9_line 223 = .ok (.iaload, 1) := bo_46 (by decide +kernel)
theorem dX9_line_224 : decode cX9_line 224 = .ok (.goto 4, 3) := bo_167 0 4 (by decide +kernel)
theorem dX9_line_57 : decode cX9_line 57 = .ok (.aload_n 0, 1) := bo_42 (by decide +kernel)
theorem dX9_line_58 : decode cX9_line 58 = .ok (.bipush 6, 2) := bo_16 6 (by decide +kernel)
theorem dX9_line_60 : decode cX9_line 60 = .ok (.invokevirtual 200, 3) := bo_182 0 200 (by decide +kernel)
theorem dX9_line_63 : decode cX9_line 63 = .ok (.ireturn, 1) := bo_172 (by decide +kernel)
abbrev rm_X9_line : Room := { frames := 1, cells := 0, slots := 0, locals := 22 }
set_option maxRecDepth 100000 in
set_option maxHeartbeats 8000000 in
theorem c_X9_line {l : Launch} {E : (Nat → Prop) → State → Prop} (hO : bw_Ok E) {G : va_G} {cI cB cJ cN cW : ClassId} (y : Nat) (q : Nat → Nat) (i : Nat → Int) (hM : ModOk i) (g_now : Nat → Int) (x : Int) (w : Int) (hx9 : zR x) (hw9 : zR w) (hpn : ProgOk g_now) : bw_Ci (S := zV) l yX9_line (bw_ws (Cond.code yX9_line cX9_line 5 (some .int))) rm_X9_line E G (bw_kt cI cB cJ cN cW) [.ref y, .int (zI x), .int (zI w)] [(y, .inr (9, [.int (zI (i 0)), .ref (q 0), .int (zI (i 1)), .int (zI (i 2)), .int (zI (i 3)), .int (zI (i 4)), .int (zI (i 5)), .int (zI (i 6)), .int (zI (i 7)), .int (zI (i 8)), .int (zI (i 9)), .int (zI (i 10)), .ref (q 1), .int (zI (i 11)), .int (zI (i 12)), .ref (q 2), .ref (q 3), .ref (q 4), .ref (q 5), .ref (q 6), .ref (q 7), .ref (q 8), .ref (q 9), .ref (q 10), .ref (q 11), .ref (q 12), .ref (q 13), .ref (q 14), .ref (q 15), .ref (q 16), .int (zI (i 13)), .int (zI (i 14)), .int (zI (i 15)), .int (zI (i 16)), .int (zI (i 17)), .int (zI (i 18)), .ref (q 17), .ref (q 18), .ref (q 19), .ref (q 20)])), ((q 3), .inl (cI, 200, .inl (fun k => zI (g_now k))))] (fun r u => ∃ z : Int, r = zI z ∧ (ModOk (u 0).1) ∧ (((u 0).1 1 = i 1 ∧ (u 0).1 8 = i 8 ∧ (u 0).1 9 = i 9 ∧ (u 0).1 12 = i 12 ∧ (u 0).1 13 = i 13 ∧ (u 0).1 15 = i 15 ∧ (u 0).1 17 = i 17 ∧ (u 0).1 10 ≠ 4))) (fun u => [(y, .inr (9, [.int (zI ((u 0).1 0)), .ref (q 0), .int (zI ((u 0).1 1)), .int (zI ((u 0).1 2)), .int (zI ((u 0).1 3)), .int (zI ((u 0).1 4)), .int (zI ((u 0).1 5)), .int (zI ((u 0).1 6)), .int (zI ((u 0).1 7)), .int (zI ((u 0).1 8)), .int (zI ((u 0).1 9)), .int (zI ((u 0).1 10)), .ref (q 1), .int (zI ((u 0).1 11)), .int (zI ((u 0).1 12)), .ref (q 2), .ref (q 3), .ref (q 4), .ref (q 5), .ref (q 6), .ref (q 7), .ref (q 8), .ref (q 9), .ref (q 10), .ref (q 11), .ref (q 12), .ref (q 13), .ref (q 14), .ref (q 15), .ref (q 16), .int (zI ((u 0).1 13)), .int (zI ((u 0).1 14)), .int (zI ((u 0).1 15)), .int (zI ((u 0).1 16)), .int (zI ((u 0).1 17)), .int (zI ((u 0).1 18)), .ref (q 17), .ref (q 18), .ref (q 19), .ref (q 20)])), ((q 3), .inl (cI, 200, .inl (fun k => zI (g_now k))))]) := by
  refine bw_Ci.of (cc := cX9_line) (maxL := 5) (ty := .int) (by decide) rfl (Nat.le_of_ble_eq_true rfl) ?_
  intro p e s m below meth c A Q hx hb hml hts hown hin hK hA hS hP hD hE ret ls hl
  have F : CallFix p m c cX9_line 5 s ([.ref y, .int (zI x), .int (zI w)] : List Value).toArray bw_T RX9 := ⟨hx, hb, hml, hown, fun w h => hts w (List.mem_cons_of_mem _ h)⟩
  replace hl : lv_has ls 5 [(0, .ref y), (1, .int (zI x)), (2, .int (zI w))] := hl
  have hf1 := hM.1
  refine lv_aload_n hx hb dX9_line_0 rfl (lv_at hl 0 rfl) ?_
  refine r_callVv (As := []) (rest := []) (wr := [((q 3), .inl (cI, 200, .inl (fun k => zI (g_now k))))]) F hK hP hD hS hA hO hE (c_X9_good hO y q i hM) k_1296 kv_X9_good 0 rfl (by decide +kernel) ⟨Nat.le_of_ble_eq_true rfl, Nat.le_of_ble_eq_true rfl⟩ [0] [1] rfl rfl (by decide) (by decide) (by decide) 0 9 rfl rfl rfl hl.1 rfl (Nat.le_of_ble_eq_true rfl) dX9_line_1 ⟨Nat.le_of_ble_eq_true rfl, Nat.le_of_ble_eq_true rfl⟩ (w1 := fun u2 => [((q 3), .inl (cI, 200, .inl (fun k => zI (g_now k)))), (y, .inr (9, [.int (zI ((u2 0).1 0)), .ref (q 0), .int (zI ((u2 0).1 1)), .int (zI ((u2 0).1 2)), .int (zI ((u2 0).1 3)), .int (zI ((u2 0).1 4)), .int (zI ((u2 0).1 5)), .int (zI ((u2 0).1 6)), .int (zI ((u2 0).1 7)), .int (zI ((u2 0).1 8)), .int (zI ((u2 0).1 9)), .int (zI ((u2 0).1 10)), .ref (q 1), .int (zI ((u2 0).1 11)), .int (zI ((u2 0).1 12)), .ref (q 2), .ref (q 3), .ref (q 4), .ref (q 5), .ref (q 6), .ref (q 7), .ref (q 8), .ref (q 9), .ref (q 10), .ref (q 11), .ref (q 12), .ref (q 13), .ref (q 14), .ref (q 15), .ref (q 16), .int (zI ((u2 0).1 13)), .int (zI ((u2 0).1 14)), .int (zI ((u2 0).1 15)), .int (zI ((u2 0).1 16)), .int (zI ((u2 0).1 17)), .int (zI ((u2 0).1 18)), .ref (q 17), .ref (q 18), .ref (q 19), .ref (q 20)]))]) (fun _ => rfl) (fun  u2 H locs hp3 hP hD hS => ?_)
  have hf4 := hp3.1.1
  refine lv_aload_n hx hb dX9_line_4 rfl (lv_at hl 0 rfl) ?_
  refine r_get F hK hP 1 14 rfl rfl in_X9 (by decide) k_1177 rfl dX9_line_5 ?_
  refine rz_ifb_eq (tgt := 35) F (by omega) dX9_line_8 (by decide) (fun h8_4 => ?_) (fun h8_4 => ?_)
  · refine lv_aload_n hx hb dX9_line_35 rfl (lv_at hl 0 rfl) ?_
    refine lv_iconst (v := zI 1) hx hb dX9_line_36 rfl ?_
    refine r_callVi (As := [.int (zI 1)]) (rest := []) (wr := [((q 3), .inl (cI, 200, .inl (fun k => zI (g_now k))))]) F hK hP hD hS hA hO hE (c_X9_no hO y q ((u2 0).1) hp3.1 1 (by omega) (by omega)) k_1303 kv_X9_no 1 rfl (by decide +kernel) ⟨Nat.le_of_ble_eq_true rfl, Nat.le_of_ble_eq_true rfl⟩ [1] [0] rfl rfl (by decide) (by decide) (by decide) 0 9 rfl rfl rfl hl.1 rfl (Nat.le_of_ble_eq_true rfl) dX9_line_37 ⟨Nat.le_of_ble_eq_true rfl, Nat.le_of_ble_eq_true rfl⟩ (w1 := fun u6 => [((q 3), .inl (cI, 200, .inl (fun k => zI (g_now k)))), (y, .inr (9, [.int (zI ((u6 0).1 0)), .ref (q 0), .int (zI ((u6 0).1 1)), .int (zI ((u6 0).1 2)), .int (zI ((u6 0).1 3)), .int (zI ((u6 0).1 4)), .int (zI ((u6 0).1 5)), .int (zI ((u6 0).1 6)), .int (zI ((u6 0).1 7)), .int (zI ((u6 0).1 8)), .int (zI ((u6 0).1 9)), .int (zI ((u6 0).1 10)), .ref (q 1), .int (zI ((u6 0).1 11)), .int (zI ((u6 0).1 12)), .ref (q 2), .ref (q 3), .ref (q 4), .ref (q 5), .ref (q 6), .ref (q 7), .ref (q 8), .ref (q 9), .ref (q 10), .ref (q 11), .ref (q 12), .ref (q 13), .ref (q 14), .ref (q 15), .ref (q 16), .int (zI ((u6 0).1 13)), .int (zI ((u6 0).1 14)), .int (zI ((u6 0).1 15)), .int (zI ((u6 0).1 16)), .int (zI ((u6 0).1 17)), .int (zI ((u6 0).1 18)), .ref (q 17), .ref (q 18), .ref (q 19), .ref (q 20)]))]) (fun _ => rfl) (fun r7 u6 H locs hp8 hP hD hS => ?_)
    obtain ⟨z9, rfl, h_z9⟩ := hp8
    have hf10 := h_z9.1.1
    exact ret (zI z9) (fun k => [((u6 0).1, fun _ _ => 0)].getD k (fun _ => 0, fun _ _ => 0)) _ _ _ _ _ _ rfl ⟨z9, rfl, h_z9.1, (show ((u6 0).1) 1 = i 1 ∧ ((u6 0).1) 8 = i 8 ∧ ((u6 0).1) 9 = i 9 ∧ ((u6 0).1) 12 = i 12 ∧ ((u6 0).1) 13 = i 13 ∧ ((u6 0).1) 15 = i 15 ∧ ((u6 0).1) 17 = i 17 ∧ ((u6 0).1) 10 ≠ 4 from by omega)⟩ (bw_subP (isC := [1, 0]) hP rfl) (hD.sub [1, 0] (by decide) rfl) hS (Nat.le_of_ble_eq_true rfl) (Nat.le_of_ble_eq_true rfl) dX9_line_40
  · refine lv_iload_n hx hb dX9_line_11 rfl (lv_at hl 1 rfl) ?_
    refine lv_iconst (v := zI 0) hx hb dX9_line_12 rfl ?_
    refine lv_aload_n hx hb dX9_line_13 rfl (lv_at hl 0 rfl) ?_
    refine r_get F hK hP 1 30 rfl rfl in_X9 (by decide) k_1193 rfl dX9_line_14 ?_
    refine lv_iconst (v := zI 1) hx hb dX9_line_17 rfl ?_
    refine r_isub (v := zI (((u2 0).1 13) - 1)) F dX9_line_18 (zI_sub _ _) ?_
    refine r_callSi (As := [.int (zI x), .int (zI 0), .int (zI (((u2 0).1 13) - 1))]) (rest := []) (wr := [((q 3), .inl (cI, 200, .inl (fun k => zI (g_now k)))), (y, .inr (9, [.int (zI ((u2 0).1 0)), .ref (q 0), .int (zI ((u2 0).1 1)), .int (zI ((u2 0).1 2)), .int (zI ((u2 0).1 3)), .int (zI ((u2 0).1 4)), .int (zI ((u2 0).1 5)), .int (zI ((u2 0).1 6)), .int (zI ((u2 0).1 7)), .int (zI ((u2 0).1 8)), .int (zI ((u2 0).1 9)), .int (zI ((u2 0).1 10)), .ref (q 1), .int (zI ((u2 0).1 11)), .int (zI ((u2 0).1 12)), .ref (q 2), .ref (q 3), .ref (q 4), .ref (q 5), .ref (q 6), .ref (q 7), .ref (q 8), .ref (q 9), .ref (q 10), .ref (q 11), .ref (q 12), .ref (q 13), .ref (q 14), .ref (q 15), .ref (q 16), .int (zI ((u2 0).1 13)), .int (zI ((u2 0).1 14)), .int (zI ((u2 0).1 15)), .int (zI ((u2 0).1 16)), .int (zI ((u2 0).1 17)), .int (zI ((u2 0).1 18)), .ref (q 17), .ref (q 18), .ref (q 19), .ref (q 20)]))]) F hK hP hD hS hA hO hE (c_X9_within hO x 0 (((u2 0).1 13) - 1) (by omega) (by omega) (by omega)) k_1300 ks_X9_within 3 rfl (by decide +kernel) ⟨Nat.le_of_ble_eq_true rfl, Nat.le_of_ble_eq_true rfl⟩ [] [0, 1] rfl rfl (by decide) (by decide) (by decide) hl.1 rfl (Nat.le_of_ble_eq_true rfl) dX9_line_19 ⟨Nat.le_of_ble_eq_true rfl, Nat.le_of_ble_eq_true rfl⟩ (w1 := fun u11 => [((q 3), .inl (cI, 200, .inl (fun k => zI (g_now k)))), (y, .inr (9, [.int (zI ((u2 0).1 0)), .ref (q 0), .int (zI ((u2 0).1 1)), .int (zI ((u2 0).1 2)), .int (zI ((u2 0).1 3)), .int (zI ((u2 0).1 4)), .int (zI ((u2 0).1 5)), .int (zI ((u2 0).1 6)), .int (zI ((u2 0).1 7)), .int (zI ((u2 0).1 8)), .int (zI ((u2 0).1 9)), .int (zI ((u2 0).1 10)), .ref (q 1), .int (zI ((u2 0).1 11)), .int (zI ((u2 0).1 12)), .ref (q 2), .ref (q 3), .ref (q 4), .ref (q 5), .ref (q 6), .ref (q 7), .ref (q 8), .ref (q 9), .ref (q 10), .ref (q 11), .ref (q 12), .ref (q 13), .ref (q 14), .ref (q 15), .ref (q 16), .int (zI ((u2 0).1 13)), .int (zI ((u2 0).1 14)), .int (zI ((u2 0).1 15)), .int (zI ((u2 0).1 16)), .int (zI ((u2 0).1 17)), .int (zI ((u2 0).1 18)), .ref (q 17), .ref (q 18), .ref (q 19), .ref (q 20)]))]) (fun _ => rfl) (fun r12 u11 H locs hp13 hP hD hS => ?_)
    obtain ⟨z14, rfl, h_z14⟩ := hp13
    refine rz_ifb_eq (tgt := 35) F (by omega) dX9_line_22 (by decide) (fun h22_14 => ?_) (fun h22_14 => ?_)
    · have hq16 := h_z14.2.2 (by omega)
      refine lv_aload_n hx hb dX9_line_35 rfl (lv_at hl 0 rfl) ?_
      refine lv_iconst (v := zI 1) hx hb dX9_line_36 rfl ?_
      refine r_callVi (As := [.int (zI 1)]) (rest := []) (wr := [((q 3), .inl (cI, 200, .inl (fun k => zI (g_now k))))]) F hK hP hD hS hA hO hE (c_X9_no hO y q ((u2 0).1) hp3.1 1 (by omega) (by omega)) k_1303 kv_X9_no 1 rfl (by decide +kernel) ⟨Nat.le_of_ble_eq_true rfl, Nat.le_of_ble_eq_true rfl⟩ [1] [0] rfl rfl (by decide) (by decide) (by decide) 0 9 rfl rfl rfl hl.1 rfl (Nat.le_of_ble_eq_true rfl) dX9_line_37 ⟨Nat.le_of_ble_eq_true rfl, Nat.le_of_ble_eq_true rfl⟩ (w1 := fun u17 => [((q 3), .inl (cI, 200, .inl (fun k => zI (g_now k)))), (y, .inr (9, [.int (zI ((u17 0).1 0)), .ref (q 0), .int (zI ((u17 0).1 1)), .int (zI ((u17 0).1 2)), .int (zI ((u17 0).1 3)), .int (zI ((u17 0).1 4)), .int (zI ((u17 0).1 5)), .int (zI ((u17 0).1 6)), .int (zI ((u17 0).1 7)), .int (zI ((u17 0).1 8)), .int (zI ((u17 0).1 9)), .int (zI ((u17 0).1 10)), .ref (q 1), .int (zI ((u17 0).1 11)), .int (zI ((u17 0).1 12)), .ref (q 2), .ref (q 3), .ref (q 4), .ref (q 5), .ref (q 6), .ref (q 7), .ref (q 8), .ref (q 9), .ref (q 10), .ref (q 11), .ref (q 12), .ref (q 13), .ref (q 14), .ref (q 15), .ref (q 16), .int (zI ((u17 0).1 13)), .int (zI ((u17 0).1 14)), .int (zI ((u17 0).1 15)), .int (zI ((u17 0).1 16)), .int (zI ((u17 0).1 17)), .int (zI ((u17 0).1 18)), .ref (q 17), .ref (q 18), .ref (q 19), .ref (q 20)]))]) (fun _ => rfl) (fun r18 u17 H locs hp19 hP hD hS => ?_)
      obtain ⟨z20, rfl, h_z20⟩ := hp19
      have hf21 := h_z20.1.1
      exact ret (zI z20) (fun k => [((u17 0).1, fun _ _ => 0)].getD k (fun _ => 0, fun _ _ => 0)) _ _ _ _ _ _ rfl ⟨z20, rfl, h_z20.1, (show ((u17 0).1) 1 = i 1 ∧ ((u17 0).1) 8 = i 8 ∧ ((u17 0).1) 9 = i 9 ∧ ((u17 0).1) 12 = i 12 ∧ ((u17 0).1) 13 = i 13 ∧ ((u17 0).1) 15 = i 15 ∧ ((u17 0).1) 17 = i 17 ∧ ((u17 0).1) 10 ≠ 4 from by omega)⟩ (bw_subP (isC := [1, 0]) hP rfl) (hD.sub [1, 0] (by decide) rfl) hS (Nat.le_of_ble_eq_true rfl) (Nat.le_of_ble_eq_true rfl) dX9_line_40
    · have hq22 := h_z14.2.1 (by omega)
      refine lv_iload_n hx hb dX9_line_25 rfl (lv_at hl 2 rfl) ?_
      refine lv_iconst (v := zI 0) hx hb dX9_line_26 rfl ?_
      refine lv_bipush (v := zI 6) hx hb dX9_line_27 (by decide) ?_
      refine r_callSi (As := [.int (zI w), .int (zI 0), .int (zI 6)]) (rest := []) (wr := [((q 3), .inl (cI, 200, .inl (fun k => zI (g_now k)))), (y, .inr (9, [.int (zI ((u2 0).1 0)), .ref (q 0), .int (zI ((u2 0).1 1)), .int (zI ((u2 0).1 2)), .int (zI ((u2 0).1 3)), .int (zI ((u2 0).1 4)), .int (zI ((u2 0).1 5)), .int (zI ((u2 0).1 6)), .int (zI ((u2 0).1 7)), .int (zI ((u2 0).1 8)), .int (zI ((u2 0).1 9)), .int (zI ((u2 0).1 10)), .ref (q 1), .int (zI ((u2 0).1 11)), .int (zI ((u2 0).1 12)), .ref (q 2), .ref (q 3), .ref (q 4), .ref (q 5), .ref (q 6), .ref (q 7), .ref (q 8), .ref (q 9), .ref (q 10), .ref (q 11), .ref (q 12), .ref (q 13), .ref (q 14), .ref (q 15), .ref (q 16), .int (zI ((u2 0).1 13)), .int (zI ((u2 0).1 14)), .int (zI ((u2 0).1 15)), .int (zI ((u2 0).1 16)), .int (zI ((u2 0).1 17)), .int (zI ((u2 0).1 18)), .ref (q 17), .ref (q 18), .ref (q 19), .ref (q 20)]))]) F hK hP hD hS hA hO hE (c_X9_within hO w 0 6 (by omega) (by omega) (by omega)) k_1300 ks_X9_within 3 rfl (by decide +kernel) ⟨Nat.le_of_ble_eq_true rfl, Nat.le_of_ble_eq_true rfl⟩ [] [0, 1] rfl rfl (by decide) (by decide) (by decide) hl.1 rfl (Nat.le_of_ble_eq_true rfl) dX9_line_29 ⟨Nat.le_of_ble_eq_true rfl, Nat.le_of_ble_eq_true rfl⟩ (w1 := fun u23 => [((q 3), .inl (cI, 200, .inl (fun k => zI (g_now k)))), (y, .inr (9, [.int (zI ((u2 0).1 0)), .ref (q 0), .int (zI ((u2 0).1 1)), .int (zI ((u2 0).1 2)), .int (zI ((u2 0).1 3)), .int (zI ((u2 0).1 4)), .int (zI ((u2 0).1 5)), .int (zI ((u2 0).1 6)), .int (zI ((u2 0).1 7)), .int (zI ((u2 0).1 8)), .int (zI ((u2 0).1 9)), .int (zI ((u2 0).1 10)), .ref (q 1), .int (zI ((u2 0).1 11)), .int (zI ((u2 0).1 12)), .ref (q 2), .ref (q 3), .ref (q 4), .ref (q 5), .ref (q 6), .ref (q 7), .ref (q 8), .ref (q 9), .ref (q 10), .ref (q 11), .ref (q 12), .ref (q 13), .ref (q 14), .ref (q 15), .ref (q 16), .int (zI ((u2 0).1 13)), .int (zI ((u2 0).1 14)), .int (zI ((u2 0).1 15)), .int (zI ((u2 0).1 16)), .int (zI ((u2 0).1 17)), .int (zI ((u2 0).1 18)), .ref (q 17), .ref (q 18), .ref (q 19), .ref (q 20)]))]) (fun _ => rfl) (fun r24 u23 H locs hp25 hP hD hS => ?_)
      obtain ⟨z26, rfl, h_z26⟩ := hp25
      refine rz_ifb_ne (tgt := 41) F (by omega) dX9_line_32 (by decide) (fun h32_26 => ?_) (fun h32_26 => ?_)
      · have hq28 := h_z26.2.1 (by omega)
        refine lv_bipush (v := zI 20) hx hb dX9_line_41 (by decide) ?_
        refine lv_iload_n hx hb dX9_line_43 rfl (lv_at hl 1 rfl) ?_
        refine r_imul (v := zI (20 * x)) F dX9_line_44 (zI_mul _ _) ?_
        refine lv_istore_n (lv' := [(3, .int (zI (20 * x))), (0, .ref y), (1, .int (zI x)), (2, .int (zI w))]) hx hb dX9_line_45 rfl hl (by decide) rfl (fun ls hl => ?_)
        refine lv_aload_n hx hb dX9_line_46 rfl (lv_at hl 1 rfl) ?_
        refine r_get F hK hP 1 16 rfl rfl in_X9 (by decide) k_1179 rfl dX9_line_47 ?_
        refine lv_iload_n hx hb dX9_line_50 rfl (lv_at hl 0 rfl) ?_
        refine lv_iconst (v := zI 0) hx hb dX9_line_51 rfl ?_
        refine r_iadd (v := zI ((20 * x) + 0)) F dX9_line_52 (zI_add _ _) ?_
        refine rz_iald F hK hP 0 0 rfl rfl (by omega) (by omega) dX9_line_53 ?_
        refine rz_top (fun z29 h_z29 => ?_)
        refine rz_if_ne (tgt := 64) F (by omega) dX9_line_54 (by decide) (fun h54_29 => ?_) (fun h54_29 => ?_)
        · refine lv_aload_n hx hb dX9_line_64 rfl (lv_at hl 1 rfl) ?_
          refine r_get F hK hP 1 16 rfl rfl in_X9 (by decide) k_1179 rfl dX9_line_65 ?_
          refine lv_iload_n hx hb dX9_line_68 rfl (lv_at hl 0 rfl) ?_
          refine lv_bipush (v := zI 14) hx hb dX9_line_69 (by decide) ?_
          refine r_iadd (v := zI ((20 * x) + 14)) F dX9_line_71 (zI_add _ _) ?_
          refine rz_iald F hK hP 0 0 rfl rfl (by omega) (by omega) dX9_line_72 ?_
          refine rz_top (fun z31 h_z31 => ?_)
          refine lv_istore (lv' := [(4, .int (zI z31)), (3, .int (zI (20 * x))), (0, .ref y), (1, .int (zI x)), (2, .int (zI w))]) hx hb dX9_line_73 hl (by decide) rfl (fun ls hl => ?_)
          refine lv_iload_n hx hb dX9_line_75 rfl (lv_at hl 4 rfl) ?_
          by_cases h_in : 0 ≤ w ∧ w ≤ 5
          · rcases (show w = 0 ∨ w = 1 ∨ w = 2 ∨ w = 3 ∨ w = 4 ∨ w = 5 by omega) with h_e | h_e | h_e | h_e | h_e | h_e
            · refine lv_tableIn (off := 40) (tgt := 116) hx hb dX9_line_76 (by rw [h_e]; decide) (by rw [h_e]; decide) (by rw [h_e]; decide) (by decide) ?_
              refine lv_aload_n hx hb dX9_line_116 rfl (lv_at hl 2 rfl) ?_
              refine r_get F hK hP 1 16 rfl rfl in_X9 (by decide) k_1179 rfl dX9_line_117 ?_
              refine lv_iload_n hx hb dX9_line_120 rfl (lv_at hl 1 rfl) ?_
              refine lv_iconst (v := zI 1) hx hb dX9_line_121 rfl ?_
              refine r_iadd (v := zI ((20 * x) + 1)) F dX9_line_122 (zI_add _ _) ?_
              refine rz_iald F hK hP 0 0 rfl rfl (by omega) (by omega) dX9_line_123 ?_
              refine rz_top (fun z32 h_z32 => ?_)
              exact ret (zI z32) (fun k => [((u2 0).1, fun _ _ => 0)].getD k (fun _ => 0, fun _ _ => 0)) _ _ _ _ _ _ rfl ⟨z32, rfl, hp3.1, (show ((u2 0).1) 1 = i 1 ∧ ((u2 0).1) 8 = i 8 ∧ ((u2 0).1) 9 = i 9 ∧ ((u2 0).1) 12 = i 12 ∧ ((u2 0).1) 13 = i 13 ∧ ((u2 0).1) 15 = i 15 ∧ ((u2 0).1) 17 = i 17 ∧ ((u2 0).1) 10 ≠ 4 from by omega)⟩ (bw_subP (isC := [1, 0]) hP rfl) (hD.sub [1, 0] (by decide) rfl) hS (Nat.le_of_ble_eq_true rfl) (Nat.le_of_ble_eq_true rfl) dX9_line_124
            · refine lv_tableIn (off := 49) (tgt := 125) hx hb dX9_line_76 (by rw [h_e]; decide) (by rw [h_e]; decide) (by rw [h_e]; decide) (by decide) ?_
              refine lv_iload hx hb dX9_line_125 (lv_at hl 0 rfl) ?_
              exact ret (zI z31) (fun k => [((u2 0).1, fun _ _ => 0)].getD k (fun _ => 0, fun _ _ => 0)) _ _ _ _ _ _ rfl ⟨z31, rfl, hp3.1, (show ((u2 0).1) 1 = i 1 ∧ ((u2 0).1) 8 = i 8 ∧ ((u2 0).1) 9 = i 9 ∧ ((u2 0).1) 12 = i 12 ∧ ((u2 0).1) 13 = i 13 ∧ ((u2 0).1) 15 = i 15 ∧ ((u2 0).1) 17 = i 17 ∧ ((u2 0).1) 10 ≠ 4 from by omega)⟩ (bw_subP (isC := [1, 0]) hP rfl) (hD.sub [1, 0] (by decide) rfl) hS (Nat.le_of_ble_eq_true rfl) (Nat.le_of_ble_eq_true rfl) dX9_line_127
            · refine lv_tableIn (off := 52) (tgt := 128) hx hb dX9_line_76 (by rw [h_e]; decide) (by rw [h_e]; decide) (by rw [h_e]; decide) (by decide) ?_
              refine lv_iload hx hb dX9_line_128 (lv_at hl 0 rfl) ?_
              refine lv_iconst (v := zI 2) hx hb dX9_line_130 rfl ?_
              refine rz_icmp_ne (tgt := 146) F (by omega) (by omega) dX9_line_131 (by decide) (fun h131_32 => ?_) (fun h131_32 => ?_)
              · refine lv_bipush (v := zI (-2)) hx hb dX9_line_146 (by decide) ?_
                exact ret (zI (-2)) (fun k => [((u2 0).1, fun _ _ => 0)].getD k (fun _ => 0, fun _ _ => 0)) _ _ _ _ _ _ rfl ⟨(-2), rfl, hp3.1, (show ((u2 0).1) 1 = i 1 ∧ ((u2 0).1) 8 = i 8 ∧ ((u2 0).1) 9 = i 9 ∧ ((u2 0).1) 12 = i 12 ∧ ((u2 0).1) 13 = i 13 ∧ ((u2 0).1) 15 = i 15 ∧ ((u2 0).1) 17 = i 17 ∧ ((u2 0).1) 10 ≠ 4 from by omega)⟩ (bw_subP (isC := [1, 0]) hP rfl) (hD.sub [1, 0] (by decide) rfl) hS (Nat.le_of_ble_eq_true rfl) (Nat.le_of_ble_eq_true rfl) dX9_line_148
              · refine lv_aload_n hx hb dX9_line_134 rfl (lv_at hl 2 rfl) ?_
                refine r_get F hK hP 1 16 rfl rfl in_X9 (by decide) k_1179 rfl dX9_line_135 ?_
                refine lv_iload_n hx hb dX9_line_138 rfl (lv_at hl 1 rfl) ?_
                refine lv_bipush (v := zI 15) hx hb dX9_line_139 (by decide) ?_
                refine r_iadd (v := zI ((20 * x) + 15)) F dX9_line_141 (zI_add _ _) ?_
                refine rz_iald F hK hP 0 0 rfl rfl (by omega) (by omega) dX9_line_142 ?_
                refine rz_top (fun z34 h_z34 => ?_)
                refine lv_goto (tgt := 148) hx hb dX9_line_143 (by decide) ?_
                exact ret (zI z34) (fun k => [((u2 0).1, fun _ _ => 0)].getD k (fun _ => 0, fun _ _ => 0)) _ _ _ _ _ _ rfl ⟨z34, rfl, hp3.1, (show ((u2 0).1) 1 = i 1 ∧ ((u2 0).1) 8 = i 8 ∧ ((u2 0).1) 9 = i 9 ∧ ((u2 0).1) 12 = i 12 ∧ ((u2 0).1) 13 = i 13 ∧ ((u2 0).1) 15 = i 15 ∧ ((u2 0).1) 17 = i 17 ∧ ((u2 0).1) 10 ≠ 4 from by omega)⟩ (bw_subP (isC := [1, 0]) hP rfl) (hD.sub [1, 0] (by decide) rfl) hS (Nat.le_of_ble_eq_true rfl) (Nat.le_of_ble_eq_true rfl) dX9_line_148
            · refine lv_tableIn (off := 73) (tgt := 149) hx hb dX9_line_76 (by rw [h_e]; decide) (by rw [h_e]; decide) (by rw [h_e]; decide) (by decide) ?_
              refine lv_iload hx hb dX9_line_149 (lv_at hl 0 rfl) ?_
              refine rz_if_le (tgt := 166) F (by omega) dX9_line_151 (by decide) (fun h151_34 => ?_) (fun h151_34 => ?_)
              · refine lv_bipush (v := zI (-2)) hx hb dX9_line_166 (by decide) ?_
                exact ret (zI (-2)) (fun k => [((u2 0).1, fun _ _ => 0)].getD k (fun _ => 0, fun _ _ => 0)) _ _ _ _ _ _ rfl ⟨(-2), rfl, hp3.1, (show ((u2 0).1) 1 = i 1 ∧ ((u2 0).1) 8 = i 8 ∧ ((u2 0).1) 9 = i 9 ∧ ((u2 0).1) 12 = i 12 ∧ ((u2 0).1) 13 = i 13 ∧ ((u2 0).1) 15 = i 15 ∧ ((u2 0).1) 17 = i 17 ∧ ((u2 0).1) 10 ≠ 4 from by omega)⟩ (bw_subP (isC := [1, 0]) hP rfl) (hD.sub [1, 0] (by decide) rfl) hS (Nat.le_of_ble_eq_true rfl) (Nat.le_of_ble_eq_true rfl) dX9_line_168
              · refine lv_aload_n hx hb dX9_line_154 rfl (lv_at hl 2 rfl) ?_
                refine r_get F hK hP 1 16 rfl rfl in_X9 (by decide) k_1179 rfl dX9_line_155 ?_
                refine lv_iload_n hx hb dX9_line_158 rfl (lv_at hl 1 rfl) ?_
                refine lv_bipush (v := zI 16) hx hb dX9_line_159 (by decide) ?_
                refine r_iadd (v := zI ((20 * x) + 16)) F dX9_line_161 (zI_add _ _) ?_
                refine rz_iald F hK hP 0 0 rfl rfl (by omega) (by omega) dX9_line_162 ?_
                refine rz_top (fun z36 h_z36 => ?_)
                refine lv_goto (tgt := 168) hx hb dX9_line_163 (by decide) ?_
                exact ret (zI z36) (fun k => [((u2 0).1, fun _ _ => 0)].getD k (fun _ => 0, fun _ _ => 0)) _ _ _ _ _ _ rfl ⟨z36, rfl, hp3.1, (show ((u2 0).1) 1 = i 1 ∧ ((u2 0).1) 8 = i 8 ∧ ((u2 0).1) 9 = i 9 ∧ ((u2 0).1) 12 = i 12 ∧ ((u2 0).1) 13 = i 13 ∧ ((u2 0).1) 15 = i 15 ∧ ((u2 0).1) 17 = i 17 ∧ ((u2 0).1) 10 ≠ 4 from by omega)⟩ (bw_subP (isC := [1, 0]) hP rfl) (hD.sub [1, 0] (by decide) rfl) hS (Nat.le_of_ble_eq_true rfl) (Nat.le_of_ble_eq_true rfl) dX9_line_168
            · refine lv_tableIn (off := 93) (tgt := 169) hx hb dX9_line_76 (by rw [h_e]; decide) (by rw [h_e]; decide) (by rw [h_e]; decide) (by decide) ?_
              refine lv_iload hx hb dX9_line_169 (lv_at hl 0 rfl) ?_
              refine rz_if_le (tgt := 186) F (by omega) dX9_line_171 (by decide) (fun h171_36 => ?_) (fun h171_36 => ?_)
              · refine lv_iconst (v := zI 0) hx hb dX9_line_186 rfl ?_
                exact ret (zI 0) (fun k => [((u2 0).1, fun _ _ => 0)].getD k (fun _ => 0, fun _ _ => 0)) _ _ _ _ _ _ rfl ⟨0, rfl, hp3.1, (show ((u2 0).1) 1 = i 1 ∧ ((u2 0).1) 8 = i 8 ∧ ((u2 0).1) 9 = i 9 ∧ ((u2 0).1) 12 = i 12 ∧ ((u2 0).1) 13 = i 13 ∧ ((u2 0).1) 15 = i 15 ∧ ((u2 0).1) 17 = i 17 ∧ ((u2 0).1) 10 ≠ 4 from by omega)⟩ (bw_subP (isC := [1, 0]) hP rfl) (hD.sub [1, 0] (by decide) rfl) hS (Nat.le_of_ble_eq_true rfl) (Nat.le_of_ble_eq_true rfl) dX9_line_187
              · refine lv_aload_n hx hb dX9_line_174 rfl (lv_at hl 2 rfl) ?_
                refine r_get F hK hP 1 16 rfl rfl in_X9 (by decide) k_1179 rfl dX9_line_175 ?_
                refine lv_iload_n hx hb dX9_line_178 rfl (lv_at hl 1 rfl) ?_
                refine lv_bipush (v := zI 17) hx hb dX9_line_179 (by decide) ?_
                refine r_iadd (v := zI ((20 * x) + 17)) F dX9_line_181 (zI_add _ _) ?_
                refine rz_iald F hK hP 0 0 rfl rfl (by omega) (by omega) dX9_line_182 ?_
                refine rz_top (fun z38 h_z38 => ?_)
                refine lv_goto (tgt := 187) hx hb dX9_line_183 (by decide) ?_
                exact ret (zI z38) (fun k => [((u2 0).1, fun _ _ => 0)].getD k (fun _ => 0, fun _ _ => 0)) _ _ _ _ _ _ rfl ⟨z38, rfl, hp3.1, (show ((u2 0).1) 1 = i 1 ∧ ((u2 0).1) 8 = i 8 ∧ ((u2 0).1) 9 = i 9 ∧ ((u2 0).1) 12 = i 12 ∧ ((u2 0).1) 13 = i 13 ∧ ((u2 0).1) 15 = i 15 ∧ ((u2 0).1) 17 = i 17 ∧ ((u2 0).1) 10 ≠ 4 from by omega)⟩ (bw_subP (isC := [1, 0]) hP rfl) (hD.sub [1, 0] (by decide) rfl) hS (Nat.le_of_ble_eq_true rfl) (Nat.le_of_ble_eq_true rfl) dX9_line_187
            · refine lv_tableIn (off := 112) (tgt := 188) hx hb dX9_line_76 (by rw [h_e]; decide) (by rw [h_e]; decide) (by rw [h_e]; decide) (by decide) ?_
              refine lv_iload hx hb dX9_line_188 (lv_at hl 0 rfl) ?_
              refine lv_iconst (v := zI 2) hx hb dX9_line_190 rfl ?_
              refine rz_icmp_ne (tgt := 206) F (by omega) (by omega) dX9_line_191 (by decide) (fun h191_38 => ?_) (fun h191_38 => ?_)
              · refine lv_bipush (v := zI (-2)) hx hb dX9_line_206 (by decide) ?_
                exact ret (zI (-2)) (fun k => [((u2 0).1, fun _ _ => 0)].getD k (fun _ => 0, fun _ _ => 0)) _ _ _ _ _ _ rfl ⟨(-2), rfl, hp3.1, (show ((u2 0).1) 1 = i 1 ∧ ((u2 0).1) 8 = i 8 ∧ ((u2 0).1) 9 = i 9 ∧ ((u2 0).1) 12 = i 12 ∧ ((u2 0).1) 13 = i 13 ∧ ((u2 0).1) 15 = i 15 ∧ ((u2 0).1) 17 = i 17 ∧ ((u2 0).1) 10 ≠ 4 from by omega)⟩ (bw_subP (isC := [1, 0]) hP rfl) (hD.sub [1, 0] (by decide) rfl) hS (Nat.le_of_ble_eq_true rfl) (Nat.le_of_ble_eq_true rfl) dX9_line_208
              · refine lv_aload_n hx hb dX9_line_194 rfl (lv_at hl 2 rfl) ?_
                refine r_get F hK hP 1 16 rfl rfl in_X9 (by decide) k_1179 rfl dX9_line_195 ?_
                refine lv_iload_n hx hb dX9_line_198 rfl (lv_at hl 1 rfl) ?_
                refine lv_bipush (v := zI 18) hx hb dX9_line_199 (by decide) ?_
                refine r_iadd (v := zI ((20 * x) + 18)) F dX9_line_201 (zI_add _ _) ?_
                refine rz_iald F hK hP 0 0 rfl rfl (by omega) (by omega) dX9_line_202 ?_
                refine rz_top (fun z40 h_z40 => ?_)
                refine lv_goto (tgt := 208) hx hb dX9_line_203 (by decide) ?_
                exact ret (zI z40) (fun k => [((u2 0).1, fun _ _ => 0)].getD k (fun _ => 0, fun _ _ => 0)) _ _ _ _ _ _ rfl ⟨z40, rfl, hp3.1, (show ((u2 0).1) 1 = i 1 ∧ ((u2 0).1) 8 = i 8 ∧ ((u2 0).1) 9 = i 9 ∧ ((u2 0).1) 12 = i 12 ∧ ((u2 0).1) 13 = i 13 ∧ ((u2 0).1) 15 = i 15 ∧ ((u2 0).1) 17 = i 17 ∧ ((u2 0).1) 10 ≠ 4 from by omega)⟩ (bw_subP (isC := [1, 0]) hP rfl) (hD.sub [1, 0] (by decide) rfl) hS (Nat.le_of_ble_eq_true rfl) (Nat.le_of_ble_eq_true rfl) dX9_line_208
          · refine lv_tableOut (tgt := 209) hx hb dX9_line_76 (by rw [zI_toInt (by omega)]; omega) (by decide) ?_
            refine lv_iload hx hb dX9_line_209 (lv_at hl 0 rfl) ?_
            refine lv_iconst (v := zI 2) hx hb dX9_line_211 rfl ?_
            refine rz_icmp_ne (tgt := 227) F (by omega) (by omega) dX9_line_212 (by decide) (fun h212_40 => ?_) (fun h212_40 => ?_)
            · refine lv_iconst (v := zI 0) hx hb dX9_line_227 rfl ?_
              exact ret (zI 0) (fun k => [((u2 0).1, fun _ _ => 0)].getD k (fun _ => 0, fun _ _ => 0)) _ _ _ _ _ _ rfl ⟨0, rfl, hp3.1, (show ((u2 0).1) 1 = i 1 ∧ ((u2 0).1) 8 = i 8 ∧ ((u2 0).1) 9 = i 9 ∧ ((u2 0).1) 12 = i 12 ∧ ((u2 0).1) 13 = i 13 ∧ ((u2 0).1) 15 = i 15 ∧ ((u2 0).1) 17 = i 17 ∧ ((u2 0).1) 10 ≠ 4 from by omega)⟩ (bw_subP (isC := [1, 0]) hP rfl) (hD.sub [1, 0] (by decide) rfl) hS (Nat.le_of_ble_eq_true rfl) (Nat.le_of_ble_eq_true rfl) dX9_line_228
            · refine lv_aload_n hx hb dX9_line_215 rfl (lv_at hl 2 rfl) ?_
              refine r_get F hK hP 1 16 rfl rfl in_X9 (by decide) k_1179 rfl dX9_line_216 ?_
              refine lv_iload_n hx hb dX9_line_219 rfl (lv_at hl 1 rfl) ?_
              refine lv_bipush (v := zI 19) hx hb dX9_line_220 (by decide) ?_
              refine r_iadd (v := zI ((20 * x) + 19)) F dX9_line_222 (zI_add _ _) ?_
              refine rz_iald F hK hP 0 0 rfl rfl (by omega) (by omega) dX9_line_223 ?_
              refine rz_top (fun z42 h_z42 => ?_)
              refine lv_goto (tgt := 228) hx hb dX9_line_224 (by decide) ?_
              exact ret (zI z42) (fun k => [((u2 0).1, fun _ _ => 0)].getD k (fun _ => 0, fun _ _ => 0)) _ _ _ _ _ _ rfl ⟨z42, rfl, hp3.1, (show ((u2 0).1) 1 = i 1 ∧ ((u2 0).1) 8 = i 8 ∧ ((u2 0).1) 9 = i 9 ∧ ((u2 0).1) 12 = i 12 ∧ ((u2 0).1) 13 = i 13 ∧ ((u2 0).1) 15 = i 15 ∧ ((u2 0).1) 17 = i 17 ∧ ((u2 0).1) 10 ≠ 4 from by omega)⟩ (bw_subP (isC := [1, 0]) hP rfl) (hD.sub [1, 0] (by decide) rfl) hS (Nat.le_of_ble_eq_true rfl) (Nat.le_of_ble_eq_true rfl) dX9_line_228
        · refine lv_aload_n hx hb dX9_line_57 rfl (lv_at hl 1 rfl) ?_
          refine lv_bipush (v := zI 6) hx hb dX9_line_58 (by decide) ?_
          refine r_callVi (As := [.int (zI 6)]) (rest := []) (wr := [((q 3), .inl (cI, 200, .inl (fun k => zI (g_now k))))]) F hK hP hD hS hA hO hE (c_X9_no hO y q ((u2 0).1) hp3.1 6 (by omega) (by omega)) k_1303 kv_X9_no 1 rfl (by decide +kernel) ⟨Nat.le_of_ble_eq_true rfl, Nat.le_of_ble_eq_true rfl⟩ [1] [0] rfl rfl (by decide) (by decide) (by decide) 0 9 rfl rfl rfl hl.1 rfl (Nat.le_of_ble_eq_true rfl) dX9_line_60 ⟨Nat.le_of_ble_eq_true rfl, Nat.le_of_ble_eq_true rfl⟩ (w1 := fun u43 => [((q 3), .inl (cI, 200, .inl (fun k => zI (g_now k)))), (y, .inr (9, [.int (zI ((u43 0).1 0)), .ref (q 0), .int (zI ((u43 0).1 1)), .int (zI ((u43 0).1 2)), .int (zI ((u43 0).1 3)), .int (zI ((u43 0).1 4)), .int (zI ((u43 0).1 5)), .int (zI ((u43 0).1 6)), .int (zI ((u43 0).1 7)), .int (zI ((u43 0).1 8)), .int (zI ((u43 0).1 9)), .int (zI ((u43 0).1 10)), .ref (q 1), .int (zI ((u43 0).1 11)), .int (zI ((u43 0).1 12)), .ref (q 2), .ref (q 3), .ref (q 4), .ref (q 5), .ref (q 6), .ref (q 7), .ref (q 8), .ref (q 9), .ref (q 10), .ref (q 11), .ref (q 12), .ref (q 13), .ref (q 14), .ref (q 15), .ref (q 16), .int (zI ((u43 0).1 13)), .int (zI ((u43 0).1 14)), .int (zI ((u43 0).1 15)), .int (zI ((u43 0).1 16)), .int (zI ((u43 0).1 17)), .int (zI ((u43 0).1 18)), .ref (q 17), .ref (q 18), .ref (q 19), .ref (q 20)]))]) (fun _ => rfl) (fun r44 u43 H locs hp45 hP hD hS => ?_)
          obtain ⟨z46, rfl, h_z46⟩ := hp45
          have hf47 := h_z46.1.1
          exact ret (zI z46) (fun k => [((u43 0).1, fun _ _ => 0)].getD k (fun _ => 0, fun _ _ => 0)) _ _ _ _ _ _ rfl ⟨z46, rfl, h_z46.1, (show ((u43 0).1) 1 = i 1 ∧ ((u43 0).1) 8 = i 8 ∧ ((u43 0).1) 9 = i 9 ∧ ((u43 0).1) 12 = i 12 ∧ ((u43 0).1) 13 = i 13 ∧ ((u43 0).1) 15 = i 15 ∧ ((u43 0).1) 17 = i 17 ∧ ((u43 0).1) 10 ≠ 4 from by omega)⟩ (bw_subP (isC := [1, 0]) hP rfl) (hD.sub [1, 0] (by decide) rfl) hS (Nat.le_of_ble_eq_true rfl) (Nat.le_of_ble_eq_true rfl) dX9_line_63
      · have hq48 := h_z26.2.2 (by omega)
        refine lv_aload_n hx hb dX9_line_35 rfl (lv_at hl 0 rfl) ?_
        refine lv_iconst (v := zI 1) hx hb dX9_line_36 rfl ?_
        refine r_callVi (As := [.int (zI 1)]) (rest := []) (wr := [((q 3), .inl (cI, 200, .inl (fun k => zI (g_now k))))]) F hK hP hD hS hA hO hE (c_X9_no hO y q ((u2 0).1) hp3.1 1 (by omega) (by omega)) k_1303 kv_X9_no 1 rfl (by decide +kernel) ⟨Nat.le_of_ble_eq_true rfl, Nat.le_of_ble_eq_true rfl⟩ [1] [0] rfl rfl (by decide) (by decide) (by decide) 0 9 rfl rfl rfl hl.1 rfl (Nat.le_of_ble_eq_true rfl) dX9_line_37 ⟨Nat.le_of_ble_eq_true rfl, Nat.le_of_ble_eq_true rfl⟩ (w1 := fun u49 => [((q 3), .inl (cI, 200, .inl (fun k => zI (g_now k)))), (y, .inr (9, [.int (zI ((u49 0).1 0)), .ref (q 0), .int (zI ((u49 0).1 1)), .int (zI ((u49 0).1 2)), .int (zI ((u49 0).1 3)), .int (zI ((u49 0).1 4)), .int (zI ((u49 0).1 5)), .int (zI ((u49 0).1 6)), .int (zI ((u49 0).1 7)), .int (zI ((u49 0).1 8)), .int (zI ((u49 0).1 9)), .int (zI ((u49 0).1 10)), .ref (q 1), .int (zI ((u49 0).1 11)), .int (zI ((u49 0).1 12)), .ref (q 2), .ref (q 3), .ref (q 4), .ref (q 5), .ref (q 6), .ref (q 7), .ref (q 8), .ref (q 9), .ref (q 10), .ref (q 11), .ref (q 12), .ref (q 13), .ref (q 14), .ref (q 15), .ref (q 16), .int (zI ((u49 0).1 13)), .int (zI ((u49 0).1 14)), .int (zI ((u49 0).1 15)), .int (zI ((u49 0).1 16)), .int (zI ((u49 0).1 17)), .int (zI ((u49 0).1 18)), .ref (q 17), .ref (q 18), .ref (q 19), .ref (q 20)]))]) (fun _ => rfl) (fun r50 u49 H locs hp51 hP hD hS => ?_)
        obtain ⟨z52, rfl, h_z52⟩ := hp51
        have hf53 := h_z52.1.1
        exact ret (zI z52) (fun k => [((u49 0).1, fun _ _ => 0)].getD k (fun _ => 0, fun _ _ => 0)) _ _ _ _ _ _ rfl ⟨z52, rfl, h_z52.1, (show ((u49 0).1) 1 = i 1 ∧ ((u49 0).1) 8 = i 8 ∧ ((u49 0).1) 9 = i 9 ∧ ((u49 0).1) 12 = i 12 ∧ ((u49 0).1) 13 = i 13 ∧ ((u49 0).1) 15 = i 15 ∧ ((u49 0).1) 17 = i 17 ∧ ((u49 0).1) 10 ≠ 4 from by omega)⟩ (bw_subP (isC := [1, 0]) hP rfl) (hD.sub [1, 0] (by decide) rfl) hS (Nat.le_of_ble_eq_true rfl) (Nat.le_of_ble_eq_true rfl) dX9_line_40
theorem dX9_led_0 : decode cX9_led 0 = .ok (.iconst 0, 1) := bo_3 (by decide +kernel)
theorem dX9_led_1 : decode cX9_led 1 = .ok (.istore_n 2, 1) := bo_61 (by decide +kernel)
theorem dX9_led_2 : decode cX9_led 2 = .ok (.iconst 0, 1) := bo_3 (by decide +kernel)
theorem dX9_led_3 : decode cX9_led 3 = .ok (.istore_n 3, 1) := bo_62 (by decide +kernel)
theorem dX9_led_4 : decode cX9_led 4 = .ok (.aload_n 0, 1) := bo_42 (by decide +kernel)
theorem dX9_led_5 : decode cX9_led 5 = .ok (.getfield 222, 3) := bo_180 0 222 (by decide +kernel)
theorem dX9_led_8 : decode cX9_led 8 = .ok (.ifCond .eq 46, 3) := bo_153 0 46 (by decide +kernel)
theorem dX9_led_54 : decode cX9_led 54 = .ok (.aload_n 0, 1) := bo_42 (by decide +kernel)
theorem dX9_led_55 : decode cX9_led 55 = .ok (.iconst 1, 1) := bo_4 (by decide +kernel)
theorem dX9_led_56 : decode cX9_led 56 = .ok (.putfield 77, 3) := bo_181 0 77 (by decide +kernel)
theorem dX9_led_59 : decode cX9_led 59 = .ok (.iconst 0, 1) := bo_3 (by decide +kernel)
theorem dX9_led_60 : decode cX9_led 60 = .ok (.ireturn, 1) := bo_172 (by decide +kernel)
theorem dX9_led_11 : decode cX9_led 11 = .ok (.iload_n 3, 1) := bo_29 (by decide +kernel)
theorem dX9_led_12 : decode cX9_led 12 = .ok (.aload_n 0, 1) := bo_42 (by decide +kernel)
theorem dX9_led_13 : decode cX9_led 13 = .ok (.getfield 213, 3) := bo_180 0 213 (by decide +kernel)
theorem dX9_led_16 : decode cX9_led 16 = .ok (.if_icmp .ge 38, 3) := bo_162 0 38 (by decide +kernel)
theorem dX9_led_19 : decode cX9_led 19 = .ok (.aload_n 0, 1) := bo_42 (by decide +kernel)
theorem dX9_led_20 : decode cX9_led 20 = .ok (.getfield 23, 3) := bo_180 0 23 (by decide +kernel)
theorem dX9_led_23 : decode cX9_led 23 = .ok (.iload_n 3, 1) := bo_29 (by decide +kernel)
theorem dX9_led_24 : decode cX9_led 24 = .ok (.invokestatic 265, 3) := bo_184 1 9 (by decide +kernel)
theorem dX9_led_27 : decode cX9_led 27 = .ok (.ifCond .ne 6, 3) := bo_154 0 6 (by decide +kernel)
theorem dX9_led_33 : decode cX9_led 33 = .ok (.iload_n 2, 1) := bo_28 (by decide +kernel)
theorem dX9_led_34 : decode cX9_led 34 = .ok (.iload_n 1, 1) := bo_27 (by decide +kernel)
theorem dX9_led_35 : decode cX9_led 35 = .ok (.if_icmp .ne 10, 3) := bo_160 0 10 (by decide +kernel)
theorem dX9_led_45 : decode cX9_led 45 = .ok (.iinc 2 1, 3) := bo_132 2 1 (by decide +kernel)
theorem dX9_led_48 : decode cX9_led 48 = .ok (.iinc 3 1, 3) := bo_132 3 1 (by decide +kernel)
theorem dX9_led_51 : decode cX9_led 51 = .ok (.goto (-47), 3) := bo_167 255 209 (by decide +kernel)
theorem dX9_led_38 : decode cX9_led 38 = .ok (.aload_n 0, 1) := bo_42 (by decide +kernel)
theorem dX9_led_39 : decode cX9_led 39 = .ok (.iconst 0, 1) := bo_3 (by decide +kernel)
theorem dX9_led_40 : decode cX9_led 40 = .ok (.putfield 77, 3) := bo_181 0 77 (by decide +kernel)
theorem dX9_led_43 : decode cX9_led 43 = .ok (.iload_n 3, 1) := bo_29 (by decide +kernel)
theorem dX9_led_44 : decode cX9_led 44 = .ok (.ireturn, 1) := bo_172 (by decide +kernel)
theorem dX9_led_30 : decode cX9_led 30 = .ok (.goto 18, 3) := bo_167 0 18 (by decide +kernel)
theorem dX9_toldLines_0 : decode cX9_toldLines 0 = .ok (.iconst 0, 1) := bo_3 (by decide +kernel)
theorem dX9_toldLines_1 : decode cX9_toldLines 1 = .ok (.istore_n 1, 1) := bo_60 (by decide +kernel)
theorem dX9_toldLines_2 : decode cX9_toldLines 2 = .ok (.iconst 0, 1) := bo_3 (by decide +kernel)
theorem dX9_toldLines_3 : decode cX9_toldLines 3 = .ok (.istore_n 2, 1) := bo_61 (by decide +kernel)
theorem dX9_toldLines_4 : decode cX9_toldLines 4 = .ok (.iload_n 2, 1) := bo_28 (by decide +kernel)
theorem dX9_toldLines_5 : decode cX9_toldLines 5 = .ok (.aload_n 0, 1) := bo_42 (by decide +kernel)
theorem dX9_toldLines_6 : decode cX9_toldLines 6 = .ok (.getfield 213, 3) := bo_180 0 213 (by decide +kernel)
theorem dX9_toldLines_9 : decode cX9_toldLines 9 = .ok (.if_icmp .ge 28, 3) := bo_162 0 28 (by decide +kernel)
theorem dX9_toldLines_37 : decode cX9_toldLines 37 = .ok (.iload_n 1, 1) := bo_27 (by decide +kernel)
theorem dX9_toldLines_38 : decode cX9_toldLines 38 = .ok (.ireturn, 1) := bo_172 (by decide +kernel)
theorem dX9_toldLines_12 : decode cX9_toldLines 12 = .ok (.iload_n 1, 1) := bo_27 (by decide +kernel)
theorem dX9_toldLines_13 : decode cX9_toldLines 13 = .ok (.aload_n 0, 1) := bo_42 (by decide +kernel)
theorem dX9_toldLines_14 : decode cX9_toldLines 14 = .ok (.getfield 23, 3) := bo_180 0 23 (by decide +kernel)
theorem dX9_toldLines_17 : decode cX9_toldLines 17 = .ok (.iload_n 2, 1) := bo_28 (by decide +kernel)
theorem dX9_toldLines_18 : decode cX9_toldLines 18 = .ok (.invokestatic 265, 3) := bo_184 1 9 (by decide +kernel)
theorem dX9_toldLines_21 : decode cX9_toldLines 21 = .ok (.ifCond .eq 7, 3) := bo_153 0 7 (by decide +kernel)
theorem dX9_toldLines_28 : decode cX9_toldLines 28 = .ok (.iconst 0, 1) := bo_3 (by decide +kernel)
theorem dX9_toldLines_29 : decode cX9_toldLines 29 = .ok (.iadd, 1) := bo_96 (by decide +kernel)
theorem dX9_toldLines_30 : decode cX9_toldLines 30 = .ok (.istore_n 1, 1) := bo_60 (by decide +kernel)
theorem dX9_toldLines_31 : decode cX9_toldLines 31 = .ok (.iinc 2 1, 3) := bo_132 2 1 (by decide +kernel)
theorem dX9_toldLines_34 : decode cX9_toldLines 34 = .ok (.goto (-30), 3) := bo_167 255 226 (by decide +kernel)
theorem dX9_toldLines_24 : decode cX9_toldLines 24 = .ok (.iconst 1, 1) := bo_4 (by decide +kernel)
theorem dX9_toldLines_25 : decode cX9_toldLines 25 = .ok (.goto 4, 3) := bo_167 0 4 (by decide +kernel)
abbrev rm_X9_toldLines : Room := { frames := 1, cells := 0, slots := 0, locals := 21 }
set_option maxRecDepth 100000 in
set_option maxHeartbeats 8000000 in
theorem c_X9_toldLines {l : Launch} {E : (Nat → Prop) → State → Prop} (hO : bw_Ok E) {G : va_G} {cI cB cJ cN cW : ClassId} (y : Nat) (q : Nat → Nat) (i : Nat → Int) (hM : ModOk i) (g_now : Nat → Int) (hpn : ProgOk g_now) : bw_Ci (S := zV) l yX9_toldLines (bw_ws (Cond.code yX9_toldLines cX9_toldLines 3 (some .int))) rm_X9_toldLines E G (bw_kt cI cB cJ cN cW) [.ref y] [(y, .inr (9, [.int (zI (i 0)), .ref (q 0), .int (zI (i 1)), .int (zI (i 2)), .int (zI (i 3)), .int (zI (i 4)), .int (zI (i 5)), .int (zI (i 6)), .int (zI (i 7)), .int (zI (i 8)), .int (zI (i 9)), .int (zI (i 10)), .ref (q 1), .int (zI (i 11)), .int (zI (i 12)), .ref (q 2), .ref (q 3), .ref (q 4), .ref (q 5), .ref (q 6), .ref (q 7), .ref (q 8), .ref (q 9), .ref (q 10), .ref (q 11), .ref (q 12), .ref (q 13), .ref (q 14), .ref (q 15), .ref (q 16), .int (zI (i 13)), .int (zI (i 14)), .int (zI (i 15)), .int (zI (i 16)), .int (zI (i 17)), .int (zI (i 18)), .ref (q 17), .ref (q 18), .ref (q 19), .ref (q 20)])), ((q 3), .inl (cI, 200, .inl (fun k => zI (g_now k))))] (fun r u => ∃ z : Int, r = zI z ∧ (True)) (fun u => [(y, .inr (9, [.int (zI (i 0)), .ref (q 0), .int (zI (i 1)), .int (zI (i 2)), .int (zI (i 3)), .int (zI (i 4)), .int (zI (i 5)), .int (zI (i 6)), .int (zI (i 7)), .int (zI (i 8)), .int (zI (i 9)), .int (zI (i 10)), .ref (q 1), .int (zI (i 11)), .int (zI (i 12)), .ref (q 2), .ref (q 3), .ref (q 4), .ref (q 5), .ref (q 6), .ref (q 7), .ref (q 8), .ref (q 9), .ref (q 10), .ref (q 11), .ref (q 12), .ref (q 13), .ref (q 14), .ref (q 15), .ref (q 16), .int (zI (i 13)), .int (zI (i 14)), .int (zI (i 15)), .int (zI (i 16)), .int (zI (i 17)), .int (zI (i 18)), .ref (q 17), .ref (q 18), .ref (q 19), .ref (q 20)])), ((q 3), .inl (cI, 200, .inl (fun k => zI (g_now k))))]) := by
  refine bw_Ci.of (cc := cX9_toldLines) (maxL := 3) (ty := .int) (by decide) rfl (Nat.le_of_ble_eq_true rfl) ?_
  intro p e s m below meth c A Q hx hb hml hts hown hin hK hA hS hP hD hE ret ls hl
  have F : CallFix p m c cX9_toldLines 3 s ([.ref y] : List Value).toArray bw_T RX9 := ⟨hx, hb, hml, hown, fun w h => hts w (List.mem_cons_of_mem _ h)⟩
  replace hl : lv_has ls 3 [(0, .ref y)] := hl
  have hf1 := hM.1
  refine lv_iconst (v := zI 0) hx hb dX9_toldLines_0 rfl ?_
  refine lv_istore_n (lv' := [(1, .int (zI 0)), (0, .ref y)]) hx hb dX9_toldLines_1 rfl hl (by decide) rfl (fun ls hl => ?_)
  refine lv_iconst (v := zI 0) hx hb dX9_toldLines_2 rfl ?_
  refine lv_istore_n (lv' := [(2, .int (zI 0)), (1, .int (zI 0)), (0, .ref y)]) hx hb dX9_toldLines_3 rfl hl (by decide) rfl (fun ls hl => ?_)
  refine W.widen (k := 0) (n := 0) (Nat.le_of_ble_eq_true rfl) (Nat.le_of_ble_eq_true rfl) ?_
  refine (?_ : ∀ (n9_1 : Nat) (v1 : Int) (v2 : Int) (H : Heap) (locs : List Loc), (0 ≤ v2 ∧ v2 ≤ 10) → (10 - v2 : Int).toNat < n9_1 → va_P G vwCl [(y, .inr (9, [.int (zI (i 0)), .ref (q 0), .int (zI (i 1)), .int (zI (i 2)), .int (zI (i 3)), .int (zI (i 4)), .int (zI (i 5)), .int (zI (i 6)), .int (zI (i 7)), .int (zI (i 8)), .int (zI (i 9)), .int (zI (i 10)), .ref (q 1), .int (zI (i 11)), .int (zI (i 12)), .ref (q 2), .ref (q 3), .ref (q 4), .ref (q 5), .ref (q 6), .ref (q 7), .ref (q 8), .ref (q 9), .ref (q 10), .ref (q 11), .ref (q 12), .ref (q 13), .ref (q 14), .ref (q 15), .ref (q 16), .int (zI (i 13)), .int (zI (i 14)), .int (zI (i 15)), .int (zI (i 16)), .int (zI (i 17)), .int (zI (i 18)), .ref (q 17), .ref (q 18), .ref (q 19), .ref (q 20)])), ((q 3), .inl (cI, 200, .inl (fun k => zI (g_now k))))] H → va_D A [(y, .inr (9, [.int (zI (i 0)), .ref (q 0), .int (zI (i 1)), .int (zI (i 2)), .int (zI (i 3)), .int (zI (i 4)), .int (zI (i 5)), .int (zI (i 6)), .int (zI (i 7)), .int (zI (i 8)), .int (zI (i 9)), .int (zI (i 10)), .ref (q 1), .int (zI (i 11)), .int (zI (i 12)), .ref (q 2), .ref (q 3), .ref (q 4), .ref (q 5), .ref (q 6), .ref (q 7), .ref (q 8), .ref (q 9), .ref (q 10), .ref (q 11), .ref (q 12), .ref (q 13), .ref (q 14), .ref (q 15), .ref (q 16), .int (zI (i 13)), .int (zI (i 14)), .int (zI (i 15)), .int (zI (i 16)), .int (zI (i 17)), .int (zI (i 18)), .ref (q 17), .ref (q 18), .ref (q 19), .ref (q 20)])), ((q 3), .inl (cI, 200, .inl (fun k => zI (g_now k))))] → va_S A s.heap H locs → ∀ ls : Array Slot, lv_has ls 3 [(2, .int (zI v2)), (1, .int (zI v1)), (0, .ref y)] → W p l e rm_X9_toldLines s m ([.ref y] : List Value).toArray below meth c H locs 0 0 Q (F0 m 4 ls [])) ((10 - 0 : Int).toNat + 1) 0 0 _ _ (by omega) (by omega) hP hD hS ls hl
  clear hP hD hS hl ls
  intro n9_1
  induction n9_1 with
  | zero =>
    intro v1 v2 H locs hI hM
    exact absurd hM (by omega)
  | succ n9_1 ih1 =>
    intro v1 v2 H locs hI1 hM1  hP hD hS ls hl
    refine lv_iload_n hx hb dX9_toldLines_4 rfl (lv_at hl 0 rfl) ?_
    refine lv_aload_n hx hb dX9_toldLines_5 rfl (lv_at hl 2 rfl) ?_
    refine r_get F hK hP 0 30 rfl rfl in_X9 (by decide) k_1193 rfl dX9_toldLines_6 ?_
    refine rz_icmp_ge (tgt := 37) F (by omega) (by omega) dX9_toldLines_9 (by decide) (fun h9_1 => ?_) (fun h9_1 => ?_)
    · refine lv_iload_n hx hb dX9_toldLines_37 rfl (lv_at hl 1 rfl) ?_
      exact ret (zI v1) (fun k => [((fun _ => 0), fun _ _ => 0)].getD k (fun _ => 0, fun _ _ => 0)) _ _ _ _ _ _ rfl ⟨v1, rfl, trivial⟩ (bw_subP (isC := [0, 1]) hP rfl) (hD.sub [0, 1] (by decide) rfl) hS (Nat.le_of_ble_eq_true rfl) (Nat.le_of_ble_eq_true rfl) dX9_toldLines_38
    · refine lv_iload_n hx hb dX9_toldLines_12 rfl (lv_at hl 1 rfl) ?_
      refine lv_aload_n hx hb dX9_toldLines_13 rfl (lv_at hl 2 rfl) ?_
      refine r_get F hK hP 0 16 rfl rfl in_X9 (by decide) k_1179 rfl dX9_toldLines_14 ?_
      refine lv_iload_n hx hb dX9_toldLines_17 rfl (lv_at hl 0 rfl) ?_
      refine r_callSi (As := [.ref (q 3), .int (zI v2)]) (rest := [.int (zI v1)]) (wr := [(y, .inr (9, [.int (zI (i 0)), .ref (q 0), .int (zI (i 1)), .int (zI (i 2)), .int (zI (i 3)), .int (zI (i 4)), .int (zI (i 5)), .int (zI (i 6)), .int (zI (i 7)), .int (zI (i 8)), .int (zI (i 9)), .int (zI (i 10)), .ref (q 1), .int (zI (i 11)), .int (zI (i 12)), .ref (q 2), .ref (q 3), .ref (q 4), .ref (q 5), .ref (q 6), .ref (q 7), .ref (q 8), .ref (q 9), .ref (q 10), .ref (q 11), .ref (q 12), .ref (q 13), .ref (q 14), .ref (q 15), .ref (q 16), .int (zI (i 13)), .int (zI (i 14)), .int (zI (i 15)), .int (zI (i 16)), .int (zI (i 17)), .int (zI (i 18)), .ref (q 17), .ref (q 18), .ref (q 19), .ref (q 20)]))]) F hK hP hD hS hA hO hE (c_X9_isTold hO (q 3) g_now v2 (by omega) hpn (by omega)) k_1424 ks_X9_isTold 2 rfl (by decide +kernel) ⟨Nat.le_of_ble_eq_true rfl, Nat.le_of_ble_eq_true rfl⟩ [1] [0] rfl rfl (by decide) (by decide) (by decide) hl.1 rfl (Nat.le_of_ble_eq_true rfl) dX9_toldLines_18 ⟨Nat.le_of_ble_eq_true rfl, Nat.le_of_ble_eq_true rfl⟩ (w1 := fun u3 => [(y, .inr (9, [.int (zI (i 0)), .ref (q 0), .int (zI (i 1)), .int (zI (i 2)), .int (zI (i 3)), .int (zI (i 4)), .int (zI (i 5)), .int (zI (i 6)), .int (zI (i 7)), .int (zI (i 8)), .int (zI (i 9)), .int (zI (i 10)), .ref (q 1), .int (zI (i 11)), .int (zI (i 12)), .ref (q 2), .ref (q 3), .ref (q 4), .ref (q 5), .ref (q 6), .ref (q 7), .ref (q 8), .ref (q 9), .ref (q 10), .ref (q 11), .ref (q 12), .ref (q 13), .ref (q 14), .ref (q 15), .ref (q 16), .int (zI (i 13)), .int (zI (i 14)), .int (zI (i 15)), .int (zI (i 16)), .int (zI (i 17)), .int (zI (i 18)), .ref (q 17), .ref (q 18), .ref (q 19), .ref (q 20)])), ((q 3), .inl (cI, 200, .inl (fun k => zI (g_now k))))]) (fun _ => rfl) (fun r4 u3 H locs hp5 hP hD hS => ?_)
      obtain ⟨z6, rfl, h_z6⟩ := hp5
      refine rz_ifb_eq (tgt := 28) F (by omega) dX9_toldLines_21 (by decide) (fun h21_6 => ?_) (fun h21_6 => ?_)
      · refine lv_iconst (v := zI 0) hx hb dX9_toldLines_28 rfl ?_
        refine r_iadd (v := zI (v1 + 0)) F dX9_toldLines_29 (zI_add _ _) ?_
        refine lv_istore_n (lv' := [(1, .int (zI (v1 + 0))), (2, .int (zI v2)), (0, .ref y)]) hx hb dX9_toldLines_30 rfl hl (by decide) rfl (fun ls hl => ?_)
        refine lv_iinc (v := zI (v2 + 1)) (lv' := [(2, .int (zI (v2 + 1))), (1, .int (zI (v1 + 0))), (0, .ref y)]) hx hb dX9_toldLines_31 hl (k := 1) rfl (zI_add _ _) (by decide) rfl (fun ls hl => ?_)
        refine lv_goto (tgt := 4) hx hb dX9_toldLines_34 (by decide) ?_
        exact ih1 (v1 + 0) (v2 + 1) _ _ (by omega) (by omega) hP hD hS ls (lv_sub hl [0, 1, 2] rfl)
      · have hq8 := h_z6.2 (by omega)
        refine lv_iconst (v := zI 1) hx hb dX9_toldLines_24 rfl ?_
        refine lv_goto (tgt := 29) hx hb dX9_toldLines_25 (by decide) ?_
        refine r_iadd (v := zI (v1 + 1)) F dX9_toldLines_29 (zI_add _ _) ?_
        refine lv_istore_n (lv' := [(1, .int (zI (v1 + 1))), (2, .int (zI v2)), (0, .ref y)]) hx hb dX9_toldLines_30 rfl hl (by decide) rfl (fun ls hl => ?_)
        refine lv_iinc (v := zI (v2 + 1)) (lv' := [(2, .int (zI (v2 + 1))), (1, .int (zI (v1 + 1))), (0, .ref y)]) hx hb dX9_toldLines_31 hl (k := 1) rfl (zI_add _ _) (by decide) rfl (fun ls hl => ?_)
        refine lv_goto (tgt := 4) hx hb dX9_toldLines_34 (by decide) ?_
        exact ih1 (v1 + 1) (v2 + 1) _ _ (by omega) (by omega) hP hD hS ls (lv_sub hl [0, 1, 2] rfl)
theorem dX9_size_0 : decode cX9_size 0 = .ok (.aload_n 0, 1) := bo_42 (by decide +kernel)
theorem dX9_size_1 : decode cX9_size 1 = .ok (.iconst 0, 1) := bo_3 (by decide +kernel)
theorem dX9_size_2 : decode cX9_size 2 = .ok (.putfield 77, 3) := bo_181 0 77 (by decide +kernel)
theorem dX9_size_5 : decode cX9_size 5 = .ok (.iload_n 1, 1) := bo_27 (by decide +kernel)
theorem dX9_size_6 : decode cX9_size 6 = .ok (.iconst 5, 1) := bo_8 (by decide +kernel)
theorem dX9_size_7 : decode cX9_size 7 = .ok (.if_icmp .ne 8, 3) := bo_160 0 8 (by decide +kernel)
theorem dX9_size_15 : decode cX9_size 15 = .ok (.aload_n 0, 1) := bo_42 (by decide +kernel)
theorem dX9_size_16 : decode cX9_size 16 = .ok (.getfield 222, 3) := bo_180 0 222 (by decide +kernel)
theorem dX9_size_19 : decode cX9_size 19 = .ok (.ifCond .ne 19, 3) := bo_154 0 19 (by decide +kernel)
theorem dX9_size_38 : decode cX9_size 38 = .ok (.iload_n 1, 1) := bo_27 (by decide +kernel)
theorem dX9_size_39 : decode cX9_size 39 = .ok (.tableswitch 138 0 6 #[41, 46, 51, 92, 97, 138, 102], 41) := by decide +kernel
theorem dX9_size_80 : decode cX9_size 80 = .ok (.aload_n 0, 1) := bo_42 (by decide +kernel)
theorem dX9_size_81 : decode cX9_size 81 = .ok (.getfield 213, 3) := bo_180 0 213 (by decide +kernel)
theorem dX9_size_84 : decode cX9_size 84 = .ok (.ireturn, 1) := bo_172 (by decide +kernel)
theorem dX9_size_85 : decode cX9_size 85 = .ok (.aload_n 0, 1) := bo_42 (by decide +kernel)
theorem dX9_size_86 : decode cX9_size 86 = .ok (.invokevirtual 385, 3) := bo_182 1 129 (by decide +kernel)
theorem k_1717 : Cond.methodLink RX9 385 yX9_toldLines ∈ bw_T := bw_m 1717 (by decide +kernel) rfl
theorem kv_X9_toldLines : bw_KV RX9 yX9_toldLines (Cond.code yX9_toldLines cX9_toldLines 3 (some .int)) := ⟨bw_m 1719 (by decide +kernel) rfl, bw_m 92 (by decide +kernel) rfl, bw_m 107 (by decide +kernel) rfl, bw_m 1720 (by decide +kernel) rfl⟩
theorem dX9_size_89 : decode cX9_size 89 = .ok (.ireturn, 1) := bo_172 (by decide +kernel)
theorem dX9_size_90 : decode cX9_size 90 = .ok (.iconst 0, 1) := bo_3 (by decide +kernel)
theorem dX9_size_91 : decode cX9_size 91 = .ok (.istore_n 2, 1) := bo_61 (by decide +kernel)
theorem dX9_size_92 : decode cX9_size 92 = .ok (.iconst 0, 1) := bo_3 (by decide +kernel)
theorem dX9_size_93 : decode cX9_size 93 = .ok (.istore_n 3, 1) := bo_62 (by decide +kernel)
theorem dX9_size_94 : decode cX9_size 94 = .ok (.iload_n 3, 1) := bo_29 (by decide +kernel)
theorem dX9_size_95 : decode cX9_size 95 = .ok (.iconst 2, 1) := bo_5 (by decide +kernel)
theorem dX9_size_96 : decode cX9_size 96 = .ok (.aload_n 0, 1) := bo_42 (by decide +kernel)
theorem dX9_size_97 : decode cX9_size 97 = .ok (.getfield 213, 3) := bo_180 0 213 (by decide +kernel)
theorem dX9_size_100 : decode cX9_size 100 = .ok (.imul, 1) := bo_104 (by decide +kernel)
theorem dX9_size_101 : decode cX9_size 101 = .ok (.if_icmp .ge 28, 3) := bo_162 0 28 (by decide +kernel)
theorem dX9_size_129 : decode cX9_size 129 = .ok (.iload_n 2, 1) := bo_28 (by decide +kernel)
theorem dX9_size_130 : decode cX9_size 130 = .ok (.ireturn, 1) := bo_172 (by decide +kernel)
theorem dX9_size_104 : decode cX9_size 104 = .ok (.iload_n 2, 1) := bo_28 (by decide +kernel)
theorem dX9_size_105 : decode cX9_size 105 = .ok (.aload_n 0, 1) := bo_42 (by decide +kernel)
theorem dX9_size_106 : decode cX9_size 106 = .ok (.getfield 23, 3) := bo_180 0 23 (by decide +kernel)
theorem dX9_size_109 : decode cX9_size 109 = .ok (.iload_n 3, 1) := bo_29 (by decide +kernel)
theorem dX9_size_110 : decode cX9_size 110 = .ok (.invokestatic 297, 3) := bo_184 1 41 (by decide +kernel)
theorem dX9_size_113 : decode cX9_size 113 = .ok (.ifCond .le 7, 3) := bo_158 0 7 (by decide +kernel)
theorem dX9_size_120 : decode cX9_size 120 = .ok (.iconst 0, 1) := bo_3 (by decide +kernel)
theorem dX9_size_121 : decode cX9_size 121 = .ok (.iadd, 1) := bo_96 (by decide +kernel)
theorem dX9_size_122 : decode cX9_size 122 = .ok (.istore_n 2, 1) := bo_61 (by decide +kernel)
theorem dX9_size_123 : decode cX9_size 123 = .ok (.iinc 3 1, 3) := bo_132 3 1 (by decide +kernel)
theorem dX9_size_126 : decode cX9_size 126 = .ok (.goto (-32), 3) := bo_167 255 224 (by decide +kernel)
theorem dX9_size_116 : decode cX9_size 116 = .ok (.iconst 1, 1) := bo_4 (by decide +kernel)
theorem dX9_size_117 : decode cX9_size 117 = .ok (.goto 4, 3) := bo_167 0 4 (by decide +kernel)
theorem dX9_size_131 : decode cX9_size 131 = .ok (.aload_n 0, 1) := bo_42 (by decide +kernel)
theorem dX9_size_132 : decode cX9_size 132 = .ok (.getfield 216, 3) := bo_180 0 216 (by decide +kernel)
theorem dX9_size_135 : decode cX9_size 135 = .ok (.ireturn, 1) := bo_172 (by decide +kernel)
theorem dX9_size_136 : decode cX9_size 136 = .ok (.aload_n 0, 1) := bo_42 (by decide +kernel)
theorem dX9_size_137 : decode cX9_size 137 = .ok (.getfield 219, 3) := bo_180 0 219 (by decide +kernel)
theorem dX9_size_140 : decode cX9_size 140 = .ok (.ireturn, 1) := bo_172 (by decide +kernel)
theorem dX9_size_177 : decode cX9_size 177 = .ok (.iconst (-1), 1) := bo_2 (by decide +kernel)
theorem dX9_size_178 : decode cX9_size 178 = .ok (.ireturn, 1) := bo_172 (by decide +kernel)
theorem dX9_size_141 : decode cX9_size 141 = .ok (.iconst 0, 1) := bo_3 (by decide +kernel)
theorem dX9_size_142 : decode cX9_size 142 = .ok (.istore_n 3, 1) := bo_62 (by decide +kernel)
theorem dX9_size_143 : decode cX9_size 143 = .ok (.iconst 0, 1) := bo_3 (by decide +kernel)
theorem dX9_size_144 : decode cX9_size 144 = .ok (.istore 4, 2) := bo_54 (by decide +kernel)
theorem dX9_size_146 : decode cX9_size 146 = .ok (.iload 4, 2) := bo_21 (by decide +kernel)
theorem dX9_size_148 : decode cX9_size 148 = .ok (.iconst 2, 1) := bo_5 (by decide +kernel)
theorem dX9_size_149 : decode cX9_size 149 = .ok (.aload_n 0, 1) := bo_42 (by decide +kernel)
theorem dX9_size_150 : decode cX9_size 150 = .ok (.getfield 213, 3) := bo_180 0 213 (by decide +kernel)
theorem dX9_size_153 : decode cX9_size 153 = .ok (.imul, 1) := bo_104 (by decide +kernel)
theorem dX9_size_154 : decode cX9_size 154 = .ok (.if_icmp .ge 21, 3) := bo_162 0 21 (by decide +kernel)
theorem dX9_size_175 : decode cX9_size 175 = .ok (.iload_n 3, 1) := bo_29 (by decide +kernel)
theorem dX9_size_176 : decode cX9_size 176 = .ok (.ireturn, 1) := bo_172 (by decide +kernel)
theorem dX9_size_157 : decode cX9_size 157 = .ok (.iload_n 3, 1) := bo_29 (by decide +kernel)
theorem dX9_size_158 : decode cX9_size 158 = .ok (.aload_n 0, 1) := bo_42 (by decide +kernel)
theorem dX9_size_159 : decode cX9_size 159 = .ok (.getfield 23, 3) := bo_180 0 23 (by decide +kernel)
theorem dX9_size_162 : decode cX9_size 162 = .ok (.iload 4, 2) := bo_21 (by decide +kernel)
theorem dX9_size_164 : decode cX9_size 164 = .ok (.invokestatic 297, 3) := bo_184 1 41 (by decide +kernel)
theorem dX9_size_167 : decode cX9_size 167 = .ok (.iadd, 1) := bo_96 (by decide +kernel)
theorem dX9_size_168 : decode cX9_size 168 = .ok (.istore_n 3, 1) := bo_62 (by decide +kernel)
theorem dX9_size_169 : decode cX9_size 169 = .ok (.iinc 4 1, 3) := bo_132 4 1 (by decide +kernel)
theorem dX9_size_172 : decode cX9_size 172 = .ok (.goto (-26), 3) := bo_167 255 230 (by decide +kernel)
theorem dX9_size_22 : decode cX9_size 22 = .ok (.iload_n 1, 1) := bo_27 (by decide +kernel)
theorem dX9_size_23 : decode cX9_size 23 = .ok (.iconst 0, 1) := bo_3 (by decide +kernel)
theorem dX9_size_24 : decode cX9_size 24 = .ok (.bipush 6, 2) := bo_16 6 (by decide +kernel)
theorem dX9_size_26 : decode cX9_size 26 = .ok (.invokestatic 146, 3) := bo_184 0 146 (by decide +kernel)
theorem dX9_size_29 : decode cX9_size 29 = .ok (.ifCond .eq 7, 3) := bo_153 0 7 (by decide +kernel)
theorem dX9_size_36 : decode cX9_size 36 = .ok (.iconst (-1), 1) := bo_2 (by decide +kernel)
theorem dX9_size_37 : decode cX9_size 37 = .ok (.ireturn, 1) := bo_172 (by decide +kernel)
theorem dX9_size_32 : decode cX9_size 32 = .ok (.iconst 0, 1) := bo_3 (by decide +kernel)
theorem dX9_size_33 : decode cX9_size 33 = .ok (.goto 4, 3) := bo_167 0 4 (by decide +kernel)
theorem dX9_size_10 : decode cX9_size 10 = .ok (.aload_n 0, 1) := bo_42 (by decide +kernel)
theorem dX9_size_11 : decode cX9_size 11 = .ok (.getfield 83, 3) := bo_180 0 83 (by decide +kernel)
theorem k_1165 : Cond.fieldLink RX9 83 "BurntWaysModel" "taped" "I" ∈ bw_T := bw_m 1165 (by decide +kernel) rfl
theorem dX9_size_14 : decode cX9_size 14 = .ok (.ireturn, 1) := bo_172 (by decide +kernel)
abbrev rm_X9_size : Room := { frames := 2, cells := 0, slots := 0, locals := 43 }
set_option maxRecDepth 100000 in
set_option maxHeartbeats 8000000 in
theorem c_X9_size {l : Launch} {E : (Nat → Prop) → State → Prop} (hO : bw_Ok E) {G : va_G} {cI cB cJ cN cW : ClassId} (y : Nat) (q : Nat → Nat) (i : Nat → Int) (hM : ModOk i) (g_now : Nat → Int) (x : Int) (hx9 : zR x) (hpn : ProgOk g_now) : bw_Ci (S := zV) l yX9_size (bw_ws (Cond.code yX9_size cX9_size 5 (some .int))) rm_X9_size E G (bw_kt cI cB cJ cN cW) [.ref y, .int (zI x)] [(y, .inr (9, [.int (zI (i 0)), .ref (q 0), .int (zI (i 1)), .int (zI (i 2)), .int (zI (i 3)), .int (zI (i 4)), .int (zI (i 5)), .int (zI (i 6)), .int (zI (i 7)), .int (zI (i 8)), .int (zI (i 9)), .int (zI (i 10)), .ref (q 1), .int (zI (i 11)), .int (zI (i 12)), .ref (q 2), .ref (q 3), .ref (q 4), .ref (q 5), .ref (q 6), .ref (q 7), .ref (q 8), .ref (q 9), .ref (q 10), .ref (q 11), .ref (q 12), .ref (q 13), .ref (q 14), .ref (q 15), .ref (q 16), .int (zI (i 13)), .int (zI (i 14)), .int (zI (i 15)), .int (zI (i 16)), .int (zI (i 17)), .int (zI (i 18)), .ref (q 17), .ref (q 18), .ref (q 19), .ref (q 20)])), ((q 3), .inl (cI, 200, .inl (fun k => zI (g_now k))))] (fun r u => ∃ z : Int, r = zI z ∧ (ModOk (u 0).1) ∧ (((u 0).1 1 = i 1 ∧ (u 0).1 8 = i 8 ∧ (u 0).1 9 = i 9 ∧ (u 0).1 12 = i 12 ∧ (u 0).1 13 = i 13 ∧ (u 0).1 15 = i 15 ∧ (u 0).1 17 = i 17 ∧ (u 0).1 10 = i 10))) (fun u => [(y, .inr (9, [.int (zI ((u 0).1 0)), .ref (q 0), .int (zI ((u 0).1 1)), .int (zI ((u 0).1 2)), .int (zI ((u 0).1 3)), .int (zI ((u 0).1 4)), .int (zI ((u 0).1 5)), .int (zI ((u 0).1 6)), .int (zI ((u 0).1 7)), .int (zI ((u 0).1 8)), .int (zI ((u 0).1 9)), .int (zI ((u 0).1 10)), .ref (q 1), .int (zI ((u 0).1 11)), .int (zI ((u 0).1 12)), .ref (q 2), .ref (q 3), .ref (q 4), .ref (q 5), .ref (q 6), .ref (q 7), .ref (q 8), .ref (q 9), .ref (q 10), .ref (q 11), .ref (q 12), .ref (q 13), .ref (q 14), .ref (q 15), .ref (q 16), .int (zI ((u 0).1 13)), .int (zI ((u 0).1 14)), .int (zI ((u 0).1 15)), .int (zI ((u 0).1 16)), .int (zI ((u 0).1 17)), .int (zI ((u 0).1 18)), .ref (q 17), .ref (q 18), .ref (q 19), .ref (q 20)])), ((q 3), .inl (cI, 200, .inl (fun k => zI (g_now k))))]) := by
  refine bw_Ci.of (cc := cX9_size) (maxL := 5) (ty := .int) (by decide) rfl (Nat.le_of_ble_eq_true rfl) ?_
  intro p e s m below meth c A Q hx hb hml hts hown hin hK hA hS hP hD hE ret ls hl
  have F : CallFix p m c cX9_size 5 s ([.ref y, .int (zI x)] : List Value).toArray bw_T RX9 := ⟨hx, hb, hml, hown, fun w h => hts w (List.mem_cons_of_mem _ h)⟩
  replace hl : lv_has ls 5 [(0, .ref y), (1, .int (zI x))] := hl
  have hf1 := hM.1
  refine lv_aload_n hx hb dX9_size_0 rfl (lv_at hl 0 rfl) ?_
  refine lv_iconst (v := zI 0) hx hb dX9_size_1 rfl ?_
  refine r_put F hK hP hD hS 0 0 rfl rfl in_X9 tyX9 tyX9_ok nmX9 (by decide) k_1163 rfl rfl rfl (Nat.le_of_ble_eq_true rfl) dX9_size_2 (w1 := [(y, .inr (9, [.int (zI 0), .ref (q 0), .int (zI (i 1)), .int (zI (i 2)), .int (zI (i 3)), .int (zI (i 4)), .int (zI (i 5)), .int (zI (i 6)), .int (zI (i 7)), .int (zI (i 8)), .int (zI (i 9)), .int (zI (i 10)), .ref (q 1), .int (zI (i 11)), .int (zI (i 12)), .ref (q 2), .ref (q 3), .ref (q 4), .ref (q 5), .ref (q 6), .ref (q 7), .ref (q 8), .ref (q 9), .ref (q 10), .ref (q 11), .ref (q 12), .ref (q 13), .ref (q 14), .ref (q 15), .ref (q 16), .int (zI (i 13)), .int (zI (i 14)), .int (zI (i 15)), .int (zI (i 16)), .int (zI (i 17)), .int (zI (i 18)), .ref (q 17), .ref (q 18), .ref (q 19), .ref (q 20)])), ((q 3), .inl (cI, 200, .inl (fun k => zI (g_now k))))]) rfl (fun H locs hP hD hS => ?_)
  refine lv_iload_n hx hb dX9_size_5 rfl (lv_at hl 1 rfl) ?_
  refine lv_iconst (v := zI 5) hx hb dX9_size_6 rfl ?_
  refine rz_icmp_ne (tgt := 15) F (by omega) (by omega) dX9_size_7 (by decide) (fun h7_1 => ?_) (fun h7_1 => ?_)
  · refine lv_aload_n hx hb dX9_size_15 rfl (lv_at hl 0 rfl) ?_
    refine r_get F hK hP 0 14 rfl rfl in_X9 (by decide) k_1177 rfl dX9_size_16 ?_
    refine rz_ifb_ne (tgt := 38) F (by omega) dX9_size_19 (by decide) (fun h19_2 => ?_) (fun h19_2 => ?_)
    · refine lv_iload_n hx hb dX9_size_38 rfl (lv_at hl 1 rfl) ?_
      by_cases h_in : 0 ≤ x ∧ x ≤ 6
      · rcases (show x = 0 ∨ x = 1 ∨ x = 2 ∨ x = 3 ∨ x = 4 ∨ x = 5 ∨ x = 6 by omega) with h_e | h_e | h_e | h_e | h_e | h_e | h_e
        · refine lv_tableIn (off := 41) (tgt := 80) hx hb dX9_size_39 (by rw [h_e]; decide) (by rw [h_e]; decide) (by rw [h_e]; decide) (by decide) ?_
          refine lv_aload_n hx hb dX9_size_80 rfl (lv_at hl 0 rfl) ?_
          refine r_get F hK hP 0 30 rfl rfl in_X9 (by decide) k_1193 rfl dX9_size_81 ?_
          obtain ⟨i4, e_i4⟩ : ∃ i4 : Nat → Int, i4 = fun k => [0, (i 1), (i 2), (i 3), (i 4), (i 5), (i 6), (i 7), (i 8), (i 9), (i 10), (i 11), (i 12), (i 13), (i 14), (i 15), (i 16), (i 17), (i 18)].getD k 0 := ⟨_, rfl⟩
          have e_i4_0 : i4 0 = 0 := congrFun e_i4 0
          have e_i4_1 : i4 1 = (i 1) := congrFun e_i4 1
          have e_i4_2 : i4 2 = (i 2) := congrFun e_i4 2
          have e_i4_3 : i4 3 = (i 3) := congrFun e_i4 3
          have e_i4_4 : i4 4 = (i 4) := congrFun e_i4 4
          have e_i4_5 : i4 5 = (i 5) := congrFun e_i4 5
          have e_i4_6 : i4 6 = (i 6) := congrFun e_i4 6
          have e_i4_7 : i4 7 = (i 7) := congrFun e_i4 7
          have e_i4_8 : i4 8 = (i 8) := congrFun e_i4 8
          have e_i4_9 : i4 9 = (i 9) := congrFun e_i4 9
          have e_i4_10 : i4 10 = (i 10) := congrFun e_i4 10
          have e_i4_11 : i4 11 = (i 11) := congrFun e_i4 11
          have e_i4_12 : i4 12 = (i 12) := congrFun e_i4 12
          have e_i4_13 : i4 13 = (i 13) := congrFun e_i4 13
          have e_i4_14 : i4 14 = (i 14) := congrFun e_i4 14
          have e_i4_15 : i4 15 = (i 15) := congrFun e_i4 15
          have e_i4_16 : i4 16 = (i 16) := congrFun e_i4 16
          have e_i4_17 : i4 17 = (i 17) := congrFun e_i4 17
          have e_i4_18 : i4 18 = (i 18) := congrFun e_i4 18
          have hO5 : ModOk i4 := ⟨⟨⟨(by rw [e_i4_11]; exact hM.1.1.1), (by rw [e_i4_14]; exact hM.1.1.2.1), (by rw [e_i4_16]; exact hM.1.1.2.2.1), (by rw [e_i4_7]; exact hM.1.1.2.2.2.1), (by rw [e_i4_5]; exact hM.1.1.2.2.2.2)⟩, ⟨(by rw [e_i4_1]; exact hM.1.2.1.1), (by rw [e_i4_2]; exact hM.1.2.1.2.1), (by rw [e_i4_3]; exact hM.1.2.1.2.2.1), (by rw [e_i4_4]; exact hM.1.2.1.2.2.2.1), (by rw [e_i4_6]; exact hM.1.2.1.2.2.2.2.1), (by rw [e_i4_10]; exact hM.1.2.1.2.2.2.2.2)⟩, ⟨(by rw [e_i4_12]; exact hM.1.2.2.1), (by rw [e_i4_13]; exact hM.1.2.2.2.1), (by rw [e_i4_15]; exact hM.1.2.2.2.2.1), (by rw [e_i4_17]; exact hM.1.2.2.2.2.2)⟩⟩, fun q5 => by rw [e_i4_7]; exact hM.2 (by rw [← e_i4_5]; exact q5)⟩
          have hf6 := hO5.1
          have hP : va_P G vwCl [(y, .inr (9, [.int (zI (i4 0)), .ref (q 0), .int (zI (i4 1)), .int (zI (i4 2)), .int (zI (i4 3)), .int (zI (i4 4)), .int (zI (i4 5)), .int (zI (i4 6)), .int (zI (i4 7)), .int (zI (i4 8)), .int (zI (i4 9)), .int (zI (i4 10)), .ref (q 1), .int (zI (i4 11)), .int (zI (i4 12)), .ref (q 2), .ref (q 3), .ref (q 4), .ref (q 5), .ref (q 6), .ref (q 7), .ref (q 8), .ref (q 9), .ref (q 10), .ref (q 11), .ref (q 12), .ref (q 13), .ref (q 14), .ref (q 15), .ref (q 16), .int (zI (i4 13)), .int (zI (i4 14)), .int (zI (i4 15)), .int (zI (i4 16)), .int (zI (i4 17)), .int (zI (i4 18)), .ref (q 17), .ref (q 18), .ref (q 19), .ref (q 20)])), ((q 3), .inl (cI, 200, .inl (fun k => zI (g_now k))))] H := by subst e_i4; exact hP
          have hD : va_D A [(y, .inr (9, [.int (zI (i4 0)), .ref (q 0), .int (zI (i4 1)), .int (zI (i4 2)), .int (zI (i4 3)), .int (zI (i4 4)), .int (zI (i4 5)), .int (zI (i4 6)), .int (zI (i4 7)), .int (zI (i4 8)), .int (zI (i4 9)), .int (zI (i4 10)), .ref (q 1), .int (zI (i4 11)), .int (zI (i4 12)), .ref (q 2), .ref (q 3), .ref (q 4), .ref (q 5), .ref (q 6), .ref (q 7), .ref (q 8), .ref (q 9), .ref (q 10), .ref (q 11), .ref (q 12), .ref (q 13), .ref (q 14), .ref (q 15), .ref (q 16), .int (zI (i4 13)), .int (zI (i4 14)), .int (zI (i4 15)), .int (zI (i4 16)), .int (zI (i4 17)), .int (zI (i4 18)), .ref (q 17), .ref (q 18), .ref (q 19), .ref (q 20)])), ((q 3), .inl (cI, 200, .inl (fun k => zI (g_now k))))] := by subst e_i4; exact hD
          exact ret (zI (i 13)) (fun k => [(i4, fun _ _ => 0)].getD k (fun _ => 0, fun _ _ => 0)) _ _ _ _ _ _ rfl ⟨(i 13), rfl, hO5, (show i4 1 = i 1 ∧ i4 8 = i 8 ∧ i4 9 = i 9 ∧ i4 12 = i 12 ∧ i4 13 = i 13 ∧ i4 15 = i 15 ∧ i4 17 = i 17 ∧ i4 10 = i 10 from by omega)⟩ (bw_subP (isC := [0, 1]) hP rfl) (hD.sub [0, 1] (by decide) rfl) hS (Nat.le_of_ble_eq_true rfl) (Nat.le_of_ble_eq_true rfl) dX9_size_84
        · refine lv_tableIn (off := 46) (tgt := 85) hx hb dX9_size_39 (by rw [h_e]; decide) (by rw [h_e]; decide) (by rw [h_e]; decide) (by decide) ?_
          refine lv_aload_n hx hb dX9_size_85 rfl (lv_at hl 0 rfl) ?_
          obtain ⟨i7, e_i7⟩ : ∃ i7 : Nat → Int, i7 = fun k => [0, (i 1), (i 2), (i 3), (i 4), (i 5), (i 6), (i 7), (i 8), (i 9), (i 10), (i 11), (i 12), (i 13), (i 14), (i 15), (i 16), (i 17), (i 18)].getD k 0 := ⟨_, rfl⟩
          have e_i7_0 : i7 0 = 0 := congrFun e_i7 0
          have e_i7_1 : i7 1 = (i 1) := congrFun e_i7 1
          have e_i7_2 : i7 2 = (i 2) := congrFun e_i7 2
          have e_i7_3 : i7 3 = (i 3) := congrFun e_i7 3
          have e_i7_4 : i7 4 = (i 4) := congrFun e_i7 4
          have e_i7_5 : i7 5 = (i 5) := congrFun e_i7 5
          have e_i7_6 : i7 6 = (i 6) := congrFun e_i7 6
          have e_i7_7 : i7 7 = (i 7) := congrFun e_i7 7
          have e_i7_8 : i7 8 = (i 8) := congrFun e_i7 8
          have e_i7_9 : i7 9 = (i 9) := congrFun e_i7 9
          have e_i7_10 : i7 10 = (i 10) := congrFun e_i7 10
          have e_i7_11 : i7 11 = (i 11) := congrFun e_i7 11
          have e_i7_12 : i7 12 = (i 12) := congrFun e_i7 12
          have e_i7_13 : i7 13 = (i 13) := congrFun e_i7 13
          have e_i7_14 : i7 14 = (i 14) := congrFun e_i7 14
          have e_i7_15 : i7 15 = (i 15) := congrFun e_i7 15
          have e_i7_16 : i7 16 = (i 16) := congrFun e_i7 16
          have e_i7_17 : i7 17 = (i 17) := congrFun e_i7 17
          have e_i7_18 : i7 18 = (i 18) := congrFun e_i7 18
          have hO8 : ModOk i7 := ⟨⟨⟨(by rw [e_i7_11]; exact hM.1.1.1), (by rw [e_i7_14]; exact hM.1.1.2.1), (by rw [e_i7_16]; exact hM.1.1.2.2.1), (by rw [e_i7_7]; exact hM.1.1.2.2.2.1), (by rw [e_i7_5]; exact hM.1.1.2.2.2.2)⟩, ⟨(by rw [e_i7_1]; exact hM.1.2.1.1), (by rw [e_i7_2]; exact hM.1.2.1.2.1), (by rw [e_i7_3]; exact hM.1.2.1.2.2.1), (by rw [e_i7_4]; exact hM.1.2.1.2.2.2.1), (by rw [e_i7_6]; exact hM.1.2.1.2.2.2.2.1), (by rw [e_i7_10]; exact hM.1.2.1.2.2.2.2.2)⟩, ⟨(by rw [e_i7_12]; exact hM.1.2.2.1), (by rw [e_i7_13]; exact hM.1.2.2.2.1), (by rw [e_i7_15]; exact hM.1.2.2.2.2.1), (by rw [e_i7_17]; exact hM.1.2.2.2.2.2)⟩⟩, fun q5 => by rw [e_i7_7]; exact hM.2 (by rw [← e_i7_5]; exact q5)⟩
          have hf9 := hO8.1
          have hP : va_P G vwCl [(y, .inr (9, [.int (zI (i7 0)), .ref (q 0), .int (zI (i7 1)), .int (zI (i7 2)), .int (zI (i7 3)), .int (zI (i7 4)), .int (zI (i7 5)), .int (zI (i7 6)), .int (zI (i7 7)), .int (zI (i7 8)), .int (zI (i7 9)), .int (zI (i7 10)), .ref (q 1), .int (zI (i7 11)), .int (zI (i7 12)), .ref (q 2), .ref (q 3), .ref (q 4), .ref (q 5), .ref (q 6), .ref (q 7), .ref (q 8), .ref (q 9), .ref (q 10), .ref (q 11), .ref (q 12), .ref (q 13), .ref (q 14), .ref (q 15), .ref (q 16), .int (zI (i7 13)), .int (zI (i7 14)), .int (zI (i7 15)), .int (zI (i7 16)), .int (zI (i7 17)), .int (zI (i7 18)), .ref (q 17), .ref (q 18), .ref (q 19), .ref (q 20)])), ((q 3), .inl (cI, 200, .inl (fun k => zI (g_now k))))] H := by subst e_i7; exact hP
          have hD : va_D A [(y, .inr (9, [.int (zI (i7 0)), .ref (q 0), .int (zI (i7 1)), .int (zI (i7 2)), .int (zI (i7 3)), .int (zI (i7 4)), .int (zI (i7 5)), .int (zI (i7 6)), .int (zI (i7 7)), .int (zI (i7 8)), .int (zI (i7 9)), .int (zI (i7 10)), .ref (q 1), .int (zI (i7 11)), .int (zI (i7 12)), .ref (q 2), .ref (q 3), .ref (q 4), .ref (q 5), .ref (q 6), .ref (q 7), .ref (q 8), .ref (q 9), .ref (q 10), .ref (q 11), .ref (q 12), .ref (q 13), .ref (q 14), .ref (q 15), .ref (q 16), .int (zI (i7 13)), .int (zI (i7 14)), .int (zI (i7 15)), .int (zI (i7 16)), .int (zI (i7 17)), .int (zI (i7 18)), .ref (q 17), .ref (q 18), .ref (q 19), .ref (q 20)])), ((q 3), .inl (cI, 200, .inl (fun k => zI (g_now k))))] := by subst e_i7; exact hD
          refine r_callVi (As := []) (rest := []) (wr := []) F hK hP hD hS hA hO hE (c_X9_toldLines hO y q i7 hO8 g_now hpn) k_1717 kv_X9_toldLines 0 rfl (by decide +kernel) ⟨Nat.le_of_ble_eq_true rfl, Nat.le_of_ble_eq_true rfl⟩ [0, 1] [] rfl rfl (by decide) (by decide) (by decide) 0 9 rfl rfl rfl hl.1 rfl (Nat.le_of_ble_eq_true rfl) dX9_size_86 ⟨Nat.le_of_ble_eq_true rfl, Nat.le_of_ble_eq_true rfl⟩ (w1 := fun u10 => [(y, .inr (9, [.int (zI (i7 0)), .ref (q 0), .int (zI (i7 1)), .int (zI (i7 2)), .int (zI (i7 3)), .int (zI (i7 4)), .int (zI (i7 5)), .int (zI (i7 6)), .int (zI (i7 7)), .int (zI (i7 8)), .int (zI (i7 9)), .int (zI (i7 10)), .ref (q 1), .int (zI (i7 11)), .int (zI (i7 12)), .ref (q 2), .ref (q 3), .ref (q 4), .ref (q 5), .ref (q 6), .ref (q 7), .ref (q 8), .ref (q 9), .ref (q 10), .ref (q 11), .ref (q 12), .ref (q 13), .ref (q 14), .ref (q 15), .ref (q 16), .int (zI (i7 13)), .int (zI (i7 14)), .int (zI (i7 15)), .int (zI (i7 16)), .int (zI (i7 17)), .int (zI (i7 18)), .ref (q 17), .ref (q 18), .ref (q 19), .ref (q 20)])), ((q 3), .inl (cI, 200, .inl (fun k => zI (g_now k))))]) (fun _ => rfl) (fun r11 u10 H locs hp12 hP hD hS => ?_)
          obtain ⟨z13, rfl, h_z13⟩ := hp12
          exact ret (zI z13) (fun k => [(i7, fun _ _ => 0)].getD k (fun _ => 0, fun _ _ => 0)) _ _ _ _ _ _ rfl ⟨z13, rfl, hO8, (show i7 1 = i 1 ∧ i7 8 = i 8 ∧ i7 9 = i 9 ∧ i7 12 = i 12 ∧ i7 13 = i 13 ∧ i7 15 = i 15 ∧ i7 17 = i 17 ∧ i7 10 = i 10 from by omega)⟩ (bw_subP (isC := [0, 1]) hP rfl) (hD.sub [0, 1] (by decide) rfl) hS (Nat.le_of_ble_eq_true rfl) (Nat.le_of_ble_eq_true rfl) dX9_size_89
        · refine lv_tableIn (off := 51) (tgt := 90) hx hb dX9_size_39 (by rw [h_e]; decide) (by rw [h_e]; decide) (by rw [h_e]; decide) (by decide) ?_
          refine lv_iconst (v := zI 0) hx hb dX9_size_90 rfl ?_
          refine lv_istore_n (lv' := [(2, .int (zI 0)), (0, .ref y), (1, .int (zI x))]) hx hb dX9_size_91 rfl hl (by decide) rfl (fun ls hl => ?_)
          refine lv_iconst (v := zI 0) hx hb dX9_size_92 rfl ?_
          refine lv_istore_n (lv' := [(3, .int (zI 0)), (2, .int (zI 0)), (0, .ref y), (1, .int (zI x))]) hx hb dX9_size_93 rfl hl (by decide) rfl (fun ls hl => ?_)
          refine W.widen (k := 0) (n := 0) (Nat.le_of_ble_eq_true rfl) (Nat.le_of_ble_eq_true rfl) ?_
          refine (?_ : ∀ (n9_1 : Nat) (v2 : Int) (v3 : Int) (H : Heap) (locs : List Loc), (0 ≤ v3 ∧ v3 ≤ 20) → (20 - v3 : Int).toNat < n9_1 → va_P G vwCl [(y, .inr (9, [.int (zI 0), .ref (q 0), .int (zI (i 1)), .int (zI (i 2)), .int (zI (i 3)), .int (zI (i 4)), .int (zI (i 5)), .int (zI (i 6)), .int (zI (i 7)), .int (zI (i 8)), .int (zI (i 9)), .int (zI (i 10)), .ref (q 1), .int (zI (i 11)), .int (zI (i 12)), .ref (q 2), .ref (q 3), .ref (q 4), .ref (q 5), .ref (q 6), .ref (q 7), .ref (q 8), .ref (q 9), .ref (q 10), .ref (q 11), .ref (q 12), .ref (q 13), .ref (q 14), .ref (q 15), .ref (q 16), .int (zI (i 13)), .int (zI (i 14)), .int (zI (i 15)), .int (zI (i 16)), .int (zI (i 17)), .int (zI (i 18)), .ref (q 17), .ref (q 18), .ref (q 19), .ref (q 20)])), ((q 3), .inl (cI, 200, .inl (fun k => zI (g_now k))))] H → va_D A [(y, .inr (9, [.int (zI 0), .ref (q 0), .int (zI (i 1)), .int (zI (i 2)), .int (zI (i 3)), .int (zI (i 4)), .int (zI (i 5)), .int (zI (i 6)), .int (zI (i 7)), .int (zI (i 8)), .int (zI (i 9)), .int (zI (i 10)), .ref (q 1), .int (zI (i 11)), .int (zI (i 12)), .ref (q 2), .ref (q 3), .ref (q 4), .ref (q 5), .ref (q 6), .ref (q 7), .ref (q 8), .ref (q 9), .ref (q 10), .ref (q 11), .ref (q 12), .ref (q 13), .ref (q 14), .ref (q 15), .ref (q 16), .int (zI (i 13)), .int (zI (i 14)), .int (zI (i 15)), .int (zI (i 16)), .int (zI (i 17)), .int (zI (i 18)), .ref (q 17), .ref (q 18), .ref (q 19), .ref (q 20)])), ((q 3), .inl (cI, 200, .inl (fun k => zI (g_now k))))] → va_S A s.heap H locs → ∀ ls : Array Slot, lv_has ls 5 [(3, .int (zI v3)), (2, .int (zI v2)), (0, .ref y), (1, .int (zI x))] → W p l e rm_X9_size s m ([.ref y, .int (zI x)] : List Value).toArray below meth c H locs 0 0 Q (F0 m 94 ls [])) ((20 - 0 : Int).toNat + 1) 0 0 _ _ (by omega) (by omega) hP hD hS ls hl
          clear hP hD hS hl ls
          intro n9_1
          induction n9_1 with
          | zero =>
            intro v2 v3 H locs hI hM
            exact absurd hM (by omega)
          | succ n9_1 ih1 =>
            intro v2 v3 H locs hI1 hM1  hP hD hS ls hl
            refine lv_iload_n hx hb dX9_size_94 rfl (lv_at hl 0 rfl) ?_
            refine lv_iconst (v := zI 2) hx hb dX9_size_95 rfl ?_
            refine lv_aload_n hx hb dX9_size_96 rfl (lv_at hl 2 rfl) ?_
            refine r_get F hK hP 0 30 rfl rfl in_X9 (by decide) k_1193 rfl dX9_size_97 ?_
            refine r_imul (v := zI (2 * (i 13))) F dX9_size_100 (zI_mul _ _) ?_
            refine rz_icmp_ge (tgt := 129) F (by omega) (by omega) dX9_size_101 (by decide) (fun h101_13 => ?_) (fun h101_13 => ?_)
            · refine lv_iload_n hx hb dX9_size_129 rfl (lv_at hl 1 rfl) ?_
              obtain ⟨i15, e_i15⟩ : ∃ i15 : Nat → Int, i15 = fun k => [0, (i 1), (i 2), (i 3), (i 4), (i 5), (i 6), (i 7), (i 8), (i 9), (i 10), (i 11), (i 12), (i 13), (i 14), (i 15), (i 16), (i 17), (i 18)].getD k 0 := ⟨_, rfl⟩
              have e_i15_0 : i15 0 = 0 := congrFun e_i15 0
              have e_i15_1 : i15 1 = (i 1) := congrFun e_i15 1
              have e_i15_2 : i15 2 = (i 2) := congrFun e_i15 2
              have e_i15_3 : i15 3 = (i 3) := congrFun e_i15 3
              have e_i15_4 : i15 4 = (i 4) := congrFun e_i15 4
              have e_i15_5 : i15 5 = (i 5) := congrFun e_i15 5
              have e_i15_6 : i15 6 = (i 6) := congrFun e_i15 6
              have e_i15_7 : i15 7 = (i 7) := congrFun e_i15 7
              have e_i15_8 : i15 8 = (i 8) := congrFun e_i15 8
              have e_i15_9 : i15 9 = (i 9) := congrFun e_i15 9
              have e_i15_10 : i15 10 = (i 10) := congrFun e_i15 10
              have e_i15_11 : i15 11 = (i 11) := congrFun e_i15 11
              have e_i15_12 : i15 12 = (i 12) := congrFun e_i15 12
              have e_i15_13 : i15 13 = (i 13) := congrFun e_i15 13
              have e_i15_14 : i15 14 = (i 14) := congrFun e_i15 14
              have e_i15_15 : i15 15 = (i 15) := congrFun e_i15 15
              have e_i15_16 : i15 16 = (i 16) := congrFun e_i15 16
              have e_i15_17 : i15 17 = (i 17) := congrFun e_i15 17
              have e_i15_18 : i15 18 = (i 18) := congrFun e_i15 18
              have hO16 : ModOk i15 := ⟨⟨⟨(by rw [e_i15_11]; exact hM.1.1.1), (by rw [e_i15_14]; exact hM.1.1.2.1), (by rw [e_i15_16]; exact hM.1.1.2.2.1), (by rw [e_i15_7]; exact hM.1.1.2.2.2.1), (by rw [e_i15_5]; exact hM.1.1.2.2.2.2)⟩, ⟨(by rw [e_i15_1]; exact hM.1.2.1.1), (by rw [e_i15_2]; exact hM.1.2.1.2.1), (by rw [e_i15_3]; exact hM.1.2.1.2.2.1), (by rw [e_i15_4]; exact hM.1.2.1.2.2.2.1), (by rw [e_i15_6]; exact hM.1.2.1.2.2.2.2.1), (by rw [e_i15_10]; exact hM.1.2.1.2.2.2.2.2)⟩, ⟨(by rw [e_i15_12]; exact hM.1.2.2.1), (by rw [e_i15_13]; exact hM.1.2.2.2.1), (by rw [e_i15_15]; exact hM.1.2.2.2.2.1), (by rw [e_i15_17]; exact hM.1.2.2.2.2.2)⟩⟩, fun q5 => by rw [e_i15_7]; exact hM.2 (by rw [← e_i15_5]; exact q5)⟩
              have hf17 := hO16.1
              have hP : va_P G vwCl [(y, .inr (9, [.int (zI (i15 0)), .ref (q 0), .int (zI (i15 1)), .int (zI (i15 2)), .int (zI (i15 3)), .int (zI (i15 4)), .int (zI (i15 5)), .int (zI (i15 6)), .int (zI (i15 7)), .int (zI (i15 8)), .int (zI (i15 9)), .int (zI (i15 10)), .ref (q 1), .int (zI (i15 11)), .int (zI (i15 12)), .ref (q 2), .ref (q 3), .ref (q 4), .ref (q 5), .ref (q 6), .ref (q 7), .ref (q 8), .ref (q 9), .ref (q 10), .ref (q 11), .ref (q 12), .ref (q 13), .ref (q 14), .ref (q 15), .ref (q 16), .int (zI (i15 13)), .int (zI (i15 14)), .int (zI (i15 15)), .int (zI (i15 16)), .int (zI (i15 17)), .int (zI (i15 18)), .ref (q 17), .ref (q 18), .ref (q 19), .ref (q 20)])), ((q 3), .inl (cI, 200, .inl (fun k => zI (g_now k))))] H := by subst e_i15; exact hP
              have hD : va_D A [(y, .inr (9, [.int (zI (i15 0)), .ref (q 0), .int (zI (i15 1)), .int (zI (i15 2)), .int (zI (i15 3)), .int (zI (i15 4)), .int (zI (i15 5)), .int (zI (i15 6)), .int (zI (i15 7)), .int (zI (i15 8)), .int (zI (i15 9)), .int (zI (i15 10)), .ref (q 1), .int (zI (i15 11)), .int (zI (i15 12)), .ref (q 2), .ref (q 3), .ref (q 4), .ref (q 5), .ref (q 6), .ref (q 7), .ref (q 8), .ref (q 9), .ref (q 10), .ref (q 11), .ref (q 12), .ref (q 13), .ref (q 14), .ref (q 15), .ref (q 16), .int (zI (i15 13)), .int (zI (i15 14)), .int (zI (i15 15)), .int (zI (i15 16)), .int (zI (i15 17)), .int (zI (i15 18)), .ref (q 17), .ref (q 18), .ref (q 19), .ref (q 20)])), ((q 3), .inl (cI, 200, .inl (fun k => zI (g_now k))))] := by subst e_i15; exact hD
              exact ret (zI v2) (fun k => [(i15, fun _ _ => 0)].getD k (fun _ => 0, fun _ _ => 0)) _ _ _ _ _ _ rfl ⟨v2, rfl, hO16, (show i15 1 = i 1 ∧ i15 8 = i 8 ∧ i15 9 = i 9 ∧ i15 12 = i 12 ∧ i15 13 = i 13 ∧ i15 15 = i 15 ∧ i15 17 = i 17 ∧ i15 10 = i 10 from by omega)⟩ (bw_subP (isC := [0, 1]) hP rfl) (hD.sub [0, 1] (by decide) rfl) hS (Nat.le_of_ble_eq_true rfl) (Nat.le_of_ble_eq_true rfl) dX9_size_130
            · refine lv_iload_n hx hb dX9_size_104 rfl (lv_at hl 1 rfl) ?_
              refine lv_aload_n hx hb dX9_size_105 rfl (lv_at hl 2 rfl) ?_
              refine r_get F hK hP 0 16 rfl rfl in_X9 (by decide) k_1179 rfl dX9_size_106 ?_
              refine lv_iload_n hx hb dX9_size_109 rfl (lv_at hl 0 rfl) ?_
              refine r_callSi (As := [.ref (q 3), .int (zI v3)]) (rest := [.int (zI v2)]) (wr := [(y, .inr (9, [.int (zI 0), .ref (q 0), .int (zI (i 1)), .int (zI (i 2)), .int (zI (i 3)), .int (zI (i 4)), .int (zI (i 5)), .int (zI (i 6)), .int (zI (i 7)), .int (zI (i 8)), .int (zI (i 9)), .int (zI (i 10)), .ref (q 1), .int (zI (i 11)), .int (zI (i 12)), .ref (q 2), .ref (q 3), .ref (q 4), .ref (q 5), .ref (q 6), .ref (q 7), .ref (q 8), .ref (q 9), .ref (q 10), .ref (q 11), .ref (q 12), .ref (q 13), .ref (q 14), .ref (q 15), .ref (q 16), .int (zI (i 13)), .int (zI (i 14)), .int (zI (i 15)), .int (zI (i 16)), .int (zI (i 17)), .int (zI (i 18)), .ref (q 17), .ref (q 18), .ref (q 19), .ref (q 20)]))]) F hK hP hD hS hA hO hE (c_X9_laid hO (q 3) g_now v3 (by omega) hpn (by omega)) k_1489 ks_X9_laid 2 rfl (by decide +kernel) ⟨Nat.le_of_ble_eq_true rfl, Nat.le_of_ble_eq_true rfl⟩ [1] [0] rfl rfl (by decide) (by decide) (by decide) hl.1 rfl (Nat.le_of_ble_eq_true rfl) dX9_size_110 ⟨Nat.le_of_ble_eq_true rfl, Nat.le_of_ble_eq_true rfl⟩ (w1 := fun u18 => [(y, .inr (9, [.int (zI 0), .ref (q 0), .int (zI (i 1)), .int (zI (i 2)), .int (zI (i 3)), .int (zI (i 4)), .int (zI (i 5)), .int (zI (i 6)), .int (zI (i 7)), .int (zI (i 8)), .int (zI (i 9)), .int (zI (i 10)), .ref (q 1), .int (zI (i 11)), .int (zI (i 12)), .ref (q 2), .ref (q 3), .ref (q 4), .ref (q 5), .ref (q 6), .ref (q 7), .ref (q 8), .ref (q 9), .ref (q 10), .ref (q 11), .ref (q 12), .ref (q 13), .ref (q 14), .ref (q 15), .ref (q 16), .int (zI (i 13)), .int (zI (i 14)), .int (zI (i 15)), .int (zI (i 16)), .int (zI (i 17)), .int (zI (i 18)), .ref (q 17), .ref (q 18), .ref (q 19), .ref (q 20)])), ((q 3), .inl (cI, 200, .inl (fun k => zI (g_now k))))]) (fun _ => rfl) (fun r19 u18 H locs hp20 hP hD hS => ?_)
              obtain ⟨z21, rfl, h_z21⟩ := hp20
              refine rz_if_le (tgt := 120) F (by omega) dX9_size_113 (by decide) (fun h113_21 => ?_) (fun h113_21 => ?_)
              · refine lv_iconst (v := zI 0) hx hb dX9_size_120 rfl ?_
                refine r_iadd (v := zI (v2 + 0)) F dX9_size_121 (zI_add _ _) ?_
                refine lv_istore_n (lv' := [(2, .int (zI (v2 + 0))), (3, .int (zI v3)), (0, .ref y), (1, .int (zI x))]) hx hb dX9_size_122 rfl hl (by decide) rfl (fun ls hl => ?_)
                refine lv_iinc (v := zI (v3 + 1)) (lv' := [(3, .int (zI (v3 + 1))), (2, .int (zI (v2 + 0))), (0, .ref y), (1, .int (zI x))]) hx hb dX9_size_123 hl (k := 1) rfl (zI_add _ _) (by decide) rfl (fun ls hl => ?_)
                refine lv_goto (tgt := 94) hx hb dX9_size_126 (by decide) ?_
                exact ih1 (v2 + 0) (v3 + 1) _ _ (by omega) (by omega) hP hD hS ls (lv_sub hl [0, 1, 2, 3] rfl)
              · refine lv_iconst (v := zI 1) hx hb dX9_size_116 rfl ?_
                refine lv_goto (tgt := 121) hx hb dX9_size_117 (by decide) ?_
                refine r_iadd (v := zI (v2 + 1)) F dX9_size_121 (zI_add _ _) ?_
                refine lv_istore_n (lv' := [(2, .int (zI (v2 + 1))), (3, .int (zI v3)), (0, .ref y), (1, .int (zI x))]) hx hb dX9_size_122 rfl hl (by decide) rfl (fun ls hl => ?_)
                refine lv_iinc (v := zI (v3 + 1)) (lv' := [(3, .int (zI (v3 + 1))), (2, .int (zI (v2 + 1))), (0, .ref y), (1, .int (zI x))]) hx hb dX9_size_123 hl (k := 1) rfl (zI_add _ _) (by decide) rfl (fun ls hl => ?_)
                refine lv_goto (tgt := 94) hx hb dX9_size_126 (by decide) ?_
                exact ih1 (v2 + 1) (v3 + 1) _ _ (by omega) (by omega) hP hD hS ls (lv_sub hl [0, 1, 2, 3] rfl)
        · refine lv_tableIn (off := 92) (tgt := 131) hx hb dX9_size_39 (by rw [h_e]; decide) (by rw [h_e]; decide) (by rw [h_e]; decide) (by decide) ?_
          refine lv_aload_n hx hb dX9_size_131 rfl (lv_at hl 0 rfl) ?_
          refine r_get F hK hP 0 32 rfl rfl in_X9 (by decide) k_1195 rfl dX9_size_132 ?_
          obtain ⟨i23, e_i23⟩ : ∃ i23 : Nat → Int, i23 = fun k => [0, (i 1), (i 2), (i 3), (i 4), (i 5), (i 6), (i 7), (i 8), (i 9), (i 10), (i 11), (i 12), (i 13), (i 14), (i 15), (i 16), (i 17), (i 18)].getD k 0 := ⟨_, rfl⟩
          have e_i23_0 : i23 0 = 0 := congrFun e_i23 0
          have e_i23_1 : i23 1 = (i 1) := congrFun e_i23 1
          have e_i23_2 : i23 2 = (i 2) := congrFun e_i23 2
          have e_i23_3 : i23 3 = (i 3) := congrFun e_i23 3
          have e_i23_4 : i23 4 = (i 4) := congrFun e_i23 4
          have e_i23_5 : i23 5 = (i 5) := congrFun e_i23 5
          have e_i23_6 : i23 6 = (i 6) := congrFun e_i23 6
          have e_i23_7 : i23 7 = (i 7) := congrFun e_i23 7
          have e_i23_8 : i23 8 = (i 8) := congrFun e_i23 8
          have e_i23_9 : i23 9 = (i 9) := congrFun e_i23 9
          have e_i23_10 : i23 10 = (i 10) := congrFun e_i23 10
          have e_i23_11 : i23 11 = (i 11) := congrFun e_i23 11
          have e_i23_12 : i23 12 = (i 12) := congrFun e_i23 12
          have e_i23_13 : i23 13 = (i 13) := congrFun e_i23 13
          have e_i23_14 : i23 14 = (i 14) := congrFun e_i23 14
          have e_i23_15 : i23 15 = (i 15) := congrFun e_i23 15
          have e_i23_16 : i23 16 = (i 16) := congrFun e_i23 16
          have e_i23_17 : i23 17 = (i 17) := congrFun e_i23 17
          have e_i23_18 : i23 18 = (i 18) := congrFun e_i23 18
          have hO24 : ModOk i23 := ⟨⟨⟨(by rw [e_i23_11]; exact hM.1.1.1), (by rw [e_i23_14]; exact hM.1.1.2.1), (by rw [e_i23_16]; exact hM.1.1.2.2.1), (by rw [e_i23_7]; exact hM.1.1.2.2.2.1), (by rw [e_i23_5]; exact hM.1.1.2.2.2.2)⟩, ⟨(by rw [e_i23_1]; exact hM.1.2.1.1), (by rw [e_i23_2]; exact hM.1.2.1.2.1), (by rw [e_i23_3]; exact hM.1.2.1.2.2.1), (by rw [e_i23_4]; exact hM.1.2.1.2.2.2.1), (by rw [e_i23_6]; exact hM.1.2.1.2.2.2.2.1), (by rw [e_i23_10]; exact hM.1.2.1.2.2.2.2.2)⟩, ⟨(by rw [e_i23_12]; exact hM.1.2.2.1), (by rw [e_i23_13]; exact hM.1.2.2.2.1), (by rw [e_i23_15]; exact hM.1.2.2.2.2.1), (by rw [e_i23_17]; exact hM.1.2.2.2.2.2)⟩⟩, fun q5 => by rw [e_i23_7]; exact hM.2 (by rw [← e_i23_5]; exact q5)⟩
          have hf25 := hO24.1
          have hP : va_P G vwCl [(y, .inr (9, [.int (zI (i23 0)), .ref (q 0), .int (zI (i23 1)), .int (zI (i23 2)), .int (zI (i23 3)), .int (zI (i23 4)), .int (zI (i23 5)), .int (zI (i23 6)), .int (zI (i23 7)), .int (zI (i23 8)), .int (zI (i23 9)), .int (zI (i23 10)), .ref (q 1), .int (zI (i23 11)), .int (zI (i23 12)), .ref (q 2), .ref (q 3), .ref (q 4), .ref (q 5), .ref (q 6), .ref (q 7), .ref (q 8), .ref (q 9), .ref (q 10), .ref (q 11), .ref (q 12), .ref (q 13), .ref (q 14), .ref (q 15), .ref (q 16), .int (zI (i23 13)), .int (zI (i23 14)), .int (zI (i23 15)), .int (zI (i23 16)), .int (zI (i23 17)), .int (zI (i23 18)), .ref (q 17), .ref (q 18), .ref (q 19), .ref (q 20)])), ((q 3), .inl (cI, 200, .inl (fun k => zI (g_now k))))] H := by subst e_i23; exact hP
          have hD : va_D A [(y, .inr (9, [.int (zI (i23 0)), .ref (q 0), .int (zI (i23 1)), .int (zI (i23 2)), .int (zI (i23 3)), .int (zI (i23 4)), .int (zI (i23 5)), .int (zI (i23 6)), .int (zI (i23 7)), .int (zI (i23 8)), .int (zI (i23 9)), .int (zI (i23 10)), .ref (q 1), .int (zI (i23 11)), .int (zI (i23 12)), .ref (q 2), .ref (q 3), .ref (q 4), .ref (q 5), .ref (q 6), .ref (q 7), .ref (q 8), .ref (q 9), .ref (q 10), .ref (q 11), .ref (q 12), .ref (q 13), .ref (q 14), .ref (q 15), .ref (q 16), .int (zI (i23 13)), .int (zI (i23 14)), .int (zI (i23 15)), .int (zI (i23 16)), .int (zI (i23 17)), .int (zI (i23 18)), .ref (q 17), .ref (q 18), .ref (q 19), .ref (q 20)])), ((q 3), .inl (cI, 200, .inl (fun k => zI (g_now k))))] := by subst e_i23; exact hD
          exact ret (zI (i 15)) (fun k => [(i23, fun _ _ => 0)].getD k (fun _ => 0, fun _ _ => 0)) _ _ _ _ _ _ rfl ⟨(i 15), rfl, hO24, (show i23 1 = i 1 ∧ i23 8 = i 8 ∧ i23 9 = i 9 ∧ i23 12 = i 12 ∧ i23 13 = i 13 ∧ i23 15 = i 15 ∧ i23 17 = i 17 ∧ i23 10 = i 10 from by omega)⟩ (bw_subP (isC := [0, 1]) hP rfl) (hD.sub [0, 1] (by decide) rfl) hS (Nat.le_of_ble_eq_true rfl) (Nat.le_of_ble_eq_true rfl) dX9_size_135
        · refine lv_tableIn (off := 97) (tgt := 136) hx hb dX9_size_39 (by rw [h_e]; decide) (by rw [h_e]; decide) (by rw [h_e]; decide) (by decide) ?_
          refine lv_aload_n hx hb dX9_size_136 rfl (lv_at hl 0 rfl) ?_
          refine r_get F hK hP 0 34 rfl rfl in_X9 (by decide) k_1197 rfl dX9_size_137 ?_
          obtain ⟨i26, e_i26⟩ : ∃ i26 : Nat → Int, i26 = fun k => [0, (i 1), (i 2), (i 3), (i 4), (i 5), (i 6), (i 7), (i 8), (i 9), (i 10), (i 11), (i 12), (i 13), (i 14), (i 15), (i 16), (i 17), (i 18)].getD k 0 := ⟨_, rfl⟩
          have e_i26_0 : i26 0 = 0 := congrFun e_i26 0
          have e_i26_1 : i26 1 = (i 1) := congrFun e_i26 1
          have e_i26_2 : i26 2 = (i 2) := congrFun e_i26 2
          have e_i26_3 : i26 3 = (i 3) := congrFun e_i26 3
          have e_i26_4 : i26 4 = (i 4) := congrFun e_i26 4
          have e_i26_5 : i26 5 = (i 5) := congrFun e_i26 5
          have e_i26_6 : i26 6 = (i 6) := congrFun e_i26 6
          have e_i26_7 : i26 7 = (i 7) := congrFun e_i26 7
          have e_i26_8 : i26 8 = (i 8) := congrFun e_i26 8
          have e_i26_9 : i26 9 = (i 9) := congrFun e_i26 9
          have e_i26_10 : i26 10 = (i 10) := congrFun e_i26 10
          have e_i26_11 : i26 11 = (i 11) := congrFun e_i26 11
          have e_i26_12 : i26 12 = (i 12) := congrFun e_i26 12
          have e_i26_13 : i26 13 = (i 13) := congrFun e_i26 13
          have e_i26_14 : i26 14 = (i 14) := congrFun e_i26 14
          have e_i26_15 : i26 15 = (i 15) := congrFun e_i26 15
          have e_i26_16 : i26 16 = (i 16) := congrFun e_i26 16
          have e_i26_17 : i26 17 = (i 17) := congrFun e_i26 17
          have e_i26_18 : i26 18 = (i 18) := congrFun e_i26 18
          have hO27 : ModOk i26 := ⟨⟨⟨(by rw [e_i26_11]; exact hM.1.1.1), (by rw [e_i26_14]; exact hM.1.1.2.1), (by rw [e_i26_16]; exact hM.1.1.2.2.1), (by rw [e_i26_7]; exact hM.1.1.2.2.2.1), (by rw [e_i26_5]; exact hM.1.1.2.2.2.2)⟩, ⟨(by rw [e_i26_1]; exact hM.1.2.1.1), (by rw [e_i26_2]; exact hM.1.2.1.2.1), (by rw [e_i26_3]; exact hM.1.2.1.2.2.1), (by rw [e_i26_4]; exact hM.1.2.1.2.2.2.1), (by rw [e_i26_6]; exact hM.1.2.1.2.2.2.2.1), (by rw [e_i26_10]; exact hM.1.2.1.2.2.2.2.2)⟩, ⟨(by rw [e_i26_12]; exact hM.1.2.2.1), (by rw [e_i26_13]; exact hM.1.2.2.2.1), (by rw [e_i26_15]; exact hM.1.2.2.2.2.1), (by rw [e_i26_17]; exact hM.1.2.2.2.2.2)⟩⟩, fun q5 => by rw [e_i26_7]; exact hM.2 (by rw [← e_i26_5]; exact q5)⟩
          have hf28 := hO27.1
          have hP : va_P G vwCl [(y, .inr (9, [.int (zI (i26 0)), .ref (q 0), .int (zI (i26 1)), .int (zI (i26 2)), .int (zI (i26 3)), .int (zI (i26 4)), .int (zI (i26 5)), .int (zI (i26 6)), .int (zI (i26 7)), .int (zI (i26 8)), .int (zI (i26 9)), .int (zI (i26 10)), .ref (q 1), .int (zI (i26 11)), .int (zI (i26 12)), .ref (q 2), .ref (q 3), .ref (q 4), .ref (q 5), .ref (q 6), .ref (q 7), .ref (q 8), .ref (q 9), .ref (q 10), .ref (q 11), .ref (q 12), .ref (q 13), .ref (q 14), .ref (q 15), .ref (q 16), .int (zI (i26 13)), .int (zI (i26 14)), .int (zI (i26 15)), .int (zI (i26 16)), .int (zI (i26 17)), .int (zI (i26 18)), .ref (q 17), .ref (q 18), .ref (q 19), .ref (q 20)])), ((q 3), .inl (cI, 200, .inl (fun k => zI (g_now k))))] H := by subst e_i26; exact hP
          have hD : va_D A [(y, .inr (9, [.int (zI (i26 0)), .ref (q 0), .int (zI (i26 1)), .int (zI (i26 2)), .int (zI (i26 3)), .int (zI (i26 4)), .int (zI (i26 5)), .int (zI (i26 6)), .int (zI (i26 7)), .int (zI (i26 8)), .int (zI (i26 9)), .int (zI (i26 10)), .ref (q 1), .int (zI (i26 11)), .int (zI (i26 12)), .ref (q 2), .ref (q 3), .ref (q 4), .ref (q 5), .ref (q 6), .ref (q 7), .ref (q 8), .ref (q 9), .ref (q 10), .ref (q 11), .ref (q 12), .ref (q 13), .ref (q 14), .ref (q 15), .ref (q 16), .int (zI (i26 13)), .int (zI (i26 14)), .int (zI (i26 15)), .int (zI (i26 16)), .int (zI (i26 17)), .int (zI (i26 18)), .ref (q 17), .ref (q 18), .ref (q 19), .ref (q 20)])), ((q 3), .inl (cI, 200, .inl (fun k => zI (g_now k))))] := by subst e_i26; exact hD
          exact ret (zI (i 17)) (fun k => [(i26, fun _ _ => 0)].getD k (fun _ => 0, fun _ _ => 0)) _ _ _ _ _ _ rfl ⟨(i 17), rfl, hO27, (show i26 1 = i 1 ∧ i26 8 = i 8 ∧ i26 9 = i 9 ∧ i26 12 = i 12 ∧ i26 13 = i 13 ∧ i26 15 = i 15 ∧ i26 17 = i 17 ∧ i26 10 = i 10 from by omega)⟩ (bw_subP (isC := [0, 1]) hP rfl) (hD.sub [0, 1] (by decide) rfl) hS (Nat.le_of_ble_eq_true rfl) (Nat.le_of_ble_eq_true rfl) dX9_size_140
        · refine lv_tableIn (off := 138) (tgt := 177) hx hb dX9_size_39 (by rw [h_e]; decide) (by rw [h_e]; decide) (by rw [h_e]; decide) (by decide) ?_
          refine lv_iconst (v := zI (-1)) hx hb dX9_size_177 rfl ?_
          obtain ⟨i29, e_i29⟩ : ∃ i29 : Nat → Int, i29 = fun k => [0, (i 1), (i 2), (i 3), (i 4), (i 5), (i 6), (i 7), (i 8), (i 9), (i 10), (i 11), (i 12), (i 13), (i 14), (i 15), (i 16), (i 17), (i 18)].getD k 0 := ⟨_, rfl⟩
          have e_i29_0 : i29 0 = 0 := congrFun e_i29 0
          have e_i29_1 : i29 1 = (i 1) := congrFun e_i29 1
          have e_i29_2 : i29 2 = (i 2) := congrFun e_i29 2
          have e_i29_3 : i29 3 = (i 3) := congrFun e_i29 3
          have e_i29_4 : i29 4 = (i 4) := congrFun e_i29 4
          have e_i29_5 : i29 5 = (i 5) := congrFun e_i29 5
          have e_i29_6 : i29 6 = (i 6) := congrFun e_i29 6
          have e_i29_7 : i29 7 = (i 7) := congrFun e_i29 7
          have e_i29_8 : i29 8 = (i 8) := congrFun e_i29 8
          have e_i29_9 : i29 9 = (i 9) := congrFun e_i29 9
          have e_i29_10 : i29 10 = (i 10) := congrFun e_i29 10
          have e_i29_11 : i29 11 = (i 11) := congrFun e_i29 11
          have e_i29_12 : i29 12 = (i 12) := congrFun e_i29 12
          have e_i29_13 : i29 13 = (i 13) := congrFun e_i29 13
          have e_i29_14 : i29 14 = (i 14) := congrFun e_i29 14
          have e_i29_15 : i29 15 = (i 15) := congrFun e_i29 15
          have e_i29_16 : i29 16 = (i 16) := congrFun e_i29 16
          have e_i29_17 : i29 17 = (i 17) := congrFun e_i29 17
          have e_i29_18 : i29 18 = (i 18) := congrFun e_i29 18
          have hO30 : ModOk i29 := ⟨⟨⟨(by rw [e_i29_11]; exact hM.1.1.1), (by rw [e_i29_14]; exact hM.1.1.2.1), (by rw [e_i29_16]; exact hM.1.1.2.2.1), (by rw [e_i29_7]; exact hM.1.1.2.2.2.1), (by rw [e_i29_5]; exact hM.1.1.2.2.2.2)⟩, ⟨(by rw [e_i29_1]; exact hM.1.2.1.1), (by rw [e_i29_2]; exact hM.1.2.1.2.1), (by rw [e_i29_3]; exact hM.1.2.1.2.2.1), (by rw [e_i29_4]; exact hM.1.2.1.2.2.2.1), (by rw [e_i29_6]; exact hM.1.2.1.2.2.2.2.1), (by rw [e_i29_10]; exact hM.1.2.1.2.2.2.2.2)⟩, ⟨(by rw [e_i29_12]; exact hM.1.2.2.1), (by rw [e_i29_13]; exact hM.1.2.2.2.1), (by rw [e_i29_15]; exact hM.1.2.2.2.2.1), (by rw [e_i29_17]; exact hM.1.2.2.2.2.2)⟩⟩, fun q5 => by rw [e_i29_7]; exact hM.2 (by rw [← e_i29_5]; exact q5)⟩
          have hf31 := hO30.1
          have hP : va_P G vwCl [(y, .inr (9, [.int (zI (i29 0)), .ref (q 0), .int (zI (i29 1)), .int (zI (i29 2)), .int (zI (i29 3)), .int (zI (i29 4)), .int (zI (i29 5)), .int (zI (i29 6)), .int (zI (i29 7)), .int (zI (i29 8)), .int (zI (i29 9)), .int (zI (i29 10)), .ref (q 1), .int (zI (i29 11)), .int (zI (i29 12)), .ref (q 2), .ref (q 3), .ref (q 4), .ref (q 5), .ref (q 6), .ref (q 7), .ref (q 8), .ref (q 9), .ref (q 10), .ref (q 11), .ref (q 12), .ref (q 13), .ref (q 14), .ref (q 15), .ref (q 16), .int (zI (i29 13)), .int (zI (i29 14)), .int (zI (i29 15)), .int (zI (i29 16)), .int (zI (i29 17)), .int (zI (i29 18)), .ref (q 17), .ref (q 18), .ref (q 19), .ref (q 20)])), ((q 3), .inl (cI, 200, .inl (fun k => zI (g_now k))))] H := by subst e_i29; exact hP
          have hD : va_D A [(y, .inr (9, [.int (zI (i29 0)), .ref (q 0), .int (zI (i29 1)), .int (zI (i29 2)), .int (zI (i29 3)), .int (zI (i29 4)), .int (zI (i29 5)), .int (zI (i29 6)), .int (zI (i29 7)), .int (zI (i29 8)), .int (zI (i29 9)), .int (zI (i29 10)), .ref (q 1), .int (zI (i29 11)), .int (zI (i29 12)), .ref (q 2), .ref (q 3), .ref (q 4), .ref (q 5), .ref (q 6), .ref (q 7), .ref (q 8), .ref (q 9), .ref (q 10), .ref (q 11), .ref (q 12), .ref (q 13), .ref (q 14), .ref (q 15), .ref (q 16), .int (zI (i29 13)), .int (zI (i29 14)), .int (zI (i29 15)), .int (zI (i29 16)), .int (zI (i29 17)), .int (zI (i29 18)), .ref (q 17), .ref (q 18), .ref (q 19), .ref (q 20)])), ((q 3), .inl (cI, 200, .inl (fun k => zI (g_now k))))] := by subst e_i29; exact hD
          exact ret (zI (-1)) (fun k => [(i29, fun _ _ => 0)].getD k (fun _ => 0, fun _ _ => 0)) _ _ _ _ _ _ rfl ⟨(-1), rfl, hO30, (show i29 1 = i 1 ∧ i29 8 = i 8 ∧ i29 9 = i 9 ∧ i29 12 = i 12 ∧ i29 13 = i 13 ∧ i29 15 = i 15 ∧ i29 17 = i 17 ∧ i29 10 = i 10 from by omega)⟩ (bw_subP (isC := [0, 1]) hP rfl) (hD.sub [0, 1] (by decide) rfl) hS (Nat.le_of_ble_eq_true rfl) (Nat.le_of_ble_eq_true rfl) dX9_size_178
        · refine lv_tableIn (off := 102) (tgt := 141) hx hb dX9_size_39 (by rw [h_e]; decide) (by rw [h_e]; decide) (by rw [h_e]; decide) (by decide) ?_
          refine lv_iconst (v := zI 0) hx hb dX9_size_141 rfl ?_
          refine lv_istore_n (lv' := [(3, .int (zI 0)), (0, .ref y), (1, .int (zI x))]) hx hb dX9_size_142 rfl hl (by decide) rfl (fun ls hl => ?_)
          refine lv_iconst (v := zI 0) hx hb dX9_size_143 rfl ?_
          refine lv_istore (lv' := [(4, .int (zI 0)), (3, .int (zI 0)), (0, .ref y), (1, .int (zI x))]) hx hb dX9_size_144 hl (by decide) rfl (fun ls hl => ?_)
          refine W.widen (k := 0) (n := 0) (Nat.le_of_ble_eq_true rfl) (Nat.le_of_ble_eq_true rfl) ?_
          refine (?_ : ∀ (n9_1 : Nat) (v3 : Int) (v4 : Int) (H : Heap) (locs : List Loc), (0 ≤ v4 ∧ v4 ≤ 20) → (20 - v4 : Int).toNat < n9_1 → va_P G vwCl [(y, .inr (9, [.int (zI 0), .ref (q 0), .int (zI (i 1)), .int (zI (i 2)), .int (zI (i 3)), .int (zI (i 4)), .int (zI (i 5)), .int (zI (i 6)), .int (zI (i 7)), .int (zI (i 8)), .int (zI (i 9)), .int (zI (i 10)), .ref (q 1), .int (zI (i 11)), .int (zI (i 12)), .ref (q 2), .ref (q 3), .ref (q 4), .ref (q 5), .ref (q 6), .ref (q 7), .ref (q 8), .ref (q 9), .ref (q 10), .ref (q 11), .ref (q 12), .ref (q 13), .ref (q 14), .ref (q 15), .ref (q 16), .int (zI (i 13)), .int (zI (i 14)), .int (zI (i 15)), .int (zI (i 16)), .int (zI (i 17)), .int (zI (i 18)), .ref (q 17), .ref (q 18), .ref (q 19), .ref (q 20)])), ((q 3), .inl (cI, 200, .inl (fun k => zI (g_now k))))] H → va_D A [(y, .inr (9, [.int (zI 0), .ref (q 0), .int (zI (i 1)), .int (zI (i 2)), .int (zI (i 3)), .int (zI (i 4)), .int (zI (i 5)), .int (zI (i 6)), .int (zI (i 7)), .int (zI (i 8)), .int (zI (i 9)), .int (zI (i 10)), .ref (q 1), .int (zI (i 11)), .int (zI (i 12)), .ref (q 2), .ref (q 3), .ref (q 4), .ref (q 5), .ref (q 6), .ref (q 7), .ref (q 8), .ref (q 9), .ref (q 10), .ref (q 11), .ref (q 12), .ref (q 13), .ref (q 14), .ref (q 15), .ref (q 16), .int (zI (i 13)), .int (zI (i 14)), .int (zI (i 15)), .int (zI (i 16)), .int (zI (i 17)), .int (zI (i 18)), .ref (q 17), .ref (q 18), .ref (q 19), .ref (q 20)])), ((q 3), .inl (cI, 200, .inl (fun k => zI (g_now k))))] → va_S A s.heap H locs → ∀ ls : Array Slot, lv_has ls 5 [(4, .int (zI v4)), (3, .int (zI v3)), (0, .ref y), (1, .int (zI x))] → W p l e rm_X9_size s m ([.ref y, .int (zI x)] : List Value).toArray below meth c H locs 0 0 Q (F0 m 146 ls [])) ((20 - 0 : Int).toNat + 1) 0 0 _ _ (by omega) (by omega) hP hD hS ls hl
          clear hP hD hS hl ls
          intro n9_1
          induction n9_1 with
          | zero =>
            intro v3 v4 H locs hI hM
            exact absurd hM (by omega)
          | succ n9_1 ih1 =>
            intro v3 v4 H locs hI1 hM1  hP hD hS ls hl
            refine lv_iload hx hb dX9_size_146 (lv_at hl 0 rfl) ?_
            refine lv_iconst (v := zI 2) hx hb dX9_size_148 rfl ?_
            refine lv_aload_n hx hb dX9_size_149 rfl (lv_at hl 2 rfl) ?_
            refine r_get F hK hP 0 30 rfl rfl in_X9 (by decide) k_1193 rfl dX9_size_150 ?_
            refine r_imul (v := zI (2 * (i 13))) F dX9_size_153 (zI_mul _ _) ?_
            refine rz_icmp_ge (tgt := 175) F (by omega) (by omega) dX9_size_154 (by decide) (fun h154_31 => ?_) (fun h154_31 => ?_)
            · refine lv_iload_n hx hb dX9_size_175 rfl (lv_at hl 1 rfl) ?_
              obtain ⟨i33, e_i33⟩ : ∃ i33 : Nat → Int, i33 = fun k => [0, (i 1), (i 2), (i 3), (i 4), (i 5), (i 6), (i 7), (i 8), (i 9), (i 10), (i 11), (i 12), (i 13), (i 14), (i 15), (i 16), (i 17), (i 18)].getD k 0 := ⟨_, rfl⟩
              have e_i33_0 : i33 0 = 0 := congrFun e_i33 0
              have e_i33_1 : i33 1 = (i 1) := congrFun e_i33 1
              have e_i33_2 : i33 2 = (i 2) := congrFun e_i33 2
              have e_i33_3 : i33 3 = (i 3) := congrFun e_i33 3
              have e_i33_4 : i33 4 = (i 4) := congrFun e_i33 4
              have e_i33_5 : i33 5 = (i 5) := congrFun e_i33 5
              have e_i33_6 : i33 6 = (i 6) := congrFun e_i33 6
              have e_i33_7 : i33 7 = (i 7) := congrFun e_i33 7
              have e_i33_8 : i33 8 = (i 8) := congrFun e_i33 8
              have e_i33_9 : i33 9 = (i 9) := congrFun e_i33 9
              have e_i33_10 : i33 10 = (i 10) := congrFun e_i33 10
              have e_i33_11 : i33 11 = (i 11) := congrFun e_i33 11
              have e_i33_12 : i33 12 = (i 12) := congrFun e_i33 12
              have e_i33_13 : i33 13 = (i 13) := congrFun e_i33 13
              have e_i33_14 : i33 14 = (i 14) := congrFun e_i33 14
              have e_i33_15 : i33 15 = (i 15) := congrFun e_i33 15
              have e_i33_16 : i33 16 = (i 16) := congrFun e_i33 16
              have e_i33_17 : i33 17 = (i 17) := congrFun e_i33 17
              have e_i33_18 : i33 18 = (i 18) := congrFun e_i33 18
              have hO34 : ModOk i33 := ⟨⟨⟨(by rw [e_i33_11]; exact hM.1.1.1), (by rw [e_i33_14]; exact hM.1.1.2.1), (by rw [e_i33_16]; exact hM.1.1.2.2.1), (by rw [e_i33_7]; exact hM.1.1.2.2.2.1), (by rw [e_i33_5]; exact hM.1.1.2.2.2.2)⟩, ⟨(by rw [e_i33_1]; exact hM.1.2.1.1), (by rw [e_i33_2]; exact hM.1.2.1.2.1), (by rw [e_i33_3]; exact hM.1.2.1.2.2.1), (by rw [e_i33_4]; exact hM.1.2.1.2.2.2.1), (by rw [e_i33_6]; exact hM.1.2.1.2.2.2.2.1), (by rw [e_i33_10]; exact hM.1.2.1.2.2.2.2.2)⟩, ⟨(by rw [e_i33_12]; exact hM.1.2.2.1), (by rw [e_i33_13]; exact hM.1.2.2.2.1), (by rw [e_i33_15]; exact hM.1.2.2.2.2.1), (by rw [e_i33_17]; exact hM.1.2.2.2.2.2)⟩⟩, fun q5 => by rw [e_i33_7]; exact hM.2 (by rw [← e_i33_5]; exact q5)⟩
              have hf35 := hO34.1
              have hP : va_P G vwCl [(y, .inr (9, [.int (zI (i33 0)), .ref (q 0), .int (zI (i33 1)), .int (zI (i33 2)), .int (zI (i33 3)), .int (zI (i33 4)), .int (zI (i33 5)), .int (zI (i33 6)), .int (zI (i33 7)), .int (zI (i33 8)), .int (zI (i33 9)), .int (zI (i33 10)), .ref (q 1), .int (zI (i33 11)), .int (zI (i33 12)), .ref (q 2), .ref (q 3), .ref (q 4), .ref (q 5), .ref (q 6), .ref (q 7), .ref (q 8), .ref (q 9), .ref (q 10), .ref (q 11), .ref (q 12), .ref (q 13), .ref (q 14), .ref (q 15), .ref (q 16), .int (zI (i33 13)), .int (zI (i33 14)), .int (zI (i33 15)), .int (zI (i33 16)), .int (zI (i33 17)), .int (zI (i33 18)), .ref (q 17), .ref (q 18), .ref (q 19), .ref (q 20)])), ((q 3), .inl (cI, 200, .inl (fun k => zI (g_now k))))] H := by subst e_i33; exact hP
              have hD : va_D A [(y, .inr (9, [.int (zI (i33 0)), .ref (q 0), .int (zI (i33 1)), .int (zI (i33 2)), .int (zI (i33 3)), .int (zI (i33 4)), .int (zI (i33 5)), .int (zI (i33 6)), .int (zI (i33 7)), .int (zI (i33 8)), .int (zI (i33 9)), .int (zI (i33 10)), .ref (q 1), .int (zI (i33 11)), .int (zI (i33 12)), .ref (q 2), .ref (q 3), .ref (q 4), .ref (q 5), .ref (q 6), .ref (q 7), .ref (q 8), .ref (q 9), .ref (q 10), .ref (q 11), .ref (q 12), .ref (q 13), .ref (q 14), .ref (q 15), .ref (q 16), .int (zI (i33 13)), .int (zI (i33 14)), .int (zI (i33 15)), .int (zI (i33 16)), .int (zI (i33 17)), .int (zI (i33 18)), .ref (q 17), .ref (q 18), .ref (q 19), .ref (q 20)])), ((q 3), .inl (cI, 200, .inl (fun k => zI (g_now k))))] := by subst e_i33; exact hD
              exact ret (zI v3) (fun k => [(i33, fun _ _ => 0)].getD k (fun _ => 0, fun _ _ => 0)) _ _ _ _ _ _ rfl ⟨v3, rfl, hO34, (show i33 1 = i 1 ∧ i33 8 = i 8 ∧ i33 9 = i 9 ∧ i33 12 = i 12 ∧ i33 13 = i 13 ∧ i33 15 = i 15 ∧ i33 17 = i 17 ∧ i33 10 = i 10 from by omega)⟩ (bw_subP (isC := [0, 1]) hP rfl) (hD.sub [0, 1] (by decide) rfl) hS (Nat.le_of_ble_eq_true rfl) (Nat.le_of_ble_eq_true rfl) dX9_size_176
            · refine lv_iload_n hx hb dX9_size_157 rfl (lv_at hl 1 rfl) ?_
              refine lv_aload_n hx hb dX9_size_158 rfl (lv_at hl 2 rfl) ?_
              refine r_get F hK hP 0 16 rfl rfl in_X9 (by decide) k_1179 rfl dX9_size_159 ?_
              refine lv_iload hx hb dX9_size_162 (lv_at hl 0 rfl) ?_
              refine r_callSi (As := [.ref (q 3), .int (zI v4)]) (rest := [.int (zI v3)]) (wr := [(y, .inr (9, [.int (zI 0), .ref (q 0), .int (zI (i 1)), .int (zI (i 2)), .int (zI (i 3)), .int (zI (i 4)), .int (zI (i 5)), .int (zI (i 6)), .int (zI (i 7)), .int (zI (i 8)), .int (zI (i 9)), .int (zI (i 10)), .ref (q 1), .int (zI (i 11)), .int (zI (i 12)), .ref (q 2), .ref (q 3), .ref (q 4), .ref (q 5), .ref (q 6), .ref (q 7), .ref (q 8), .ref (q 9), .ref (q 10), .ref (q 11), .ref (q 12), .ref (q 13), .ref (q 14), .ref (q 15), .ref (q 16), .int (zI (i 13)), .int (zI (i 14)), .int (zI (i 15)), .int (zI (i 16)), .int (zI (i 17)), .int (zI (i 18)), .ref (q 17), .ref (q 18), .ref (q 19), .ref (q 20)]))]) F hK hP hD hS hA hO hE (c_X9_laid hO (q 3) g_now v4 (by omega) hpn (by omega)) k_1489 ks_X9_laid 2 rfl (by decide +kernel) ⟨Nat.le_of_ble_eq_true rfl, Nat.le_of_ble_eq_true rfl⟩ [1] [0] rfl rfl (by decide) (by decide) (by decide) hl.1 rfl (Nat.le_of_ble_eq_true rfl) dX9_size_164 ⟨Nat.le_of_ble_eq_true rfl, Nat.le_of_ble_eq_true rfl⟩ (w1 := fun u36 => [(y, .inr (9, [.int (zI 0), .ref (q 0), .int (zI (i 1)), .int (zI (i 2)), .int (zI (i 3)), .int (zI (i 4)), .int (zI (i 5)), .int (zI (i 6)), .int (zI (i 7)), .int (zI (i 8)), .int (zI (i 9)), .int (zI (i 10)), .ref (q 1), .int (zI (i 11)), .int (zI (i 12)), .ref (q 2), .ref (q 3), .ref (q 4), .ref (q 5), .ref (q 6), .ref (q 7), .ref (q 8), .ref (q 9), .ref (q 10), .ref (q 11), .ref (q 12), .ref (q 13), .ref (q 14), .ref (q 15), .ref (q 16), .int (zI (i 13)), .int (zI (i 14)), .int (zI (i 15)), .int (zI (i 16)), .int (zI (i 17)), .int (zI (i 18)), .ref (q 17), .ref (q 18), .ref (q 19), .ref (q 20)])), ((q 3), .inl (cI, 200, .inl (fun k => zI (g_now k))))]) (fun _ => rfl) (fun r37 u36 H locs hp38 hP hD hS => ?_)
              obtain ⟨z39, rfl, h_z39⟩ := hp38
              refine r_iadd (v := zI (v3 + z39)) F dX9_size_167 (zI_add _ _) ?_
              refine lv_istore_n (lv' := [(3, .int (zI (v3 + z39))), (4, .int (zI v4)), (0, .ref y), (1, .int (zI x))]) hx hb dX9_size_168 rfl hl (by decide) rfl (fun ls hl => ?_)
              refine lv_iinc (v := zI (v4 + 1)) (lv' := [(4, .int (zI (v4 + 1))), (3, .int (zI (v3 + z39))), (0, .ref y), (1, .int (zI x))]) hx hb dX9_size_169 hl (k := 1) rfl (zI_add _ _) (by decide) rfl (fun ls hl => ?_)
              refine lv_goto (tgt := 146) hx hb dX9_size_172 (by decide) ?_
              exact ih1 (v3 + z39) (v4 + 1) _ _ (by omega) (by omega) hP hD hS ls (lv_sub hl [0, 1, 2, 3] rfl)
      · refine lv_tableOut (tgt := 177) hx hb dX9_size_39 (by rw [zI_toInt (by omega)]; omega) (by decide) ?_
        refine lv_iconst (v := zI (-1)) hx hb dX9_size_177 rfl ?_
        obtain ⟨i40, e_i40⟩ : ∃ i40 : Nat → Int, i40 = fun k => [0, (i 1), (i 2), (i 3), (i 4), (i 5), (i 6), (i 7), (i 8), (i 9), (i 10), (i 11), (i 12), (i 13), (i 14), (i 15), (i 16), (i 17), (i 18)].getD k 0 := ⟨_, rfl⟩
        have e_i40_0 : i40 0 = 0 := congrFun e_i40 0
        have e_i40_1 : i40 1 = (i 1) := congrFun e_i40 1
        have e_i40_2 : i40 2 = (i 2) := congrFun e_i40 2
        have e_i40_3 : i40 3 = (i 3) := congrFun e_i40 3
        have e_i40_4 : i40 4 = (i 4) := congrFun e_i40 4
        have e_i40_5 : i40 5 = (i 5) := congrFun e_i40 5
        have e_i40_6 : i40 6 = (i 6) := congrFun e_i40 6
        have e_i40_7 : i40 7 = (i 7) := congrFun e_i40 7
        have e_i40_8 : i40 8 = (i 8) := congrFun e_i40 8
        have e_i40_9 : i40 9 = (i 9) := congrFun e_i40 9
        have e_i40_10 : i40 10 = (i 10) := congrFun e_i40 10
        have e_i40_11 : i40 11 = (i 11) := congrFun e_i40 11
        have e_i40_12 : i40 12 = (i 12) := congrFun e_i40 12
        have e_i40_13 : i40 13 = (i 13) := congrFun e_i40 13
        have e_i40_14 : i40 14 = (i 14) := congrFun e_i40 14
        have e_i40_15 : i40 15 = (i 15) := congrFun e_i40 15
        have e_i40_16 : i40 16 = (i 16) := congrFun e_i40 16
        have e_i40_17 : i40 17 = (i 17) := congrFun e_i40 17
        have e_i40_18 : i40 18 = (i 18) := congrFun e_i40 18
        have hO41 : ModOk i40 := ⟨⟨⟨(by rw [e_i40_11]; exact hM.1.1.1), (by rw [e_i40_14]; exact hM.1.1.2.1), (by rw [e_i40_16]; exact hM.1.1.2.2.1), (by rw [e_i40_7]; exact hM.1.1.2.2.2.1), (by rw [e_i40_5]; exact hM.1.1.2.2.2.2)⟩, ⟨(by rw [e_i40_1]; exact hM.1.2.1.1), (by rw [e_i40_2]; exact hM.1.2.1.2.1), (by rw [e_i40_3]; exact hM.1.2.1.2.2.1), (by rw [e_i40_4]; exact hM.1.2.1.2.2.2.1), (by rw [e_i40_6]; exact hM.1.2.1.2.2.2.2.1), (by rw [e_i40_10]; exact hM.1.2.1.2.2.2.2.2)⟩, ⟨(by rw [e_i40_12]; exact hM.1.2.2.1), (by rw [e_i40_13]; exact hM.1.2.2.2.1), (by rw [e_i40_15]; exact hM.1.2.2.2.2.1), (by rw [e_i40_17]; exact hM.1.2.2.2.2.2)⟩⟩, fun q5 => by rw [e_i40_7]; exact hM.2 (by rw [← e_i40_5]; exact q5)⟩
        have hf42 := hO41.1
        have hP : va_P G vwCl [(y, .inr (9, [.int (zI (i40 0)), .ref (q 0), .int (zI (i40 1)), .int (zI (i40 2)), .int (zI (i40 3)), .int (zI (i40 4)), .int (zI (i40 5)), .int (zI (i40 6)), .int (zI (i40 7)), .int (zI (i40 8)), .int (zI (i40 9)), .int (zI (i40 10)), .ref (q 1), .int (zI (i40 11)), .int (zI (i40 12)), .ref (q 2), .ref (q 3), .ref (q 4), .ref (q 5), .ref (q 6), .ref (q 7), .ref (q 8), .ref (q 9), .ref (q 10), .ref (q 11), .ref (q 12), .ref (q 13), .ref (q 14), .ref (q 15), .ref (q 16), .int (zI (i40 13)), .int (zI (i40 14)), .int (zI (i40 15)), .int (zI (i40 16)), .int (zI (i40 17)), .int (zI (i40 18)), .ref (q 17), .ref (q 18), .ref (q 19), .ref (q 20)])), ((q 3), .inl (cI, 200, .inl (fun k => zI (g_now k))))] H := by subst e_i40; exact hP
        have hD : va_D A [(y, .inr (9, [.int (zI (i40 0)), .ref (q 0), .int (zI (i40 1)), .int (zI (i40 2)), .int (zI (i40 3)), .int (zI (i40 4)), .int (zI (i40 5)), .int (zI (i40 6)), .int (zI (i40 7)), .int (zI (i40 8)), .int (zI (i40 9)), .int (zI (i40 10)), .ref (q 1), .int (zI (i40 11)), .int (zI (i40 12)), .ref (q 2), .ref (q 3), .ref (q 4), .ref (q 5), .ref (q 6), .ref (q 7), .ref (q 8), .ref (q 9), .ref (q 10), .ref (q 11), .ref (q 12), .ref (q 13), .ref (q 14), .ref (q 15), .ref (q 16), .int (zI (i40 13)), .int (zI (i40 14)), .int (zI (i40 15)), .int (zI (i40 16)), .int (zI (i40 17)), .int (zI (i40 18)), .ref (q 17), .ref (q 18), .ref (q 19), .ref (q 20)])), ((q 3), .inl (cI, 200, .inl (fun k => zI (g_now k))))] := by subst e_i40; exact hD
        exact ret (zI (-1)) (fun k => [(i40, fun _ _ => 0)].getD k (fun _ => 0, fun _ _ => 0)) _ _ _ _ _ _ rfl ⟨(-1), rfl, hO41, (show i40 1 = i 1 ∧ i40 8 = i 8 ∧ i40 9 = i 9 ∧ i40 12 = i 12 ∧ i40 13 = i 13 ∧ i40 15 = i 15 ∧ i40 17 = i 17 ∧ i40 10 = i 10 from by omega)⟩ (bw_subP (isC := [0, 1]) hP rfl) (hD.sub [0, 1] (by decide) rfl) hS (Nat.le_of_ble_eq_true rfl) (Nat.le_of_ble_eq_true rfl) dX9_size_178
    · refine lv_iload_n hx hb dX9_size_22 rfl (lv_at hl 1 rfl) ?_
      refine lv_iconst (v := zI 0) hx hb dX9_size_23 rfl ?_
      refine lv_bipush (v := zI 6) hx hb dX9_size_24 (by decide) ?_
      refine r_callSi (As := [.int (zI x), .int (zI 0), .int (zI 6)]) (rest := []) (wr := [(y, .inr (9, [.int (zI 0), .ref (q 0), .int (zI (i 1)), .int (zI (i 2)), .int (zI (i 3)), .int (zI (i 4)), .int (zI (i 5)), .int (zI (i 6)), .int (zI (i 7)), .int (zI (i 8)), .int (zI (i 9)), .int (zI (i 10)), .ref (q 1), .int (zI (i 11)), .int (zI (i 12)), .ref (q 2), .ref (q 3), .ref (q 4), .ref (q 5), .ref (q 6), .ref (q 7), .ref (q 8), .ref (q 9), .ref (q 10), .ref (q 11), .ref (q 12), .ref (q 13), .ref (q 14), .ref (q 15), .ref (q 16), .int (zI (i 13)), .int (zI (i 14)), .int (zI (i 15)), .int (zI (i 16)), .int (zI (i 17)), .int (zI (i 18)), .ref (q 17), .ref (q 18), .ref (q 19), .ref (q 20)])), ((q 3), .inl (cI, 200, .inl (fun k => zI (g_now k))))]) F hK hP hD hS hA hO hE (c_X9_within hO x 0 6 (by omega) (by omega) (by omega)) k_1300 ks_X9_within 3 rfl (by decide +kernel) ⟨Nat.le_of_ble_eq_true rfl, Nat.le_of_ble_eq_true rfl⟩ [] [0, 1] rfl rfl (by decide) (by decide) (by decide) hl.1 rfl (Nat.le_of_ble_eq_true rfl) dX9_size_26 ⟨Nat.le_of_ble_eq_true rfl, Nat.le_of_ble_eq_true rfl⟩ (w1 := fun u43 => [(y, .inr (9, [.int (zI 0), .ref (q 0), .int (zI (i 1)), .int (zI (i 2)), .int (zI (i 3)), .int (zI (i 4)), .int (zI (i 5)), .int (zI (i 6)), .int (zI (i 7)), .int (zI (i 8)), .int (zI (i 9)), .int (zI (i 10)), .ref (q 1), .int (zI (i 11)), .int (zI (i 12)), .ref (q 2), .ref (q 3), .ref (q 4), .ref (q 5), .ref (q 6), .ref (q 7), .ref (q 8), .ref (q 9), .ref (q 10), .ref (q 11), .ref (q 12), .ref (q 13), .ref (q 14), .ref (q 15), .ref (q 16), .int (zI (i 13)), .int (zI (i 14)), .int (zI (i 15)), .int (zI (i 16)), .int (zI (i 17)), .int (zI (i 18)), .ref (q 17), .ref (q 18), .ref (q 19), .ref (q 20)])), ((q 3), .inl (cI, 200, .inl (fun k => zI (g_now k))))]) (fun _ => rfl) (fun r44 u43 H locs hp45 hP hD hS => ?_)
      obtain ⟨z46, rfl, h_z46⟩ := hp45
      refine rz_ifb_eq (tgt := 36) F (by omega) dX9_size_29 (by decide) (fun h29_46 => ?_) (fun h29_46 => ?_)
      · have hq48 := h_z46.2.2 (by omega)
        refine lv_iconst (v := zI (-1)) hx hb dX9_size_36 rfl ?_
        obtain ⟨i49, e_i49⟩ : ∃ i49 : Nat → Int, i49 = fun k => [0, (i 1), (i 2), (i 3), (i 4), (i 5), (i 6), (i 7), (i 8), (i 9), (i 10), (i 11), (i 12), (i 13), (i 14), (i 15), (i 16), (i 17), (i 18)].getD k 0 := ⟨_, rfl⟩
        have e_i49_0 : i49 0 = 0 := congrFun e_i49 0
        have e_i49_1 : i49 1 = (i 1) := congrFun e_i49 1
        have e_i49_2 : i49 2 = (i 2) := congrFun e_i49 2
        have e_i49_3 : i49 3 = (i 3) := congrFun e_i49 3
        have e_i49_4 : i49 4 = (i 4) := congrFun e_i49 4
        have e_i49_5 : i49 5 = (i 5) := congrFun e_i49 5
        have e_i49_6 : i49 6 = (i 6) := congrFun e_i49 6
        have e_i49_7 : i49 7 = (i 7) := congrFun e_i49 7
        have e_i49_8 : i49 8 = (i 8) := congrFun e_i49 8
        have e_i49_9 : i49 9 = (i 9) := congrFun e_i49 9
        have e_i49_10 : i49 10 = (i 10) := congrFun e_i49 10
        have e_i49_11 : i49 11 = (i 11) := congrFun e_i49 11
        have e_i49_12 : i49 12 = (i 12) := congrFun e_i49 12
        have e_i49_13 : i49 13 = (i 13) := congrFun e_i49 13
        have e_i49_14 : i49 14 = (i 14) := congrFun e_i49 14
        have e_i49_15 : i49 15 = (i 15) := congrFun e_i49 15
        have e_i49_16 : i49 16 = (i 16) := congrFun e_i49 16
        have e_i49_17 : i49 17 = (i 17) := congrFun e_i49 17
        have e_i49_18 : i49 18 = (i 18) := congrFun e_i49 18
        have hO50 : ModOk i49 := ⟨⟨⟨(by rw [e_i49_11]; exact hM.1.1.1), (by rw [e_i49_14]; exact hM.1.1.2.1), (by rw [e_i49_16]; exact hM.1.1.2.2.1), (by rw [e_i49_7]; exact hM.1.1.2.2.2.1), (by rw [e_i49_5]; exact hM.1.1.2.2.2.2)⟩, ⟨(by rw [e_i49_1]; exact hM.1.2.1.1), (by rw [e_i49_2]; exact hM.1.2.1.2.1), (by rw [e_i49_3]; exact hM.1.2.1.2.2.1), (by rw [e_i49_4]; exact hM.1.2.1.2.2.2.1), (by rw [e_i49_6]; exact hM.1.2.1.2.2.2.2.1), (by rw [e_i49_10]; exact hM.1.2.1.2.2.2.2.2)⟩, ⟨(by rw [e_i49_12]; exact hM.1.2.2.1), (by rw [e_i49_13]; exact hM.1.2.2.2.1), (by rw [e_i49_15]; exact hM.1.2.2.2.2.1), (by rw [e_i49_17]; exact hM.1.2.2.2.2.2)⟩⟩, fun q5 => by rw [e_i49_7]; exact hM.2 (by rw [← e_i49_5]; exact q5)⟩
        have hf51 := hO50.1
        have hP : va_P G vwCl [(y, .inr (9, [.int (zI (i49 0)), .ref (q 0), .int (zI (i49 1)), .int (zI (i49 2)), .int (zI (i49 3)), .int (zI (i49 4)), .int (zI (i49 5)), .int (zI (i49 6)), .int (zI (i49 7)), .int (zI (i49 8)), .int (zI (i49 9)), .int (zI (i49 10)), .ref (q 1), .int (zI (i49 11)), .int (zI (i49 12)), .ref (q 2), .ref (q 3), .ref (q 4), .ref (q 5), .ref (q 6), .ref (q 7), .ref (q 8), .ref (q 9), .ref (q 10), .ref (q 11), .ref (q 12), .ref (q 13), .ref (q 14), .ref (q 15), .ref (q 16), .int (zI (i49 13)), .int (zI (i49 14)), .int (zI (i49 15)), .int (zI (i49 16)), .int (zI (i49 17)), .int (zI (i49 18)), .ref (q 17), .ref (q 18), .ref (q 19), .ref (q 20)])), ((q 3), .inl (cI, 200, .inl (fun k => zI (g_now k))))] H := by subst e_i49; exact hP
        have hD : va_D A [(y, .inr (9, [.int (zI (i49 0)), .ref (q 0), .int (zI (i49 1)), .int (zI (i49 2)), .int (zI (i49 3)), .int (zI (i49 4)), .int (zI (i49 5)), .int (zI (i49 6)), .int (zI (i49 7)), .int (zI (i49 8)), .int (zI (i49 9)), .int (zI (i49 10)), .ref (q 1), .int (zI (i49 11)), .int (zI (i49 12)), .ref (q 2), .ref (q 3), .ref (q 4), .ref (q 5), .ref (q 6), .ref (q 7), .ref (q 8), .ref (q 9), .ref (q 10), .ref (q 11), .ref (q 12), .ref (q 13), .ref (q 14), .ref (q 15), .ref (q 16), .int (zI (i49 13)), .int (zI (i49 14)), .int (zI (i49 15)), .int (zI (i49 16)), .int (zI (i49 17)), .int (zI (i49 18)), .ref (q 17), .ref (q 18), .ref (q 19), .ref (q 20)])), ((q 3), .inl (cI, 200, .inl (fun k => zI (g_now k))))] := by subst e_i49; exact hD
        exact ret (zI (-1)) (fun k => [(i49, fun _ _ => 0)].getD k (fun _ => 0, fun _ _ => 0)) _ _ _ _ _ _ rfl ⟨(-1), rfl, hO50, (show i49 1 = i 1 ∧ i49 8 = i 8 ∧ i49 9 = i 9 ∧ i49 12 = i 12 ∧ i49 13 = i 13 ∧ i49 15 = i 15 ∧ i49 17 = i 17 ∧ i49 10 = i 10 from by omega)⟩ (bw_subP (isC := [0, 1]) hP rfl) (hD.sub [0, 1] (by decide) rfl) hS (Nat.le_of_ble_eq_true rfl) (Nat.le_of_ble_eq_true rfl) dX9_size_37
      · have hq52 := h_z46.2.1 (by omega)
        refine lv_iconst (v := zI 0) hx hb dX9_size_32 rfl ?_
        refine lv_goto (tgt := 37) hx hb dX9_size_33 (by decide) ?_
        obtain ⟨i53, e_i53⟩ : ∃ i53 : Nat → Int, i53 = fun k => [0, (i 1), (i 2), (i 3), (i 4), (i 5), (i 6), (i 7), (i 8), (i 9), (i 10), (i 11), (i 12), (i 13), (i 14), (i 15), (i 16), (i 17), (i 18)].getD k 0 := ⟨_, rfl⟩
        have e_i53_0 : i53 0 = 0 := congrFun e_i53 0
        have e_i53_1 : i53 1 = (i 1) := congrFun e_i53 1
        have e_i53_2 : i53 2 = (i 2) := congrFun e_i53 2
        have e_i53_3 : i53 3 = (i 3) := congrFun e_i53 3
        have e_i53_4 : i53 4 = (i 4) := congrFun e_i53 4
        have e_i53_5 : i53 5 = (i 5) := congrFun e_i53 5
        have e_i53_6 : i53 6 = (i 6) := congrFun e_i53 6
        have e_i53_7 : i53 7 = (i 7) := congrFun e_i53 7
        have e_i53_8 : i53 8 = (i 8) := congrFun e_i53 8
        have e_i53_9 : i53 9 = (i 9) := congrFun e_i53 9
        have e_i53_10 : i53 10 = (i 10) := congrFun e_i53 10
        have e_i53_11 : i53 11 = (i 11) := congrFun e_i53 11
        have e_i53_12 : i53 12 = (i 12) := congrFun e_i53 12
        have e_i53_13 : i53 13 = (i 13) := congrFun e_i53 13
        have e_i53_14 : i53 14 = (i 14) := congrFun e_i53 14
        have e_i53_15 : i53 15 = (i 15) := congrFun e_i53 15
        have e_i53_16 : i53 16 = (i 16) := congrFun e_i53 16
        have e_i53_17 : i53 17 = (i 17) := congrFun e_i53 17
        have e_i53_18 : i53 18 = (i 18) := congrFun e_i53 18
        have hO54 : ModOk i53 := ⟨⟨⟨(by rw [e_i53_11]; exact hM.1.1.1), (by rw [e_i53_14]; exact hM.1.1.2.1), (by rw [e_i53_16]; exact hM.1.1.2.2.1), (by rw [e_i53_7]; exact hM.1.1.2.2.2.1), (by rw [e_i53_5]; exact hM.1.1.2.2.2.2)⟩, ⟨(by rw [e_i53_1]; exact hM.1.2.1.1), (by rw [e_i53_2]; exact hM.1.2.1.2.1), (by rw [e_i53_3]; exact hM.1.2.1.2.2.1), (by rw [e_i53_4]; exact hM.1.2.1.2.2.2.1), (by rw [e_i53_6]; exact hM.1.2.1.2.2.2.2.1), (by rw [e_i53_10]; exact hM.1.2.1.2.2.2.2.2)⟩, ⟨(by rw [e_i53_12]; exact hM.1.2.2.1), (by rw [e_i53_13]; exact hM.1.2.2.2.1), (by rw [e_i53_15]; exact hM.1.2.2.2.2.1), (by rw [e_i53_17]; exact hM.1.2.2.2.2.2)⟩⟩, fun q5 => by rw [e_i53_7]; exact hM.2 (by rw [← e_i53_5]; exact q5)⟩
        have hf55 := hO54.1
        have hP : va_P G vwCl [(y, .inr (9, [.int (zI (i53 0)), .ref (q 0), .int (zI (i53 1)), .int (zI (i53 2)), .int (zI (i53 3)), .int (zI (i53 4)), .int (zI (i53 5)), .int (zI (i53 6)), .int (zI (i53 7)), .int (zI (i53 8)), .int (zI (i53 9)), .int (zI (i53 10)), .ref (q 1), .int (zI (i53 11)), .int (zI (i53 12)), .ref (q 2), .ref (q 3), .ref (q 4), .ref (q 5), .ref (q 6), .ref (q 7), .ref (q 8), .ref (q 9), .ref (q 10), .ref (q 11), .ref (q 12), .ref (q 13), .ref (q 14), .ref (q 15), .ref (q 16), .int (zI (i53 13)), .int (zI (i53 14)), .int (zI (i53 15)), .int (zI (i53 16)), .int (zI (i53 17)), .int (zI (i53 18)), .ref (q 17), .ref (q 18), .ref (q 19), .ref (q 20)])), ((q 3), .inl (cI, 200, .inl (fun k => zI (g_now k))))] H := by subst e_i53; exact hP
        have hD : va_D A [(y, .inr (9, [.int (zI (i53 0)), .ref (q 0), .int (zI (i53 1)), .int (zI (i53 2)), .int (zI (i53 3)), .int (zI (i53 4)), .int (zI (i53 5)), .int (zI (i53 6)), .int (zI (i53 7)), .int (zI (i53 8)), .int (zI (i53 9)), .int (zI (i53 10)), .ref (q 1), .int (zI (i53 11)), .int (zI (i53 12)), .ref (q 2), .ref (q 3), .ref (q 4), .ref (q 5), .ref (q 6), .ref (q 7), .ref (q 8), .ref (q 9), .ref (q 10), .ref (q 11), .ref (q 12), .ref (q 13), .ref (q 14), .ref (q 15), .ref (q 16), .int (zI (i53 13)), .int (zI (i53 14)), .int (zI (i53 15)), .int (zI (i53 16)), .int (zI (i53 17)), .int (zI (i53 18)), .ref (q 17), .ref (q 18), .ref (q 19), .ref (q 20)])), ((q 3), .inl (cI, 200, .inl (fun k => zI (g_now k))))] := by subst e_i53; exact hD
        exact ret (zI 0) (fun k => [(i53, fun _ _ => 0)].getD k (fun _ => 0, fun _ _ => 0)) _ _ _ _ _ _ rfl ⟨0, rfl, hO54, (show i53 1 = i 1 ∧ i53 8 = i 8 ∧ i53 9 = i 9 ∧ i53 12 = i 12 ∧ i53 13 = i 13 ∧ i53 15 = i 15 ∧ i53 17 = i 17 ∧ i53 10 = i 10 from by omega)⟩ (bw_subP (isC := [0, 1]) hP rfl) (hD.sub [0, 1] (by decide) rfl) hS (Nat.le_of_ble_eq_true rfl) (Nat.le_of_ble_eq_true rfl) dX9_size_37
  · refine lv_aload_n hx hb dX9_size_10 rfl (lv_at hl 0 rfl) ?_
    refine r_get F hK hP 0 2 rfl rfl in_X9 (by decide) k_1165 rfl dX9_size_11 ?_
    obtain ⟨i56, e_i56⟩ : ∃ i56 : Nat → Int, i56 = fun k => [0, (i 1), (i 2), (i 3), (i 4), (i 5), (i 6), (i 7), (i 8), (i 9), (i 10), (i 11), (i 12), (i 13), (i 14), (i 15), (i 16), (i 17), (i 18)].getD k 0 := ⟨_, rfl⟩
    have e_i56_0 : i56 0 = 0 := congrFun e_i56 0
    have e_i56_1 : i56 1 = (i 1) := congrFun e_i56 1
    have e_i56_2 : i56 2 = (i 2) := congrFun e_i56 2
    have e_i56_3 : i56 3 = (i 3) := congrFun e_i56 3
    have e_i56_4 : i56 4 = (i 4) := congrFun e_i56 4
    have e_i56_5 : i56 5 = (i 5) := congrFun e_i56 5
    have e_i56_6 : i56 6 = (i 6) := congrFun e_i56 6
    have e_i56_7 : i56 7 = (i 7) := congrFun e_i56 7
    have e_i56_8 : i56 8 = (i 8) := congrFun e_i56 8
    have e_i56_9 : i56 9 = (i 9) := congrFun e_i56 9
    have e_i56_10 : i56 10 = (i 10) := congrFun e_i56 10
    have e_i56_11 : i56 11 = (i 11) := congrFun e_i56 11
    have e_i56_12 : i56 12 = (i 12) := congrFun e_i56 12
    have e_i56_13 : i56 13 = (i 13) := congrFun e_i56 13
    have e_i56_14 : i56 14 = (i 14) := congrFun e_i56 14
    have e_i56_15 : i56 15 = (i 15) := congrFun e_i56 15
    have e_i56_16 : i56 16 = (i 16) := congrFun e_i56 16
    have e_i56_17 : i56 17 = (i 17) := congrFun e_i56 17
    have e_i56_18 : i56 18 = (i 18) := congrFun e_i56 18
    have hO57 : ModOk i56 := ⟨⟨⟨(by rw [e_i56_11]; exact hM.1.1.1), (by rw [e_i56_14]; exact hM.1.1.2.1), (by rw [e_i56_16]; exact hM.1.1.2.2.1), (by rw [e_i56_7]; exact hM.1.1.2.2.2.1), (by rw [e_i56_5]; exact hM.1.1.2.2.2.2)⟩, ⟨(by rw [e_i56_1]; exact hM.1.2.1.1), (by rw [e_i56_2]; exact hM.1.2.1.2.1), (by rw [e_i56_3]; exact hM.1.2.1.2.2.1), (by rw [e_i56_4]; exact hM.1.2.1.2.2.2.1), (by rw [e_i56_6]; exact hM.1.2.1.2.2.2.2.1), (by rw [e_i56_10]; exact hM.1.2.1.2.2.2.2.2)⟩, ⟨(by rw [e_i56_12]; exact hM.1.2.2.1), (by rw [e_i56_13]; exact hM.1.2.2.2.1), (by rw [e_i56_15]; exact hM.1.2.2.2.2.1), (by rw [e_i56_17]; exact hM.1.2.2.2.2.2)⟩⟩, fun q5 => by rw [e_i56_7]; exact hM.2 (by rw [← e_i56_5]; exact q5)⟩
    have hf58 := hO57.1
    have hP : va_P G vwCl [(y, .inr (9, [.int (zI (i56 0)), .ref (q 0), .int (zI (i56 1)), .int (zI (i56 2)), .int (zI (i56 3)), .int (zI (i56 4)), .int (zI (i56 5)), .int (zI (i56 6)), .int (zI (i56 7)), .int (zI (i56 8)), .int (zI (i56 9)), .int (zI (i56 10)), .ref (q 1), .int (zI (i56 11)), .int (zI (i56 12)), .ref (q 2), .ref (q 3), .ref (q 4), .ref (q 5), .ref (q 6), .ref (q 7), .ref (q 8), .ref (q 9), .ref (q 10), .ref (q 11), .ref (q 12), .ref (q 13), .ref (q 14), .ref (q 15), .ref (q 16), .int (zI (i56 13)), .int (zI (i56 14)), .int (zI (i56 15)), .int (zI (i56 16)), .int (zI (i56 17)), .int (zI (i56 18)), .ref (q 17), .ref (q 18), .ref (q 19), .ref (q 20)])), ((q 3), .inl (cI, 200, .inl (fun k => zI (g_now k))))] H := by subst e_i56; exact hP
    have hD : va_D A [(y, .inr (9, [.int (zI (i56 0)), .ref (q 0), .int (zI (i56 1)), .int (zI (i56 2)), .int (zI (i56 3)), .int (zI (i56 4)), .int (zI (i56 5)), .int (zI (i56 6)), .int (zI (i56 7)), .int (zI (i56 8)), .int (zI (i56 9)), .int (zI (i56 10)), .ref (q 1), .int (zI (i56 11)), .int (zI (i56 12)), .ref (q 2), .ref (q 3), .ref (q 4), .ref (q 5), .ref (q 6), .ref (q 7), .ref (q 8), .ref (q 9), .ref (q 10), .ref (q 11), .ref (q 12), .ref (q 13), .ref (q 14), .ref (q 15), .ref (q 16), .int (zI (i56 13)), .int (zI (i56 14)), .int (zI (i56 15)), .int (zI (i56 16)), .int (zI (i56 17)), .int (zI (i56 18)), .ref (q 17), .ref (q 18), .ref (q 19), .ref (q 20)])), ((q 3), .inl (cI, 200, .inl (fun k => zI (g_now k))))] := by subst e_i56; exact hD
    exact ret (zI (i 1)) (fun k => [(i56, fun _ _ => 0)].getD k (fun _ => 0, fun _ _ => 0)) _ _ _ _ _ _ rfl ⟨(i 1), rfl, hO57, (show i56 1 = i 1 ∧ i56 8 = i 8 ∧ i56 9 = i 9 ∧ i56 12 = i 12 ∧ i56 13 = i 13 ∧ i56 15 = i 15 ∧ i56 17 = i 17 ∧ i56 10 = i 10 from by omega)⟩ (bw_subP (isC := [0, 1]) hP rfl) (hD.sub [0, 1] (by decide) rfl) hS (Nat.le_of_ble_eq_true rfl) (Nat.le_of_ble_eq_true rfl) dX9_size_14
theorem dX9_loop_0 : decode cX9_loop 0 = .ok (.aload_n 0, 1) := bo_42 (by decide +kernel)
theorem dX9_loop_1 : decode cX9_loop 1 = .ok (.invokevirtual 197, 3) := bo_182 0 197 (by decide +kernel)
theorem dX9_loop_4 : decode cX9_loop 4 = .ok (.iload_n 1, 1) := bo_27 (by decide +kernel)
theorem dX9_loop_5 : decode cX9_loop 5 = .ok (.iconst 1, 1) := bo_4 (by decide +kernel)
theorem dX9_loop_6 : decode cX9_loop 6 = .ok (.bipush 9, 2) := bo_16 9 (by decide +kernel)
theorem dX9_loop_8 : decode cX9_loop 8 = .ok (.invokestatic 146, 3) := bo_184 0 146 (by decide +kernel)
theorem dX9_loop_11 : decode cX9_loop 11 = .ok (.ifCond .eq 13, 3) := bo_153 0 13 (by decide +kernel)
theorem dX9_loop_24 : decode cX9_loop 24 = .ok (.aload_n 0, 1) := bo_42 (by decide +kernel)
theorem dX9_loop_25 : decode cX9_loop 25 = .ok (.iconst 2, 1) := bo_5 (by decide +kernel)
theorem dX9_loop_26 : decode cX9_loop 26 = .ok (.invokevirtual 200, 3) := bo_182 0 200 (by decide +kernel)
theorem dX9_loop_29 : decode cX9_loop 29 = .ok (.ireturn, 1) := bo_172 (by decide +kernel)
theorem dX9_loop_14 : decode cX9_loop 14 = .ok (.iload_n 2, 1) := bo_28 (by decide +kernel)
theorem dX9_loop_15 : decode cX9_loop 15 = .ok (.iconst 1, 1) := bo_4 (by decide +kernel)
theorem dX9_loop_16 : decode cX9_loop 16 = .ok (.bipush 99, 2) := bo_16 99 (by decide +kernel)
theorem dX9_loop_18 : decode cX9_loop 18 = .ok (.invokestatic 146, 3) := bo_184 0 146 (by decide +kernel)
theorem dX9_loop_21 : decode cX9_loop 21 = .ok (.ifCond .ne 9, 3) := bo_154 0 9 (by decide +kernel)
theorem dX9_loop_30 : decode cX9_loop 30 = .ok (.iload_n 1, 1) := bo_27 (by decide +kernel)
theorem dX9_loop_31 : decode cX9_loop 31 = .ok (.iconst 1, 1) := bo_4 (by decide +kernel)
theorem dX9_loop_32 : decode cX9_loop 32 = .ok (.if_icmp .ne 8, 3) := bo_160 0 8 (by decide +kernel)
theorem dX9_loop_40 : decode cX9_loop 40 = .ok (.bipush 9, 2) := bo_16 9 (by decide +kernel)
theorem dX9_loop_42 : decode cX9_loop 42 = .ok (.istore_n 3, 1) := bo_62 (by decide +kernel)
theorem dX9_loop_43 : decode cX9_loop 43 = .ok (.iload_n 1, 1) := bo_27 (by decide +kernel)
theorem dX9_loop_44 : decode cX9_loop 44 = .ok (.iload_n 2, 1) := bo_28 (by decide +kernel)
theorem dX9_loop_45 : decode cX9_loop 45 = .ok (.iload_n 3, 1) := bo_29 (by decide +kernel)
theorem dX9_loop_46 : decode cX9_loop 46 = .ok (.iadd, 1) := bo_96 (by decide +kernel)
theorem dX9_loop_47 : decode cX9_loop 47 = .ok (.iconst 1, 1) := bo_4 (by decide +kernel)
theorem dX9_loop_48 : decode cX9_loop 48 = .ok (.isub, 1) := bo_100 (by decide +kernel)
theorem dX9_loop_49 : decode cX9_loop 49 = .ok (.iload_n 3, 1) := bo_29 (by decide +kernel)
theorem dX9_loop_50 : decode cX9_loop 50 = .ok (.idiv, 1) := bo_108 (by decide +kernel)
theorem dX9_loop_51 : decode cX9_loop 51 = .ok (.imul, 1) := bo_104 (by decide +kernel)
theorem dX9_loop_52 : decode cX9_loop 52 = .ok (.ireturn, 1) := bo_172 (by decide +kernel)
theorem dX9_loop_35 : decode cX9_loop 35 = .ok (.bipush 10, 2) := bo_16 10 (by decide +kernel)
theorem dX9_loop_37 : decode cX9_loop 37 = .ok (.goto 5, 3) := bo_167 0 5 (by decide +kernel)
abbrev rm_X9_loop : Room := { frames := 1, cells := 0, slots := 0, locals := 22 }
set_option maxRecDepth 100000 in
set_option maxHeartbeats 8000000 in
theorem c_X9_loop {l : Launch} {E : (Nat → Prop) → State → Prop} (hO : bw_Ok E) {G : va_G} {cI cB cJ cN cW : ClassId} (y : Nat) (q : Nat → Nat) (i : Nat → Int) (hM : ModOk i) (x : Int) (w : Int) (hx9 : zR x) (hw9 : zR w)  : bw_Ci (S := zV) l yX9_loop (bw_ws (Cond.code yX9_loop cX9_loop 4 (some .int))) rm_X9_loop E G (bw_kt cI cB cJ cN cW) [.ref y, .int (zI x), .int (zI w)] [(y, .inr (9, [.int (zI (i 0)), .ref (q 0), .int (zI (i 1)), .int (zI (i 2)), .int (zI (i 3)), .int (zI (i 4)), .int (zI (i 5)), .int (zI (i 6)), .int (zI (i 7)), .int (zI (i 8)), .int (zI (i 9)), .int (zI (i 10)), .ref (q 1), .int (zI (i 11)), .int (zI (i 12)), .ref (q 2), .ref (q 3), .ref (q 4), .ref (q 5), .ref (q 6), .ref (q 7), .ref (q 8), .ref (q 9), .ref (q 10), .ref (q 11), .ref (q 12), .ref (q 13), .ref (q 14), .ref (q 15), .ref (q 16), .int (zI (i 13)), .int (zI (i 14)), .int (zI (i 15)), .int (zI (i 16)), .int (zI (i 17)), .int (zI (i 18)), .ref (q 17), .ref (q 18), .ref (q 19), .ref (q 20)]))] (fun r u => ∃ z : Int, r = zI z ∧ (ModOk (u 0).1) ∧ (((u 0).1 1 = i 1 ∧ (u 0).1 8 = i 8 ∧ (u 0).1 9 = i 9 ∧ (u 0).1 12 = i 12 ∧ (u 0).1 13 = i 13 ∧ (u 0).1 15 = i 15 ∧ (u 0).1 17 = i 17 ∧ (u 0).1 10 ≠ 4) ∧ z = loopZ x w)) (fun u => [(y, .inr (9, [.int (zI ((u 0).1 0)), .ref (q 0), .int (zI ((u 0).1 1)), .int (zI ((u 0).1 2)), .int (zI ((u 0).1 3)), .int (zI ((u 0).1 4)), .int (zI ((u 0).1 5)), .int (zI ((u 0).1 6)), .int (zI ((u 0).1 7)), .int (zI ((u 0).1 8)), .int (zI ((u 0).1 9)), .int (zI ((u 0).1 10)), .ref (q 1), .int (zI ((u 0).1 11)), .int (zI ((u 0).1 12)), .ref (q 2), .ref (q 3), .ref (q 4), .ref (q 5), .ref (q 6), .ref (q 7), .ref (q 8), .ref (q 9), .ref (q 10), .ref (q 11), .ref (q 12), .ref (q 13), .ref (q 14), .ref (q 15), .ref (q 16), .int (zI ((u 0).1 13)), .int (zI ((u 0).1 14)), .int (zI ((u 0).1 15)), .int (zI ((u 0).1 16)), .int (zI ((u 0).1 17)), .int (zI ((u 0).1 18)), .ref (q 17), .ref (q 18), .ref (q 19), .ref (q 20)]))]) := by
  refine bw_Ci.of (cc := cX9_loop) (maxL := 4) (ty := .int) (by decide) rfl (Nat.le_of_ble_eq_true rfl) ?_
  intro p e s m below meth c A Q hx hb hml hts hown hin hK hA hS hP hD hE ret ls hl
  have F : CallFix p m c cX9_loop 4 s ([.ref y, .int (zI x), .int (zI w)] : List Value).toArray bw_T RX9 := ⟨hx, hb, hml, hown, fun w h => hts w (List.mem_cons_of_mem _ h)⟩
  replace hl : lv_has ls 4 [(0, .ref y), (1, .int (zI x)), (2, .int (zI w))] := hl
  have hf1 := hM.1
  refine lv_aload_n hx hb dX9_loop_0 rfl (lv_at hl 0 rfl) ?_
  refine r_callVv (As := []) (rest := []) (wr := []) F hK hP hD hS hA hO hE (c_X9_good hO y q i hM) k_1296 kv_X9_good 0 rfl (by decide +kernel) ⟨Nat.le_of_ble_eq_true rfl, Nat.le_of_ble_eq_true rfl⟩ [0] [] rfl rfl (by decide) (by decide) (by decide) 0 9 rfl rfl rfl hl.1 rfl (Nat.le_of_ble_eq_true rfl) dX9_loop_1 ⟨Nat.le_of_ble_eq_true rfl, Nat.le_of_ble_eq_true rfl⟩ (w1 := fun u2 => [(y, .inr (9, [.int (zI ((u2 0).1 0)), .ref (q 0), .int (zI ((u2 0).1 1)), .int (zI ((u2 0).1 2)), .int (zI ((u2 0).1 3)), .int (zI ((u2 0).1 4)), .int (zI ((u2 0).1 5)), .int (zI ((u2 0).1 6)), .int (zI ((u2 0).1 7)), .int (zI ((u2 0).1 8)), .int (zI ((u2 0).1 9)), .int (zI ((u2 0).1 10)), .ref (q 1), .int (zI ((u2 0).1 11)), .int (zI ((u2 0).1 12)), .ref (q 2), .ref (q 3), .ref (q 4), .ref (q 5), .ref (q 6), .ref (q 7), .ref (q 8), .ref (q 9), .ref (q 10), .ref (q 11), .ref (q 12), .ref (q 13), .ref (q 14), .ref (q 15), .ref (q 16), .int (zI ((u2 0).1 13)), .int (zI ((u2 0).1 14)), .int (zI ((u2 0).1 15)), .int (zI ((u2 0).1 16)), .int (zI ((u2 0).1 17)), .int (zI ((u2 0).1 18)), .ref (q 17), .ref (q 18), .ref (q 19), .ref (q 20)]))]) (fun _ => rfl) (fun  u2 H locs hp3 hP hD hS => ?_)
  have hf4 := hp3.1.1
  refine lv_iload_n hx hb dX9_loop_4 rfl (lv_at hl 1 rfl) ?_
  refine lv_iconst (v := zI 1) hx hb dX9_loop_5 rfl ?_
  refine lv_bipush (v := zI 9) hx hb dX9_loop_6 (by decide) ?_
  refine r_callSi (As := [.int (zI x), .int (zI 1), .int (zI 9)]) (rest := []) (wr := [(y, .inr (9, [.int (zI ((u2 0).1 0)), .ref (q 0), .int (zI ((u2 0).1 1)), .int (zI ((u2 0).1 2)), .int (zI ((u2 0).1 3)), .int (zI ((u2 0).1 4)), .int (zI ((u2 0).1 5)), .int (zI ((u2 0).1 6)), .int (zI ((u2 0).1 7)), .int (zI ((u2 0).1 8)), .int (zI ((u2 0).1 9)), .int (zI ((u2 0).1 10)), .ref (q 1), .int (zI ((u2 0).1 11)), .int (zI ((u2 0).1 12)), .ref (q 2), .ref (q 3), .ref (q 4), .ref (q 5), .ref (q 6), .ref (q 7), .ref (q 8), .ref (q 9), .ref (q 10), .ref (q 11), .ref (q 12), .ref (q 13), .ref (q 14), .ref (q 15), .ref (q 16), .int (zI ((u2 0).1 13)), .int (zI ((u2 0).1 14)), .int (zI ((u2 0).1 15)), .int (zI ((u2 0).1 16)), .int (zI ((u2 0).1 17)), .int (zI ((u2 0).1 18)), .ref (q 17), .ref (q 18), .ref (q 19), .ref (q 20)]))]) F hK hP hD hS hA hO hE (c_X9_within hO x 1 9 (by omega) (by omega) (by omega)) k_1300 ks_X9_within 3 rfl (by decide +kernel) ⟨Nat.le_of_ble_eq_true rfl, Nat.le_of_ble_eq_true rfl⟩ [] [0] rfl rfl (by decide) (by decide) (by decide) hl.1 rfl (Nat.le_of_ble_eq_true rfl) dX9_loop_8 ⟨Nat.le_of_ble_eq_true rfl, Nat.le_of_ble_eq_true rfl⟩ (w1 := fun u5 => [(y, .inr (9, [.int (zI ((u2 0).1 0)), .ref (q 0), .int (zI ((u2 0).1 1)), .int (zI ((u2 0).1 2)), .int (zI ((u2 0).1 3)), .int (zI ((u2 0).1 4)), .int (zI ((u2 0).1 5)), .int (zI ((u2 0).1 6)), .int (zI ((u2 0).1 7)), .int (zI ((u2 0).1 8)), .int (zI ((u2 0).1 9)), .int (zI ((u2 0).1 10)), .ref (q 1), .int (zI ((u2 0).1 11)), .int (zI ((u2 0).1 12)), .ref (q 2), .ref (q 3), .ref (q 4), .ref (q 5), .ref (q 6), .ref (q 7), .ref (q 8), .ref (q 9), .ref (q 10), .ref (q 11), .ref (q 12), .ref (q 13), .ref (q 14), .ref (q 15), .ref (q 16), .int (zI ((u2 0).1 13)), .int (zI ((u2 0).1 14)), .int (zI ((u2 0).1 15)), .int (zI ((u2 0).1 16)), .int (zI ((u2 0).1 17)), .int (zI ((u2 0).1 18)), .ref (q 17), .ref (q 18), .ref (q 19), .ref (q 20)]))]) (fun _ => rfl) (fun r6 u5 H locs hp7 hP hD hS => ?_)
  obtain ⟨z8, rfl, h_z8⟩ := hp7
  refine rz_ifb_eq (tgt := 24) F (by omega) dX9_loop_11 (by decide) (fun h11_8 => ?_) (fun h11_8 => ?_)
  · have hq10 := h_z8.2.2 (by omega)
    refine lv_aload_n hx hb dX9_loop_24 rfl (lv_at hl 0 rfl) ?_
    refine lv_iconst (v := zI 2) hx hb dX9_loop_25 rfl ?_
    refine r_callVi (As := [.int (zI 2)]) (rest := []) (wr := []) F hK hP hD hS hA hO hE (c_X9_no hO y q ((u2 0).1) hp3.1 2 (by omega) (by omega)) k_1303 kv_X9_no 1 rfl (by decide +kernel) ⟨Nat.le_of_ble_eq_true rfl, Nat.le_of_ble_eq_true rfl⟩ [0] [] rfl rfl (by decide) (by decide) (by decide) 0 9 rfl rfl rfl hl.1 rfl (Nat.le_of_ble_eq_true rfl) dX9_loop_26 ⟨Nat.le_of_ble_eq_true rfl, Nat.le_of_ble_eq_true rfl⟩ (w1 := fun u11 => [(y, .inr (9, [.int (zI ((u11 0).1 0)), .ref (q 0), .int (zI ((u11 0).1 1)), .int (zI ((u11 0).1 2)), .int (zI ((u11 0).1 3)), .int (zI ((u11 0).1 4)), .int (zI ((u11 0).1 5)), .int (zI ((u11 0).1 6)), .int (zI ((u11 0).1 7)), .int (zI ((u11 0).1 8)), .int (zI ((u11 0).1 9)), .int (zI ((u11 0).1 10)), .ref (q 1), .int (zI ((u11 0).1 11)), .int (zI ((u11 0).1 12)), .ref (q 2), .ref (q 3), .ref (q 4), .ref (q 5), .ref (q 6), .ref (q 7), .ref (q 8), .ref (q 9), .ref (q 10), .ref (q 11), .ref (q 12), .ref (q 13), .ref (q 14), .ref (q 15), .ref (q 16), .int (zI ((u11 0).1 13)), .int (zI ((u11 0).1 14)), .int (zI ((u11 0).1 15)), .int (zI ((u11 0).1 16)), .int (zI ((u11 0).1 17)), .int (zI ((u11 0).1 18)), .ref (q 17), .ref (q 18), .ref (q 19), .ref (q 20)]))]) (fun _ => rfl) (fun r12 u11 H locs hp13 hP hD hS => ?_)
    obtain ⟨z14, rfl, h_z14⟩ := hp13
    have hf15 := h_z14.1.1
    exact ret (zI z14) (fun k => [((u11 0).1, fun _ _ => 0)].getD k (fun _ => 0, fun _ _ => 0)) _ _ _ _ _ _ rfl ⟨z14, rfl, h_z14.1, ⟨(show ((u11 0).1) 1 = i 1 ∧ ((u11 0).1) 8 = i 8 ∧ ((u11 0).1) 9 = i 9 ∧ ((u11 0).1) 12 = i 12 ∧ ((u11 0).1) 13 = i 13 ∧ ((u11 0).1) 15 = i 15 ∧ ((u11 0).1) 17 = i 17 ∧ ((u11 0).1) 10 ≠ 4 from by omega), (show z14 = loopZ x w from by unfold loopZ; rw [if_pos (by omega)]; omega)⟩⟩ (bw_subP (isC := [0]) hP rfl) (hD.sub [0] (by decide) rfl) hS (Nat.le_of_ble_eq_true rfl) (Nat.le_of_ble_eq_true rfl) dX9_loop_29
  · have hq16 := h_z8.2.1 (by omega)
    refine lv_iload_n hx hb dX9_loop_14 rfl (lv_at hl 2 rfl) ?_
    refine lv_iconst (v := zI 1) hx hb dX9_loop_15 rfl ?_
    refine lv_bipush (v := zI 99) hx hb dX9_loop_16 (by decide) ?_
    refine r_callSi (As := [.int (zI w), .int (zI 1), .int (zI 99)]) (rest := []) (wr := [(y, .inr (9, [.int (zI ((u2 0).1 0)), .ref (q 0), .int (zI ((u2 0).1 1)), .int (zI ((u2 0).1 2)), .int (zI ((u2 0).1 3)), .int (zI ((u2 0).1 4)), .int (zI ((u2 0).1 5)), .int (zI ((u2 0).1 6)), .int (zI ((u2 0).1 7)), .int (zI ((u2 0).1 8)), .int (zI ((u2 0).1 9)), .int (zI ((u2 0).1 10)), .ref (q 1), .int (zI ((u2 0).1 11)), .int (zI ((u2 0).1 12)), .ref (q 2), .ref (q 3), .ref (q 4), .ref (q 5), .ref (q 6), .ref (q 7), .ref (q 8), .ref (q 9), .ref (q 10), .ref (q 11), .ref (q 12), .ref (q 13), .ref (q 14), .ref (q 15), .ref (q 16), .int (zI ((u2 0).1 13)), .int (zI ((u2 0).1 14)), .int (zI ((u2 0).1 15)), .int (zI ((u2 0).1 16)), .int (zI ((u2 0).1 17)), .int (zI ((u2 0).1 18)), .ref (q 17), .ref (q 18), .ref (q 19), .ref (q 20)]))]) F hK hP hD hS hA hO hE (c_X9_within hO w 1 99 (by omega) (by omega) (by omega)) k_1300 ks_X9_within 3 rfl (by decide +kernel) ⟨Nat.le_of_ble_eq_true rfl, Nat.le_of_ble_eq_true rfl⟩ [] [0] rfl rfl (by decide) (by decide) (by decide) hl.1 rfl (Nat.le_of_ble_eq_true rfl) dX9_loop_18 ⟨Nat.le_of_ble_eq_true rfl, Nat.le_of_ble_eq_true rfl⟩ (w1 := fun u17 => [(y, .inr (9, [.int (zI ((u2 0).1 0)), .ref (q 0), .int (zI ((u2 0).1 1)), .int (zI ((u2 0).1 2)), .int (zI ((u2 0).1 3)), .int (zI ((u2 0).1 4)), .int (zI ((u2 0).1 5)), .int (zI ((u2 0).1 6)), .int (zI ((u2 0).1 7)), .int (zI ((u2 0).1 8)), .int (zI ((u2 0).1 9)), .int (zI ((u2 0).1 10)), .ref (q 1), .int (zI ((u2 0).1 11)), .int (zI ((u2 0).1 12)), .ref (q 2), .ref (q 3), .ref (q 4), .ref (q 5), .ref (q 6), .ref (q 7), .ref (q 8), .ref (q 9), .ref (q 10), .ref (q 11), .ref (q 12), .ref (q 13), .ref (q 14), .ref (q 15), .ref (q 16), .int (zI ((u2 0).1 13)), .int (zI ((u2 0).1 14)), .int (zI ((u2 0).1 15)), .int (zI ((u2 0).1 16)), .int (zI ((u2 0).1 17)), .int (zI ((u2 0).1 18)), .ref (q 17), .ref (q 18), .ref (q 19), .ref (q 20)]))]) (fun _ => rfl) (fun r18 u17 H locs hp19 hP hD hS => ?_)
    obtain ⟨z20, rfl, h_z20⟩ := hp19
    refine rz_ifb_ne (tgt := 30) F (by omega) dX9_loop_21 (by decide) (fun h21_20 => ?_) (fun h21_20 => ?_)
    · have hq22 := h_z20.2.1 (by omega)
      refine lv_iload_n hx hb dX9_loop_30 rfl (lv_at hl 1 rfl) ?_
      refine lv_iconst (v := zI 1) hx hb dX9_loop_31 rfl ?_
      refine rz_icmp_ne (tgt := 40) F (by omega) (by omega) dX9_loop_32 (by decide) (fun h32_22 => ?_) (fun h32_22 => ?_)
      · refine lv_bipush (v := zI 9) hx hb dX9_loop_40 (by decide) ?_
        refine lv_istore_n (lv' := [(3, .int (zI 9)), (0, .ref y), (1, .int (zI x)), (2, .int (zI w))]) hx hb dX9_loop_42 rfl hl (by decide) rfl (fun ls hl => ?_)
        refine lv_iload_n hx hb dX9_loop_43 rfl (lv_at hl 2 rfl) ?_
        refine lv_iload_n hx hb dX9_loop_44 rfl (lv_at hl 3 rfl) ?_
        refine lv_iload_n hx hb dX9_loop_45 rfl (lv_at hl 0 rfl) ?_
        refine r_iadd (v := zI (w + 9)) F dX9_loop_46 (zI_add _ _) ?_
        refine lv_iconst (v := zI 1) hx hb dX9_loop_47 rfl ?_
        refine r_isub (v := zI ((w + 9) - 1)) F dX9_loop_48 (zI_sub _ _) ?_
        refine lv_iload_n hx hb dX9_loop_49 rfl (lv_at hl 0 rfl) ?_
        refine rz_idiv F (by omega) (by omega) dX9_loop_50 (fun z25 h_z25 => ?_)
        obtain ⟨rfl, hd26⟩ := h_z25
        refine r_imul (v := zI (x * (((w + 9) - 1) / 9))) F dX9_loop_51 (zI_mul _ _) ?_
        exact ret (zI (x * (((w + 9) - 1) / 9))) (fun k => [((u2 0).1, fun _ _ => 0)].getD k (fun _ => 0, fun _ _ => 0)) _ _ _ _ _ _ rfl ⟨(x * (((w + 9) - 1) / 9)), rfl, hp3.1, ⟨(show ((u2 0).1) 1 = i 1 ∧ ((u2 0).1) 8 = i 8 ∧ ((u2 0).1) 9 = i 9 ∧ ((u2 0).1) 12 = i 12 ∧ ((u2 0).1) 13 = i 13 ∧ ((u2 0).1) 15 = i 15 ∧ ((u2 0).1) 17 = i 17 ∧ ((u2 0).1) 10 ≠ 4 from by omega), (show (x * (((w + 9) - 1) / 9)) = loopZ x w from by unfold loopZ; rw [if_neg (by omega), if_neg (by omega)])⟩⟩ (bw_subP (isC := [0]) hP rfl) (hD.sub [0] (by decide) rfl) hS (Nat.le_of_ble_eq_true rfl) (Nat.le_of_ble_eq_true rfl) dX9_loop_52
      · refine lv_bipush (v := zI 10) hx hb dX9_loop_35 (by decide) ?_
        refine lv_goto (tgt := 42) hx hb dX9_loop_37 (by decide) ?_
        refine lv_istore_n (lv' := [(3, .int (zI 10)), (0, .ref y), (1, .int (zI x)), (2, .int (zI w))]) hx hb dX9_loop_42 rfl hl (by decide) rfl (fun ls hl => ?_)
        refine lv_iload_n hx hb dX9_loop_43 rfl (lv_at hl 2 rfl) ?_
        refine lv_iload_n hx hb dX9_loop_44 rfl (lv_at hl 3 rfl) ?_
        refine lv_iload_n hx hb dX9_loop_45 rfl (lv_at hl 0 rfl) ?_
        refine r_iadd (v := zI (w + 10)) F dX9_loop_46 (zI_add _ _) ?_
        refine lv_iconst (v := zI 1) hx hb dX9_loop_47 rfl ?_
        refine r_isub (v := zI ((w + 10) - 1)) F dX9_loop_48 (zI_sub _ _) ?_
        refine lv_iload_n hx hb dX9_loop_49 rfl (lv_at hl 0 rfl) ?_
        refine rz_idiv F (by omega) (by omega) dX9_loop_50 (fun z28 h_z28 => ?_)
        obtain ⟨rfl, hd29⟩ := h_z28
        refine r_imul (v := zI (x * (((w + 10) - 1) / 10))) F dX9_loop_51 (zI_mul _ _) ?_
        exact ret (zI (x * (((w + 10) - 1) / 10))) (fun k => [((u2 0).1, fun _ _ => 0)].getD k (fun _ => 0, fun _ _ => 0)) _ _ _ _ _ _ rfl ⟨(x * (((w + 10) - 1) / 10)), rfl, hp3.1, ⟨(show ((u2 0).1) 1 = i 1 ∧ ((u2 0).1) 8 = i 8 ∧ ((u2 0).1) 9 = i 9 ∧ ((u2 0).1) 12 = i 12 ∧ ((u2 0).1) 13 = i 13 ∧ ((u2 0).1) 15 = i 15 ∧ ((u2 0).1) 17 = i 17 ∧ ((u2 0).1) 10 ≠ 4 from by omega), (show (x * (((w + 10) - 1) / 10)) = loopZ x w from by unfold loopZ; rw [if_neg (by omega), if_pos (by omega)])⟩⟩ (bw_subP (isC := [0]) hP rfl) (hD.sub [0] (by decide) rfl) hS (Nat.le_of_ble_eq_true rfl) (Nat.le_of_ble_eq_true rfl) dX9_loop_52
    · have hq30 := h_z20.2.2 (by omega)
      refine lv_aload_n hx hb dX9_loop_24 rfl (lv_at hl 0 rfl) ?_
      refine lv_iconst (v := zI 2) hx hb dX9_loop_25 rfl ?_
      refine r_callVi (As := [.int (zI 2)]) (rest := []) (wr := []) F hK hP hD hS hA hO hE (c_X9_no hO y q ((u2 0).1) hp3.1 2 (by omega) (by omega)) k_1303 kv_X9_no 1 rfl (by decide +kernel) ⟨Nat.le_of_ble_eq_true rfl, Nat.le_of_ble_eq_true rfl⟩ [0] [] rfl rfl (by decide) (by decide) (by decide) 0 9 rfl rfl rfl hl.1 rfl (Nat.le_of_ble_eq_true rfl) dX9_loop_26 ⟨Nat.le_of_ble_eq_true rfl, Nat.le_of_ble_eq_true rfl⟩ (w1 := fun u31 => [(y, .inr (9, [.int (zI ((u31 0).1 0)), .ref (q 0), .int (zI ((u31 0).1 1)), .int (zI ((u31 0).1 2)), .int (zI ((u31 0).1 3)), .int (zI ((u31 0).1 4)), .int (zI ((u31 0).1 5)), .int (zI ((u31 0).1 6)), .int (zI ((u31 0).1 7)), .int (zI ((u31 0).1 8)), .int (zI ((u31 0).1 9)), .int (zI ((u31 0).1 10)), .ref (q 1), .int (zI ((u31 0).1 11)), .int (zI ((u31 0).1 12)), .ref (q 2), .ref (q 3), .ref (q 4), .ref (q 5), .ref (q 6), .ref (q 7), .ref (q 8), .ref (q 9), .ref (q 10), .ref (q 11), .ref (q 12), .ref (q 13), .ref (q 14), .ref (q 15), .ref (q 16), .int (zI ((u31 0).1 13)), .int (zI ((u31 0).1 14)), .int (zI ((u31 0).1 15)), .int (zI ((u31 0).1 16)), .int (zI ((u31 0).1 17)), .int (zI ((u31 0).1 18)), .ref (q 17), .ref (q 18), .ref (q 19), .ref (q 20)]))]) (fun _ => rfl) (fun r32 u31 H locs hp33 hP hD hS => ?_)
      obtain ⟨z34, rfl, h_z34⟩ := hp33
      have hf35 := h_z34.1.1
      exact ret (zI z34) (fun k => [((u31 0).1, fun _ _ => 0)].getD k (fun _ => 0, fun _ _ => 0)) _ _ _ _ _ _ rfl ⟨z34, rfl, h_z34.1, ⟨(show ((u31 0).1) 1 = i 1 ∧ ((u31 0).1) 8 = i 8 ∧ ((u31 0).1) 9 = i 9 ∧ ((u31 0).1) 12 = i 12 ∧ ((u31 0).1) 13 = i 13 ∧ ((u31 0).1) 15 = i 15 ∧ ((u31 0).1) 17 = i 17 ∧ ((u31 0).1) 10 ≠ 4 from by omega), (show z34 = loopZ x w from by unfold loopZ; rw [if_pos (by omega)]; omega)⟩⟩ (bw_subP (isC := [0]) hP rfl) (hD.sub [0] (by decide) rfl) hS (Nat.le_of_ble_eq_true rfl) (Nat.le_of_ble_eq_true rfl) dX9_loop_29
