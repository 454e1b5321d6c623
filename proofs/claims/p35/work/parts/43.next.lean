theorem dX9_next_0 : decode cX9_next 0 = .ok (.aload_n 0, 1) := by decide +kernel
theorem dX9_next_1 : decode cX9_next 1 = .ok (.getfield 89, 3) := by decide +kernel
theorem k_1168 : Cond.fieldLink RX9 89 "BurntWaysModel" "end" "I" ∈ bw_T := bw_m 1168 (by decide +kernel) rfl
theorem dX9_next_4 : decode cX9_next 4 = .ok (.istore_n 1, 1) := by decide +kernel
theorem dX9_next_5 : decode cX9_next 5 = .ok (.aload_n 0, 1) := by decide +kernel
theorem dX9_next_6 : decode cX9_next 6 = .ok (.iload_n 1, 1) := by decide +kernel
theorem dX9_next_7 : decode cX9_next 7 = .ok (.invokevirtual 92, 3) := by decide +kernel
theorem k_1307 : Cond.methodLink RX9 92 yX9_look ∈ bw_T := bw_m 1307 (by decide +kernel) rfl
theorem kv_X9_look : bw_KV RX9 yX9_look (Cond.code yX9_look cX9_look 2 (some .int)) := ⟨bw_m 1309 (by decide +kernel) rfl, bw_m 47 (by decide +kernel) rfl, bw_m 107 (by decide +kernel) rfl, bw_m 1310 (by decide +kernel) rfl⟩
theorem dX9_next_10 : decode cX9_next 10 = .ok (.bipush 32, 2) := by decide +kernel
theorem dX9_next_12 : decode cX9_next 12 = .ok (.if_icmp .ne 9, 3) := by decide +kernel
theorem dX9_next_21 : decode cX9_next 21 = .ok (.aload_n 0, 1) := by decide +kernel
theorem dX9_next_22 : decode cX9_next 22 = .ok (.iload_n 1, 1) := by decide +kernel
theorem dX9_next_23 : decode cX9_next 23 = .ok (.putfield 96, 3) := by decide +kernel
theorem k_1167 : Cond.fieldLink RX9 96 "BurntWaysModel" "at" "I" ∈ bw_T := bw_m 1167 (by decide +kernel) rfl
theorem dX9_next_26 : decode cX9_next 26 = .ok (.aload_n 0, 1) := by decide +kernel
theorem dX9_next_27 : decode cX9_next 27 = .ok (.iload_n 1, 1) := by decide +kernel
theorem dX9_next_28 : decode cX9_next 28 = .ok (.invokevirtual 92, 3) := by decide +kernel
theorem dX9_next_31 : decode cX9_next 31 = .ok (.istore_n 2, 1) := by decide +kernel
theorem dX9_next_32 : decode cX9_next 32 = .ok (.aload_n 0, 1) := by decide +kernel
theorem dX9_next_33 : decode cX9_next 33 = .ok (.iconst 0, 1) := by decide +kernel
theorem dX9_next_34 : decode cX9_next 34 = .ok (.putfield 99, 3) := by decide +kernel
theorem k_1171 : Cond.fieldLink RX9 99 "BurntWaysModel" "nameSize" "I" ∈ bw_T := bw_m 1171 (by decide +kernel) rfl
theorem dX9_next_37 : decode cX9_next 37 = .ok (.aload_n 0, 1) := by decide +kernel
theorem dX9_next_38 : decode cX9_next 38 = .ok (.iconst 0, 1) := by decide +kernel
theorem dX9_next_39 : decode cX9_next 39 = .ok (.putfield 102, 3) := by decide +kernel
theorem k_1170 : Cond.fieldLink RX9 102 "BurntWaysModel" "whole" "I" ∈ bw_T := bw_m 1170 (by decide +kernel) rfl
theorem dX9_next_42 : decode cX9_next 42 = .ok (.iload_n 2, 1) := by decide +kernel
theorem dX9_next_43 : decode cX9_next 43 = .ok (.iconst (-1), 1) := by decide +kernel
theorem dX9_next_44 : decode cX9_next 44 = .ok (.if_icmp .ne 16, 3) := by decide +kernel
theorem dX9_next_60 : decode cX9_next 60 = .ok (.iload_n 2, 1) := by decide +kernel
theorem dX9_next_61 : decode cX9_next 61 = .ok (.invokestatic 108, 3) := by decide +kernel
theorem k_1311 : Cond.methodLink RX9 108 yX9_isSmall ∈ bw_T := bw_m 1311 (by decide +kernel) rfl
theorem ks_X9_isSmall : bw_KS RX9 yX9_isSmall (Cond.code yX9_isSmall cX9_isSmall 1 (some .boolean)) := ⟨bw_m 1312 (by decide +kernel) rfl, bw_m 107 (by decide +kernel) rfl, bw_m 1313 (by decide +kernel) rfl⟩
theorem dX9_next_64 : decode cX9_next 64 = .ok (.ifCond .eq 79, 3) := by decide +kernel
theorem dX9_next_143 : decode cX9_next 143 = .ok (.iload_n 2, 1) := by decide +kernel
theorem dX9_next_144 : decode cX9_next 144 = .ok (.invokestatic 112, 3) := by decide +kernel
theorem k_1314 : Cond.methodLink RX9 112 yX9_isDigit ∈ bw_T := bw_m 1314 (by decide +kernel) rfl
theorem ks_X9_isDigit : bw_KS RX9 yX9_isDigit (Cond.code yX9_isDigit cX9_isDigit 1 (some .boolean)) := ⟨bw_m 1315 (by decide +kernel) rfl, bw_m 107 (by decide +kernel) rfl, bw_m 1316 (by decide +kernel) rfl⟩
theorem dX9_next_147 : decode cX9_next 147 = .ok (.ifCond .eq 72, 3) := by decide +kernel
theorem dX9_next_219 : decode cX9_next 219 = .ok (.aload_n 0, 1) := by decide +kernel
theorem dX9_next_220 : decode cX9_next 220 = .ok (.iload_n 1, 1) := by decide +kernel
theorem dX9_next_221 : decode cX9_next 221 = .ok (.iconst 1, 1) := by decide +kernel
theorem dX9_next_222 : decode cX9_next 222 = .ok (.iadd, 1) := by decide +kernel
theorem dX9_next_223 : decode cX9_next 223 = .ok (.putfield 89, 3) := by decide +kernel
theorem dX9_next_226 : decode cX9_next 226 = .ok (.aload_n 0, 1) := by decide +kernel
theorem dX9_next_227 : decode cX9_next 227 = .ok (.iload_n 2, 1) := by decide +kernel
theorem dX9_next_228 : decode cX9_next 228 = .ok (.bipush 59, 2) := by decide +kernel
theorem dX9_next_230 : decode cX9_next 230 = .ok (.if_icmp .eq 9, 3) := by decide +kernel
theorem dX9_next_239 : decode cX9_next 239 = .ok (.iload_n 2, 1) := by decide +kernel
theorem dX9_next_240 : decode cX9_next 240 = .ok (.goto 4, 3) := by decide +kernel
theorem dX9_next_244 : decode cX9_next 244 = .ok (.putfield 105, 3) := by decide +kernel
theorem k_1169 : Cond.fieldLink RX9 105 "BurntWaysModel" "token" "I" ∈ bw_T := bw_m 1169 (by decide +kernel) rfl
theorem dX9_next_247 : decode cX9_next 247 = .ok (.return_, 1) := by decide +kernel
theorem dX9_next_233 : decode cX9_next 233 = .ok (.iload_n 2, 1) := by decide +kernel
theorem dX9_next_234 : decode cX9_next 234 = .ok (.bipush 44, 2) := by decide +kernel
theorem dX9_next_236 : decode cX9_next 236 = .ok (.if_icmp .ne 7, 3) := by decide +kernel
theorem dX9_next_243 : decode cX9_next 243 = .ok (.iconst 1, 1) := by decide +kernel
theorem dX9_next_150 : decode cX9_next 150 = .ok (.iconst 0, 1) := by decide +kernel
theorem dX9_next_151 : decode cX9_next 151 = .ok (.istore_n 3, 1) := by decide +kernel
theorem dX9_next_152 : decode cX9_next 152 = .ok (.aload_n 0, 1) := by decide +kernel
theorem dX9_next_153 : decode cX9_next 153 = .ok (.iload_n 1, 1) := by decide +kernel
theorem dX9_next_154 : decode cX9_next 154 = .ok (.invokevirtual 92, 3) := by decide +kernel
theorem dX9_next_157 : decode cX9_next 157 = .ok (.invokestatic 112, 3) := by decide +kernel
theorem dX9_next_160 : decode cX9_next 160 = .ok (.ifCond .eq 37, 3) := by decide +kernel
theorem dX9_next_197 : decode cX9_next 197 = .ok (.aload_n 0, 1) := by decide +kernel
theorem dX9_next_198 : decode cX9_next 198 = .ok (.iload_n 1, 1) := by decide +kernel
theorem dX9_next_199 : decode cX9_next 199 = .ok (.putfield 89, 3) := by decide +kernel
theorem dX9_next_202 : decode cX9_next 202 = .ok (.aload_n 0, 1) := by decide +kernel
theorem dX9_next_203 : decode cX9_next 203 = .ok (.iload_n 3, 1) := by decide +kernel
theorem dX9_next_204 : decode cX9_next 204 = .ok (.iconst 3, 1) := by decide +kernel
theorem dX9_next_205 : decode cX9_next 205 = .ok (.if_icmp .le 7, 3) := by decide +kernel
theorem dX9_next_212 : decode cX9_next 212 = .ok (.iconst 3, 1) := by decide +kernel
theorem dX9_next_213 : decode cX9_next 213 = .ok (.putfield 105, 3) := by decide +kernel
theorem dX9_next_216 : decode cX9_next 216 = .ok (.goto 31, 3) := by decide +kernel
theorem dX9_next_208 : decode cX9_next 208 = .ok (.iconst 1, 1) := by decide +kernel
theorem dX9_next_209 : decode cX9_next 209 = .ok (.goto 4, 3) := by decide +kernel
theorem dX9_next_163 : decode cX9_next 163 = .ok (.iload_n 3, 1) := by decide +kernel
theorem dX9_next_164 : decode cX9_next 164 = .ok (.iconst 3, 1) := by decide +kernel
theorem dX9_next_165 : decode cX9_next 165 = .ok (.if_icmp .ge 23, 3) := by decide +kernel
theorem dX9_next_188 : decode cX9_next 188 = .ok (.iinc 3 1, 3) := by decide +kernel
theorem dX9_next_191 : decode cX9_next 191 = .ok (.iinc 1 1, 3) := by decide +kernel
theorem dX9_next_194 : decode cX9_next 194 = .ok (.goto (-42), 3) := by decide +kernel
theorem dX9_next_168 : decode cX9_next 168 = .ok (.aload_n 0, 1) := by decide +kernel
theorem dX9_next_169 : decode cX9_next 169 = .ok (.bipush 10, 2) := by decide +kernel
theorem dX9_next_171 : decode cX9_next 171 = .ok (.aload_n 0, 1) := by decide +kernel
theorem dX9_next_172 : decode cX9_next 172 = .ok (.getfield 102, 3) := by decide +kernel
theorem dX9_next_175 : decode cX9_next 175 = .ok (.imul, 1) := by decide +kernel
theorem dX9_next_176 : decode cX9_next 176 = .ok (.aload_n 0, 1) := by decide +kernel
theorem dX9_next_177 : decode cX9_next 177 = .ok (.iload_n 1, 1) := by decide +kernel
theorem dX9_next_178 : decode cX9_next 178 = .ok (.invokevirtual 92, 3) := by decide +kernel
theorem dX9_next_181 : decode cX9_next 181 = .ok (.iadd, 1) := by decide +kernel
theorem dX9_next_182 : decode cX9_next 182 = .ok (.bipush 48, 2) := by decide +kernel
theorem dX9_next_184 : decode cX9_next 184 = .ok (.isub, 1) := by decide +kernel
theorem dX9_next_185 : decode cX9_next 185 = .ok (.putfield 102, 3) := by decide +kernel
theorem dX9_next_67 : decode cX9_next 67 = .ok (.aload_n 0, 1) := by decide +kernel
theorem dX9_next_68 : decode cX9_next 68 = .ok (.iload_n 1, 1) := by decide +kernel
theorem dX9_next_69 : decode cX9_next 69 = .ok (.invokevirtual 92, 3) := by decide +kernel
theorem dX9_next_72 : decode cX9_next 72 = .ok (.invokestatic 108, 3) := by decide +kernel
theorem dX9_next_75 : decode cX9_next 75 = .ok (.ifCond .eq 42, 3) := by decide +kernel
theorem dX9_next_117 : decode cX9_next 117 = .ok (.aload_n 0, 1) := by decide +kernel
theorem dX9_next_118 : decode cX9_next 118 = .ok (.iload_n 1, 1) := by decide +kernel
theorem dX9_next_119 : decode cX9_next 119 = .ok (.putfield 89, 3) := by decide +kernel
theorem dX9_next_122 : decode cX9_next 122 = .ok (.aload_n 0, 1) := by decide +kernel
theorem dX9_next_123 : decode cX9_next 123 = .ok (.aload_n 0, 1) := by decide +kernel
theorem dX9_next_124 : decode cX9_next 124 = .ok (.getfield 99, 3) := by decide +kernel
theorem dX9_next_127 : decode cX9_next 127 = .ok (.bipush 8, 2) := by decide +kernel
theorem dX9_next_129 : decode cX9_next 129 = .ok (.if_icmp .le 7, 3) := by decide +kernel
theorem dX9_next_136 : decode cX9_next 136 = .ok (.iconst 2, 1) := by decide +kernel
theorem dX9_next_137 : decode cX9_next 137 = .ok (.putfield 105, 3) := by decide +kernel
theorem dX9_next_140 : decode cX9_next 140 = .ok (.goto 107, 3) := by decide +kernel
theorem dX9_next_132 : decode cX9_next 132 = .ok (.iconst 1, 1) := by decide +kernel
theorem dX9_next_133 : decode cX9_next 133 = .ok (.goto 4, 3) := by decide +kernel
theorem dX9_next_78 : decode cX9_next 78 = .ok (.aload_n 0, 1) := by decide +kernel
theorem dX9_next_79 : decode cX9_next 79 = .ok (.getfield 99, 3) := by decide +kernel
theorem dX9_next_82 : decode cX9_next 82 = .ok (.bipush 8, 2) := by decide +kernel
theorem dX9_next_84 : decode cX9_next 84 = .ok (.if_icmp .ge 17, 3) := by decide +kernel
theorem dX9_next_101 : decode cX9_next 101 = .ok (.aload_n 0, 1) := by decide +kernel
theorem dX9_next_102 : decode cX9_next 102 = .ok (.dup, 1) := by decide +kernel
theorem dX9_next_103 : decode cX9_next 103 = .ok (.getfield 99, 3) := by decide +kernel
theorem dX9_next_106 : decode cX9_next 106 = .ok (.iconst 1, 1) := by decide +kernel
theorem dX9_next_107 : decode cX9_next 107 = .ok (.iadd, 1) := by decide +kernel
theorem dX9_next_108 : decode cX9_next 108 = .ok (.putfield 99, 3) := by decide +kernel
theorem dX9_next_111 : decode cX9_next 111 = .ok (.iinc 1 1, 3) := by decide +kernel
theorem dX9_next_114 : decode cX9_next 114 = .ok (.goto (-47), 3) := by decide +kernel
theorem dX9_next_87 : decode cX9_next 87 = .ok (.aload_n 0, 1) := by decide +kernel
theorem dX9_next_88 : decode cX9_next 88 = .ok (.getfield 17, 3) := by decide +kernel
theorem k_1175 : Cond.fieldLink RX9 17 "BurntWaysModel" "letters" "[I" ∈ bw_T := bw_m 1175 (by decide +kernel) rfl
theorem dX9_next_91 : decode cX9_next 91 = .ok (.aload_n 0, 1) := by decide +kernel
theorem dX9_next_92 : decode cX9_next 92 = .ok (.getfield 99, 3) := by decide +kernel
theorem dX9_next_95 : decode cX9_next 95 = .ok (.aload_n 0, 1) := by decide +kernel
theorem dX9_next_96 : decode cX9_next 96 = .ok (.iload_n 1, 1) := by decide +kernel
theorem dX9_next_97 : decode cX9_next 97 = .ok (.invokevirtual 92, 3) := by decide +kernel
theorem dX9_next_100 : decode cX9_next 100 = .ok (.iastore, 1) := by decide +kernel
theorem dX9_next_47 : decode cX9_next 47 = .ok (.aload_n 0, 1) := by decide +kernel
theorem dX9_next_48 : decode cX9_next 48 = .ok (.iconst 0, 1) := by decide +kernel
theorem dX9_next_49 : decode cX9_next 49 = .ok (.putfield 105, 3) := by decide +kernel
theorem dX9_next_52 : decode cX9_next 52 = .ok (.aload_n 0, 1) := by decide +kernel
theorem dX9_next_53 : decode cX9_next 53 = .ok (.iload_n 1, 1) := by decide +kernel
theorem dX9_next_54 : decode cX9_next 54 = .ok (.putfield 89, 3) := by decide +kernel
theorem dX9_next_57 : decode cX9_next 57 = .ok (.goto 190, 3) := by decide +kernel
theorem dX9_next_15 : decode cX9_next 15 = .ok (.iinc 1 1, 3) := by decide +kernel
theorem dX9_next_18 : decode cX9_next 18 = .ok (.goto (-13), 3) := by decide +kernel
abbrev rm_X9_next : Room := { frames := 1, cells := 0, slots := 0, locals := 21 }
set_option maxRecDepth 100000 in
set_option maxHeartbeats 8000000 in
theorem c_X9_next {l : Launch} {E : (Nat → Prop) → State → Prop} (hO : bw_Ok E) {G : va_G} {cI cB cJ cN cW : ClassId} (y : Nat) (q : Nat → Nat) (i : Nat → Int) (hM : ModS i) (g_tape : Nat → Int) (hr_tape : ∀ k, k < 900 → (-2147483648) ≤ g_tape k ∧ g_tape k ≤ 2147483647) (g_letters : Nat → Int) (hr_letters : ∀ k, k < 8 → (-2147483648) ≤ g_letters k ∧ g_letters k ≤ 2147483647)  : bw_Cv (S := zV) l yX9_next (bw_ws (Cond.code yX9_next cX9_next 4 none)) rm_X9_next E G (bw_kt cI cB cJ cN cW) [.ref y] [(y, .inr (9, [.int (zI (i 0)), .ref (q 0), .int (zI (i 1)), .int (zI (i 2)), .int (zI (i 3)), .int (zI (i 4)), .int (zI (i 5)), .int (zI (i 6)), .int (zI (i 7)), .int (zI (i 8)), .int (zI (i 9)), .int (zI (i 10)), .ref (q 1), .int (zI (i 11)), .int (zI (i 12)), .ref (q 2), .ref (q 3), .ref (q 4), .ref (q 5), .ref (q 6), .ref (q 7), .ref (q 8), .ref (q 9), .ref (q 10), .ref (q 11), .ref (q 12), .ref (q 13), .ref (q 14), .ref (q 15), .ref (q 16), .int (zI (i 13)), .int (zI (i 14)), .int (zI (i 15)), .int (zI (i 16)), .int (zI (i 17)), .int (zI (i 18)), .ref (q 17), .ref (q 18), .ref (q 19), .ref (q 20)])), ((q 0), .inl (cI, 900, .inl (fun k => zI (g_tape k)))), ((q 1), .inl (cI, 8, .inl (fun k => zI (g_letters k))))] (fun u => (ModOk (u 0).1) ∧ (∀ k, k < 8 → (-2147483648) ≤ ((u 1).2 0) k ∧ ((u 1).2 0) k ≤ 2147483647) ∧ ((u 0).1 11 = i 11 ∧ i 4 ≤ (u 0).1 4 ∧ (u 0).1 1 = i 1 ∧ ((u 0).1 5 ≠ 0 → i 4 < (u 0).1 4) ∧ (u 0).1 14 = i 14 ∧ (u 0).1 16 = i 16)) (fun u => [(y, .inr (9, [.int (zI ((u 0).1 0)), .ref (q 0), .int (zI ((u 0).1 1)), .int (zI ((u 0).1 2)), .int (zI ((u 0).1 3)), .int (zI ((u 0).1 4)), .int (zI ((u 0).1 5)), .int (zI ((u 0).1 6)), .int (zI ((u 0).1 7)), .int (zI ((u 0).1 8)), .int (zI ((u 0).1 9)), .int (zI ((u 0).1 10)), .ref (q 1), .int (zI ((u 0).1 11)), .int (zI ((u 0).1 12)), .ref (q 2), .ref (q 3), .ref (q 4), .ref (q 5), .ref (q 6), .ref (q 7), .ref (q 8), .ref (q 9), .ref (q 10), .ref (q 11), .ref (q 12), .ref (q 13), .ref (q 14), .ref (q 15), .ref (q 16), .int (zI ((u 0).1 13)), .int (zI ((u 0).1 14)), .int (zI ((u 0).1 15)), .int (zI ((u 0).1 16)), .int (zI ((u 0).1 17)), .int (zI ((u 0).1 18)), .ref (q 17), .ref (q 18), .ref (q 19), .ref (q 20)])), ((q 0), .inl (cI, 900, .inl (fun k => zI (g_tape k)))), ((q 1), .inl (cI, 8, .inl (fun k => zI (((u 1).2 0) k))))]) := by
  refine bw_Cv.of (cc := cX9_next) (maxL := 4) (by decide) rfl (Nat.le_of_ble_eq_true rfl) ?_
  intro p e s m below meth c A Q hx hb hml hts hown hin hK hA hS hP hD hE ret ls hl
  have F : CallFix p m c cX9_next 4 s ([.ref y] : List Value).toArray bw_T RX9 := ⟨hx, hb, hml, hown, fun w h => hts w (List.mem_cons_of_mem _ h)⟩
  replace hl : lv_has ls 4 [(0, .ref y)] := hl
  have hf1 := hM
  refine lv_aload_n hx hb dX9_next_0 rfl (lv_at hl 0 rfl) ?_
  refine r_get F hK hP 0 5 rfl rfl in_X9 (by decide) k_1168 rfl dX9_next_1 ?_
  refine lv_istore_n (lv' := [(1, .int (zI (i 4))), (0, .ref y)]) hx hb dX9_next_4 rfl hl (by decide) rfl (fun ls hl => ?_)
  refine W.widen (k := 0) (n := 0) (Nat.le_of_ble_eq_true rfl) (Nat.le_of_ble_eq_true rfl) ?_
  refine (?_ : ∀ (n9_1 : Nat) (v1 : Int) (H : Heap) (locs : List Loc), (i 4 ≤ v1 ∧ v1 ≤ 900) → (901 - v1 : Int).toNat < n9_1 → va_P G vwCl [(y, .inr (9, [.int (zI (i 0)), .ref (q 0), .int (zI (i 1)), .int (zI (i 2)), .int (zI (i 3)), .int (zI (i 4)), .int (zI (i 5)), .int (zI (i 6)), .int (zI (i 7)), .int (zI (i 8)), .int (zI (i 9)), .int (zI (i 10)), .ref (q 1), .int (zI (i 11)), .int (zI (i 12)), .ref (q 2), .ref (q 3), .ref (q 4), .ref (q 5), .ref (q 6), .ref (q 7), .ref (q 8), .ref (q 9), .ref (q 10), .ref (q 11), .ref (q 12), .ref (q 13), .ref (q 14), .ref (q 15), .ref (q 16), .int (zI (i 13)), .int (zI (i 14)), .int (zI (i 15)), .int (zI (i 16)), .int (zI (i 17)), .int (zI (i 18)), .ref (q 17), .ref (q 18), .ref (q 19), .ref (q 20)])), ((q 0), .inl (cI, 900, .inl (fun k => zI (g_tape k)))), ((q 1), .inl (cI, 8, .inl (fun k => zI (g_letters k))))] H → va_D A [(y, .inr (9, [.int (zI (i 0)), .ref (q 0), .int (zI (i 1)), .int (zI (i 2)), .int (zI (i 3)), .int (zI (i 4)), .int (zI (i 5)), .int (zI (i 6)), .int (zI (i 7)), .int (zI (i 8)), .int (zI (i 9)), .int (zI (i 10)), .ref (q 1), .int (zI (i 11)), .int (zI (i 12)), .ref (q 2), .ref (q 3), .ref (q 4), .ref (q 5), .ref (q 6), .ref (q 7), .ref (q 8), .ref (q 9), .ref (q 10), .ref (q 11), .ref (q 12), .ref (q 13), .ref (q 14), .ref (q 15), .ref (q 16), .int (zI (i 13)), .int (zI (i 14)), .int (zI (i 15)), .int (zI (i 16)), .int (zI (i 17)), .int (zI (i 18)), .ref (q 17), .ref (q 18), .ref (q 19), .ref (q 20)])), ((q 0), .inl (cI, 900, .inl (fun k => zI (g_tape k)))), ((q 1), .inl (cI, 8, .inl (fun k => zI (g_letters k))))] → va_S A s.heap H locs → ∀ ls : Array Slot, lv_has ls 4 [(1, .int (zI v1)), (0, .ref y)] → W p l e rm_X9_next s m ([.ref y] : List Value).toArray below meth c H locs 0 0 Q (F0 m 5 ls [])) ((901 - (i 4) : Int).toNat + 1) (i 4) _ _ (by omega) (by omega) hP hD hS ls hl
  clear hP hD hS hl ls
  intro n9_1
  induction n9_1 with
  | zero =>
    intro v1 H locs hI hM
    exact absurd hM (by omega)
  | succ n9_1 ih1 =>
    intro v1 H locs hI1 hM1  hP hD hS ls hl
    refine lv_aload_n hx hb dX9_next_5 rfl (lv_at hl 1 rfl) ?_
    refine lv_iload_n hx hb dX9_next_6 rfl (lv_at hl 0 rfl) ?_
    refine r_callVi (As := [.int (zI v1)]) (rest := []) (wr := [((q 1), .inl (cI, 8, .inl (fun k => zI (g_letters k))))]) F hK hP hD hS hA hO hE (c_X9_look hO y q i hM g_tape hr_tape v1 (by omega) (by omega)) k_1307 kv_X9_look 1 rfl (by decide +kernel) ⟨Nat.le_of_ble_eq_true rfl, Nat.le_of_ble_eq_true rfl⟩ [0, 1] [2] rfl rfl (by decide) (by decide) (by decide) 0 9 rfl rfl rfl hl.1 rfl (Nat.le_of_ble_eq_true rfl) dX9_next_7 ⟨Nat.le_of_ble_eq_true rfl, Nat.le_of_ble_eq_true rfl⟩ (w1 := fun u2 => [((q 1), .inl (cI, 8, .inl (fun k => zI (g_letters k)))), (y, .inr (9, [.int (zI (i 0)), .ref (q 0), .int (zI (i 1)), .int (zI (i 2)), .int (zI (i 3)), .int (zI (i 4)), .int (zI (i 5)), .int (zI (i 6)), .int (zI (i 7)), .int (zI (i 8)), .int (zI (i 9)), .int (zI (i 10)), .ref (q 1), .int (zI (i 11)), .int (zI (i 12)), .ref (q 2), .ref (q 3), .ref (q 4), .ref (q 5), .ref (q 6), .ref (q 7), .ref (q 8), .ref (q 9), .ref (q 10), .ref (q 11), .ref (q 12), .ref (q 13), .ref (q 14), .ref (q 15), .ref (q 16), .int (zI (i 13)), .int (zI (i 14)), .int (zI (i 15)), .int (zI (i 16)), .int (zI (i 17)), .int (zI (i 18)), .ref (q 17), .ref (q 18), .ref (q 19), .ref (q 20)])), ((q 0), .inl (cI, 900, .inl (fun k => zI (g_tape k))))]) (fun _ => rfl) (fun r3 u2 H locs hp4 hP hD hS => ?_)
    obtain ⟨z5, rfl, h_z5⟩ := hp4
    have hx6 := h_z5
    refine lv_bipush (v := zI 32) hx hb dX9_next_10 (by decide) ?_
    refine rz_icmp_ne (tgt := 21) F (by omega) (by omega) dX9_next_12 (by decide) (fun h12_6 => ?_) (fun h12_6 => ?_)
    · refine lv_aload_n hx hb dX9_next_21 rfl (lv_at hl 1 rfl) ?_
      refine lv_iload_n hx hb dX9_next_22 rfl (lv_at hl 0 rfl) ?_
      refine r_put F hK hP hD hS 1 4 rfl rfl in_X9 tyX9 tyX9_ok nmX9 (by decide) k_1167 rfl rfl rfl (Nat.le_of_ble_eq_true rfl) dX9_next_23 (w1 := [((q 1), .inl (cI, 8, .inl (fun k => zI (g_letters k)))), (y, .inr (9, [.int (zI (i 0)), .ref (q 0), .int (zI (i 1)), .int (zI (i 2)), .int (zI v1), .int (zI (i 4)), .int (zI (i 5)), .int (zI (i 6)), .int (zI (i 7)), .int (zI (i 8)), .int (zI (i 9)), .int (zI (i 10)), .ref (q 1), .int (zI (i 11)), .int (zI (i 12)), .ref (q 2), .ref (q 3), .ref (q 4), .ref (q 5), .ref (q 6), .ref (q 7), .ref (q 8), .ref (q 9), .ref (q 10), .ref (q 11), .ref (q 12), .ref (q 13), .ref (q 14), .ref (q 15), .ref (q 16), .int (zI (i 13)), .int (zI (i 14)), .int (zI (i 15)), .int (zI (i 16)), .int (zI (i 17)), .int (zI (i 18)), .ref (q 17), .ref (q 18), .ref (q 19), .ref (q 20)])), ((q 0), .inl (cI, 900, .inl (fun k => zI (g_tape k))))]) rfl (fun H locs hP hD hS => ?_)
      refine lv_aload_n hx hb dX9_next_26 rfl (lv_at hl 1 rfl) ?_
      refine lv_iload_n hx hb dX9_next_27 rfl (lv_at hl 0 rfl) ?_
      obtain ⟨i8, e_i8⟩ : ∃ i8 : Nat → Int, i8 = fun k => [(i 0), (i 1), (i 2), v1, (i 4), (i 5), (i 6), (i 7), (i 8), (i 9), (i 10), (i 11), (i 12), (i 13), (i 14), (i 15), (i 16), (i 17), (i 18)].getD k 0 := ⟨_, rfl⟩
      have e_i8_0 : i8 0 = (i 0) := by rw [e_i8]; rfl
      have e_i8_1 : i8 1 = (i 1) := by rw [e_i8]; rfl
      have e_i8_2 : i8 2 = (i 2) := by rw [e_i8]; rfl
      have e_i8_3 : i8 3 = v1 := by rw [e_i8]; rfl
      have e_i8_4 : i8 4 = (i 4) := by rw [e_i8]; rfl
      have e_i8_5 : i8 5 = (i 5) := by rw [e_i8]; rfl
      have e_i8_6 : i8 6 = (i 6) := by rw [e_i8]; rfl
      have e_i8_7 : i8 7 = (i 7) := by rw [e_i8]; rfl
      have e_i8_8 : i8 8 = (i 8) := by rw [e_i8]; rfl
      have e_i8_9 : i8 9 = (i 9) := by rw [e_i8]; rfl
      have e_i8_10 : i8 10 = (i 10) := by rw [e_i8]; rfl
      have e_i8_11 : i8 11 = (i 11) := by rw [e_i8]; rfl
      have e_i8_12 : i8 12 = (i 12) := by rw [e_i8]; rfl
      have e_i8_13 : i8 13 = (i 13) := by rw [e_i8]; rfl
      have e_i8_14 : i8 14 = (i 14) := by rw [e_i8]; rfl
      have e_i8_15 : i8 15 = (i 15) := by rw [e_i8]; rfl
      have e_i8_16 : i8 16 = (i 16) := by rw [e_i8]; rfl
      have e_i8_17 : i8 17 = (i 17) := by rw [e_i8]; rfl
      have e_i8_18 : i8 18 = (i 18) := by rw [e_i8]; rfl
      have hO9 : ModS i8 := by have hold9 := hM; refine ⟨⟨?_, ?_, ?_, ?_, ?_⟩, ⟨?_, ?_, ?_, ?_, ?_, ?_⟩, ⟨?_, ?_, ?_, ?_⟩⟩ <;> omega
      have hf10 := hO9
      have hP : va_P G vwCl [((q 1), .inl (cI, 8, .inl (fun k => zI (g_letters k)))), (y, .inr (9, [.int (zI (i8 0)), .ref (q 0), .int (zI (i8 1)), .int (zI (i8 2)), .int (zI (i8 3)), .int (zI (i8 4)), .int (zI (i8 5)), .int (zI (i8 6)), .int (zI (i8 7)), .int (zI (i8 8)), .int (zI (i8 9)), .int (zI (i8 10)), .ref (q 1), .int (zI (i8 11)), .int (zI (i8 12)), .ref (q 2), .ref (q 3), .ref (q 4), .ref (q 5), .ref (q 6), .ref (q 7), .ref (q 8), .ref (q 9), .ref (q 10), .ref (q 11), .ref (q 12), .ref (q 13), .ref (q 14), .ref (q 15), .ref (q 16), .int (zI (i8 13)), .int (zI (i8 14)), .int (zI (i8 15)), .int (zI (i8 16)), .int (zI (i8 17)), .int (zI (i8 18)), .ref (q 17), .ref (q 18), .ref (q 19), .ref (q 20)])), ((q 0), .inl (cI, 900, .inl (fun k => zI (g_tape k))))] H := by subst e_i8; exact hP
      have hD : va_D A [((q 1), .inl (cI, 8, .inl (fun k => zI (g_letters k)))), (y, .inr (9, [.int (zI (i8 0)), .ref (q 0), .int (zI (i8 1)), .int (zI (i8 2)), .int (zI (i8 3)), .int (zI (i8 4)), .int (zI (i8 5)), .int (zI (i8 6)), .int (zI (i8 7)), .int (zI (i8 8)), .int (zI (i8 9)), .int (zI (i8 10)), .ref (q 1), .int (zI (i8 11)), .int (zI (i8 12)), .ref (q 2), .ref (q 3), .ref (q 4), .ref (q 5), .ref (q 6), .ref (q 7), .ref (q 8), .ref (q 9), .ref (q 10), .ref (q 11), .ref (q 12), .ref (q 13), .ref (q 14), .ref (q 15), .ref (q 16), .int (zI (i8 13)), .int (zI (i8 14)), .int (zI (i8 15)), .int (zI (i8 16)), .int (zI (i8 17)), .int (zI (i8 18)), .ref (q 17), .ref (q 18), .ref (q 19), .ref (q 20)])), ((q 0), .inl (cI, 900, .inl (fun k => zI (g_tape k))))] := by subst e_i8; exact hD
      refine r_callVi (As := [.int (zI v1)]) (rest := []) (wr := [((q 1), .inl (cI, 8, .inl (fun k => zI (g_letters k))))]) F hK hP hD hS hA hO hE (c_X9_look hO y q i8 hO9 g_tape hr_tape v1 (by omega) (by omega)) k_1307 kv_X9_look 1 rfl (by decide +kernel) ⟨Nat.le_of_ble_eq_true rfl, Nat.le_of_ble_eq_true rfl⟩ [1, 2] [0] rfl rfl (by decide) (by decide) (by decide) 0 9 rfl rfl rfl hl.1 rfl (Nat.le_of_ble_eq_true rfl) dX9_next_28 ⟨Nat.le_of_ble_eq_true rfl, Nat.le_of_ble_eq_true rfl⟩ (w1 := fun u11 => [((q 1), .inl (cI, 8, .inl (fun k => zI (g_letters k)))), (y, .inr (9, [.int (zI (i8 0)), .ref (q 0), .int (zI (i8 1)), .int (zI (i8 2)), .int (zI (i8 3)), .int (zI (i8 4)), .int (zI (i8 5)), .int (zI (i8 6)), .int (zI (i8 7)), .int (zI (i8 8)), .int (zI (i8 9)), .int (zI (i8 10)), .ref (q 1), .int (zI (i8 11)), .int (zI (i8 12)), .ref (q 2), .ref (q 3), .ref (q 4), .ref (q 5), .ref (q 6), .ref (q 7), .ref (q 8), .ref (q 9), .ref (q 10), .ref (q 11), .ref (q 12), .ref (q 13), .ref (q 14), .ref (q 15), .ref (q 16), .int (zI (i8 13)), .int (zI (i8 14)), .int (zI (i8 15)), .int (zI (i8 16)), .int (zI (i8 17)), .int (zI (i8 18)), .ref (q 17), .ref (q 18), .ref (q 19), .ref (q 20)])), ((q 0), .inl (cI, 900, .inl (fun k => zI (g_tape k))))]) (fun _ => rfl) (fun r12 u11 H locs hp13 hP hD hS => ?_)
      obtain ⟨z14, rfl, h_z14⟩ := hp13
      have hx15 := h_z14
      refine lv_istore_n (lv' := [(2, .int (zI z14)), (1, .int (zI v1)), (0, .ref y)]) hx hb dX9_next_31 rfl hl (by decide) rfl (fun ls hl => ?_)
      refine lv_aload_n hx hb dX9_next_32 rfl (lv_at hl 2 rfl) ?_
      refine lv_iconst (v := zI 0) hx hb dX9_next_33 rfl ?_
      refine r_put F hK hP hD hS 1 8 rfl rfl in_X9 tyX9 tyX9_ok nmX9 (by decide) k_1171 rfl rfl rfl (Nat.le_of_ble_eq_true rfl) dX9_next_34 (w1 := [((q 1), .inl (cI, 8, .inl (fun k => zI (g_letters k)))), (y, .inr (9, [.int (zI (i8 0)), .ref (q 0), .int (zI (i8 1)), .int (zI (i8 2)), .int (zI (i8 3)), .int (zI (i8 4)), .int (zI (i8 5)), .int (zI (i8 6)), .int (zI 0), .int (zI (i8 8)), .int (zI (i8 9)), .int (zI (i8 10)), .ref (q 1), .int (zI (i8 11)), .int (zI (i8 12)), .ref (q 2), .ref (q 3), .ref (q 4), .ref (q 5), .ref (q 6), .ref (q 7), .ref (q 8), .ref (q 9), .ref (q 10), .ref (q 11), .ref (q 12), .ref (q 13), .ref (q 14), .ref (q 15), .ref (q 16), .int (zI (i8 13)), .int (zI (i8 14)), .int (zI (i8 15)), .int (zI (i8 16)), .int (zI (i8 17)), .int (zI (i8 18)), .ref (q 17), .ref (q 18), .ref (q 19), .ref (q 20)])), ((q 0), .inl (cI, 900, .inl (fun k => zI (g_tape k))))]) rfl (fun H locs hP hD hS => ?_)
      refine lv_aload_n hx hb dX9_next_37 rfl (lv_at hl 2 rfl) ?_
      refine lv_iconst (v := zI 0) hx hb dX9_next_38 rfl ?_
      refine r_put F hK hP hD hS 1 7 rfl rfl in_X9 tyX9 tyX9_ok nmX9 (by decide) k_1170 rfl rfl rfl (Nat.le_of_ble_eq_true rfl) dX9_next_39 (w1 := [((q 1), .inl (cI, 8, .inl (fun k => zI (g_letters k)))), (y, .inr (9, [.int (zI (i8 0)), .ref (q 0), .int (zI (i8 1)), .int (zI (i8 2)), .int (zI (i8 3)), .int (zI (i8 4)), .int (zI (i8 5)), .int (zI 0), .int (zI 0), .int (zI (i8 8)), .int (zI (i8 9)), .int (zI (i8 10)), .ref (q 1), .int (zI (i8 11)), .int (zI (i8 12)), .ref (q 2), .ref (q 3), .ref (q 4), .ref (q 5), .ref (q 6), .ref (q 7), .ref (q 8), .ref (q 9), .ref (q 10), .ref (q 11), .ref (q 12), .ref (q 13), .ref (q 14), .ref (q 15), .ref (q 16), .int (zI (i8 13)), .int (zI (i8 14)), .int (zI (i8 15)), .int (zI (i8 16)), .int (zI (i8 17)), .int (zI (i8 18)), .ref (q 17), .ref (q 18), .ref (q 19), .ref (q 20)])), ((q 0), .inl (cI, 900, .inl (fun k => zI (g_tape k))))]) rfl (fun H locs hP hD hS => ?_)
      refine lv_iload_n hx hb dX9_next_42 rfl (lv_at hl 0 rfl) ?_
      refine lv_iconst (v := zI (-1)) hx hb dX9_next_43 rfl ?_
      refine rz_icmp_ne (tgt := 60) F (by omega) (by omega) dX9_next_44 (by decide) (fun h44_15 => ?_) (fun h44_15 => ?_)
      · refine lv_iload_n hx hb dX9_next_60 rfl (lv_at hl 0 rfl) ?_
        refine r_callSi (As := [.int (zI z14)]) (rest := []) (wr := [((q 1), .inl (cI, 8, .inl (fun k => zI (g_letters k)))), (y, .inr (9, [.int (zI (i8 0)), .ref (q 0), .int (zI (i8 1)), .int (zI (i8 2)), .int (zI (i8 3)), .int (zI (i8 4)), .int (zI (i8 5)), .int (zI 0), .int (zI 0), .int (zI (i8 8)), .int (zI (i8 9)), .int (zI (i8 10)), .ref (q 1), .int (zI (i8 11)), .int (zI (i8 12)), .ref (q 2), .ref (q 3), .ref (q 4), .ref (q 5), .ref (q 6), .ref (q 7), .ref (q 8), .ref (q 9), .ref (q 10), .ref (q 11), .ref (q 12), .ref (q 13), .ref (q 14), .ref (q 15), .ref (q 16), .int (zI (i8 13)), .int (zI (i8 14)), .int (zI (i8 15)), .int (zI (i8 16)), .int (zI (i8 17)), .int (zI (i8 18)), .ref (q 17), .ref (q 18), .ref (q 19), .ref (q 20)])), ((q 0), .inl (cI, 900, .inl (fun k => zI (g_tape k))))]) F hK hP hD hS hA hO hE (c_X9_isSmall hO z14 (by omega)) k_1311 ks_X9_isSmall 1 rfl (by decide +kernel) ⟨Nat.le_of_ble_eq_true rfl, Nat.le_of_ble_eq_true rfl⟩ [] [0, 1, 2] rfl rfl (by decide) (by decide) (by decide) hl.1 rfl (Nat.le_of_ble_eq_true rfl) dX9_next_61 ⟨Nat.le_of_ble_eq_true rfl, Nat.le_of_ble_eq_true rfl⟩ (w1 := fun u17 => [((q 1), .inl (cI, 8, .inl (fun k => zI (g_letters k)))), (y, .inr (9, [.int (zI (i8 0)), .ref (q 0), .int (zI (i8 1)), .int (zI (i8 2)), .int (zI (i8 3)), .int (zI (i8 4)), .int (zI (i8 5)), .int (zI 0), .int (zI 0), .int (zI (i8 8)), .int (zI (i8 9)), .int (zI (i8 10)), .ref (q 1), .int (zI (i8 11)), .int (zI (i8 12)), .ref (q 2), .ref (q 3), .ref (q 4), .ref (q 5), .ref (q 6), .ref (q 7), .ref (q 8), .ref (q 9), .ref (q 10), .ref (q 11), .ref (q 12), .ref (q 13), .ref (q 14), .ref (q 15), .ref (q 16), .int (zI (i8 13)), .int (zI (i8 14)), .int (zI (i8 15)), .int (zI (i8 16)), .int (zI (i8 17)), .int (zI (i8 18)), .ref (q 17), .ref (q 18), .ref (q 19), .ref (q 20)])), ((q 0), .inl (cI, 900, .inl (fun k => zI (g_tape k))))]) (fun _ => rfl) (fun r18 u17 H locs hp19 hP hD hS => ?_)
        obtain ⟨z20, rfl, h_z20⟩ := hp19
        have hx21 := h_z20
        refine rz_if_eq (tgt := 143) F (by omega) dX9_next_64 (by decide) (fun h64_21 => ?_) (fun h64_21 => ?_)
        · refine lv_iload_n hx hb dX9_next_143 rfl (lv_at hl 0 rfl) ?_
          refine r_callSi (As := [.int (zI z14)]) (rest := []) (wr := [((q 1), .inl (cI, 8, .inl (fun k => zI (g_letters k)))), (y, .inr (9, [.int (zI (i8 0)), .ref (q 0), .int (zI (i8 1)), .int (zI (i8 2)), .int (zI (i8 3)), .int (zI (i8 4)), .int (zI (i8 5)), .int (zI 0), .int (zI 0), .int (zI (i8 8)), .int (zI (i8 9)), .int (zI (i8 10)), .ref (q 1), .int (zI (i8 11)), .int (zI (i8 12)), .ref (q 2), .ref (q 3), .ref (q 4), .ref (q 5), .ref (q 6), .ref (q 7), .ref (q 8), .ref (q 9), .ref (q 10), .ref (q 11), .ref (q 12), .ref (q 13), .ref (q 14), .ref (q 15), .ref (q 16), .int (zI (i8 13)), .int (zI (i8 14)), .int (zI (i8 15)), .int (zI (i8 16)), .int (zI (i8 17)), .int (zI (i8 18)), .ref (q 17), .ref (q 18), .ref (q 19), .ref (q 20)])), ((q 0), .inl (cI, 900, .inl (fun k => zI (g_tape k))))]) F hK hP hD hS hA hO hE (c_X9_isDigit hO z14 (by omega)) k_1314 ks_X9_isDigit 1 rfl (by decide +kernel) ⟨Nat.le_of_ble_eq_true rfl, Nat.le_of_ble_eq_true rfl⟩ [] [0, 1, 2] rfl rfl (by decide) (by decide) (by decide) hl.1 rfl (Nat.le_of_ble_eq_true rfl) dX9_next_144 ⟨Nat.le_of_ble_eq_true rfl, Nat.le_of_ble_eq_true rfl⟩ (w1 := fun u23 => [((q 1), .inl (cI, 8, .inl (fun k => zI (g_letters k)))), (y, .inr (9, [.int (zI (i8 0)), .ref (q 0), .int (zI (i8 1)), .int (zI (i8 2)), .int (zI (i8 3)), .int (zI (i8 4)), .int (zI (i8 5)), .int (zI 0), .int (zI 0), .int (zI (i8 8)), .int (zI (i8 9)), .int (zI (i8 10)), .ref (q 1), .int (zI (i8 11)), .int (zI (i8 12)), .ref (q 2), .ref (q 3), .ref (q 4), .ref (q 5), .ref (q 6), .ref (q 7), .ref (q 8), .ref (q 9), .ref (q 10), .ref (q 11), .ref (q 12), .ref (q 13), .ref (q 14), .ref (q 15), .ref (q 16), .int (zI (i8 13)), .int (zI (i8 14)), .int (zI (i8 15)), .int (zI (i8 16)), .int (zI (i8 17)), .int (zI (i8 18)), .ref (q 17), .ref (q 18), .ref (q 19), .ref (q 20)])), ((q 0), .inl (cI, 900, .inl (fun k => zI (g_tape k))))]) (fun _ => rfl) (fun r24 u23 H locs hp25 hP hD hS => ?_)
          obtain ⟨z26, rfl, h_z26⟩ := hp25
          have hx27 := h_z26
          refine rz_if_eq (tgt := 219) F (by omega) dX9_next_147 (by decide) (fun h147_27 => ?_) (fun h147_27 => ?_)
          · refine lv_aload_n hx hb dX9_next_219 rfl (lv_at hl 2 rfl) ?_
            refine lv_iload_n hx hb dX9_next_220 rfl (lv_at hl 1 rfl) ?_
            refine lv_iconst (v := zI 1) hx hb dX9_next_221 rfl ?_
            refine r_iadd (v := zI (v1 + 1)) F dX9_next_222 (zI_add _ _) ?_
            refine r_put F hK hP hD hS 1 5 rfl rfl in_X9 tyX9 tyX9_ok nmX9 (by decide) k_1168 rfl rfl rfl (Nat.le_of_ble_eq_true rfl) dX9_next_223 (w1 := [((q 1), .inl (cI, 8, .inl (fun k => zI (g_letters k)))), (y, .inr (9, [.int (zI (i8 0)), .ref (q 0), .int (zI (i8 1)), .int (zI (i8 2)), .int (zI (i8 3)), .int (zI (v1 + 1)), .int (zI (i8 5)), .int (zI 0), .int (zI 0), .int (zI (i8 8)), .int (zI (i8 9)), .int (zI (i8 10)), .ref (q 1), .int (zI (i8 11)), .int (zI (i8 12)), .ref (q 2), .ref (q 3), .ref (q 4), .ref (q 5), .ref (q 6), .ref (q 7), .ref (q 8), .ref (q 9), .ref (q 10), .ref (q 11), .ref (q 12), .ref (q 13), .ref (q 14), .ref (q 15), .ref (q 16), .int (zI (i8 13)), .int (zI (i8 14)), .int (zI (i8 15)), .int (zI (i8 16)), .int (zI (i8 17)), .int (zI (i8 18)), .ref (q 17), .ref (q 18), .ref (q 19), .ref (q 20)])), ((q 0), .inl (cI, 900, .inl (fun k => zI (g_tape k))))]) rfl (fun H locs hP hD hS => ?_)
            refine lv_aload_n hx hb dX9_next_226 rfl (lv_at hl 2 rfl) ?_
            refine lv_iload_n hx hb dX9_next_227 rfl (lv_at hl 0 rfl) ?_
            refine lv_bipush (v := zI 59) hx hb dX9_next_228 (by decide) ?_
            refine rz_icmp_eq (tgt := 239) F (by omega) (by omega) dX9_next_230 (by decide) (fun h230_28 => ?_) (fun h230_28 => ?_)
            · refine lv_iload_n hx hb dX9_next_239 rfl (lv_at hl 0 rfl) ?_
              refine lv_goto (tgt := 244) hx hb dX9_next_240 (by decide) ?_
              refine r_put F hK hP hD hS 1 6 rfl rfl in_X9 tyX9 tyX9_ok nmX9 (by decide) k_1169 rfl rfl rfl (Nat.le_of_ble_eq_true rfl) dX9_next_244 (w1 := [((q 1), .inl (cI, 8, .inl (fun k => zI (g_letters k)))), (y, .inr (9, [.int (zI (i8 0)), .ref (q 0), .int (zI (i8 1)), .int (zI (i8 2)), .int (zI (i8 3)), .int (zI (v1 + 1)), .int (zI z14), .int (zI 0), .int (zI 0), .int (zI (i8 8)), .int (zI (i8 9)), .int (zI (i8 10)), .ref (q 1), .int (zI (i8 11)), .int (zI (i8 12)), .ref (q 2), .ref (q 3), .ref (q 4), .ref (q 5), .ref (q 6), .ref (q 7), .ref (q 8), .ref (q 9), .ref (q 10), .ref (q 11), .ref (q 12), .ref (q 13), .ref (q 14), .ref (q 15), .ref (q 16), .int (zI (i8 13)), .int (zI (i8 14)), .int (zI (i8 15)), .int (zI (i8 16)), .int (zI (i8 17)), .int (zI (i8 18)), .ref (q 17), .ref (q 18), .ref (q 19), .ref (q 20)])), ((q 0), .inl (cI, 900, .inl (fun k => zI (g_tape k))))]) rfl (fun H locs hP hD hS => ?_)
              obtain ⟨i30, e_i30⟩ : ∃ i30 : Nat → Int, i30 = fun k => [(i8 0), (i8 1), (i8 2), (i8 3), (v1 + 1), z14, 0, 0, (i8 8), (i8 9), (i8 10), (i8 11), (i8 12), (i8 13), (i8 14), (i8 15), (i8 16), (i8 17), (i8 18)].getD k 0 := ⟨_, rfl⟩
              have e_i30_0 : i30 0 = (i8 0) := by rw [e_i30]; rfl
              have e_i30_1 : i30 1 = (i8 1) := by rw [e_i30]; rfl
              have e_i30_2 : i30 2 = (i8 2) := by rw [e_i30]; rfl
              have e_i30_3 : i30 3 = (i8 3) := by rw [e_i30]; rfl
              have e_i30_4 : i30 4 = (v1 + 1) := by rw [e_i30]; rfl
              have e_i30_5 : i30 5 = z14 := by rw [e_i30]; rfl
              have e_i30_6 : i30 6 = 0 := by rw [e_i30]; rfl
              have e_i30_7 : i30 7 = 0 := by rw [e_i30]; rfl
              have e_i30_8 : i30 8 = (i8 8) := by rw [e_i30]; rfl
              have e_i30_9 : i30 9 = (i8 9) := by rw [e_i30]; rfl
              have e_i30_10 : i30 10 = (i8 10) := by rw [e_i30]; rfl
              have e_i30_11 : i30 11 = (i8 11) := by rw [e_i30]; rfl
              have e_i30_12 : i30 12 = (i8 12) := by rw [e_i30]; rfl
              have e_i30_13 : i30 13 = (i8 13) := by rw [e_i30]; rfl
              have e_i30_14 : i30 14 = (i8 14) := by rw [e_i30]; rfl
              have e_i30_15 : i30 15 = (i8 15) := by rw [e_i30]; rfl
              have e_i30_16 : i30 16 = (i8 16) := by rw [e_i30]; rfl
              have e_i30_17 : i30 17 = (i8 17) := by rw [e_i30]; rfl
              have e_i30_18 : i30 18 = (i8 18) := by rw [e_i30]; rfl
              have hO31 : ModS i30 := by have hold9 := hO9; refine ⟨⟨?_, ?_, ?_, ?_, ?_⟩, ⟨?_, ?_, ?_, ?_, ?_, ?_⟩, ⟨?_, ?_, ?_, ?_⟩⟩ <;> omega
              have hf32 := hO31
              have hP : va_P G vwCl [((q 1), .inl (cI, 8, .inl (fun k => zI (g_letters k)))), (y, .inr (9, [.int (zI (i30 0)), .ref (q 0), .int (zI (i30 1)), .int (zI (i30 2)), .int (zI (i30 3)), .int (zI (i30 4)), .int (zI (i30 5)), .int (zI (i30 6)), .int (zI (i30 7)), .int (zI (i30 8)), .int (zI (i30 9)), .int (zI (i30 10)), .ref (q 1), .int (zI (i30 11)), .int (zI (i30 12)), .ref (q 2), .ref (q 3), .ref (q 4), .ref (q 5), .ref (q 6), .ref (q 7), .ref (q 8), .ref (q 9), .ref (q 10), .ref (q 11), .ref (q 12), .ref (q 13), .ref (q 14), .ref (q 15), .ref (q 16), .int (zI (i30 13)), .int (zI (i30 14)), .int (zI (i30 15)), .int (zI (i30 16)), .int (zI (i30 17)), .int (zI (i30 18)), .ref (q 17), .ref (q 18), .ref (q 19), .ref (q 20)])), ((q 0), .inl (cI, 900, .inl (fun k => zI (g_tape k))))] H := by subst e_i30; exact hP
              have hD : va_D A [((q 1), .inl (cI, 8, .inl (fun k => zI (g_letters k)))), (y, .inr (9, [.int (zI (i30 0)), .ref (q 0), .int (zI (i30 1)), .int (zI (i30 2)), .int (zI (i30 3)), .int (zI (i30 4)), .int (zI (i30 5)), .int (zI (i30 6)), .int (zI (i30 7)), .int (zI (i30 8)), .int (zI (i30 9)), .int (zI (i30 10)), .ref (q 1), .int (zI (i30 11)), .int (zI (i30 12)), .ref (q 2), .ref (q 3), .ref (q 4), .ref (q 5), .ref (q 6), .ref (q 7), .ref (q 8), .ref (q 9), .ref (q 10), .ref (q 11), .ref (q 12), .ref (q 13), .ref (q 14), .ref (q 15), .ref (q 16), .int (zI (i30 13)), .int (zI (i30 14)), .int (zI (i30 15)), .int (zI (i30 16)), .int (zI (i30 17)), .int (zI (i30 18)), .ref (q 17), .ref (q 18), .ref (q 19), .ref (q 20)])), ((q 0), .inl (cI, 900, .inl (fun k => zI (g_tape k))))] := by subst e_i30; exact hD
              exact ret (fun k => [(i30, fun _ _ => 0), (fun _ => 0, fun _ => g_letters)].getD k (fun _ => 0, fun _ _ => 0)) _ _ _ _ _ _ ⟨⟨hO31, (show i30 5 = 2 → i30 7 ≤ 8 from by omega)⟩, hr_letters, (show i30 11 = i 11 ∧ i 4 ≤ i30 4 ∧ i30 1 = i 1 ∧ (i30 5 ≠ 0 → i 4 < i30 4) ∧ i30 14 = i 14 ∧ i30 16 = i 16 from by omega)⟩ (bw_subP (isC := [1, 2, 0]) hP rfl) (hD.sub [1, 2, 0] (by decide) rfl) hS (Nat.le_of_ble_eq_true rfl) (Nat.le_of_ble_eq_true rfl) dX9_next_247
            · refine lv_iload_n hx hb dX9_next_233 rfl (lv_at hl 0 rfl) ?_
              refine lv_bipush (v := zI 44) hx hb dX9_next_234 (by decide) ?_
              refine rz_icmp_ne (tgt := 243) F (by omega) (by omega) dX9_next_236 (by decide) (fun h236_32 => ?_) (fun h236_32 => ?_)
              · refine lv_iconst (v := zI 1) hx hb dX9_next_243 rfl ?_
                refine r_put F hK hP hD hS 1 6 rfl rfl in_X9 tyX9 tyX9_ok nmX9 (by decide) k_1169 rfl rfl rfl (Nat.le_of_ble_eq_true rfl) dX9_next_244 (w1 := [((q 1), .inl (cI, 8, .inl (fun k => zI (g_letters k)))), (y, .inr (9, [.int (zI (i8 0)), .ref (q 0), .int (zI (i8 1)), .int (zI (i8 2)), .int (zI (i8 3)), .int (zI (v1 + 1)), .int (zI 1), .int (zI 0), .int (zI 0), .int (zI (i8 8)), .int (zI (i8 9)), .int (zI (i8 10)), .ref (q 1), .int (zI (i8 11)), .int (zI (i8 12)), .ref (q 2), .ref (q 3), .ref (q 4), .ref (q 5), .ref (q 6), .ref (q 7), .ref (q 8), .ref (q 9), .ref (q 10), .ref (q 11), .ref (q 12), .ref (q 13), .ref (q 14), .ref (q 15), .ref (q 16), .int (zI (i8 13)), .int (zI (i8 14)), .int (zI (i8 15)), .int (zI (i8 16)), .int (zI (i8 17)), .int (zI (i8 18)), .ref (q 17), .ref (q 18), .ref (q 19), .ref (q 20)])), ((q 0), .inl (cI, 900, .inl (fun k => zI (g_tape k))))]) rfl (fun H locs hP hD hS => ?_)
                obtain ⟨i34, e_i34⟩ : ∃ i34 : Nat → Int, i34 = fun k => [(i8 0), (i8 1), (i8 2), (i8 3), (v1 + 1), 1, 0, 0, (i8 8), (i8 9), (i8 10), (i8 11), (i8 12), (i8 13), (i8 14), (i8 15), (i8 16), (i8 17), (i8 18)].getD k 0 := ⟨_, rfl⟩
                have e_i34_0 : i34 0 = (i8 0) := by rw [e_i34]; rfl
                have e_i34_1 : i34 1 = (i8 1) := by rw [e_i34]; rfl
                have e_i34_2 : i34 2 = (i8 2) := by rw [e_i34]; rfl
                have e_i34_3 : i34 3 = (i8 3) := by rw [e_i34]; rfl
                have e_i34_4 : i34 4 = (v1 + 1) := by rw [e_i34]; rfl
                have e_i34_5 : i34 5 = 1 := by rw [e_i34]; rfl
                have e_i34_6 : i34 6 = 0 := by rw [e_i34]; rfl
                have e_i34_7 : i34 7 = 0 := by rw [e_i34]; rfl
                have e_i34_8 : i34 8 = (i8 8) := by rw [e_i34]; rfl
                have e_i34_9 : i34 9 = (i8 9) := by rw [e_i34]; rfl
                have e_i34_10 : i34 10 = (i8 10) := by rw [e_i34]; rfl
                have e_i34_11 : i34 11 = (i8 11) := by rw [e_i34]; rfl
                have e_i34_12 : i34 12 = (i8 12) := by rw [e_i34]; rfl
                have e_i34_13 : i34 13 = (i8 13) := by rw [e_i34]; rfl
                have e_i34_14 : i34 14 = (i8 14) := by rw [e_i34]; rfl
                have e_i34_15 : i34 15 = (i8 15) := by rw [e_i34]; rfl
                have e_i34_16 : i34 16 = (i8 16) := by rw [e_i34]; rfl
                have e_i34_17 : i34 17 = (i8 17) := by rw [e_i34]; rfl
                have e_i34_18 : i34 18 = (i8 18) := by rw [e_i34]; rfl
                have hO35 : ModS i34 := by have hold9 := hO9; refine ⟨⟨?_, ?_, ?_, ?_, ?_⟩, ⟨?_, ?_, ?_, ?_, ?_, ?_⟩, ⟨?_, ?_, ?_, ?_⟩⟩ <;> omega
                have hf36 := hO35
                have hP : va_P G vwCl [((q 1), .inl (cI, 8, .inl (fun k => zI (g_letters k)))), (y, .inr (9, [.int (zI (i34 0)), .ref (q 0), .int (zI (i34 1)), .int (zI (i34 2)), .int (zI (i34 3)), .int (zI (i34 4)), .int (zI (i34 5)), .int (zI (i34 6)), .int (zI (i34 7)), .int (zI (i34 8)), .int (zI (i34 9)), .int (zI (i34 10)), .ref (q 1), .int (zI (i34 11)), .int (zI (i34 12)), .ref (q 2), .ref (q 3), .ref (q 4), .ref (q 5), .ref (q 6), .ref (q 7), .ref (q 8), .ref (q 9), .ref (q 10), .ref (q 11), .ref (q 12), .ref (q 13), .ref (q 14), .ref (q 15), .ref (q 16), .int (zI (i34 13)), .int (zI (i34 14)), .int (zI (i34 15)), .int (zI (i34 16)), .int (zI (i34 17)), .int (zI (i34 18)), .ref (q 17), .ref (q 18), .ref (q 19), .ref (q 20)])), ((q 0), .inl (cI, 900, .inl (fun k => zI (g_tape k))))] H := by subst e_i34; exact hP
                have hD : va_D A [((q 1), .inl (cI, 8, .inl (fun k => zI (g_letters k)))), (y, .inr (9, [.int (zI (i34 0)), .ref (q 0), .int (zI (i34 1)), .int (zI (i34 2)), .int (zI (i34 3)), .int (zI (i34 4)), .int (zI (i34 5)), .int (zI (i34 6)), .int (zI (i34 7)), .int (zI (i34 8)), .int (zI (i34 9)), .int (zI (i34 10)), .ref (q 1), .int (zI (i34 11)), .int (zI (i34 12)), .ref (q 2), .ref (q 3), .ref (q 4), .ref (q 5), .ref (q 6), .ref (q 7), .ref (q 8), .ref (q 9), .ref (q 10), .ref (q 11), .ref (q 12), .ref (q 13), .ref (q 14), .ref (q 15), .ref (q 16), .int (zI (i34 13)), .int (zI (i34 14)), .int (zI (i34 15)), .int (zI (i34 16)), .int (zI (i34 17)), .int (zI (i34 18)), .ref (q 17), .ref (q 18), .ref (q 19), .ref (q 20)])), ((q 0), .inl (cI, 900, .inl (fun k => zI (g_tape k))))] := by subst e_i34; exact hD
                exact ret (fun k => [(i34, fun _ _ => 0), (fun _ => 0, fun _ => g_letters)].getD k (fun _ => 0, fun _ _ => 0)) _ _ _ _ _ _ ⟨⟨hO35, (show i34 5 = 2 → i34 7 ≤ 8 from by omega)⟩, hr_letters, (show i34 11 = i 11 ∧ i 4 ≤ i34 4 ∧ i34 1 = i 1 ∧ (i34 5 ≠ 0 → i 4 < i34 4) ∧ i34 14 = i 14 ∧ i34 16 = i 16 from by omega)⟩ (bw_subP (isC := [1, 2, 0]) hP rfl) (hD.sub [1, 2, 0] (by decide) rfl) hS (Nat.le_of_ble_eq_true rfl) (Nat.le_of_ble_eq_true rfl) dX9_next_247
              · refine lv_iload_n hx hb dX9_next_239 rfl (lv_at hl 0 rfl) ?_
                refine lv_goto (tgt := 244) hx hb dX9_next_240 (by decide) ?_
                refine r_put F hK hP hD hS 1 6 rfl rfl in_X9 tyX9 tyX9_ok nmX9 (by decide) k_1169 rfl rfl rfl (Nat.le_of_ble_eq_true rfl) dX9_next_244 (w1 := [((q 1), .inl (cI, 8, .inl (fun k => zI (g_letters k)))), (y, .inr (9, [.int (zI (i8 0)), .ref (q 0), .int (zI (i8 1)), .int (zI (i8 2)), .int (zI (i8 3)), .int (zI (v1 + 1)), .int (zI z14), .int (zI 0), .int (zI 0), .int (zI (i8 8)), .int (zI (i8 9)), .int (zI (i8 10)), .ref (q 1), .int (zI (i8 11)), .int (zI (i8 12)), .ref (q 2), .ref (q 3), .ref (q 4), .ref (q 5), .ref (q 6), .ref (q 7), .ref (q 8), .ref (q 9), .ref (q 10), .ref (q 11), .ref (q 12), .ref (q 13), .ref (q 14), .ref (q 15), .ref (q 16), .int (zI (i8 13)), .int (zI (i8 14)), .int (zI (i8 15)), .int (zI (i8 16)), .int (zI (i8 17)), .int (zI (i8 18)), .ref (q 17), .ref (q 18), .ref (q 19), .ref (q 20)])), ((q 0), .inl (cI, 900, .inl (fun k => zI (g_tape k))))]) rfl (fun H locs hP hD hS => ?_)
                obtain ⟨i37, e_i37⟩ : ∃ i37 : Nat → Int, i37 = fun k => [(i8 0), (i8 1), (i8 2), (i8 3), (v1 + 1), z14, 0, 0, (i8 8), (i8 9), (i8 10), (i8 11), (i8 12), (i8 13), (i8 14), (i8 15), (i8 16), (i8 17), (i8 18)].getD k 0 := ⟨_, rfl⟩
                have e_i37_0 : i37 0 = (i8 0) := by rw [e_i37]; rfl
                have e_i37_1 : i37 1 = (i8 1) := by rw [e_i37]; rfl
                have e_i37_2 : i37 2 = (i8 2) := by rw [e_i37]; rfl
                have e_i37_3 : i37 3 = (i8 3) := by rw [e_i37]; rfl
                have e_i37_4 : i37 4 = (v1 + 1) := by rw [e_i37]; rfl
                have e_i37_5 : i37 5 = z14 := by rw [e_i37]; rfl
                have e_i37_6 : i37 6 = 0 := by rw [e_i37]; rfl
                have e_i37_7 : i37 7 = 0 := by rw [e_i37]; rfl
                have e_i37_8 : i37 8 = (i8 8) := by rw [e_i37]; rfl
                have e_i37_9 : i37 9 = (i8 9) := by rw [e_i37]; rfl
                have e_i37_10 : i37 10 = (i8 10) := by rw [e_i37]; rfl
                have e_i37_11 : i37 11 = (i8 11) := by rw [e_i37]; rfl
                have e_i37_12 : i37 12 = (i8 12) := by rw [e_i37]; rfl
                have e_i37_13 : i37 13 = (i8 13) := by rw [e_i37]; rfl
                have e_i37_14 : i37 14 = (i8 14) := by rw [e_i37]; rfl
                have e_i37_15 : i37 15 = (i8 15) := by rw [e_i37]; rfl
                have e_i37_16 : i37 16 = (i8 16) := by rw [e_i37]; rfl
                have e_i37_17 : i37 17 = (i8 17) := by rw [e_i37]; rfl
                have e_i37_18 : i37 18 = (i8 18) := by rw [e_i37]; rfl
                have hO38 : ModS i37 := by have hold9 := hO9; refine ⟨⟨?_, ?_, ?_, ?_, ?_⟩, ⟨?_, ?_, ?_, ?_, ?_, ?_⟩, ⟨?_, ?_, ?_, ?_⟩⟩ <;> omega
                have hf39 := hO38
                have hP : va_P G vwCl [((q 1), .inl (cI, 8, .inl (fun k => zI (g_letters k)))), (y, .inr (9, [.int (zI (i37 0)), .ref (q 0), .int (zI (i37 1)), .int (zI (i37 2)), .int (zI (i37 3)), .int (zI (i37 4)), .int (zI (i37 5)), .int (zI (i37 6)), .int (zI (i37 7)), .int (zI (i37 8)), .int (zI (i37 9)), .int (zI (i37 10)), .ref (q 1), .int (zI (i37 11)), .int (zI (i37 12)), .ref (q 2), .ref (q 3), .ref (q 4), .ref (q 5), .ref (q 6), .ref (q 7), .ref (q 8), .ref (q 9), .ref (q 10), .ref (q 11), .ref (q 12), .ref (q 13), .ref (q 14), .ref (q 15), .ref (q 16), .int (zI (i37 13)), .int (zI (i37 14)), .int (zI (i37 15)), .int (zI (i37 16)), .int (zI (i37 17)), .int (zI (i37 18)), .ref (q 17), .ref (q 18), .ref (q 19), .ref (q 20)])), ((q 0), .inl (cI, 900, .inl (fun k => zI (g_tape k))))] H := by subst e_i37; exact hP
                have hD : va_D A [((q 1), .inl (cI, 8, .inl (fun k => zI (g_letters k)))), (y, .inr (9, [.int (zI (i37 0)), .ref (q 0), .int (zI (i37 1)), .int (zI (i37 2)), .int (zI (i37 3)), .int (zI (i37 4)), .int (zI (i37 5)), .int (zI (i37 6)), .int (zI (i37 7)), .int (zI (i37 8)), .int (zI (i37 9)), .int (zI (i37 10)), .ref (q 1), .int (zI (i37 11)), .int (zI (i37 12)), .ref (q 2), .ref (q 3), .ref (q 4), .ref (q 5), .ref (q 6), .ref (q 7), .ref (q 8), .ref (q 9), .ref (q 10), .ref (q 11), .ref (q 12), .ref (q 13), .ref (q 14), .ref (q 15), .ref (q 16), .int (zI (i37 13)), .int (zI (i37 14)), .int (zI (i37 15)), .int (zI (i37 16)), .int (zI (i37 17)), .int (zI (i37 18)), .ref (q 17), .ref (q 18), .ref (q 19), .ref (q 20)])), ((q 0), .inl (cI, 900, .inl (fun k => zI (g_tape k))))] := by subst e_i37; exact hD
                exact ret (fun k => [(i37, fun _ _ => 0), (fun _ => 0, fun _ => g_letters)].getD k (fun _ => 0, fun _ _ => 0)) _ _ _ _ _ _ ⟨⟨hO38, (show i37 5 = 2 → i37 7 ≤ 8 from by omega)⟩, hr_letters, (show i37 11 = i 11 ∧ i 4 ≤ i37 4 ∧ i37 1 = i 1 ∧ (i37 5 ≠ 0 → i 4 < i37 4) ∧ i37 14 = i 14 ∧ i37 16 = i 16 from by omega)⟩ (bw_subP (isC := [1, 2, 0]) hP rfl) (hD.sub [1, 2, 0] (by decide) rfl) hS (Nat.le_of_ble_eq_true rfl) (Nat.le_of_ble_eq_true rfl) dX9_next_247
          · refine lv_iconst (v := zI 0) hx hb dX9_next_150 rfl ?_
            refine lv_istore_n (lv' := [(3, .int (zI 0)), (2, .int (zI z14)), (1, .int (zI v1)), (0, .ref y)]) hx hb dX9_next_151 rfl hl (by decide) rfl (fun ls hl => ?_)
            obtain ⟨i40, e_i40⟩ : ∃ i40 : Nat → Int, i40 = fun k => [(i8 0), (i8 1), (i8 2), (i8 3), (i8 4), (i8 5), 0, 0, (i8 8), (i8 9), (i8 10), (i8 11), (i8 12), (i8 13), (i8 14), (i8 15), (i8 16), (i8 17), (i8 18)].getD k 0 := ⟨_, rfl⟩
            have e_i40_0 : i40 0 = (i8 0) := by rw [e_i40]; rfl
            have e_i40_1 : i40 1 = (i8 1) := by rw [e_i40]; rfl
            have e_i40_2 : i40 2 = (i8 2) := by rw [e_i40]; rfl
            have e_i40_3 : i40 3 = (i8 3) := by rw [e_i40]; rfl
            have e_i40_4 : i40 4 = (i8 4) := by rw [e_i40]; rfl
            have e_i40_5 : i40 5 = (i8 5) := by rw [e_i40]; rfl
            have e_i40_6 : i40 6 = 0 := by rw [e_i40]; rfl
            have e_i40_7 : i40 7 = 0 := by rw [e_i40]; rfl
            have e_i40_8 : i40 8 = (i8 8) := by rw [e_i40]; rfl
            have e_i40_9 : i40 9 = (i8 9) := by rw [e_i40]; rfl
            have e_i40_10 : i40 10 = (i8 10) := by rw [e_i40]; rfl
            have e_i40_11 : i40 11 = (i8 11) := by rw [e_i40]; rfl
            have e_i40_12 : i40 12 = (i8 12) := by rw [e_i40]; rfl
            have e_i40_13 : i40 13 = (i8 13) := by rw [e_i40]; rfl
            have e_i40_14 : i40 14 = (i8 14) := by rw [e_i40]; rfl
            have e_i40_15 : i40 15 = (i8 15) := by rw [e_i40]; rfl
            have e_i40_16 : i40 16 = (i8 16) := by rw [e_i40]; rfl
            have e_i40_17 : i40 17 = (i8 17) := by rw [e_i40]; rfl
            have e_i40_18 : i40 18 = (i8 18) := by rw [e_i40]; rfl
            have hO41 : ModS i40 := by have hold9 := hO9; refine ⟨⟨?_, ?_, ?_, ?_, ?_⟩, ⟨?_, ?_, ?_, ?_, ?_, ?_⟩, ⟨?_, ?_, ?_, ?_⟩⟩ <;> omega
            have hf42 := hO41
            have hP : va_P G vwCl [((q 1), .inl (cI, 8, .inl (fun k => zI (g_letters k)))), (y, .inr (9, [.int (zI (i40 0)), .ref (q 0), .int (zI (i40 1)), .int (zI (i40 2)), .int (zI (i40 3)), .int (zI (i40 4)), .int (zI (i40 5)), .int (zI (i40 6)), .int (zI (i40 7)), .int (zI (i40 8)), .int (zI (i40 9)), .int (zI (i40 10)), .ref (q 1), .int (zI (i40 11)), .int (zI (i40 12)), .ref (q 2), .ref (q 3), .ref (q 4), .ref (q 5), .ref (q 6), .ref (q 7), .ref (q 8), .ref (q 9), .ref (q 10), .ref (q 11), .ref (q 12), .ref (q 13), .ref (q 14), .ref (q 15), .ref (q 16), .int (zI (i40 13)), .int (zI (i40 14)), .int (zI (i40 15)), .int (zI (i40 16)), .int (zI (i40 17)), .int (zI (i40 18)), .ref (q 17), .ref (q 18), .ref (q 19), .ref (q 20)])), ((q 0), .inl (cI, 900, .inl (fun k => zI (g_tape k))))] H := by subst e_i40; exact hP
            have hD : va_D A [((q 1), .inl (cI, 8, .inl (fun k => zI (g_letters k)))), (y, .inr (9, [.int (zI (i40 0)), .ref (q 0), .int (zI (i40 1)), .int (zI (i40 2)), .int (zI (i40 3)), .int (zI (i40 4)), .int (zI (i40 5)), .int (zI (i40 6)), .int (zI (i40 7)), .int (zI (i40 8)), .int (zI (i40 9)), .int (zI (i40 10)), .ref (q 1), .int (zI (i40 11)), .int (zI (i40 12)), .ref (q 2), .ref (q 3), .ref (q 4), .ref (q 5), .ref (q 6), .ref (q 7), .ref (q 8), .ref (q 9), .ref (q 10), .ref (q 11), .ref (q 12), .ref (q 13), .ref (q 14), .ref (q 15), .ref (q 16), .int (zI (i40 13)), .int (zI (i40 14)), .int (zI (i40 15)), .int (zI (i40 16)), .int (zI (i40 17)), .int (zI (i40 18)), .ref (q 17), .ref (q 18), .ref (q 19), .ref (q 20)])), ((q 0), .inl (cI, 900, .inl (fun k => zI (g_tape k))))] := by subst e_i40; exact hD
            refine W.widen (k := 0) (n := 0) (Nat.le_of_ble_eq_true rfl) (Nat.le_of_ble_eq_true rfl) ?_
            refine (?_ : ∀ (n9_2 : Nat) (w1 : Int) (w3 : Int) (ii : Nat → Int) (H : Heap) (locs : List Loc), (0 ≤ w3 ∧ w3 ≤ w1 ∧ ii 7 = 0 ∧ i 4 ≤ v1 ∧ v1 ≤ w1 ∧ w1 ≤ 900 ∧ ii 11 = i 11 ∧ ii 1 = i 1 ∧ ii 2 = i 2 ∧ ii 14 = i 14 ∧ ii 16 = i 16) → (901 - w1 : Int).toNat < n9_2 → (ModS ii) → va_P G vwCl [((q 1), .inl (cI, 8, .inl (fun k => zI (g_letters k)))), (y, .inr (9, [.int (zI (ii 0)), .ref (q 0), .int (zI (ii 1)), .int (zI (ii 2)), .int (zI (ii 3)), .int (zI (ii 4)), .int (zI (ii 5)), .int (zI (ii 6)), .int (zI (ii 7)), .int (zI (ii 8)), .int (zI (ii 9)), .int (zI (ii 10)), .ref (q 1), .int (zI (ii 11)), .int (zI (ii 12)), .ref (q 2), .ref (q 3), .ref (q 4), .ref (q 5), .ref (q 6), .ref (q 7), .ref (q 8), .ref (q 9), .ref (q 10), .ref (q 11), .ref (q 12), .ref (q 13), .ref (q 14), .ref (q 15), .ref (q 16), .int (zI (ii 13)), .int (zI (ii 14)), .int (zI (ii 15)), .int (zI (ii 16)), .int (zI (ii 17)), .int (zI (ii 18)), .ref (q 17), .ref (q 18), .ref (q 19), .ref (q 20)])), ((q 0), .inl (cI, 900, .inl (fun k => zI (g_tape k))))] H → va_D A [((q 1), .inl (cI, 8, .inl (fun k => zI (g_letters k)))), (y, .inr (9, [.int (zI (ii 0)), .ref (q 0), .int (zI (ii 1)), .int (zI (ii 2)), .int (zI (ii 3)), .int (zI (ii 4)), .int (zI (ii 5)), .int (zI (ii 6)), .int (zI (ii 7)), .int (zI (ii 8)), .int (zI (ii 9)), .int (zI (ii 10)), .ref (q 1), .int (zI (ii 11)), .int (zI (ii 12)), .ref (q 2), .ref (q 3), .ref (q 4), .ref (q 5), .ref (q 6), .ref (q 7), .ref (q 8), .ref (q 9), .ref (q 10), .ref (q 11), .ref (q 12), .ref (q 13), .ref (q 14), .ref (q 15), .ref (q 16), .int (zI (ii 13)), .int (zI (ii 14)), .int (zI (ii 15)), .int (zI (ii 16)), .int (zI (ii 17)), .int (zI (ii 18)), .ref (q 17), .ref (q 18), .ref (q 19), .ref (q 20)])), ((q 0), .inl (cI, 900, .inl (fun k => zI (g_tape k))))] → va_S A s.heap H locs → ∀ ls : Array Slot, lv_has ls 4 [(3, .int (zI w3)), (2, .int (zI z14)), (1, .int (zI w1)), (0, .ref y)] → W p l e rm_X9_next s m ([.ref y] : List Value).toArray below meth c H locs 0 0 Q (F0 m 152 ls [])) ((901 - v1 : Int).toNat + 1) v1 0 i40 _ _ (by omega) (by omega) hO41 hP hD hS ls hl
            clear hP hD hS hl ls
            intro n9_2
            induction n9_2 with
            | zero =>
              intro w1 w3 ii H locs hI hM
              exact absurd hM (by omega)
            | succ n9_2 ih2 =>
              intro w1 w3 ii H locs hI2 hM2 hG hP hD hS ls hl
              have hf43 := hG
              refine lv_aload_n hx hb dX9_next_152 rfl (lv_at hl 3 rfl) ?_
              refine lv_iload_n hx hb dX9_next_153 rfl (lv_at hl 2 rfl) ?_
              refine r_callVi (As := [.int (zI w1)]) (rest := []) (wr := [((q 1), .inl (cI, 8, .inl (fun k => zI (g_letters k))))]) F hK hP hD hS hA hO hE (c_X9_look hO y q ii hG g_tape hr_tape w1 (by omega) (by omega)) k_1307 kv_X9_look 1 rfl (by decide +kernel) ⟨Nat.le_of_ble_eq_true rfl, Nat.le_of_ble_eq_true rfl⟩ [1, 2] [0] rfl rfl (by decide) (by decide) (by decide) 0 9 rfl rfl rfl hl.1 rfl (Nat.le_of_ble_eq_true rfl) dX9_next_154 ⟨Nat.le_of_ble_eq_true rfl, Nat.le_of_ble_eq_true rfl⟩ (w1 := fun u44 => [((q 1), .inl (cI, 8, .inl (fun k => zI (g_letters k)))), (y, .inr (9, [.int (zI (ii 0)), .ref (q 0), .int (zI (ii 1)), .int (zI (ii 2)), .int (zI (ii 3)), .int (zI (ii 4)), .int (zI (ii 5)), .int (zI (ii 6)), .int (zI (ii 7)), .int (zI (ii 8)), .int (zI (ii 9)), .int (zI (ii 10)), .ref (q 1), .int (zI (ii 11)), .int (zI (ii 12)), .ref (q 2), .ref (q 3), .ref (q 4), .ref (q 5), .ref (q 6), .ref (q 7), .ref (q 8), .ref (q 9), .ref (q 10), .ref (q 11), .ref (q 12), .ref (q 13), .ref (q 14), .ref (q 15), .ref (q 16), .int (zI (ii 13)), .int (zI (ii 14)), .int (zI (ii 15)), .int (zI (ii 16)), .int (zI (ii 17)), .int (zI (ii 18)), .ref (q 17), .ref (q 18), .ref (q 19), .ref (q 20)])), ((q 0), .inl (cI, 900, .inl (fun k => zI (g_tape k))))]) (fun _ => rfl) (fun r45 u44 H locs hp46 hP hD hS => ?_)
              obtain ⟨z47, rfl, h_z47⟩ := hp46
              have hx48 := h_z47
              have hlk9 : w1 = v1 → z47 = z14 := fun q9 => (h_z47.1).trans ((lk_congr (by omega) q9).trans (h_z14.1).symm)
              refine r_callSi (As := [.int (zI z47)]) (rest := []) (wr := [((q 1), .inl (cI, 8, .inl (fun k => zI (g_letters k)))), (y, .inr (9, [.int (zI (ii 0)), .ref (q 0), .int (zI (ii 1)), .int (zI (ii 2)), .int (zI (ii 3)), .int (zI (ii 4)), .int (zI (ii 5)), .int (zI (ii 6)), .int (zI (ii 7)), .int (zI (ii 8)), .int (zI (ii 9)), .int (zI (ii 10)), .ref (q 1), .int (zI (ii 11)), .int (zI (ii 12)), .ref (q 2), .ref (q 3), .ref (q 4), .ref (q 5), .ref (q 6), .ref (q 7), .ref (q 8), .ref (q 9), .ref (q 10), .ref (q 11), .ref (q 12), .ref (q 13), .ref (q 14), .ref (q 15), .ref (q 16), .int (zI (ii 13)), .int (zI (ii 14)), .int (zI (ii 15)), .int (zI (ii 16)), .int (zI (ii 17)), .int (zI (ii 18)), .ref (q 17), .ref (q 18), .ref (q 19), .ref (q 20)])), ((q 0), .inl (cI, 900, .inl (fun k => zI (g_tape k))))]) F hK hP hD hS hA hO hE (c_X9_isDigit hO z47 (by omega)) k_1314 ks_X9_isDigit 1 rfl (by decide +kernel) ⟨Nat.le_of_ble_eq_true rfl, Nat.le_of_ble_eq_true rfl⟩ [] [0, 1, 2] rfl rfl (by decide) (by decide) (by decide) hl.1 rfl (Nat.le_of_ble_eq_true rfl) dX9_next_157 ⟨Nat.le_of_ble_eq_true rfl, Nat.le_of_ble_eq_true rfl⟩ (w1 := fun u49 => [((q 1), .inl (cI, 8, .inl (fun k => zI (g_letters k)))), (y, .inr (9, [.int (zI (ii 0)), .ref (q 0), .int (zI (ii 1)), .int (zI (ii 2)), .int (zI (ii 3)), .int (zI (ii 4)), .int (zI (ii 5)), .int (zI (ii 6)), .int (zI (ii 7)), .int (zI (ii 8)), .int (zI (ii 9)), .int (zI (ii 10)), .ref (q 1), .int (zI (ii 11)), .int (zI (ii 12)), .ref (q 2), .ref (q 3), .ref (q 4), .ref (q 5), .ref (q 6), .ref (q 7), .ref (q 8), .ref (q 9), .ref (q 10), .ref (q 11), .ref (q 12), .ref (q 13), .ref (q 14), .ref (q 15), .ref (q 16), .int (zI (ii 13)), .int (zI (ii 14)), .int (zI (ii 15)), .int (zI (ii 16)), .int (zI (ii 17)), .int (zI (ii 18)), .ref (q 17), .ref (q 18), .ref (q 19), .ref (q 20)])), ((q 0), .inl (cI, 900, .inl (fun k => zI (g_tape k))))]) (fun _ => rfl) (fun r50 u49 H locs hp51 hP hD hS => ?_)
              obtain ⟨z52, rfl, h_z52⟩ := hp51
              have hx53 := h_z52
              refine rz_if_eq (tgt := 197) F (by omega) dX9_next_160 (by decide) (fun h160_53 => ?_) (fun h160_53 => ?_)
              · refine lv_aload_n hx hb dX9_next_197 rfl (lv_at hl 3 rfl) ?_
                refine lv_iload_n hx hb dX9_next_198 rfl (lv_at hl 2 rfl) ?_
                refine r_put F hK hP hD hS 1 5 rfl rfl in_X9 tyX9 tyX9_ok nmX9 (by decide) k_1168 rfl rfl rfl (Nat.le_of_ble_eq_true rfl) dX9_next_199 (w1 := [((q 1), .inl (cI, 8, .inl (fun k => zI (g_letters k)))), (y, .inr (9, [.int (zI (ii 0)), .ref (q 0), .int (zI (ii 1)), .int (zI (ii 2)), .int (zI (ii 3)), .int (zI w1), .int (zI (ii 5)), .int (zI (ii 6)), .int (zI (ii 7)), .int (zI (ii 8)), .int (zI (ii 9)), .int (zI (ii 10)), .ref (q 1), .int (zI (ii 11)), .int (zI (ii 12)), .ref (q 2), .ref (q 3), .ref (q 4), .ref (q 5), .ref (q 6), .ref (q 7), .ref (q 8), .ref (q 9), .ref (q 10), .ref (q 11), .ref (q 12), .ref (q 13), .ref (q 14), .ref (q 15), .ref (q 16), .int (zI (ii 13)), .int (zI (ii 14)), .int (zI (ii 15)), .int (zI (ii 16)), .int (zI (ii 17)), .int (zI (ii 18)), .ref (q 17), .ref (q 18), .ref (q 19), .ref (q 20)])), ((q 0), .inl (cI, 900, .inl (fun k => zI (g_tape k))))]) rfl (fun H locs hP hD hS => ?_)
                refine lv_aload_n hx hb dX9_next_202 rfl (lv_at hl 3 rfl) ?_
                refine lv_iload_n hx hb dX9_next_203 rfl (lv_at hl 0 rfl) ?_
                refine lv_iconst (v := zI 3) hx hb dX9_next_204 rfl ?_
                refine rz_icmp_le (tgt := 212) F (by omega) (by omega) dX9_next_205 (by decide) (fun h205_54 => ?_) (fun h205_54 => ?_)
                · refine lv_iconst (v := zI 3) hx hb dX9_next_212 rfl ?_
                  refine r_put F hK hP hD hS 1 6 rfl rfl in_X9 tyX9 tyX9_ok nmX9 (by decide) k_1169 rfl rfl rfl (Nat.le_of_ble_eq_true rfl) dX9_next_213 (w1 := [((q 1), .inl (cI, 8, .inl (fun k => zI (g_letters k)))), (y, .inr (9, [.int (zI (ii 0)), .ref (q 0), .int (zI (ii 1)), .int (zI (ii 2)), .int (zI (ii 3)), .int (zI w1), .int (zI 3), .int (zI (ii 6)), .int (zI (ii 7)), .int (zI (ii 8)), .int (zI (ii 9)), .int (zI (ii 10)), .ref (q 1), .int (zI (ii 11)), .int (zI (ii 12)), .ref (q 2), .ref (q 3), .ref (q 4), .ref (q 5), .ref (q 6), .ref (q 7), .ref (q 8), .ref (q 9), .ref (q 10), .ref (q 11), .ref (q 12), .ref (q 13), .ref (q 14), .ref (q 15), .ref (q 16), .int (zI (ii 13)), .int (zI (ii 14)), .int (zI (ii 15)), .int (zI (ii 16)), .int (zI (ii 17)), .int (zI (ii 18)), .ref (q 17), .ref (q 18), .ref (q 19), .ref (q 20)])), ((q 0), .inl (cI, 900, .inl (fun k => zI (g_tape k))))]) rfl (fun H locs hP hD hS => ?_)
                  refine lv_goto (tgt := 247) hx hb dX9_next_216 (by decide) ?_
                  obtain ⟨i56, e_i56⟩ : ∃ i56 : Nat → Int, i56 = fun k => [(ii 0), (ii 1), (ii 2), (ii 3), w1, 3, (ii 6), (ii 7), (ii 8), (ii 9), (ii 10), (ii 11), (ii 12), (ii 13), (ii 14), (ii 15), (ii 16), (ii 17), (ii 18)].getD k 0 := ⟨_, rfl⟩
                  have e_i56_0 : i56 0 = (ii 0) := by rw [e_i56]; rfl
                  have e_i56_1 : i56 1 = (ii 1) := by rw [e_i56]; rfl
                  have e_i56_2 : i56 2 = (ii 2) := by rw [e_i56]; rfl
                  have e_i56_3 : i56 3 = (ii 3) := by rw [e_i56]; rfl
                  have e_i56_4 : i56 4 = w1 := by rw [e_i56]; rfl
                  have e_i56_5 : i56 5 = 3 := by rw [e_i56]; rfl
                  have e_i56_6 : i56 6 = (ii 6) := by rw [e_i56]; rfl
                  have e_i56_7 : i56 7 = (ii 7) := by rw [e_i56]; rfl
                  have e_i56_8 : i56 8 = (ii 8) := by rw [e_i56]; rfl
                  have e_i56_9 : i56 9 = (ii 9) := by rw [e_i56]; rfl
                  have e_i56_10 : i56 10 = (ii 10) := by rw [e_i56]; rfl
                  have e_i56_11 : i56 11 = (ii 11) := by rw [e_i56]; rfl
                  have e_i56_12 : i56 12 = (ii 12) := by rw [e_i56]; rfl
                  have e_i56_13 : i56 13 = (ii 13) := by rw [e_i56]; rfl
                  have e_i56_14 : i56 14 = (ii 14) := by rw [e_i56]; rfl
                  have e_i56_15 : i56 15 = (ii 15) := by rw [e_i56]; rfl
                  have e_i56_16 : i56 16 = (ii 16) := by rw [e_i56]; rfl
                  have e_i56_17 : i56 17 = (ii 17) := by rw [e_i56]; rfl
                  have e_i56_18 : i56 18 = (ii 18) := by rw [e_i56]; rfl
                  have hO57 : ModS i56 := by have hold9 := hG; refine ⟨⟨?_, ?_, ?_, ?_, ?_⟩, ⟨?_, ?_, ?_, ?_, ?_, ?_⟩, ⟨?_, ?_, ?_, ?_⟩⟩ <;> omega
                  have hf58 := hO57
                  have hP : va_P G vwCl [((q 1), .inl (cI, 8, .inl (fun k => zI (g_letters k)))), (y, .inr (9, [.int (zI (i56 0)), .ref (q 0), .int (zI (i56 1)), .int (zI (i56 2)), .int (zI (i56 3)), .int (zI (i56 4)), .int (zI (i56 5)), .int (zI (i56 6)), .int (zI (i56 7)), .int (zI (i56 8)), .int (zI (i56 9)), .int (zI (i56 10)), .ref (q 1), .int (zI (i56 11)), .int (zI (i56 12)), .ref (q 2), .ref (q 3), .ref (q 4), .ref (q 5), .ref (q 6), .ref (q 7), .ref (q 8), .ref (q 9), .ref (q 10), .ref (q 11), .ref (q 12), .ref (q 13), .ref (q 14), .ref (q 15), .ref (q 16), .int (zI (i56 13)), .int (zI (i56 14)), .int (zI (i56 15)), .int (zI (i56 16)), .int (zI (i56 17)), .int (zI (i56 18)), .ref (q 17), .ref (q 18), .ref (q 19), .ref (q 20)])), ((q 0), .inl (cI, 900, .inl (fun k => zI (g_tape k))))] H := by subst e_i56; exact hP
                  have hD : va_D A [((q 1), .inl (cI, 8, .inl (fun k => zI (g_letters k)))), (y, .inr (9, [.int (zI (i56 0)), .ref (q 0), .int (zI (i56 1)), .int (zI (i56 2)), .int (zI (i56 3)), .int (zI (i56 4)), .int (zI (i56 5)), .int (zI (i56 6)), .int (zI (i56 7)), .int (zI (i56 8)), .int (zI (i56 9)), .int (zI (i56 10)), .ref (q 1), .int (zI (i56 11)), .int (zI (i56 12)), .ref (q 2), .ref (q 3), .ref (q 4), .ref (q 5), .ref (q 6), .ref (q 7), .ref (q 8), .ref (q 9), .ref (q 10), .ref (q 11), .ref (q 12), .ref (q 13), .ref (q 14), .ref (q 15), .ref (q 16), .int (zI (i56 13)), .int (zI (i56 14)), .int (zI (i56 15)), .int (zI (i56 16)), .int (zI (i56 17)), .int (zI (i56 18)), .ref (q 17), .ref (q 18), .ref (q 19), .ref (q 20)])), ((q 0), .inl (cI, 900, .inl (fun k => zI (g_tape k))))] := by subst e_i56; exact hD
                  exact ret (fun k => [(i56, fun _ _ => 0), (fun _ => 0, fun _ => g_letters)].getD k (fun _ => 0, fun _ _ => 0)) _ _ _ _ _ _ ⟨⟨hO57, (show i56 5 = 2 → i56 7 ≤ 8 from by omega)⟩, hr_letters, (show i56 11 = i 11 ∧ i 4 ≤ i56 4 ∧ i56 1 = i 1 ∧ (i56 5 ≠ 0 → i 4 < i56 4) ∧ i56 14 = i 14 ∧ i56 16 = i 16 from by omega)⟩ (bw_subP (isC := [1, 2, 0]) hP rfl) (hD.sub [1, 2, 0] (by decide) rfl) hS (Nat.le_of_ble_eq_true rfl) (Nat.le_of_ble_eq_true rfl) dX9_next_247
                · refine lv_iconst (v := zI 1) hx hb dX9_next_208 rfl ?_
                  refine lv_goto (tgt := 213) hx hb dX9_next_209 (by decide) ?_
                  refine r_put F hK hP hD hS 1 6 rfl rfl in_X9 tyX9 tyX9_ok nmX9 (by decide) k_1169 rfl rfl rfl (Nat.le_of_ble_eq_true rfl) dX9_next_213 (w1 := [((q 1), .inl (cI, 8, .inl (fun k => zI (g_letters k)))), (y, .inr (9, [.int (zI (ii 0)), .ref (q 0), .int (zI (ii 1)), .int (zI (ii 2)), .int (zI (ii 3)), .int (zI w1), .int (zI 1), .int (zI (ii 6)), .int (zI (ii 7)), .int (zI (ii 8)), .int (zI (ii 9)), .int (zI (ii 10)), .ref (q 1), .int (zI (ii 11)), .int (zI (ii 12)), .ref (q 2), .ref (q 3), .ref (q 4), .ref (q 5), .ref (q 6), .ref (q 7), .ref (q 8), .ref (q 9), .ref (q 10), .ref (q 11), .ref (q 12), .ref (q 13), .ref (q 14), .ref (q 15), .ref (q 16), .int (zI (ii 13)), .int (zI (ii 14)), .int (zI (ii 15)), .int (zI (ii 16)), .int (zI (ii 17)), .int (zI (ii 18)), .ref (q 17), .ref (q 18), .ref (q 19), .ref (q 20)])), ((q 0), .inl (cI, 900, .inl (fun k => zI (g_tape k))))]) rfl (fun H locs hP hD hS => ?_)
                  refine lv_goto (tgt := 247) hx hb dX9_next_216 (by decide) ?_
                  obtain ⟨i59, e_i59⟩ : ∃ i59 : Nat → Int, i59 = fun k => [(ii 0), (ii 1), (ii 2), (ii 3), w1, 1, (ii 6), (ii 7), (ii 8), (ii 9), (ii 10), (ii 11), (ii 12), (ii 13), (ii 14), (ii 15), (ii 16), (ii 17), (ii 18)].getD k 0 := ⟨_, rfl⟩
                  have e_i59_0 : i59 0 = (ii 0) := by rw [e_i59]; rfl
                  have e_i59_1 : i59 1 = (ii 1) := by rw [e_i59]; rfl
                  have e_i59_2 : i59 2 = (ii 2) := by rw [e_i59]; rfl
                  have e_i59_3 : i59 3 = (ii 3) := by rw [e_i59]; rfl
                  have e_i59_4 : i59 4 = w1 := by rw [e_i59]; rfl
                  have e_i59_5 : i59 5 = 1 := by rw [e_i59]; rfl
                  have e_i59_6 : i59 6 = (ii 6) := by rw [e_i59]; rfl
                  have e_i59_7 : i59 7 = (ii 7) := by rw [e_i59]; rfl
                  have e_i59_8 : i59 8 = (ii 8) := by rw [e_i59]; rfl
                  have e_i59_9 : i59 9 = (ii 9) := by rw [e_i59]; rfl
                  have e_i59_10 : i59 10 = (ii 10) := by rw [e_i59]; rfl
                  have e_i59_11 : i59 11 = (ii 11) := by rw [e_i59]; rfl
                  have e_i59_12 : i59 12 = (ii 12) := by rw [e_i59]; rfl
                  have e_i59_13 : i59 13 = (ii 13) := by rw [e_i59]; rfl
                  have e_i59_14 : i59 14 = (ii 14) := by rw [e_i59]; rfl
                  have e_i59_15 : i59 15 = (ii 15) := by rw [e_i59]; rfl
                  have e_i59_16 : i59 16 = (ii 16) := by rw [e_i59]; rfl
                  have e_i59_17 : i59 17 = (ii 17) := by rw [e_i59]; rfl
                  have e_i59_18 : i59 18 = (ii 18) := by rw [e_i59]; rfl
                  have hO60 : ModS i59 := by have hold9 := hG; refine ⟨⟨?_, ?_, ?_, ?_, ?_⟩, ⟨?_, ?_, ?_, ?_, ?_, ?_⟩, ⟨?_, ?_, ?_, ?_⟩⟩ <;> omega
                  have hf61 := hO60
                  have hP : va_P G vwCl [((q 1), .inl (cI, 8, .inl (fun k => zI (g_letters k)))), (y, .inr (9, [.int (zI (i59 0)), .ref (q 0), .int (zI (i59 1)), .int (zI (i59 2)), .int (zI (i59 3)), .int (zI (i59 4)), .int (zI (i59 5)), .int (zI (i59 6)), .int (zI (i59 7)), .int (zI (i59 8)), .int (zI (i59 9)), .int (zI (i59 10)), .ref (q 1), .int (zI (i59 11)), .int (zI (i59 12)), .ref (q 2), .ref (q 3), .ref (q 4), .ref (q 5), .ref (q 6), .ref (q 7), .ref (q 8), .ref (q 9), .ref (q 10), .ref (q 11), .ref (q 12), .ref (q 13), .ref (q 14), .ref (q 15), .ref (q 16), .int (zI (i59 13)), .int (zI (i59 14)), .int (zI (i59 15)), .int (zI (i59 16)), .int (zI (i59 17)), .int (zI (i59 18)), .ref (q 17), .ref (q 18), .ref (q 19), .ref (q 20)])), ((q 0), .inl (cI, 900, .inl (fun k => zI (g_tape k))))] H := by subst e_i59; exact hP
                  have hD : va_D A [((q 1), .inl (cI, 8, .inl (fun k => zI (g_letters k)))), (y, .inr (9, [.int (zI (i59 0)), .ref (q 0), .int (zI (i59 1)), .int (zI (i59 2)), .int (zI (i59 3)), .int (zI (i59 4)), .int (zI (i59 5)), .int (zI (i59 6)), .int (zI (i59 7)), .int (zI (i59 8)), .int (zI (i59 9)), .int (zI (i59 10)), .ref (q 1), .int (zI (i59 11)), .int (zI (i59 12)), .ref (q 2), .ref (q 3), .ref (q 4), .ref (q 5), .ref (q 6), .ref (q 7), .ref (q 8), .ref (q 9), .ref (q 10), .ref (q 11), .ref (q 12), .ref (q 13), .ref (q 14), .ref (q 15), .ref (q 16), .int (zI (i59 13)), .int (zI (i59 14)), .int (zI (i59 15)), .int (zI (i59 16)), .int (zI (i59 17)), .int (zI (i59 18)), .ref (q 17), .ref (q 18), .ref (q 19), .ref (q 20)])), ((q 0), .inl (cI, 900, .inl (fun k => zI (g_tape k))))] := by subst e_i59; exact hD
                  exact ret (fun k => [(i59, fun _ _ => 0), (fun _ => 0, fun _ => g_letters)].getD k (fun _ => 0, fun _ _ => 0)) _ _ _ _ _ _ ⟨⟨hO60, (show i59 5 = 2 → i59 7 ≤ 8 from by omega)⟩, hr_letters, (show i59 11 = i 11 ∧ i 4 ≤ i59 4 ∧ i59 1 = i 1 ∧ (i59 5 ≠ 0 → i 4 < i59 4) ∧ i59 14 = i 14 ∧ i59 16 = i 16 from by omega)⟩ (bw_subP (isC := [1, 2, 0]) hP rfl) (hD.sub [1, 2, 0] (by decide) rfl) hS (Nat.le_of_ble_eq_true rfl) (Nat.le_of_ble_eq_true rfl) dX9_next_247
              · refine lv_iload_n hx hb dX9_next_163 rfl (lv_at hl 0 rfl) ?_
                refine lv_iconst (v := zI 3) hx hb dX9_next_164 rfl ?_
                refine rz_icmp_ge (tgt := 188) F (by omega) (by omega) dX9_next_165 (by decide) (fun h165_61 => ?_) (fun h165_61 => ?_)
                · refine lv_iinc (v := zI (w3 + 1)) (lv' := [(3, .int (zI (w3 + 1))), (2, .int (zI z14)), (1, .int (zI w1)), (0, .ref y)]) hx hb dX9_next_188 hl (k := 0) rfl (zI_add _ _) (by decide) rfl (fun ls hl => ?_)
                  refine lv_iinc (v := zI (w1 + 1)) (lv' := [(1, .int (zI (w1 + 1))), (3, .int (zI (w3 + 1))), (2, .int (zI z14)), (0, .ref y)]) hx hb dX9_next_191 hl (k := 2) rfl (zI_add _ _) (by decide) rfl (fun ls hl => ?_)
                  refine lv_goto (tgt := 152) hx hb dX9_next_194 (by decide) ?_
                  exact ih2 (w1 + 1) (w3 + 1) ii _ _ (by omega) (by omega) hG hP hD hS ls (lv_sub hl [1, 2, 0, 3] rfl)
                · refine lv_aload_n hx hb dX9_next_168 rfl (lv_at hl 3 rfl) ?_
                  refine lv_bipush (v := zI 10) hx hb dX9_next_169 (by decide) ?_
                  refine lv_aload_n hx hb dX9_next_171 rfl (lv_at hl 3 rfl) ?_
                  refine r_get F hK hP 1 7 rfl rfl in_X9 (by decide) k_1170 rfl dX9_next_172 ?_
                  refine r_imul (v := zI (10 * (ii 6))) F dX9_next_175 (zI_mul _ _) ?_
                  refine lv_aload_n hx hb dX9_next_176 rfl (lv_at hl 3 rfl) ?_
                  refine lv_iload_n hx hb dX9_next_177 rfl (lv_at hl 2 rfl) ?_
                  refine r_callVi (As := [.int (zI w1)]) (rest := [.int (zI (10 * (ii 6))), .ref y]) (wr := [((q 1), .inl (cI, 8, .inl (fun k => zI (g_letters k))))]) F hK hP hD hS hA hO hE (c_X9_look hO y q ii hG g_tape hr_tape w1 (by omega) (by omega)) k_1307 kv_X9_look 1 rfl (by decide +kernel) ⟨Nat.le_of_ble_eq_true rfl, Nat.le_of_ble_eq_true rfl⟩ [1, 2] [0] rfl rfl (by decide) (by decide) (by decide) 0 9 rfl rfl rfl hl.1 rfl (Nat.le_of_ble_eq_true rfl) dX9_next_178 ⟨Nat.le_of_ble_eq_true rfl, Nat.le_of_ble_eq_true rfl⟩ (w1 := fun u63 => [((q 1), .inl (cI, 8, .inl (fun k => zI (g_letters k)))), (y, .inr (9, [.int (zI (ii 0)), .ref (q 0), .int (zI (ii 1)), .int (zI (ii 2)), .int (zI (ii 3)), .int (zI (ii 4)), .int (zI (ii 5)), .int (zI (ii 6)), .int (zI (ii 7)), .int (zI (ii 8)), .int (zI (ii 9)), .int (zI (ii 10)), .ref (q 1), .int (zI (ii 11)), .int (zI (ii 12)), .ref (q 2), .ref (q 3), .ref (q 4), .ref (q 5), .ref (q 6), .ref (q 7), .ref (q 8), .ref (q 9), .ref (q 10), .ref (q 11), .ref (q 12), .ref (q 13), .ref (q 14), .ref (q 15), .ref (q 16), .int (zI (ii 13)), .int (zI (ii 14)), .int (zI (ii 15)), .int (zI (ii 16)), .int (zI (ii 17)), .int (zI (ii 18)), .ref (q 17), .ref (q 18), .ref (q 19), .ref (q 20)])), ((q 0), .inl (cI, 900, .inl (fun k => zI (g_tape k))))]) (fun _ => rfl) (fun r64 u63 H locs hp65 hP hD hS => ?_)
                  obtain ⟨z66, rfl, h_z66⟩ := hp65
                  have hx67 := h_z66
                  refine r_iadd (v := zI ((10 * (ii 6)) + z66)) F dX9_next_181 (zI_add _ _) ?_
                  refine lv_bipush (v := zI 48) hx hb dX9_next_182 (by decide) ?_
                  refine r_isub (v := zI (((10 * (ii 6)) + z66) - 48)) F dX9_next_184 (zI_sub _ _) ?_
                  refine rz_top (fun z68 h_z68 => ?_)
                  refine r_put F hK hP hD hS 1 7 rfl rfl in_X9 tyX9 tyX9_ok nmX9 (by decide) k_1170 rfl rfl rfl (Nat.le_of_ble_eq_true rfl) dX9_next_185 (w1 := [((q 1), .inl (cI, 8, .inl (fun k => zI (g_letters k)))), (y, .inr (9, [.int (zI (ii 0)), .ref (q 0), .int (zI (ii 1)), .int (zI (ii 2)), .int (zI (ii 3)), .int (zI (ii 4)), .int (zI (ii 5)), .int (zI z68), .int (zI (ii 7)), .int (zI (ii 8)), .int (zI (ii 9)), .int (zI (ii 10)), .ref (q 1), .int (zI (ii 11)), .int (zI (ii 12)), .ref (q 2), .ref (q 3), .ref (q 4), .ref (q 5), .ref (q 6), .ref (q 7), .ref (q 8), .ref (q 9), .ref (q 10), .ref (q 11), .ref (q 12), .ref (q 13), .ref (q 14), .ref (q 15), .ref (q 16), .int (zI (ii 13)), .int (zI (ii 14)), .int (zI (ii 15)), .int (zI (ii 16)), .int (zI (ii 17)), .int (zI (ii 18)), .ref (q 17), .ref (q 18), .ref (q 19), .ref (q 20)])), ((q 0), .inl (cI, 900, .inl (fun k => zI (g_tape k))))]) rfl (fun H locs hP hD hS => ?_)
                  refine lv_iinc (v := zI (w3 + 1)) (lv' := [(3, .int (zI (w3 + 1))), (2, .int (zI z14)), (1, .int (zI w1)), (0, .ref y)]) hx hb dX9_next_188 hl (k := 0) rfl (zI_add _ _) (by decide) rfl (fun ls hl => ?_)
                  refine lv_iinc (v := zI (w1 + 1)) (lv' := [(1, .int (zI (w1 + 1))), (3, .int (zI (w3 + 1))), (2, .int (zI z14)), (0, .ref y)]) hx hb dX9_next_191 hl (k := 2) rfl (zI_add _ _) (by decide) rfl (fun ls hl => ?_)
                  refine lv_goto (tgt := 152) hx hb dX9_next_194 (by decide) ?_
                  obtain ⟨i69, e_i69⟩ : ∃ i69 : Nat → Int, i69 = fun k => [(ii 0), (ii 1), (ii 2), (ii 3), (ii 4), (ii 5), z68, (ii 7), (ii 8), (ii 9), (ii 10), (ii 11), (ii 12), (ii 13), (ii 14), (ii 15), (ii 16), (ii 17), (ii 18)].getD k 0 := ⟨_, rfl⟩
                  have e_i69_0 : i69 0 = (ii 0) := by rw [e_i69]; rfl
                  have e_i69_1 : i69 1 = (ii 1) := by rw [e_i69]; rfl
                  have e_i69_2 : i69 2 = (ii 2) := by rw [e_i69]; rfl
                  have e_i69_3 : i69 3 = (ii 3) := by rw [e_i69]; rfl
                  have e_i69_4 : i69 4 = (ii 4) := by rw [e_i69]; rfl
                  have e_i69_5 : i69 5 = (ii 5) := by rw [e_i69]; rfl
                  have e_i69_6 : i69 6 = z68 := by rw [e_i69]; rfl
                  have e_i69_7 : i69 7 = (ii 7) := by rw [e_i69]; rfl
                  have e_i69_8 : i69 8 = (ii 8) := by rw [e_i69]; rfl
                  have e_i69_9 : i69 9 = (ii 9) := by rw [e_i69]; rfl
                  have e_i69_10 : i69 10 = (ii 10) := by rw [e_i69]; rfl
                  have e_i69_11 : i69 11 = (ii 11) := by rw [e_i69]; rfl
                  have e_i69_12 : i69 12 = (ii 12) := by rw [e_i69]; rfl
                  have e_i69_13 : i69 13 = (ii 13) := by rw [e_i69]; rfl
                  have e_i69_14 : i69 14 = (ii 14) := by rw [e_i69]; rfl
                  have e_i69_15 : i69 15 = (ii 15) := by rw [e_i69]; rfl
                  have e_i69_16 : i69 16 = (ii 16) := by rw [e_i69]; rfl
                  have e_i69_17 : i69 17 = (ii 17) := by rw [e_i69]; rfl
                  have e_i69_18 : i69 18 = (ii 18) := by rw [e_i69]; rfl
                  have hO70 : ModS i69 := by have hold9 := hG; refine ⟨⟨?_, ?_, ?_, ?_, ?_⟩, ⟨?_, ?_, ?_, ?_, ?_, ?_⟩, ⟨?_, ?_, ?_, ?_⟩⟩ <;> omega
                  have hf71 := hO70
                  have hP : va_P G vwCl [((q 1), .inl (cI, 8, .inl (fun k => zI (g_letters k)))), (y, .inr (9, [.int (zI (i69 0)), .ref (q 0), .int (zI (i69 1)), .int (zI (i69 2)), .int (zI (i69 3)), .int (zI (i69 4)), .int (zI (i69 5)), .int (zI (i69 6)), .int (zI (i69 7)), .int (zI (i69 8)), .int (zI (i69 9)), .int (zI (i69 10)), .ref (q 1), .int (zI (i69 11)), .int (zI (i69 12)), .ref (q 2), .ref (q 3), .ref (q 4), .ref (q 5), .ref (q 6), .ref (q 7), .ref (q 8), .ref (q 9), .ref (q 10), .ref (q 11), .ref (q 12), .ref (q 13), .ref (q 14), .ref (q 15), .ref (q 16), .int (zI (i69 13)), .int (zI (i69 14)), .int (zI (i69 15)), .int (zI (i69 16)), .int (zI (i69 17)), .int (zI (i69 18)), .ref (q 17), .ref (q 18), .ref (q 19), .ref (q 20)])), ((q 0), .inl (cI, 900, .inl (fun k => zI (g_tape k))))] H := by subst e_i69; exact hP
                  have hD : va_D A [((q 1), .inl (cI, 8, .inl (fun k => zI (g_letters k)))), (y, .inr (9, [.int (zI (i69 0)), .ref (q 0), .int (zI (i69 1)), .int (zI (i69 2)), .int (zI (i69 3)), .int (zI (i69 4)), .int (zI (i69 5)), .int (zI (i69 6)), .int (zI (i69 7)), .int (zI (i69 8)), .int (zI (i69 9)), .int (zI (i69 10)), .ref (q 1), .int (zI (i69 11)), .int (zI (i69 12)), .ref (q 2), .ref (q 3), .ref (q 4), .ref (q 5), .ref (q 6), .ref (q 7), .ref (q 8), .ref (q 9), .ref (q 10), .ref (q 11), .ref (q 12), .ref (q 13), .ref (q 14), .ref (q 15), .ref (q 16), .int (zI (i69 13)), .int (zI (i69 14)), .int (zI (i69 15)), .int (zI (i69 16)), .int (zI (i69 17)), .int (zI (i69 18)), .ref (q 17), .ref (q 18), .ref (q 19), .ref (q 20)])), ((q 0), .inl (cI, 900, .inl (fun k => zI (g_tape k))))] := by subst e_i69; exact hD
                  exact ih2 (w1 + 1) (w3 + 1) i69 _ _ (by omega) (by omega) hO70 hP hD hS ls (lv_sub hl [1, 2, 0, 3] rfl)
        · obtain ⟨i72, e_i72⟩ : ∃ i72 : Nat → Int, i72 = fun k => [(i8 0), (i8 1), (i8 2), (i8 3), (i8 4), (i8 5), 0, 0, (i8 8), (i8 9), (i8 10), (i8 11), (i8 12), (i8 13), (i8 14), (i8 15), (i8 16), (i8 17), (i8 18)].getD k 0 := ⟨_, rfl⟩
          have e_i72_0 : i72 0 = (i8 0) := by rw [e_i72]; rfl
          have e_i72_1 : i72 1 = (i8 1) := by rw [e_i72]; rfl
          have e_i72_2 : i72 2 = (i8 2) := by rw [e_i72]; rfl
          have e_i72_3 : i72 3 = (i8 3) := by rw [e_i72]; rfl
          have e_i72_4 : i72 4 = (i8 4) := by rw [e_i72]; rfl
          have e_i72_5 : i72 5 = (i8 5) := by rw [e_i72]; rfl
          have e_i72_6 : i72 6 = 0 := by rw [e_i72]; rfl
          have e_i72_7 : i72 7 = 0 := by rw [e_i72]; rfl
          have e_i72_8 : i72 8 = (i8 8) := by rw [e_i72]; rfl
          have e_i72_9 : i72 9 = (i8 9) := by rw [e_i72]; rfl
          have e_i72_10 : i72 10 = (i8 10) := by rw [e_i72]; rfl
          have e_i72_11 : i72 11 = (i8 11) := by rw [e_i72]; rfl
          have e_i72_12 : i72 12 = (i8 12) := by rw [e_i72]; rfl
          have e_i72_13 : i72 13 = (i8 13) := by rw [e_i72]; rfl
          have e_i72_14 : i72 14 = (i8 14) := by rw [e_i72]; rfl
          have e_i72_15 : i72 15 = (i8 15) := by rw [e_i72]; rfl
          have e_i72_16 : i72 16 = (i8 16) := by rw [e_i72]; rfl
          have e_i72_17 : i72 17 = (i8 17) := by rw [e_i72]; rfl
          have e_i72_18 : i72 18 = (i8 18) := by rw [e_i72]; rfl
          have hO73 : ModS i72 := by have hold9 := hO9; refine ⟨⟨?_, ?_, ?_, ?_, ?_⟩, ⟨?_, ?_, ?_, ?_, ?_, ?_⟩, ⟨?_, ?_, ?_, ?_⟩⟩ <;> omega
          have hf74 := hO73
          have hP : va_P G vwCl [((q 1), .inl (cI, 8, .inl (fun k => zI (g_letters k)))), (y, .inr (9, [.int (zI (i72 0)), .ref (q 0), .int (zI (i72 1)), .int (zI (i72 2)), .int (zI (i72 3)), .int (zI (i72 4)), .int (zI (i72 5)), .int (zI (i72 6)), .int (zI (i72 7)), .int (zI (i72 8)), .int (zI (i72 9)), .int (zI (i72 10)), .ref (q 1), .int (zI (i72 11)), .int (zI (i72 12)), .ref (q 2), .ref (q 3), .ref (q 4), .ref (q 5), .ref (q 6), .ref (q 7), .ref (q 8), .ref (q 9), .ref (q 10), .ref (q 11), .ref (q 12), .ref (q 13), .ref (q 14), .ref (q 15), .ref (q 16), .int (zI (i72 13)), .int (zI (i72 14)), .int (zI (i72 15)), .int (zI (i72 16)), .int (zI (i72 17)), .int (zI (i72 18)), .ref (q 17), .ref (q 18), .ref (q 19), .ref (q 20)])), ((q 0), .inl (cI, 900, .inl (fun k => zI (g_tape k))))] H := by subst e_i72; exact hP
          have hD : va_D A [((q 1), .inl (cI, 8, .inl (fun k => zI (g_letters k)))), (y, .inr (9, [.int (zI (i72 0)), .ref (q 0), .int (zI (i72 1)), .int (zI (i72 2)), .int (zI (i72 3)), .int (zI (i72 4)), .int (zI (i72 5)), .int (zI (i72 6)), .int (zI (i72 7)), .int (zI (i72 8)), .int (zI (i72 9)), .int (zI (i72 10)), .ref (q 1), .int (zI (i72 11)), .int (zI (i72 12)), .ref (q 2), .ref (q 3), .ref (q 4), .ref (q 5), .ref (q 6), .ref (q 7), .ref (q 8), .ref (q 9), .ref (q 10), .ref (q 11), .ref (q 12), .ref (q 13), .ref (q 14), .ref (q 15), .ref (q 16), .int (zI (i72 13)), .int (zI (i72 14)), .int (zI (i72 15)), .int (zI (i72 16)), .int (zI (i72 17)), .int (zI (i72 18)), .ref (q 17), .ref (q 18), .ref (q 19), .ref (q 20)])), ((q 0), .inl (cI, 900, .inl (fun k => zI (g_tape k))))] := by subst e_i72; exact hD
          refine W.widen (k := 0) (n := 0) (Nat.le_of_ble_eq_true rfl) (Nat.le_of_ble_eq_true rfl) ?_
          refine (?_ : ∀ (n9_2 : Nat) (w1 : Int) (gl9 : Nat → Int) (ii : Nat → Int) (H : Heap) (locs : List Loc), (ii 7 ≤ w1 ∧ i 4 ≤ v1 ∧ v1 ≤ w1 ∧ w1 ≤ 900 ∧ ii 11 = i 11 ∧ ii 1 = i 1 ∧ ii 2 = i 2 ∧ ii 14 = i 14 ∧ ii 16 = i 16) → (901 - w1 : Int).toNat < n9_2 → (ModS ii) → (∀ k, k < 8 → (-2147483648) ≤ gl9 k ∧ gl9 k ≤ 2147483647) → va_P G vwCl [((q 1), .inl (cI, 8, .inl (fun k => zI (gl9 k)))), (y, .inr (9, [.int (zI (ii 0)), .ref (q 0), .int (zI (ii 1)), .int (zI (ii 2)), .int (zI (ii 3)), .int (zI (ii 4)), .int (zI (ii 5)), .int (zI (ii 6)), .int (zI (ii 7)), .int (zI (ii 8)), .int (zI (ii 9)), .int (zI (ii 10)), .ref (q 1), .int (zI (ii 11)), .int (zI (ii 12)), .ref (q 2), .ref (q 3), .ref (q 4), .ref (q 5), .ref (q 6), .ref (q 7), .ref (q 8), .ref (q 9), .ref (q 10), .ref (q 11), .ref (q 12), .ref (q 13), .ref (q 14), .ref (q 15), .ref (q 16), .int (zI (ii 13)), .int (zI (ii 14)), .int (zI (ii 15)), .int (zI (ii 16)), .int (zI (ii 17)), .int (zI (ii 18)), .ref (q 17), .ref (q 18), .ref (q 19), .ref (q 20)])), ((q 0), .inl (cI, 900, .inl (fun k => zI (g_tape k))))] H → va_D A [((q 1), .inl (cI, 8, .inl (fun k => zI (gl9 k)))), (y, .inr (9, [.int (zI (ii 0)), .ref (q 0), .int (zI (ii 1)), .int (zI (ii 2)), .int (zI (ii 3)), .int (zI (ii 4)), .int (zI (ii 5)), .int (zI (ii 6)), .int (zI (ii 7)), .int (zI (ii 8)), .int (zI (ii 9)), .int (zI (ii 10)), .ref (q 1), .int (zI (ii 11)), .int (zI (ii 12)), .ref (q 2), .ref (q 3), .ref (q 4), .ref (q 5), .ref (q 6), .ref (q 7), .ref (q 8), .ref (q 9), .ref (q 10), .ref (q 11), .ref (q 12), .ref (q 13), .ref (q 14), .ref (q 15), .ref (q 16), .int (zI (ii 13)), .int (zI (ii 14)), .int (zI (ii 15)), .int (zI (ii 16)), .int (zI (ii 17)), .int (zI (ii 18)), .ref (q 17), .ref (q 18), .ref (q 19), .ref (q 20)])), ((q 0), .inl (cI, 900, .inl (fun k => zI (g_tape k))))] → va_S A s.heap H locs → ∀ ls : Array Slot, lv_has ls 4 [(2, .int (zI z14)), (1, .int (zI w1)), (0, .ref y)] → W p l e rm_X9_next s m ([.ref y] : List Value).toArray below meth c H locs 0 0 Q (F0 m 67 ls [])) ((901 - v1 : Int).toNat + 1) v1 g_letters i72 _ _ (by omega) (by omega) hO73 hr_letters hP hD hS ls hl
          clear hP hD hS hl ls
          intro n9_2
          induction n9_2 with
          | zero =>
            intro w1 gl9 ii H locs hI hM
            exact absurd hM (by omega)
          | succ n9_2 ih2 =>
            intro w1 gl9 ii H locs hI2 hM2 hG h_gl9 hP hD hS ls hl
            have hf75 := hG
            refine lv_aload_n hx hb dX9_next_67 rfl (lv_at hl 2 rfl) ?_
            refine lv_iload_n hx hb dX9_next_68 rfl (lv_at hl 1 rfl) ?_
            refine r_callVi (As := [.int (zI w1)]) (rest := []) (wr := [((q 1), .inl (cI, 8, .inl (fun k => zI (gl9 k))))]) F hK hP hD hS hA hO hE (c_X9_look hO y q ii hG g_tape hr_tape w1 (by omega) (by omega)) k_1307 kv_X9_look 1 rfl (by decide +kernel) ⟨Nat.le_of_ble_eq_true rfl, Nat.le_of_ble_eq_true rfl⟩ [1, 2] [0] rfl rfl (by decide) (by decide) (by decide) 0 9 rfl rfl rfl hl.1 rfl (Nat.le_of_ble_eq_true rfl) dX9_next_69 ⟨Nat.le_of_ble_eq_true rfl, Nat.le_of_ble_eq_true rfl⟩ (w1 := fun u76 => [((q 1), .inl (cI, 8, .inl (fun k => zI (gl9 k)))), (y, .inr (9, [.int (zI (ii 0)), .ref (q 0), .int (zI (ii 1)), .int (zI (ii 2)), .int (zI (ii 3)), .int (zI (ii 4)), .int (zI (ii 5)), .int (zI (ii 6)), .int (zI (ii 7)), .int (zI (ii 8)), .int (zI (ii 9)), .int (zI (ii 10)), .ref (q 1), .int (zI (ii 11)), .int (zI (ii 12)), .ref (q 2), .ref (q 3), .ref (q 4), .ref (q 5), .ref (q 6), .ref (q 7), .ref (q 8), .ref (q 9), .ref (q 10), .ref (q 11), .ref (q 12), .ref (q 13), .ref (q 14), .ref (q 15), .ref (q 16), .int (zI (ii 13)), .int (zI (ii 14)), .int (zI (ii 15)), .int (zI (ii 16)), .int (zI (ii 17)), .int (zI (ii 18)), .ref (q 17), .ref (q 18), .ref (q 19), .ref (q 20)])), ((q 0), .inl (cI, 900, .inl (fun k => zI (g_tape k))))]) (fun _ => rfl) (fun r77 u76 H locs hp78 hP hD hS => ?_)
            obtain ⟨z79, rfl, h_z79⟩ := hp78
            have hx80 := h_z79
            have hlk9 : w1 = v1 → z79 = z14 := fun q9 => (h_z79.1).trans ((lk_congr (by omega) q9).trans (h_z14.1).symm)
            refine r_callSi (As := [.int (zI z79)]) (rest := []) (wr := [((q 1), .inl (cI, 8, .inl (fun k => zI (gl9 k)))), (y, .inr (9, [.int (zI (ii 0)), .ref (q 0), .int (zI (ii 1)), .int (zI (ii 2)), .int (zI (ii 3)), .int (zI (ii 4)), .int (zI (ii 5)), .int (zI (ii 6)), .int (zI (ii 7)), .int (zI (ii 8)), .int (zI (ii 9)), .int (zI (ii 10)), .ref (q 1), .int (zI (ii 11)), .int (zI (ii 12)), .ref (q 2), .ref (q 3), .ref (q 4), .ref (q 5), .ref (q 6), .ref (q 7), .ref (q 8), .ref (q 9), .ref (q 10), .ref (q 11), .ref (q 12), .ref (q 13), .ref (q 14), .ref (q 15), .ref (q 16), .int (zI (ii 13)), .int (zI (ii 14)), .int (zI (ii 15)), .int (zI (ii 16)), .int (zI (ii 17)), .int (zI (ii 18)), .ref (q 17), .ref (q 18), .ref (q 19), .ref (q 20)])), ((q 0), .inl (cI, 900, .inl (fun k => zI (g_tape k))))]) F hK hP hD hS hA hO hE (c_X9_isSmall hO z79 (by omega)) k_1311 ks_X9_isSmall 1 rfl (by decide +kernel) ⟨Nat.le_of_ble_eq_true rfl, Nat.le_of_ble_eq_true rfl⟩ [] [0, 1, 2] rfl rfl (by decide) (by decide) (by decide) hl.1 rfl (Nat.le_of_ble_eq_true rfl) dX9_next_72 ⟨Nat.le_of_ble_eq_true rfl, Nat.le_of_ble_eq_true rfl⟩ (w1 := fun u81 => [((q 1), .inl (cI, 8, .inl (fun k => zI (gl9 k)))), (y, .inr (9, [.int (zI (ii 0)), .ref (q 0), .int (zI (ii 1)), .int (zI (ii 2)), .int (zI (ii 3)), .int (zI (ii 4)), .int (zI (ii 5)), .int (zI (ii 6)), .int (zI (ii 7)), .int (zI (ii 8)), .int (zI (ii 9)), .int (zI (ii 10)), .ref (q 1), .int (zI (ii 11)), .int (zI (ii 12)), .ref (q 2), .ref (q 3), .ref (q 4), .ref (q 5), .ref (q 6), .ref (q 7), .ref (q 8), .ref (q 9), .ref (q 10), .ref (q 11), .ref (q 12), .ref (q 13), .ref (q 14), .ref (q 15), .ref (q 16), .int (zI (ii 13)), .int (zI (ii 14)), .int (zI (ii 15)), .int (zI (ii 16)), .int (zI (ii 17)), .int (zI (ii 18)), .ref (q 17), .ref (q 18), .ref (q 19), .ref (q 20)])), ((q 0), .inl (cI, 900, .inl (fun k => zI (g_tape k))))]) (fun _ => rfl) (fun r82 u81 H locs hp83 hP hD hS => ?_)
            obtain ⟨z84, rfl, h_z84⟩ := hp83
            have hx85 := h_z84
            refine rz_if_eq (tgt := 117) F (by omega) dX9_next_75 (by decide) (fun h75_85 => ?_) (fun h75_85 => ?_)
            · refine lv_aload_n hx hb dX9_next_117 rfl (lv_at hl 2 rfl) ?_
              refine lv_iload_n hx hb dX9_next_118 rfl (lv_at hl 1 rfl) ?_
              refine r_put F hK hP hD hS 1 5 rfl rfl in_X9 tyX9 tyX9_ok nmX9 (by decide) k_1168 rfl rfl rfl (Nat.le_of_ble_eq_true rfl) dX9_next_119 (w1 := [((q 1), .inl (cI, 8, .inl (fun k => zI (gl9 k)))), (y, .inr (9, [.int (zI (ii 0)), .ref (q 0), .int (zI (ii 1)), .int (zI (ii 2)), .int (zI (ii 3)), .int (zI w1), .int (zI (ii 5)), .int (zI (ii 6)), .int (zI (ii 7)), .int (zI (ii 8)), .int (zI (ii 9)), .int (zI (ii 10)), .ref (q 1), .int (zI (ii 11)), .int (zI (ii 12)), .ref (q 2), .ref (q 3), .ref (q 4), .ref (q 5), .ref (q 6), .ref (q 7), .ref (q 8), .ref (q 9), .ref (q 10), .ref (q 11), .ref (q 12), .ref (q 13), .ref (q 14), .ref (q 15), .ref (q 16), .int (zI (ii 13)), .int (zI (ii 14)), .int (zI (ii 15)), .int (zI (ii 16)), .int (zI (ii 17)), .int (zI (ii 18)), .ref (q 17), .ref (q 18), .ref (q 19), .ref (q 20)])), ((q 0), .inl (cI, 900, .inl (fun k => zI (g_tape k))))]) rfl (fun H locs hP hD hS => ?_)
              refine lv_aload_n hx hb dX9_next_122 rfl (lv_at hl 2 rfl) ?_
              refine lv_aload_n hx hb dX9_next_123 rfl (lv_at hl 2 rfl) ?_
              refine r_get F hK hP 1 8 rfl rfl in_X9 (by decide) k_1171 rfl dX9_next_124 ?_
              refine lv_bipush (v := zI 8) hx hb dX9_next_127 (by decide) ?_
              refine rz_icmp_le (tgt := 136) F (by omega) (by omega) dX9_next_129 (by decide) (fun h129_86 => ?_) (fun h129_86 => ?_)
              · refine lv_iconst (v := zI 2) hx hb dX9_next_136 rfl ?_
                refine r_put F hK hP hD hS 1 6 rfl rfl in_X9 tyX9 tyX9_ok nmX9 (by decide) k_1169 rfl rfl rfl (Nat.le_of_ble_eq_true rfl) dX9_next_137 (w1 := [((q 1), .inl (cI, 8, .inl (fun k => zI (gl9 k)))), (y, .inr (9, [.int (zI (ii 0)), .ref (q 0), .int (zI (ii 1)), .int (zI (ii 2)), .int (zI (ii 3)), .int (zI w1), .int (zI 2), .int (zI (ii 6)), .int (zI (ii 7)), .int (zI (ii 8)), .int (zI (ii 9)), .int (zI (ii 10)), .ref (q 1), .int (zI (ii 11)), .int (zI (ii 12)), .ref (q 2), .ref (q 3), .ref (q 4), .ref (q 5), .ref (q 6), .ref (q 7), .ref (q 8), .ref (q 9), .ref (q 10), .ref (q 11), .ref (q 12), .ref (q 13), .ref (q 14), .ref (q 15), .ref (q 16), .int (zI (ii 13)), .int (zI (ii 14)), .int (zI (ii 15)), .int (zI (ii 16)), .int (zI (ii 17)), .int (zI (ii 18)), .ref (q 17), .ref (q 18), .ref (q 19), .ref (q 20)])), ((q 0), .inl (cI, 900, .inl (fun k => zI (g_tape k))))]) rfl (fun H locs hP hD hS => ?_)
                refine lv_goto (tgt := 247) hx hb dX9_next_140 (by decide) ?_
                obtain ⟨i88, e_i88⟩ : ∃ i88 : Nat → Int, i88 = fun k => [(ii 0), (ii 1), (ii 2), (ii 3), w1, 2, (ii 6), (ii 7), (ii 8), (ii 9), (ii 10), (ii 11), (ii 12), (ii 13), (ii 14), (ii 15), (ii 16), (ii 17), (ii 18)].getD k 0 := ⟨_, rfl⟩
                have e_i88_0 : i88 0 = (ii 0) := by rw [e_i88]; rfl
                have e_i88_1 : i88 1 = (ii 1) := by rw [e_i88]; rfl
                have e_i88_2 : i88 2 = (ii 2) := by rw [e_i88]; rfl
                have e_i88_3 : i88 3 = (ii 3) := by rw [e_i88]; rfl
                have e_i88_4 : i88 4 = w1 := by rw [e_i88]; rfl
                have e_i88_5 : i88 5 = 2 := by rw [e_i88]; rfl
                have e_i88_6 : i88 6 = (ii 6) := by rw [e_i88]; rfl
                have e_i88_7 : i88 7 = (ii 7) := by rw [e_i88]; rfl
                have e_i88_8 : i88 8 = (ii 8) := by rw [e_i88]; rfl
                have e_i88_9 : i88 9 = (ii 9) := by rw [e_i88]; rfl
                have e_i88_10 : i88 10 = (ii 10) := by rw [e_i88]; rfl
                have e_i88_11 : i88 11 = (ii 11) := by rw [e_i88]; rfl
                have e_i88_12 : i88 12 = (ii 12) := by rw [e_i88]; rfl
                have e_i88_13 : i88 13 = (ii 13) := by rw [e_i88]; rfl
                have e_i88_14 : i88 14 = (ii 14) := by rw [e_i88]; rfl
                have e_i88_15 : i88 15 = (ii 15) := by rw [e_i88]; rfl
                have e_i88_16 : i88 16 = (ii 16) := by rw [e_i88]; rfl
                have e_i88_17 : i88 17 = (ii 17) := by rw [e_i88]; rfl
                have e_i88_18 : i88 18 = (ii 18) := by rw [e_i88]; rfl
                have hO89 : ModS i88 := by have hold9 := hG; refine ⟨⟨?_, ?_, ?_, ?_, ?_⟩, ⟨?_, ?_, ?_, ?_, ?_, ?_⟩, ⟨?_, ?_, ?_, ?_⟩⟩ <;> omega
                have hf90 := hO89
                have hP : va_P G vwCl [((q 1), .inl (cI, 8, .inl (fun k => zI (gl9 k)))), (y, .inr (9, [.int (zI (i88 0)), .ref (q 0), .int (zI (i88 1)), .int (zI (i88 2)), .int (zI (i88 3)), .int (zI (i88 4)), .int (zI (i88 5)), .int (zI (i88 6)), .int (zI (i88 7)), .int (zI (i88 8)), .int (zI (i88 9)), .int (zI (i88 10)), .ref (q 1), .int (zI (i88 11)), .int (zI (i88 12)), .ref (q 2), .ref (q 3), .ref (q 4), .ref (q 5), .ref (q 6), .ref (q 7), .ref (q 8), .ref (q 9), .ref (q 10), .ref (q 11), .ref (q 12), .ref (q 13), .ref (q 14), .ref (q 15), .ref (q 16), .int (zI (i88 13)), .int (zI (i88 14)), .int (zI (i88 15)), .int (zI (i88 16)), .int (zI (i88 17)), .int (zI (i88 18)), .ref (q 17), .ref (q 18), .ref (q 19), .ref (q 20)])), ((q 0), .inl (cI, 900, .inl (fun k => zI (g_tape k))))] H := by subst e_i88; exact hP
                have hD : va_D A [((q 1), .inl (cI, 8, .inl (fun k => zI (gl9 k)))), (y, .inr (9, [.int (zI (i88 0)), .ref (q 0), .int (zI (i88 1)), .int (zI (i88 2)), .int (zI (i88 3)), .int (zI (i88 4)), .int (zI (i88 5)), .int (zI (i88 6)), .int (zI (i88 7)), .int (zI (i88 8)), .int (zI (i88 9)), .int (zI (i88 10)), .ref (q 1), .int (zI (i88 11)), .int (zI (i88 12)), .ref (q 2), .ref (q 3), .ref (q 4), .ref (q 5), .ref (q 6), .ref (q 7), .ref (q 8), .ref (q 9), .ref (q 10), .ref (q 11), .ref (q 12), .ref (q 13), .ref (q 14), .ref (q 15), .ref (q 16), .int (zI (i88 13)), .int (zI (i88 14)), .int (zI (i88 15)), .int (zI (i88 16)), .int (zI (i88 17)), .int (zI (i88 18)), .ref (q 17), .ref (q 18), .ref (q 19), .ref (q 20)])), ((q 0), .inl (cI, 900, .inl (fun k => zI (g_tape k))))] := by subst e_i88; exact hD
                exact ret (fun k => [(i88, fun _ _ => 0), (fun _ => 0, fun _ => gl9)].getD k (fun _ => 0, fun _ _ => 0)) _ _ _ _ _ _ ⟨⟨hO89, (show i88 5 = 2 → i88 7 ≤ 8 from by omega)⟩, h_gl9, (show i88 11 = i 11 ∧ i 4 ≤ i88 4 ∧ i88 1 = i 1 ∧ (i88 5 ≠ 0 → i 4 < i88 4) ∧ i88 14 = i 14 ∧ i88 16 = i 16 from by omega)⟩ (bw_subP (isC := [1, 2, 0]) hP rfl) (hD.sub [1, 2, 0] (by decide) rfl) hS (Nat.le_of_ble_eq_true rfl) (Nat.le_of_ble_eq_true rfl) dX9_next_247
              · refine lv_iconst (v := zI 1) hx hb dX9_next_132 rfl ?_
                refine lv_goto (tgt := 137) hx hb dX9_next_133 (by decide) ?_
                refine r_put F hK hP hD hS 1 6 rfl rfl in_X9 tyX9 tyX9_ok nmX9 (by decide) k_1169 rfl rfl rfl (Nat.le_of_ble_eq_true rfl) dX9_next_137 (w1 := [((q 1), .inl (cI, 8, .inl (fun k => zI (gl9 k)))), (y, .inr (9, [.int (zI (ii 0)), .ref (q 0), .int (zI (ii 1)), .int (zI (ii 2)), .int (zI (ii 3)), .int (zI w1), .int (zI 1), .int (zI (ii 6)), .int (zI (ii 7)), .int (zI (ii 8)), .int (zI (ii 9)), .int (zI (ii 10)), .ref (q 1), .int (zI (ii 11)), .int (zI (ii 12)), .ref (q 2), .ref (q 3), .ref (q 4), .ref (q 5), .ref (q 6), .ref (q 7), .ref (q 8), .ref (q 9), .ref (q 10), .ref (q 11), .ref (q 12), .ref (q 13), .ref (q 14), .ref (q 15), .ref (q 16), .int (zI (ii 13)), .int (zI (ii 14)), .int (zI (ii 15)), .int (zI (ii 16)), .int (zI (ii 17)), .int (zI (ii 18)), .ref (q 17), .ref (q 18), .ref (q 19), .ref (q 20)])), ((q 0), .inl (cI, 900, .inl (fun k => zI (g_tape k))))]) rfl (fun H locs hP hD hS => ?_)
                refine lv_goto (tgt := 247) hx hb dX9_next_140 (by decide) ?_
                obtain ⟨i91, e_i91⟩ : ∃ i91 : Nat → Int, i91 = fun k => [(ii 0), (ii 1), (ii 2), (ii 3), w1, 1, (ii 6), (ii 7), (ii 8), (ii 9), (ii 10), (ii 11), (ii 12), (ii 13), (ii 14), (ii 15), (ii 16), (ii 17), (ii 18)].getD k 0 := ⟨_, rfl⟩
                have e_i91_0 : i91 0 = (ii 0) := by rw [e_i91]; rfl
                have e_i91_1 : i91 1 = (ii 1) := by rw [e_i91]; rfl
                have e_i91_2 : i91 2 = (ii 2) := by rw [e_i91]; rfl
                have e_i91_3 : i91 3 = (ii 3) := by rw [e_i91]; rfl
                have e_i91_4 : i91 4 = w1 := by rw [e_i91]; rfl
                have e_i91_5 : i91 5 = 1 := by rw [e_i91]; rfl
                have e_i91_6 : i91 6 = (ii 6) := by rw [e_i91]; rfl
                have e_i91_7 : i91 7 = (ii 7) := by rw [e_i91]; rfl
                have e_i91_8 : i91 8 = (ii 8) := by rw [e_i91]; rfl
                have e_i91_9 : i91 9 = (ii 9) := by rw [e_i91]; rfl
                have e_i91_10 : i91 10 = (ii 10) := by rw [e_i91]; rfl
                have e_i91_11 : i91 11 = (ii 11) := by rw [e_i91]; rfl
                have e_i91_12 : i91 12 = (ii 12) := by rw [e_i91]; rfl
                have e_i91_13 : i91 13 = (ii 13) := by rw [e_i91]; rfl
                have e_i91_14 : i91 14 = (ii 14) := by rw [e_i91]; rfl
                have e_i91_15 : i91 15 = (ii 15) := by rw [e_i91]; rfl
                have e_i91_16 : i91 16 = (ii 16) := by rw [e_i91]; rfl
                have e_i91_17 : i91 17 = (ii 17) := by rw [e_i91]; rfl
                have e_i91_18 : i91 18 = (ii 18) := by rw [e_i91]; rfl
                have hO92 : ModS i91 := by have hold9 := hG; refine ⟨⟨?_, ?_, ?_, ?_, ?_⟩, ⟨?_, ?_, ?_, ?_, ?_, ?_⟩, ⟨?_, ?_, ?_, ?_⟩⟩ <;> omega
                have hf93 := hO92
                have hP : va_P G vwCl [((q 1), .inl (cI, 8, .inl (fun k => zI (gl9 k)))), (y, .inr (9, [.int (zI (i91 0)), .ref (q 0), .int (zI (i91 1)), .int (zI (i91 2)), .int (zI (i91 3)), .int (zI (i91 4)), .int (zI (i91 5)), .int (zI (i91 6)), .int (zI (i91 7)), .int (zI (i91 8)), .int (zI (i91 9)), .int (zI (i91 10)), .ref (q 1), .int (zI (i91 11)), .int (zI (i91 12)), .ref (q 2), .ref (q 3), .ref (q 4), .ref (q 5), .ref (q 6), .ref (q 7), .ref (q 8), .ref (q 9), .ref (q 10), .ref (q 11), .ref (q 12), .ref (q 13), .ref (q 14), .ref (q 15), .ref (q 16), .int (zI (i91 13)), .int (zI (i91 14)), .int (zI (i91 15)), .int (zI (i91 16)), .int (zI (i91 17)), .int (zI (i91 18)), .ref (q 17), .ref (q 18), .ref (q 19), .ref (q 20)])), ((q 0), .inl (cI, 900, .inl (fun k => zI (g_tape k))))] H := by subst e_i91; exact hP
                have hD : va_D A [((q 1), .inl (cI, 8, .inl (fun k => zI (gl9 k)))), (y, .inr (9, [.int (zI (i91 0)), .ref (q 0), .int (zI (i91 1)), .int (zI (i91 2)), .int (zI (i91 3)), .int (zI (i91 4)), .int (zI (i91 5)), .int (zI (i91 6)), .int (zI (i91 7)), .int (zI (i91 8)), .int (zI (i91 9)), .int (zI (i91 10)), .ref (q 1), .int (zI (i91 11)), .int (zI (i91 12)), .ref (q 2), .ref (q 3), .ref (q 4), .ref (q 5), .ref (q 6), .ref (q 7), .ref (q 8), .ref (q 9), .ref (q 10), .ref (q 11), .ref (q 12), .ref (q 13), .ref (q 14), .ref (q 15), .ref (q 16), .int (zI (i91 13)), .int (zI (i91 14)), .int (zI (i91 15)), .int (zI (i91 16)), .int (zI (i91 17)), .int (zI (i91 18)), .ref (q 17), .ref (q 18), .ref (q 19), .ref (q 20)])), ((q 0), .inl (cI, 900, .inl (fun k => zI (g_tape k))))] := by subst e_i91; exact hD
                exact ret (fun k => [(i91, fun _ _ => 0), (fun _ => 0, fun _ => gl9)].getD k (fun _ => 0, fun _ _ => 0)) _ _ _ _ _ _ ⟨⟨hO92, (show i91 5 = 2 → i91 7 ≤ 8 from by omega)⟩, h_gl9, (show i91 11 = i 11 ∧ i 4 ≤ i91 4 ∧ i91 1 = i 1 ∧ (i91 5 ≠ 0 → i 4 < i91 4) ∧ i91 14 = i 14 ∧ i91 16 = i 16 from by omega)⟩ (bw_subP (isC := [1, 2, 0]) hP rfl) (hD.sub [1, 2, 0] (by decide) rfl) hS (Nat.le_of_ble_eq_true rfl) (Nat.le_of_ble_eq_true rfl) dX9_next_247
            · refine lv_aload_n hx hb dX9_next_78 rfl (lv_at hl 2 rfl) ?_
              refine r_get F hK hP 1 8 rfl rfl in_X9 (by decide) k_1171 rfl dX9_next_79 ?_
              refine lv_bipush (v := zI 8) hx hb dX9_next_82 (by decide) ?_
              refine rz_icmp_ge (tgt := 101) F (by omega) (by omega) dX9_next_84 (by decide) (fun h84_93 => ?_) (fun h84_93 => ?_)
              · refine lv_aload_n hx hb dX9_next_101 rfl (lv_at hl 2 rfl) ?_
                refine lv_dup hx hb dX9_next_102 rfl ?_
                refine r_get F hK hP 1 8 rfl rfl in_X9 (by decide) k_1171 rfl dX9_next_103 ?_
                refine lv_iconst (v := zI 1) hx hb dX9_next_106 rfl ?_
                refine r_iadd (v := zI ((ii 7) + 1)) F dX9_next_107 (zI_add _ _) ?_
                refine r_put F hK hP hD hS 1 8 rfl rfl in_X9 tyX9 tyX9_ok nmX9 (by decide) k_1171 rfl rfl rfl (Nat.le_of_ble_eq_true rfl) dX9_next_108 (w1 := [((q 1), .inl (cI, 8, .inl (fun k => zI (gl9 k)))), (y, .inr (9, [.int (zI (ii 0)), .ref (q 0), .int (zI (ii 1)), .int (zI (ii 2)), .int (zI (ii 3)), .int (zI (ii 4)), .int (zI (ii 5)), .int (zI (ii 6)), .int (zI ((ii 7) + 1)), .int (zI (ii 8)), .int (zI (ii 9)), .int (zI (ii 10)), .ref (q 1), .int (zI (ii 11)), .int (zI (ii 12)), .ref (q 2), .ref (q 3), .ref (q 4), .ref (q 5), .ref (q 6), .ref (q 7), .ref (q 8), .ref (q 9), .ref (q 10), .ref (q 11), .ref (q 12), .ref (q 13), .ref (q 14), .ref (q 15), .ref (q 16), .int (zI (ii 13)), .int (zI (ii 14)), .int (zI (ii 15)), .int (zI (ii 16)), .int (zI (ii 17)), .int (zI (ii 18)), .ref (q 17), .ref (q 18), .ref (q 19), .ref (q 20)])), ((q 0), .inl (cI, 900, .inl (fun k => zI (g_tape k))))]) rfl (fun H locs hP hD hS => ?_)
                refine lv_iinc (v := zI (w1 + 1)) (lv' := [(1, .int (zI (w1 + 1))), (2, .int (zI z14)), (0, .ref y)]) hx hb dX9_next_111 hl (k := 1) rfl (zI_add _ _) (by decide) rfl (fun ls hl => ?_)
                refine lv_goto (tgt := 67) hx hb dX9_next_114 (by decide) ?_
                obtain ⟨i95, e_i95⟩ : ∃ i95 : Nat → Int, i95 = fun k => [(ii 0), (ii 1), (ii 2), (ii 3), (ii 4), (ii 5), (ii 6), ((ii 7) + 1), (ii 8), (ii 9), (ii 10), (ii 11), (ii 12), (ii 13), (ii 14), (ii 15), (ii 16), (ii 17), (ii 18)].getD k 0 := ⟨_, rfl⟩
                have e_i95_0 : i95 0 = (ii 0) := by rw [e_i95]; rfl
                have e_i95_1 : i95 1 = (ii 1) := by rw [e_i95]; rfl
                have e_i95_2 : i95 2 = (ii 2) := by rw [e_i95]; rfl
                have e_i95_3 : i95 3 = (ii 3) := by rw [e_i95]; rfl
                have e_i95_4 : i95 4 = (ii 4) := by rw [e_i95]; rfl
                have e_i95_5 : i95 5 = (ii 5) := by rw [e_i95]; rfl
                have e_i95_6 : i95 6 = (ii 6) := by rw [e_i95]; rfl
                have e_i95_7 : i95 7 = ((ii 7) + 1) := by rw [e_i95]; rfl
                have e_i95_8 : i95 8 = (ii 8) := by rw [e_i95]; rfl
                have e_i95_9 : i95 9 = (ii 9) := by rw [e_i95]; rfl
                have e_i95_10 : i95 10 = (ii 10) := by rw [e_i95]; rfl
                have e_i95_11 : i95 11 = (ii 11) := by rw [e_i95]; rfl
                have e_i95_12 : i95 12 = (ii 12) := by rw [e_i95]; rfl
                have e_i95_13 : i95 13 = (ii 13) := by rw [e_i95]; rfl
                have e_i95_14 : i95 14 = (ii 14) := by rw [e_i95]; rfl
                have e_i95_15 : i95 15 = (ii 15) := by rw [e_i95]; rfl
                have e_i95_16 : i95 16 = (ii 16) := by rw [e_i95]; rfl
                have e_i95_17 : i95 17 = (ii 17) := by rw [e_i95]; rfl
                have e_i95_18 : i95 18 = (ii 18) := by rw [e_i95]; rfl
                have hO96 : ModS i95 := by have hold9 := hG; refine ⟨⟨?_, ?_, ?_, ?_, ?_⟩, ⟨?_, ?_, ?_, ?_, ?_, ?_⟩, ⟨?_, ?_, ?_, ?_⟩⟩ <;> omega
                have hf97 := hO96
                have hP : va_P G vwCl [((q 1), .inl (cI, 8, .inl (fun k => zI (gl9 k)))), (y, .inr (9, [.int (zI (i95 0)), .ref (q 0), .int (zI (i95 1)), .int (zI (i95 2)), .int (zI (i95 3)), .int (zI (i95 4)), .int (zI (i95 5)), .int (zI (i95 6)), .int (zI (i95 7)), .int (zI (i95 8)), .int (zI (i95 9)), .int (zI (i95 10)), .ref (q 1), .int (zI (i95 11)), .int (zI (i95 12)), .ref (q 2), .ref (q 3), .ref (q 4), .ref (q 5), .ref (q 6), .ref (q 7), .ref (q 8), .ref (q 9), .ref (q 10), .ref (q 11), .ref (q 12), .ref (q 13), .ref (q 14), .ref (q 15), .ref (q 16), .int (zI (i95 13)), .int (zI (i95 14)), .int (zI (i95 15)), .int (zI (i95 16)), .int (zI (i95 17)), .int (zI (i95 18)), .ref (q 17), .ref (q 18), .ref (q 19), .ref (q 20)])), ((q 0), .inl (cI, 900, .inl (fun k => zI (g_tape k))))] H := by subst e_i95; exact hP
                have hD : va_D A [((q 1), .inl (cI, 8, .inl (fun k => zI (gl9 k)))), (y, .inr (9, [.int (zI (i95 0)), .ref (q 0), .int (zI (i95 1)), .int (zI (i95 2)), .int (zI (i95 3)), .int (zI (i95 4)), .int (zI (i95 5)), .int (zI (i95 6)), .int (zI (i95 7)), .int (zI (i95 8)), .int (zI (i95 9)), .int (zI (i95 10)), .ref (q 1), .int (zI (i95 11)), .int (zI (i95 12)), .ref (q 2), .ref (q 3), .ref (q 4), .ref (q 5), .ref (q 6), .ref (q 7), .ref (q 8), .ref (q 9), .ref (q 10), .ref (q 11), .ref (q 12), .ref (q 13), .ref (q 14), .ref (q 15), .ref (q 16), .int (zI (i95 13)), .int (zI (i95 14)), .int (zI (i95 15)), .int (zI (i95 16)), .int (zI (i95 17)), .int (zI (i95 18)), .ref (q 17), .ref (q 18), .ref (q 19), .ref (q 20)])), ((q 0), .inl (cI, 900, .inl (fun k => zI (g_tape k))))] := by subst e_i95; exact hD
                exact ih2 (w1 + 1) gl9 i95 _ _ (by omega) (by omega) hO96 h_gl9 hP hD hS ls (lv_sub hl [1, 0, 2] rfl)
              · refine lv_aload_n hx hb dX9_next_87 rfl (lv_at hl 2 rfl) ?_
                refine r_get F hK hP 1 12 rfl rfl in_X9 (by decide) k_1175 rfl dX9_next_88 ?_
                refine lv_aload_n hx hb dX9_next_91 rfl (lv_at hl 2 rfl) ?_
                refine r_get F hK hP 1 8 rfl rfl in_X9 (by decide) k_1171 rfl dX9_next_92 ?_
                refine lv_aload_n hx hb dX9_next_95 rfl (lv_at hl 2 rfl) ?_
                refine lv_iload_n hx hb dX9_next_96 rfl (lv_at hl 1 rfl) ?_
                refine r_callVi (As := [.int (zI w1)]) (rest := [.int (zI (ii 7)), .ref (q 1)]) (wr := [((q 1), .inl (cI, 8, .inl (fun k => zI (gl9 k))))]) F hK hP hD hS hA hO hE (c_X9_look hO y q ii hG g_tape hr_tape w1 (by omega) (by omega)) k_1307 kv_X9_look 1 rfl (by decide +kernel) ⟨Nat.le_of_ble_eq_true rfl, Nat.le_of_ble_eq_true rfl⟩ [1, 2] [0] rfl rfl (by decide) (by decide) (by decide) 0 9 rfl rfl rfl hl.1 rfl (Nat.le_of_ble_eq_true rfl) dX9_next_97 ⟨Nat.le_of_ble_eq_true rfl, Nat.le_of_ble_eq_true rfl⟩ (w1 := fun u98 => [((q 1), .inl (cI, 8, .inl (fun k => zI (gl9 k)))), (y, .inr (9, [.int (zI (ii 0)), .ref (q 0), .int (zI (ii 1)), .int (zI (ii 2)), .int (zI (ii 3)), .int (zI (ii 4)), .int (zI (ii 5)), .int (zI (ii 6)), .int (zI (ii 7)), .int (zI (ii 8)), .int (zI (ii 9)), .int (zI (ii 10)), .ref (q 1), .int (zI (ii 11)), .int (zI (ii 12)), .ref (q 2), .ref (q 3), .ref (q 4), .ref (q 5), .ref (q 6), .ref (q 7), .ref (q 8), .ref (q 9), .ref (q 10), .ref (q 11), .ref (q 12), .ref (q 13), .ref (q 14), .ref (q 15), .ref (q 16), .int (zI (ii 13)), .int (zI (ii 14)), .int (zI (ii 15)), .int (zI (ii 16)), .int (zI (ii 17)), .int (zI (ii 18)), .ref (q 17), .ref (q 18), .ref (q 19), .ref (q 20)])), ((q 0), .inl (cI, 900, .inl (fun k => zI (g_tape k))))]) (fun _ => rfl) (fun r99 u98 H locs hp100 hP hD hS => ?_)
                obtain ⟨z101, rfl, h_z101⟩ := hp100
                have hx102 := h_z101
                refine rz_iastG F hK hP hD hS 0 0 rfl rfl (by omega) (by omega) dX9_next_100 (w1 := fun g103 => [((q 1), .inl (cI, 8, .inl (fun k => zI (g103 k)))), (y, .inr (9, [.int (zI (ii 0)), .ref (q 0), .int (zI (ii 1)), .int (zI (ii 2)), .int (zI (ii 3)), .int (zI (ii 4)), .int (zI (ii 5)), .int (zI (ii 6)), .int (zI (ii 7)), .int (zI (ii 8)), .int (zI (ii 9)), .int (zI (ii 10)), .ref (q 1), .int (zI (ii 11)), .int (zI (ii 12)), .ref (q 2), .ref (q 3), .ref (q 4), .ref (q 5), .ref (q 6), .ref (q 7), .ref (q 8), .ref (q 9), .ref (q 10), .ref (q 11), .ref (q 12), .ref (q 13), .ref (q 14), .ref (q 15), .ref (q 16), .int (zI (ii 13)), .int (zI (ii 14)), .int (zI (ii 15)), .int (zI (ii 16)), .int (zI (ii 17)), .int (zI (ii 18)), .ref (q 17), .ref (q 18), .ref (q 19), .ref (q 20)])), ((q 0), .inl (cI, 900, .inl (fun k => zI (g_tape k))))]) (fun _ => rfl) (fun g103 e_g103 H locs hP hD hS => ?_)
                have h_g103 : ∀ k, k < 8 → (-2147483648) ≤ g103 k ∧ g103 k ≤ 2147483647 := by rw [e_g103]; exact uZ_all (P := fun _ y9 => (-2147483648) ≤ y9 ∧ y9 ≤ 2147483647) h_gl9 (fun _ => by omega)
                refine lv_aload_n hx hb dX9_next_101 rfl (lv_at hl 2 rfl) ?_
                refine lv_dup hx hb dX9_next_102 rfl ?_
                refine r_get F hK hP 1 8 rfl rfl in_X9 (by decide) k_1171 rfl dX9_next_103 ?_
                refine lv_iconst (v := zI 1) hx hb dX9_next_106 rfl ?_
                refine r_iadd (v := zI ((ii 7) + 1)) F dX9_next_107 (zI_add _ _) ?_
                refine r_put F hK hP hD hS 1 8 rfl rfl in_X9 tyX9 tyX9_ok nmX9 (by decide) k_1171 rfl rfl rfl (Nat.le_of_ble_eq_true rfl) dX9_next_108 (w1 := [((q 1), .inl (cI, 8, .inl (fun k => zI (g103 k)))), (y, .inr (9, [.int (zI (ii 0)), .ref (q 0), .int (zI (ii 1)), .int (zI (ii 2)), .int (zI (ii 3)), .int (zI (ii 4)), .int (zI (ii 5)), .int (zI (ii 6)), .int (zI ((ii 7) + 1)), .int (zI (ii 8)), .int (zI (ii 9)), .int (zI (ii 10)), .ref (q 1), .int (zI (ii 11)), .int (zI (ii 12)), .ref (q 2), .ref (q 3), .ref (q 4), .ref (q 5), .ref (q 6), .ref (q 7), .ref (q 8), .ref (q 9), .ref (q 10), .ref (q 11), .ref (q 12), .ref (q 13), .ref (q 14), .ref (q 15), .ref (q 16), .int (zI (ii 13)), .int (zI (ii 14)), .int (zI (ii 15)), .int (zI (ii 16)), .int (zI (ii 17)), .int (zI (ii 18)), .ref (q 17), .ref (q 18), .ref (q 19), .ref (q 20)])), ((q 0), .inl (cI, 900, .inl (fun k => zI (g_tape k))))]) rfl (fun H locs hP hD hS => ?_)
                refine lv_iinc (v := zI (w1 + 1)) (lv' := [(1, .int (zI (w1 + 1))), (2, .int (zI z14)), (0, .ref y)]) hx hb dX9_next_111 hl (k := 1) rfl (zI_add _ _) (by decide) rfl (fun ls hl => ?_)
                refine lv_goto (tgt := 67) hx hb dX9_next_114 (by decide) ?_
                obtain ⟨i104, e_i104⟩ : ∃ i104 : Nat → Int, i104 = fun k => [(ii 0), (ii 1), (ii 2), (ii 3), (ii 4), (ii 5), (ii 6), ((ii 7) + 1), (ii 8), (ii 9), (ii 10), (ii 11), (ii 12), (ii 13), (ii 14), (ii 15), (ii 16), (ii 17), (ii 18)].getD k 0 := ⟨_, rfl⟩
                have e_i104_0 : i104 0 = (ii 0) := by rw [e_i104]; rfl
                have e_i104_1 : i104 1 = (ii 1) := by rw [e_i104]; rfl
                have e_i104_2 : i104 2 = (ii 2) := by rw [e_i104]; rfl
                have e_i104_3 : i104 3 = (ii 3) := by rw [e_i104]; rfl
                have e_i104_4 : i104 4 = (ii 4) := by rw [e_i104]; rfl
                have e_i104_5 : i104 5 = (ii 5) := by rw [e_i104]; rfl
                have e_i104_6 : i104 6 = (ii 6) := by rw [e_i104]; rfl
                have e_i104_7 : i104 7 = ((ii 7) + 1) := by rw [e_i104]; rfl
                have e_i104_8 : i104 8 = (ii 8) := by rw [e_i104]; rfl
                have e_i104_9 : i104 9 = (ii 9) := by rw [e_i104]; rfl
                have e_i104_10 : i104 10 = (ii 10) := by rw [e_i104]; rfl
                have e_i104_11 : i104 11 = (ii 11) := by rw [e_i104]; rfl
                have e_i104_12 : i104 12 = (ii 12) := by rw [e_i104]; rfl
                have e_i104_13 : i104 13 = (ii 13) := by rw [e_i104]; rfl
                have e_i104_14 : i104 14 = (ii 14) := by rw [e_i104]; rfl
                have e_i104_15 : i104 15 = (ii 15) := by rw [e_i104]; rfl
                have e_i104_16 : i104 16 = (ii 16) := by rw [e_i104]; rfl
                have e_i104_17 : i104 17 = (ii 17) := by rw [e_i104]; rfl
                have e_i104_18 : i104 18 = (ii 18) := by rw [e_i104]; rfl
                have hO105 : ModS i104 := by have hold9 := hG; refine ⟨⟨?_, ?_, ?_, ?_, ?_⟩, ⟨?_, ?_, ?_, ?_, ?_, ?_⟩, ⟨?_, ?_, ?_, ?_⟩⟩ <;> omega
                have hf106 := hO105
                have hP : va_P G vwCl [((q 1), .inl (cI, 8, .inl (fun k => zI (g103 k)))), (y, .inr (9, [.int (zI (i104 0)), .ref (q 0), .int (zI (i104 1)), .int (zI (i104 2)), .int (zI (i104 3)), .int (zI (i104 4)), .int (zI (i104 5)), .int (zI (i104 6)), .int (zI (i104 7)), .int (zI (i104 8)), .int (zI (i104 9)), .int (zI (i104 10)), .ref (q 1), .int (zI (i104 11)), .int (zI (i104 12)), .ref (q 2), .ref (q 3), .ref (q 4), .ref (q 5), .ref (q 6), .ref (q 7), .ref (q 8), .ref (q 9), .ref (q 10), .ref (q 11), .ref (q 12), .ref (q 13), .ref (q 14), .ref (q 15), .ref (q 16), .int (zI (i104 13)), .int (zI (i104 14)), .int (zI (i104 15)), .int (zI (i104 16)), .int (zI (i104 17)), .int (zI (i104 18)), .ref (q 17), .ref (q 18), .ref (q 19), .ref (q 20)])), ((q 0), .inl (cI, 900, .inl (fun k => zI (g_tape k))))] H := by subst e_i104; exact hP
                have hD : va_D A [((q 1), .inl (cI, 8, .inl (fun k => zI (g103 k)))), (y, .inr (9, [.int (zI (i104 0)), .ref (q 0), .int (zI (i104 1)), .int (zI (i104 2)), .int (zI (i104 3)), .int (zI (i104 4)), .int (zI (i104 5)), .int (zI (i104 6)), .int (zI (i104 7)), .int (zI (i104 8)), .int (zI (i104 9)), .int (zI (i104 10)), .ref (q 1), .int (zI (i104 11)), .int (zI (i104 12)), .ref (q 2), .ref (q 3), .ref (q 4), .ref (q 5), .ref (q 6), .ref (q 7), .ref (q 8), .ref (q 9), .ref (q 10), .ref (q 11), .ref (q 12), .ref (q 13), .ref (q 14), .ref (q 15), .ref (q 16), .int (zI (i104 13)), .int (zI (i104 14)), .int (zI (i104 15)), .int (zI (i104 16)), .int (zI (i104 17)), .int (zI (i104 18)), .ref (q 17), .ref (q 18), .ref (q 19), .ref (q 20)])), ((q 0), .inl (cI, 900, .inl (fun k => zI (g_tape k))))] := by subst e_i104; exact hD
                exact ih2 (w1 + 1) g103 i104 _ _ (by omega) (by omega) hO105 h_g103 hP hD hS ls (lv_sub hl [1, 0, 2] rfl)
      · refine lv_aload_n hx hb dX9_next_47 rfl (lv_at hl 2 rfl) ?_
        refine lv_iconst (v := zI 0) hx hb dX9_next_48 rfl ?_
        refine r_put F hK hP hD hS 1 6 rfl rfl in_X9 tyX9 tyX9_ok nmX9 (by decide) k_1169 rfl rfl rfl (Nat.le_of_ble_eq_true rfl) dX9_next_49 (w1 := [((q 1), .inl (cI, 8, .inl (fun k => zI (g_letters k)))), (y, .inr (9, [.int (zI (i8 0)), .ref (q 0), .int (zI (i8 1)), .int (zI (i8 2)), .int (zI (i8 3)), .int (zI (i8 4)), .int (zI 0), .int (zI 0), .int (zI 0), .int (zI (i8 8)), .int (zI (i8 9)), .int (zI (i8 10)), .ref (q 1), .int (zI (i8 11)), .int (zI (i8 12)), .ref (q 2), .ref (q 3), .ref (q 4), .ref (q 5), .ref (q 6), .ref (q 7), .ref (q 8), .ref (q 9), .ref (q 10), .ref (q 11), .ref (q 12), .ref (q 13), .ref (q 14), .ref (q 15), .ref (q 16), .int (zI (i8 13)), .int (zI (i8 14)), .int (zI (i8 15)), .int (zI (i8 16)), .int (zI (i8 17)), .int (zI (i8 18)), .ref (q 17), .ref (q 18), .ref (q 19), .ref (q 20)])), ((q 0), .inl (cI, 900, .inl (fun k => zI (g_tape k))))]) rfl (fun H locs hP hD hS => ?_)
        refine lv_aload_n hx hb dX9_next_52 rfl (lv_at hl 2 rfl) ?_
        refine lv_iload_n hx hb dX9_next_53 rfl (lv_at hl 1 rfl) ?_
        refine r_put F hK hP hD hS 1 5 rfl rfl in_X9 tyX9 tyX9_ok nmX9 (by decide) k_1168 rfl rfl rfl (Nat.le_of_ble_eq_true rfl) dX9_next_54 (w1 := [((q 1), .inl (cI, 8, .inl (fun k => zI (g_letters k)))), (y, .inr (9, [.int (zI (i8 0)), .ref (q 0), .int (zI (i8 1)), .int (zI (i8 2)), .int (zI (i8 3)), .int (zI v1), .int (zI 0), .int (zI 0), .int (zI 0), .int (zI (i8 8)), .int (zI (i8 9)), .int (zI (i8 10)), .ref (q 1), .int (zI (i8 11)), .int (zI (i8 12)), .ref (q 2), .ref (q 3), .ref (q 4), .ref (q 5), .ref (q 6), .ref (q 7), .ref (q 8), .ref (q 9), .ref (q 10), .ref (q 11), .ref (q 12), .ref (q 13), .ref (q 14), .ref (q 15), .ref (q 16), .int (zI (i8 13)), .int (zI (i8 14)), .int (zI (i8 15)), .int (zI (i8 16)), .int (zI (i8 17)), .int (zI (i8 18)), .ref (q 17), .ref (q 18), .ref (q 19), .ref (q 20)])), ((q 0), .inl (cI, 900, .inl (fun k => zI (g_tape k))))]) rfl (fun H locs hP hD hS => ?_)
        refine lv_goto (tgt := 247) hx hb dX9_next_57 (by decide) ?_
        obtain ⟨i107, e_i107⟩ : ∃ i107 : Nat → Int, i107 = fun k => [(i8 0), (i8 1), (i8 2), (i8 3), v1, 0, 0, 0, (i8 8), (i8 9), (i8 10), (i8 11), (i8 12), (i8 13), (i8 14), (i8 15), (i8 16), (i8 17), (i8 18)].getD k 0 := ⟨_, rfl⟩
        have e_i107_0 : i107 0 = (i8 0) := by rw [e_i107]; rfl
        have e_i107_1 : i107 1 = (i8 1) := by rw [e_i107]; rfl
        have e_i107_2 : i107 2 = (i8 2) := by rw [e_i107]; rfl
        have e_i107_3 : i107 3 = (i8 3) := by rw [e_i107]; rfl
        have e_i107_4 : i107 4 = v1 := by rw [e_i107]; rfl
        have e_i107_5 : i107 5 = 0 := by rw [e_i107]; rfl
        have e_i107_6 : i107 6 = 0 := by rw [e_i107]; rfl
        have e_i107_7 : i107 7 = 0 := by rw [e_i107]; rfl
        have e_i107_8 : i107 8 = (i8 8) := by rw [e_i107]; rfl
        have e_i107_9 : i107 9 = (i8 9) := by rw [e_i107]; rfl
        have e_i107_10 : i107 10 = (i8 10) := by rw [e_i107]; rfl
        have e_i107_11 : i107 11 = (i8 11) := by rw [e_i107]; rfl
        have e_i107_12 : i107 12 = (i8 12) := by rw [e_i107]; rfl
        have e_i107_13 : i107 13 = (i8 13) := by rw [e_i107]; rfl
        have e_i107_14 : i107 14 = (i8 14) := by rw [e_i107]; rfl
        have e_i107_15 : i107 15 = (i8 15) := by rw [e_i107]; rfl
        have e_i107_16 : i107 16 = (i8 16) := by rw [e_i107]; rfl
        have e_i107_17 : i107 17 = (i8 17) := by rw [e_i107]; rfl
        have e_i107_18 : i107 18 = (i8 18) := by rw [e_i107]; rfl
        have hO108 : ModS i107 := by have hold9 := hO9; refine ⟨⟨?_, ?_, ?_, ?_, ?_⟩, ⟨?_, ?_, ?_, ?_, ?_, ?_⟩, ⟨?_, ?_, ?_, ?_⟩⟩ <;> omega
        have hf109 := hO108
        have hP : va_P G vwCl [((q 1), .inl (cI, 8, .inl (fun k => zI (g_letters k)))), (y, .inr (9, [.int (zI (i107 0)), .ref (q 0), .int (zI (i107 1)), .int (zI (i107 2)), .int (zI (i107 3)), .int (zI (i107 4)), .int (zI (i107 5)), .int (zI (i107 6)), .int (zI (i107 7)), .int (zI (i107 8)), .int (zI (i107 9)), .int (zI (i107 10)), .ref (q 1), .int (zI (i107 11)), .int (zI (i107 12)), .ref (q 2), .ref (q 3), .ref (q 4), .ref (q 5), .ref (q 6), .ref (q 7), .ref (q 8), .ref (q 9), .ref (q 10), .ref (q 11), .ref (q 12), .ref (q 13), .ref (q 14), .ref (q 15), .ref (q 16), .int (zI (i107 13)), .int (zI (i107 14)), .int (zI (i107 15)), .int (zI (i107 16)), .int (zI (i107 17)), .int (zI (i107 18)), .ref (q 17), .ref (q 18), .ref (q 19), .ref (q 20)])), ((q 0), .inl (cI, 900, .inl (fun k => zI (g_tape k))))] H := by subst e_i107; exact hP
        have hD : va_D A [((q 1), .inl (cI, 8, .inl (fun k => zI (g_letters k)))), (y, .inr (9, [.int (zI (i107 0)), .ref (q 0), .int (zI (i107 1)), .int (zI (i107 2)), .int (zI (i107 3)), .int (zI (i107 4)), .int (zI (i107 5)), .int (zI (i107 6)), .int (zI (i107 7)), .int (zI (i107 8)), .int (zI (i107 9)), .int (zI (i107 10)), .ref (q 1), .int (zI (i107 11)), .int (zI (i107 12)), .ref (q 2), .ref (q 3), .ref (q 4), .ref (q 5), .ref (q 6), .ref (q 7), .ref (q 8), .ref (q 9), .ref (q 10), .ref (q 11), .ref (q 12), .ref (q 13), .ref (q 14), .ref (q 15), .ref (q 16), .int (zI (i107 13)), .int (zI (i107 14)), .int (zI (i107 15)), .int (zI (i107 16)), .int (zI (i107 17)), .int (zI (i107 18)), .ref (q 17), .ref (q 18), .ref (q 19), .ref (q 20)])), ((q 0), .inl (cI, 900, .inl (fun k => zI (g_tape k))))] := by subst e_i107; exact hD
        exact ret (fun k => [(i107, fun _ _ => 0), (fun _ => 0, fun _ => g_letters)].getD k (fun _ => 0, fun _ _ => 0)) _ _ _ _ _ _ ⟨⟨hO108, (show i107 5 = 2 → i107 7 ≤ 8 from by omega)⟩, hr_letters, (show i107 11 = i 11 ∧ i 4 ≤ i107 4 ∧ i107 1 = i 1 ∧ (i107 5 ≠ 0 → i 4 < i107 4) ∧ i107 14 = i 14 ∧ i107 16 = i 16 from by omega)⟩ (bw_subP (isC := [1, 2, 0]) hP rfl) (hD.sub [1, 2, 0] (by decide) rfl) hS (Nat.le_of_ble_eq_true rfl) (Nat.le_of_ble_eq_true rfl) dX9_next_247
    · refine lv_iinc (v := zI (v1 + 1)) (lv' := [(1, .int (zI (v1 + 1))), (0, .ref y)]) hx hb dX9_next_15 hl (k := 0) rfl (zI_add _ _) (by decide) rfl (fun ls hl => ?_)
      refine lv_goto (tgt := 5) hx hb dX9_next_18 (by decide) ?_
      have hP := bw_subP (isC := [1, 2, 0]) (wc := [(y, .inr (9, [.int (zI (i 0)), .ref (q 0), .int (zI (i 1)), .int (zI (i 2)), .int (zI (i 3)), .int (zI (i 4)), .int (zI (i 5)), .int (zI (i 6)), .int (zI (i 7)), .int (zI (i 8)), .int (zI (i 9)), .int (zI (i 10)), .ref (q 1), .int (zI (i 11)), .int (zI (i 12)), .ref (q 2), .ref (q 3), .ref (q 4), .ref (q 5), .ref (q 6), .ref (q 7), .ref (q 8), .ref (q 9), .ref (q 10), .ref (q 11), .ref (q 12), .ref (q 13), .ref (q 14), .ref (q 15), .ref (q 16), .int (zI (i 13)), .int (zI (i 14)), .int (zI (i 15)), .int (zI (i 16)), .int (zI (i 17)), .int (zI (i 18)), .ref (q 17), .ref (q 18), .ref (q 19), .ref (q 20)])), ((q 0), .inl (cI, 900, .inl (fun k => zI (g_tape k)))), ((q 1), .inl (cI, 8, .inl (fun k => zI (g_letters k))))]) hP rfl
      have hD := hD.sub (ws' := [(y, .inr (9, [.int (zI (i 0)), .ref (q 0), .int (zI (i 1)), .int (zI (i 2)), .int (zI (i 3)), .int (zI (i 4)), .int (zI (i 5)), .int (zI (i 6)), .int (zI (i 7)), .int (zI (i 8)), .int (zI (i 9)), .int (zI (i 10)), .ref (q 1), .int (zI (i 11)), .int (zI (i 12)), .ref (q 2), .ref (q 3), .ref (q 4), .ref (q 5), .ref (q 6), .ref (q 7), .ref (q 8), .ref (q 9), .ref (q 10), .ref (q 11), .ref (q 12), .ref (q 13), .ref (q 14), .ref (q 15), .ref (q 16), .int (zI (i 13)), .int (zI (i 14)), .int (zI (i 15)), .int (zI (i 16)), .int (zI (i 17)), .int (zI (i 18)), .ref (q 17), .ref (q 18), .ref (q 19), .ref (q 20)])), ((q 0), .inl (cI, 900, .inl (fun k => zI (g_tape k)))), ((q 1), .inl (cI, 8, .inl (fun k => zI (g_letters k))))]) [1, 2, 0] (by decide) rfl
      exact ih1 (v1 + 1) _ _ (by omega) (by omega) hP hD hS ls (lv_sub hl [0, 1] rfl)
