def LpT (g : Nat → Int) : Prop := ∀ i n, i < 10 → n < 4 → g (20 * i + 3 + 3 * n) ≤ 1
abbrev LpOk (g : Nat → Int) : Prop := ProgR g ∧ LpT g
theorem LpOk.prog {g : Nat → Int} (h : LpOk g) : ProgOk g := ⟨h.1, fun i n hi hn => Or.inr (by have q := h.2 i n hi hn; omega)⟩
theorem LpT.small {g g' : Nat → Int} {k : Nat} {v : Int} (h : LpT g) (e : g' = uZ g k v) (hv : v ≤ 1) : LpT g' := by
  subst e
  intro i n hi hn
  by_cases q : 20 * i + 3 + 3 * n = k
  · rw [q, uZ_eq]; exact hv
  · rw [uZ_ne q]; exact h i n hi hn
theorem LpT.off {g g' : Nat → Int} {k : Nat} {v : Int} (h : LpT g) (e : g' = uZ g k v) (hk : 13 < k % 20) : LpT g' := by
  subst e
  intro i n hi hn
  have q := h i n hi hn
  rcases (show n = 0 ∨ n = 1 ∨ n = 2 ∨ n = 3 by omega) with rfl | rfl | rfl | rfl <;> (rw [uZ_ne (by omega)]; exact q)
theorem ProgR.zero {g g' : Nat → Int} {k : Nat} (h : ProgR g) (e : g' = uZ g k 0) : ProgR g' := by
  subst e
  have p : ∀ o ∈ List.range 20, (0 : Int) ≤ pMax o := by decide
  exact uZ_all (P := fun j y => 0 ≤ y ∧ y ≤ pMax (j % 20)) h (fun _ => ⟨by omega, p (k % 20) (List.mem_range.mpr (Nat.mod_lt _ (by omega)))⟩)
theorem LpOk.zeros {g : Nat → Int} (h : ∀ k, k < 200 → g k = 0) : LpOk g := ⟨(ProgOk.zero h).1, fun i n hi hn => by rw [h _ (by omega)]; omega⟩
theorem dX9_layLine_0 : decode cX9_layLine 0 = .ok (.iconst 1, 1) := bo_4 (by decide +kernel)
theorem dX9_layLine_1 : decode cX9_layLine 1 = .ok (.iload_n 2, 1) := bo_28 (by decide +kernel)
theorem dX9_layLine_2 : decode cX9_layLine 2 = .ok (.iadd, 1) := bo_96 (by decide +kernel)
theorem dX9_layLine_3 : decode cX9_layLine 3 = .ok (.iload_n 2, 1) := bo_28 (by decide +kernel)
theorem dX9_layLine_4 : decode cX9_layLine 4 = .ok (.iload_n 2, 1) := bo_28 (by decide +kernel)
theorem dX9_layLine_5 : decode cX9_layLine 5 = .ok (.imul, 1) := bo_104 (by decide +kernel)
theorem dX9_layLine_6 : decode cX9_layLine 6 = .ok (.iadd, 1) := bo_96 (by decide +kernel)
theorem dX9_layLine_7 : decode cX9_layLine 7 = .ok (.istore 5, 2) := bo_54 (by decide +kernel)
theorem dX9_layLine_9 : decode cX9_layLine 9 = .ok (.iload_n 3, 1) := bo_29 (by decide +kernel)
theorem dX9_layLine_10 : decode cX9_layLine 10 = .ok (.iload 5, 2) := bo_21 (by decide +kernel)
theorem dX9_layLine_12 : decode cX9_layLine 12 = .ok (.idiv, 1) := bo_108 (by decide +kernel)
theorem dX9_layLine_13 : decode cX9_layLine 13 = .ok (.istore 6, 2) := bo_54 (by decide +kernel)
theorem dX9_layLine_15 : decode cX9_layLine 15 = .ok (.iload_n 3, 1) := bo_29 (by decide +kernel)
theorem dX9_layLine_16 : decode cX9_layLine 16 = .ok (.iload 5, 2) := bo_21 (by decide +kernel)
theorem dX9_layLine_18 : decode cX9_layLine 18 = .ok (.irem, 1) := bo_112 (by decide +kernel)
theorem dX9_layLine_19 : decode cX9_layLine 19 = .ok (.istore 7, 2) := bo_54 (by decide +kernel)
theorem dX9_layLine_21 : decode cX9_layLine 21 = .ok (.bipush 20, 2) := bo_16 20 (by decide +kernel)
theorem dX9_layLine_23 : decode cX9_layLine 23 = .ok (.iload_n 1, 1) := bo_27 (by decide +kernel)
theorem dX9_layLine_24 : decode cX9_layLine 24 = .ok (.imul, 1) := bo_104 (by decide +kernel)
theorem dX9_layLine_25 : decode cX9_layLine 25 = .ok (.istore 8, 2) := bo_54 (by decide +kernel)
theorem dX9_layLine_27 : decode cX9_layLine 27 = .ok (.iconst 0, 1) := bo_3 (by decide +kernel)
theorem dX9_layLine_28 : decode cX9_layLine 28 = .ok (.istore 9, 2) := bo_54 (by decide +kernel)
theorem dX9_layLine_30 : decode cX9_layLine 30 = .ok (.iload 9, 2) := bo_21 (by decide +kernel)
theorem dX9_layLine_32 : decode cX9_layLine 32 = .ok (.bipush 20, 2) := bo_16 20 (by decide +kernel)
theorem dX9_layLine_34 : decode cX9_layLine 34 = .ok (.if_icmp .ge 20, 3) := bo_162 0 20 (by decide +kernel)
theorem dX9_layLine_54 : decode cX9_layLine 54 = .ok (.aload_n 0, 1) := bo_42 (by decide +kernel)
theorem dX9_layLine_55 : decode cX9_layLine 55 = .ok (.getfield 71, 3) := bo_180 0 71 (by decide +kernel)
theorem k_1201 : Cond.fieldLink RX9 71 "BurntWaysModel" "least" "[I" ∈ bw_T := bw_m 1201 (by decide +kernel) rfl
theorem dX9_layLine_58 : decode cX9_layLine 58 = .ok (.iload 8, 2) := bo_21 (by decide +kernel)
theorem dX9_layLine_60 : decode cX9_layLine 60 = .ok (.iconst 0, 1) := bo_3 (by decide +kernel)
theorem dX9_layLine_61 : decode cX9_layLine 61 = .ok (.iadd, 1) := bo_96 (by decide +kernel)
theorem dX9_layLine_62 : decode cX9_layLine 62 = .ok (.iconst 1, 1) := bo_4 (by decide +kernel)
theorem dX9_layLine_63 : decode cX9_layLine 63 = .ok (.iastore, 1) := bo_79 (by decide +kernel)
theorem dX9_layLine_64 : decode cX9_layLine 64 = .ok (.aload_n 0, 1) := bo_42 (by decide +kernel)
theorem dX9_layLine_65 : decode cX9_layLine 65 = .ok (.getfield 71, 3) := bo_180 0 71 (by decide +kernel)
theorem dX9_layLine_68 : decode cX9_layLine 68 = .ok (.iload 8, 2) := bo_21 (by decide +kernel)
theorem dX9_layLine_70 : decode cX9_layLine 70 = .ok (.iconst 1, 1) := bo_4 (by decide +kernel)
theorem dX9_layLine_71 : decode cX9_layLine 71 = .ok (.iadd, 1) := bo_96 (by decide +kernel)
theorem dX9_layLine_82 : decode cX9_layLine 82 = .ok (.iastore, 1) := bo_79 (by decide +kernel)
theorem dX9_layLine_83 : decode cX9_layLine 83 = .ok (.aload_n 0, 1) := bo_42 (by decide +kernel)
theorem dX9_layLine_84 : decode cX9_layLine 84 = .ok (.getfield 71, 3) := bo_180 0 71 (by decide +kernel)
theorem dX9_layLine_87 : decode cX9_layLine 87 = .ok (.iload 8, 2) := bo_21 (by decide +kernel)
theorem dX9_layLine_89 : decode cX9_layLine 89 = .ok (.iconst 2, 1) := bo_5 (by decide +kernel)
theorem dX9_layLine_90 : decode cX9_layLine 90 = .ok (.iadd, 1) := bo_96 (by decide +kernel)
theorem dX9_layLine_102 : decode cX9_layLine 102 = .ok (.iastore, 1) := bo_79 (by decide +kernel)
theorem dX9_layLine_103 : decode cX9_layLine 103 = .ok (.aload_n 0, 1) := bo_42 (by decide +kernel)
theorem dX9_layLine_104 : decode cX9_layLine 104 = .ok (.getfield 71, 3) := bo_180 0 71 (by decide +kernel)
theorem dX9_layLine_107 : decode cX9_layLine 107 = .ok (.iload 8, 2) := bo_21 (by decide +kernel)
theorem dX9_layLine_109 : decode cX9_layLine 109 = .ok (.iconst 2, 1) := bo_5 (by decide +kernel)
theorem dX9_layLine_110 : decode cX9_layLine 110 = .ok (.iadd, 1) := bo_96 (by decide +kernel)
theorem dX9_layLine_111 : decode cX9_layLine 111 = .ok (.iconst 1, 1) := bo_4 (by decide +kernel)
theorem dX9_layLine_112 : decode cX9_layLine 112 = .ok (.iadd, 1) := bo_96 (by decide +kernel)
theorem dX9_layLine_124 : decode cX9_layLine 124 = .ok (.iastore, 1) := bo_79 (by decide +kernel)
theorem dX9_layLine_125 : decode cX9_layLine 125 = .ok (.iload 7, 2) := bo_21 (by decide +kernel)
theorem dX9_layLine_127 : decode cX9_layLine 127 = .ok (.ifCond .ne 4, 3) := bo_154 0 4 (by decide +kernel)
theorem dX9_layLine_131 : decode cX9_layLine 131 = .ok (.aload_n 0, 1) := bo_42 (by decide +kernel)
theorem dX9_layLine_132 : decode cX9_layLine 132 = .ok (.getfield 71, 3) := bo_180 0 71 (by decide +kernel)
theorem dX9_layLine_135 : decode cX9_layLine 135 = .ok (.iload 8, 2) := bo_21 (by decide +kernel)
theorem dX9_layLine_137 : decode cX9_layLine 137 = .ok (.bipush 14, 2) := bo_16 14 (by decide +kernel)
theorem dX9_layLine_139 : decode cX9_layLine 139 = .ok (.iadd, 1) := bo_96 (by decide +kernel)
theorem dX9_layLine_151 : decode cX9_layLine 151 = .ok (.iastore, 1) := bo_79 (by decide +kernel)
theorem dX9_layLine_152 : decode cX9_layLine 152 = .ok (.aload_n 0, 1) := bo_42 (by decide +kernel)
theorem dX9_layLine_153 : decode cX9_layLine 153 = .ok (.getfield 71, 3) := bo_180 0 71 (by decide +kernel)
theorem dX9_layLine_156 : decode cX9_layLine 156 = .ok (.iload 8, 2) := bo_21 (by decide +kernel)
theorem dX9_layLine_158 : decode cX9_layLine 158 = .ok (.bipush 15, 2) := bo_16 15 (by decide +kernel)
theorem dX9_layLine_160 : decode cX9_layLine 160 = .ok (.iadd, 1) := bo_96 (by decide +kernel)
theorem dX9_layLine_161 : decode cX9_layLine 161 = .ok (.iconst 1, 1) := bo_4 (by decide +kernel)
theorem dX9_layLine_162 : decode cX9_layLine 162 = .ok (.iastore, 1) := bo_79 (by decide +kernel)
theorem dX9_layLine_163 : decode cX9_layLine 163 = .ok (.aload_n 0, 1) := bo_42 (by decide +kernel)
theorem dX9_layLine_164 : decode cX9_layLine 164 = .ok (.getfield 71, 3) := bo_180 0 71 (by decide +kernel)
theorem dX9_layLine_167 : decode cX9_layLine 167 = .ok (.iload 8, 2) := bo_21 (by decide +kernel)
theorem dX9_layLine_169 : decode cX9_layLine 169 = .ok (.bipush 16, 2) := bo_16 16 (by decide +kernel)
theorem dX9_layLine_171 : decode cX9_layLine 171 = .ok (.iadd, 1) := bo_96 (by decide +kernel)
theorem dX9_layLine_193 : decode cX9_layLine 193 = .ok (.iastore, 1) := bo_79 (by decide +kernel)
theorem dX9_layLine_194 : decode cX9_layLine 194 = .ok (.aload_n 0, 1) := bo_42 (by decide +kernel)
theorem dX9_layLine_195 : decode cX9_layLine 195 = .ok (.getfield 71, 3) := bo_180 0 71 (by decide +kernel)
theorem dX9_layLine_198 : decode cX9_layLine 198 = .ok (.iload 8, 2) := bo_21 (by decide +kernel)
theorem dX9_layLine_200 : decode cX9_layLine 200 = .ok (.bipush 18, 2) := bo_16 18 (by decide +kernel)
theorem dX9_layLine_202 : decode cX9_layLine 202 = .ok (.iadd, 1) := bo_96 (by decide +kernel)
theorem dX9_layLine_221 : decode cX9_layLine 221 = .ok (.iastore, 1) := bo_79 (by decide +kernel)
theorem dX9_layLine_222 : decode cX9_layLine 222 = .ok (.aload_n 0, 1) := bo_42 (by decide +kernel)
theorem dX9_layLine_223 : decode cX9_layLine 223 = .ok (.getfield 71, 3) := bo_180 0 71 (by decide +kernel)
theorem dX9_layLine_226 : decode cX9_layLine 226 = .ok (.iload 8, 2) := bo_21 (by decide +kernel)
theorem dX9_layLine_228 : decode cX9_layLine 228 = .ok (.bipush 17, 2) := bo_16 17 (by decide +kernel)
theorem dX9_layLine_230 : decode cX9_layLine 230 = .ok (.iadd, 1) := bo_96 (by decide +kernel)
theorem dX9_layLine_231 : decode cX9_layLine 231 = .ok (.iload 4, 2) := bo_21 (by decide +kernel)
theorem dX9_layLine_233 : decode cX9_layLine 233 = .ok (.iastore, 1) := bo_79 (by decide +kernel)
theorem dX9_layLine_234 : decode cX9_layLine 234 = .ok (.aload_n 0, 1) := bo_42 (by decide +kernel)
theorem dX9_layLine_235 : decode cX9_layLine 235 = .ok (.getfield 71, 3) := bo_180 0 71 (by decide +kernel)
theorem dX9_layLine_238 : decode cX9_layLine 238 = .ok (.iload 8, 2) := bo_21 (by decide +kernel)
theorem dX9_layLine_240 : decode cX9_layLine 240 = .ok (.bipush 19, 2) := bo_16 19 (by decide +kernel)
theorem dX9_layLine_242 : decode cX9_layLine 242 = .ok (.iadd, 1) := bo_96 (by decide +kernel)
theorem dX9_layLine_243 : decode cX9_layLine 243 = .ok (.iload 4, 2) := bo_21 (by decide +kernel)
theorem dX9_layLine_245 : decode cX9_layLine 245 = .ok (.iastore, 1) := bo_79 (by decide +kernel)
theorem dX9_layLine_246 : decode cX9_layLine 246 = .ok (.return_, 1) := bo_177 (by decide +kernel)
theorem dX9_layLine_203 : decode cX9_layLine 203 = .ok (.iload 7, 2) := bo_21 (by decide +kernel)
theorem dX9_layLine_205 : decode cX9_layLine 205 = .ok (.iload_n 2, 1) := bo_28 (by decide +kernel)
theorem dX9_layLine_206 : decode cX9_layLine 206 = .ok (.if_icmp .gt 7, 3) := bo_163 0 7 (by decide +kernel)
theorem dX9_layLine_213 : decode cX9_layLine 213 = .ok (.iload 7, 2) := bo_21 (by decide +kernel)
theorem dX9_layLine_215 : decode cX9_layLine 215 = .ok (.iconst 1, 1) := bo_4 (by decide +kernel)
theorem dX9_layLine_216 : decode cX9_layLine 216 = .ok (.isub, 1) := bo_100 (by decide +kernel)
theorem dX9_layLine_217 : decode cX9_layLine 217 = .ok (.iload_n 2, 1) := bo_28 (by decide +kernel)
theorem dX9_layLine_218 : decode cX9_layLine 218 = .ok (.isub, 1) := bo_100 (by decide +kernel)
theorem dX9_layLine_219 : decode cX9_layLine 219 = .ok (.iload_n 2, 1) := bo_28 (by decide +kernel)
theorem dX9_layLine_220 : decode cX9_layLine 220 = .ok (.irem, 1) := bo_112 (by decide +kernel)
theorem dX9_layLine_209 : decode cX9_layLine 209 = .ok (.iconst 0, 1) := bo_3 (by decide +kernel)
theorem dX9_layLine_210 : decode cX9_layLine 210 = .ok (.goto 11, 3) := bo_167 0 11 (by decide +kernel)
theorem dX9_layLine_172 : decode cX9_layLine 172 = .ok (.iload 7, 2) := bo_21 (by decide +kernel)
theorem dX9_layLine_174 : decode cX9_layLine 174 = .ok (.iload_n 2, 1) := bo_28 (by decide +kernel)
theorem dX9_layLine_175 : decode cX9_layLine 175 = .ok (.if_icmp .gt 10, 3) := bo_163 0 10 (by decide +kernel)
theorem dX9_layLine_185 : decode cX9_layLine 185 = .ok (.iload 7, 2) := bo_21 (by decide +kernel)
theorem dX9_layLine_187 : decode cX9_layLine 187 = .ok (.iconst 1, 1) := bo_4 (by decide +kernel)
theorem dX9_layLine_188 : decode cX9_layLine 188 = .ok (.isub, 1) := bo_100 (by decide +kernel)
theorem dX9_layLine_189 : decode cX9_layLine 189 = .ok (.iload_n 2, 1) := bo_28 (by decide +kernel)
theorem dX9_layLine_190 : decode cX9_layLine 190 = .ok (.isub, 1) := bo_100 (by decide +kernel)
theorem dX9_layLine_191 : decode cX9_layLine 191 = .ok (.iload_n 2, 1) := bo_28 (by decide +kernel)
theorem dX9_layLine_192 : decode cX9_layLine 192 = .ok (.idiv, 1) := bo_108 (by decide +kernel)
theorem dX9_layLine_178 : decode cX9_layLine 178 = .ok (.iload 7, 2) := bo_21 (by decide +kernel)
theorem dX9_layLine_180 : decode cX9_layLine 180 = .ok (.iconst 1, 1) := bo_4 (by decide +kernel)
theorem dX9_layLine_181 : decode cX9_layLine 181 = .ok (.isub, 1) := bo_100 (by decide +kernel)
theorem dX9_layLine_182 : decode cX9_layLine 182 = .ok (.goto 11, 3) := bo_167 0 11 (by decide +kernel)
theorem dX9_layLine_140 : decode cX9_layLine 140 = .ok (.iload 7, 2) := bo_21 (by decide +kernel)
theorem dX9_layLine_142 : decode cX9_layLine 142 = .ok (.iload_n 2, 1) := bo_28 (by decide +kernel)
theorem dX9_layLine_143 : decode cX9_layLine 143 = .ok (.if_icmp .gt 7, 3) := bo_163 0 7 (by decide +kernel)
theorem dX9_layLine_150 : decode cX9_layLine 150 = .ok (.iconst 2, 1) := bo_5 (by decide +kernel)
theorem dX9_layLine_146 : decode cX9_layLine 146 = .ok (.iconst 1, 1) := bo_4 (by decide +kernel)
theorem dX9_layLine_147 : decode cX9_layLine 147 = .ok (.goto 4, 3) := bo_167 0 4 (by decide +kernel)
theorem dX9_layLine_130 : decode cX9_layLine 130 = .ok (.return_, 1) := bo_177 (by decide +kernel)
theorem dX9_layLine_113 : decode cX9_layLine 113 = .ok (.iload 6, 2) := bo_21 (by decide +kernel)
theorem dX9_layLine_115 : decode cX9_layLine 115 = .ok (.iconst 3, 1) := bo_6 (by decide +kernel)
theorem dX9_layLine_116 : decode cX9_layLine 116 = .ok (.if_icmp .ne 7, 3) := bo_160 0 7 (by decide +kernel)
theorem dX9_layLine_123 : decode cX9_layLine 123 = .ok (.iconst 0, 1) := bo_3 (by decide +kernel)
theorem dX9_layLine_119 : decode cX9_layLine 119 = .ok (.iconst 1, 1) := bo_4 (by decide +kernel)
theorem dX9_layLine_120 : decode cX9_layLine 120 = .ok (.goto 4, 3) := bo_167 0 4 (by decide +kernel)
theorem dX9_layLine_91 : decode cX9_layLine 91 = .ok (.iload 6, 2) := bo_21 (by decide +kernel)
theorem dX9_layLine_93 : decode cX9_layLine 93 = .ok (.iconst 2, 1) := bo_5 (by decide +kernel)
theorem dX9_layLine_94 : decode cX9_layLine 94 = .ok (.if_icmp .ge 7, 3) := bo_162 0 7 (by decide +kernel)
theorem dX9_layLine_101 : decode cX9_layLine 101 = .ok (.iconst 1, 1) := bo_4 (by decide +kernel)
theorem dX9_layLine_97 : decode cX9_layLine 97 = .ok (.iconst 0, 1) := bo_3 (by decide +kernel)
theorem dX9_layLine_98 : decode cX9_layLine 98 = .ok (.goto 4, 3) := bo_167 0 4 (by decide +kernel)
theorem dX9_layLine_72 : decode cX9_layLine 72 = .ok (.iload 6, 2) := bo_21 (by decide +kernel)
theorem dX9_layLine_74 : decode cX9_layLine 74 = .ok (.ifCond .ne 7, 3) := bo_154 0 7 (by decide +kernel)
theorem dX9_layLine_81 : decode cX9_layLine 81 = .ok (.iconst 1, 1) := bo_4 (by decide +kernel)
theorem dX9_layLine_77 : decode cX9_layLine 77 = .ok (.iconst 0, 1) := bo_3 (by decide +kernel)
theorem dX9_layLine_78 : decode cX9_layLine 78 = .ok (.goto 4, 3) := bo_167 0 4 (by decide +kernel)
theorem dX9_layLine_37 : decode cX9_layLine 37 = .ok (.aload_n 0, 1) := bo_42 (by decide +kernel)
theorem dX9_layLine_38 : decode cX9_layLine 38 = .ok (.getfield 71, 3) := bo_180 0 71 (by decide +kernel)
theorem dX9_layLine_41 : decode cX9_layLine 41 = .ok (.iload 8, 2) := bo_21 (by decide +kernel)
theorem dX9_layLine_43 : decode cX9_layLine 43 = .ok (.iload 9, 2) := bo_21 (by decide +kernel)
theorem dX9_layLine_45 : decode cX9_layLine 45 = .ok (.iadd, 1) := bo_96 (by decide +kernel)
theorem dX9_layLine_46 : decode cX9_layLine 46 = .ok (.iconst 0, 1) := bo_3 (by decide +kernel)
theorem dX9_layLine_47 : decode cX9_layLine 47 = .ok (.iastore, 1) := bo_79 (by decide +kernel)
theorem dX9_layLine_48 : decode cX9_layLine 48 = .ok (.iinc 9 1, 3) := bo_132 9 1 (by decide +kernel)
theorem dX9_layLine_51 : decode cX9_layLine 51 = .ok (.goto (-21), 3) := bo_167 255 235 (by decide +kernel)
abbrev rm_X9_layLine : Room := { frames := 0, cells := 0, slots := 0, locals := 0 }
set_option maxRecDepth 100000 in
set_option maxHeartbeats 8000000 in
theorem c_X9_layLine {l : Launch} {E : (Nat → Prop) → State → Prop} (hO : bw_Ok E) {G : va_G} {cI cB cJ cN cW : ClassId} (y : Nat) (q : Nat → Nat) (i : Nat → Int) (hM : ModOk i) (g_least : Nat → Int) (x : Int) (n : Int) (r : Int) (w : Int) (hx9 : zR x) (hn9 : zR n) (hr9 : zR r) (hw9 : zR w) (hlq : LpOk g_least) (hx8 : 0 ≤ x ∧ x < 3) (hn8 : 1 ≤ n ∧ n ≤ 3) (hr8 : 0 ≤ r ∧ r < 4 * (1 + n + n * n)) (hw8 : 1 ≤ w ∧ w ≤ 9) : bw_Cv (S := zV) l yX9_layLine (bw_ws (Cond.code yX9_layLine cX9_layLine 10 none)) rm_X9_layLine E G (bw_kt cI cB cJ cN cW) [.ref y, .int (zI x), .int (zI n), .int (zI r), .int (zI w)] [(y, .inr (9, [.int (zI (i 0)), .ref (q 0), .int (zI (i 1)), .int (zI (i 2)), .int (zI (i 3)), .int (zI (i 4)), .int (zI (i 5)), .int (zI (i 6)), .int (zI (i 7)), .int (zI (i 8)), .int (zI (i 9)), .int (zI (i 10)), .ref (q 1), .int (zI (i 11)), .int (zI (i 12)), .ref (q 2), .ref (q 3), .ref (q 4), .ref (q 5), .ref (q 6), .ref (q 7), .ref (q 8), .ref (q 9), .ref (q 10), .ref (q 11), .ref (q 12), .ref (q 13), .ref (q 14), .ref (q 15), .ref (q 16), .int (zI (i 13)), .int (zI (i 14)), .int (zI (i 15)), .int (zI (i 16)), .int (zI (i 17)), .int (zI (i 18)), .ref (q 17), .ref (q 18), .ref (q 19), .ref (q 20)])), ((q 19), .inl (cI, 200, .inl (fun k => zI (g_least k))))] (fun u => (LpOk ((u 1).2 0))) (fun u => [(y, .inr (9, [.int (zI (i 0)), .ref (q 0), .int (zI (i 1)), .int (zI (i 2)), .int (zI (i 3)), .int (zI (i 4)), .int (zI (i 5)), .int (zI (i 6)), .int (zI (i 7)), .int (zI (i 8)), .int (zI (i 9)), .int (zI (i 10)), .ref (q 1), .int (zI (i 11)), .int (zI (i 12)), .ref (q 2), .ref (q 3), .ref (q 4), .ref (q 5), .ref (q 6), .ref (q 7), .ref (q 8), .ref (q 9), .ref (q 10), .ref (q 11), .ref (q 12), .ref (q 13), .ref (q 14), .ref (q 15), .ref (q 16), .int (zI (i 13)), .int (zI (i 14)), .int (zI (i 15)), .int (zI (i 16)), .int (zI (i 17)), .int (zI (i 18)), .ref (q 17), .ref (q 18), .ref (q 19), .ref (q 20)])), ((q 19), .inl (cI, 200, .inl (fun k => zI (((u 1).2 0) k))))]) := by
  refine bw_Cv.of (cc := cX9_layLine) (maxL := 10) (by decide) rfl (Nat.le_of_ble_eq_true rfl) ?_
  intro p e s m below meth c A Q hx hb hml hts hown hin hK hA hS hP hD hE ret ls hl
  have F : CallFix p m c cX9_layLine 10 s ([.ref y, .int (zI x), .int (zI n), .int (zI r), .int (zI w)] : List Value).toArray bw_T RX9 := ⟨hx, hb, hml, hown, fun w h => hts w (List.mem_cons_of_mem _ h)⟩
  replace hl : lv_has ls 10 [(0, .ref y), (1, .int (zI x)), (2, .int (zI n)), (3, .int (zI r)), (4, .int (zI w))] := hl
  have hf1 := hM.1
  rcases (show n = 1 ∨ n = 2 ∨ n = 3 by omega) with rfl | rfl | rfl
  · refine lv_iconst (v := zI 1) hx hb dX9_layLine_0 rfl ?_
    refine lv_iload_n hx hb dX9_layLine_1 rfl (lv_at hl 2 rfl) ?_
    refine r_iadd (v := zI 2) F dX9_layLine_2 (by decide) ?_
    refine lv_iload_n hx hb dX9_layLine_3 rfl (lv_at hl 2 rfl) ?_
    refine lv_iload_n hx hb dX9_layLine_4 rfl (lv_at hl 2 rfl) ?_
    refine r_imul (v := zI 1) F dX9_layLine_5 (by decide) ?_
    refine r_iadd (v := zI 3) F dX9_layLine_6 (by decide) ?_
    refine lv_istore (lv' := [(5, .int (zI 3)), (0, .ref y), (1, .int (zI x)), (2, .int (zI 1)), (3, .int (zI r)), (4, .int (zI w))]) hx hb dX9_layLine_7 hl (by decide) rfl (fun ls hl => ?_)
    refine lv_iload_n hx hb dX9_layLine_9 rfl (lv_at hl 4 rfl) ?_
    refine lv_iload hx hb dX9_layLine_10 (lv_at hl 0 rfl) ?_
    refine rz_idiv F (by omega) (by omega) dX9_layLine_12 (fun z2 h_z2 => ?_)
    refine lv_istore (lv' := [(6, .int (zI z2)), (5, .int (zI 3)), (0, .ref y), (1, .int (zI x)), (2, .int (zI 1)), (3, .int (zI r)), (4, .int (zI w))]) hx hb dX9_layLine_13 hl (by decide) rfl (fun ls hl => ?_)
    refine lv_iload_n hx hb dX9_layLine_15 rfl (lv_at hl 5 rfl) ?_
    refine lv_iload hx hb dX9_layLine_16 (lv_at hl 1 rfl) ?_
    refine rz_irem F (by omega) (by omega) dX9_layLine_18 (fun z3 h_z3 => ?_)
    refine lv_istore (lv' := [(7, .int (zI z3)), (6, .int (zI z2)), (5, .int (zI 3)), (0, .ref y), (1, .int (zI x)), (2, .int (zI 1)), (3, .int (zI r)), (4, .int (zI w))]) hx hb dX9_layLine_19 hl (by decide) rfl (fun ls hl => ?_)
    refine lv_bipush (v := zI 20) hx hb dX9_layLine_21 (by decide) ?_
    refine lv_iload_n hx hb dX9_layLine_23 rfl (lv_at hl 4 rfl) ?_
    refine r_imul (v := zI (20 * x)) F dX9_layLine_24 (zI_mul _ _) ?_
    refine lv_istore (lv' := [(8, .int (zI (20 * x))), (7, .int (zI z3)), (6, .int (zI z2)), (5, .int (zI 3)), (0, .ref y), (1, .int (zI x)), (2, .int (zI 1)), (3, .int (zI r)), (4, .int (zI w))]) hx hb dX9_layLine_25 hl (by decide) rfl (fun ls hl => ?_)
    refine lv_iconst (v := zI 0) hx hb dX9_layLine_27 rfl ?_
    refine lv_istore (lv' := [(9, .int (zI 0)), (8, .int (zI (20 * x))), (7, .int (zI z3)), (6, .int (zI z2)), (5, .int (zI 3)), (0, .ref y), (1, .int (zI x)), (2, .int (zI 1)), (3, .int (zI r)), (4, .int (zI w))]) hx hb dX9_layLine_28 hl (by decide) rfl (fun ls hl => ?_)
    refine W.widen (k := 0) (n := 0) (Nat.le_of_ble_eq_true rfl) (Nat.le_of_ble_eq_true rfl) ?_
    refine (?_ : ∀ (n9_1 : Nat) (v9 : Int) (gl9 : Nat → Int) (H : Heap) (locs : List Loc), (0 ≤ v9 ∧ v9 ≤ 20) → (20 - v9 : Int).toNat < n9_1 → (LpOk gl9) → va_P G vwCl [(y, .inr (9, [.int (zI (i 0)), .ref (q 0), .int (zI (i 1)), .int (zI (i 2)), .int (zI (i 3)), .int (zI (i 4)), .int (zI (i 5)), .int (zI (i 6)), .int (zI (i 7)), .int (zI (i 8)), .int (zI (i 9)), .int (zI (i 10)), .ref (q 1), .int (zI (i 11)), .int (zI (i 12)), .ref (q 2), .ref (q 3), .ref (q 4), .ref (q 5), .ref (q 6), .ref (q 7), .ref (q 8), .ref (q 9), .ref (q 10), .ref (q 11), .ref (q 12), .ref (q 13), .ref (q 14), .ref (q 15), .ref (q 16), .int (zI (i 13)), .int (zI (i 14)), .int (zI (i 15)), .int (zI (i 16)), .int (zI (i 17)), .int (zI (i 18)), .ref (q 17), .ref (q 18), .ref (q 19), .ref (q 20)])), ((q 19), .inl (cI, 200, .inl (fun k => zI (gl9 k))))] H → va_D A [(y, .inr (9, [.int (zI (i 0)), .ref (q 0), .int (zI (i 1)), .int (zI (i 2)), .int (zI (i 3)), .int (zI (i 4)), .int (zI (i 5)), .int (zI (i 6)), .int (zI (i 7)), .int (zI (i 8)), .int (zI (i 9)), .int (zI (i 10)), .ref (q 1), .int (zI (i 11)), .int (zI (i 12)), .ref (q 2), .ref (q 3), .ref (q 4), .ref (q 5), .ref (q 6), .ref (q 7), .ref (q 8), .ref (q 9), .ref (q 10), .ref (q 11), .ref (q 12), .ref (q 13), .ref (q 14), .ref (q 15), .ref (q 16), .int (zI (i 13)), .int (zI (i 14)), .int (zI (i 15)), .int (zI (i 16)), .int (zI (i 17)), .int (zI (i 18)), .ref (q 17), .ref (q 18), .ref (q 19), .ref (q 20)])), ((q 19), .inl (cI, 200, .inl (fun k => zI (gl9 k))))] → va_S A s.heap H locs → ∀ ls : Array Slot, lv_has ls 10 [(9, .int (zI v9)), (8, .int (zI (20 * x))), (7, .int (zI z3)), (6, .int (zI z2)), (5, .int (zI 3)), (0, .ref y), (1, .int (zI x)), (2, .int (zI 1)), (3, .int (zI r)), (4, .int (zI w))] → W p l e rm_X9_layLine s m ([.ref y, .int (zI x), .int (zI 1), .int (zI r), .int (zI w)] : List Value).toArray below meth c H locs 0 0 Q (F0 m 30 ls [])) ((20 - 0 : Int).toNat + 1) 0 g_least _ _ (by omega) (by omega) hlq hP hD hS ls hl
    clear hP hD hS hl ls
    intro n9_1
    induction n9_1 with
    | zero =>
      intro v9 gl9 H locs hI hM
      exact absurd hM (by omega)
    | succ n9_1 ih1 =>
      intro v9 gl9 H locs hI1 hM1 hlp9 hP hD hS ls hl
      refine lv_iload hx hb dX9_layLine_30 (lv_at hl 0 rfl) ?_
      refine lv_bipush (v := zI 20) hx hb dX9_layLine_32 (by decide) ?_
      refine rz_icmp_ge (tgt := 54) F (by omega) (by omega) dX9_layLine_34 (by decide) (fun h34_3 => ?_) (fun h34_3 => ?_)
      · refine lv_aload_n hx hb dX9_layLine_54 rfl (lv_at hl 5 rfl) ?_
        refine r_get F hK hP 0 38 rfl rfl in_X9 (by decide) k_1201 rfl dX9_layLine_55 ?_
        refine lv_iload hx hb dX9_layLine_58 (lv_at hl 1 rfl) ?_
        refine lv_iconst (v := zI 0) hx hb dX9_layLine_60 rfl ?_
        refine r_iadd (v := zI ((20 * x) + 0)) F dX9_layLine_61 (zI_add _ _) ?_
        refine lv_iconst (v := zI 1) hx hb dX9_layLine_62 rfl ?_
        refine rz_iastG F hK hP hD hS 1 0 rfl rfl (by omega) (by omega) dX9_layLine_63 (w1 := fun g5 => [(y, .inr (9, [.int (zI (i 0)), .ref (q 0), .int (zI (i 1)), .int (zI (i 2)), .int (zI (i 3)), .int (zI (i 4)), .int (zI (i 5)), .int (zI (i 6)), .int (zI (i 7)), .int (zI (i 8)), .int (zI (i 9)), .int (zI (i 10)), .ref (q 1), .int (zI (i 11)), .int (zI (i 12)), .ref (q 2), .ref (q 3), .ref (q 4), .ref (q 5), .ref (q 6), .ref (q 7), .ref (q 8), .ref (q 9), .ref (q 10), .ref (q 11), .ref (q 12), .ref (q 13), .ref (q 14), .ref (q 15), .ref (q 16), .int (zI (i 13)), .int (zI (i 14)), .int (zI (i 15)), .int (zI (i 16)), .int (zI (i 17)), .int (zI (i 18)), .ref (q 17), .ref (q 18), .ref (q 19), .ref (q 20)])), ((q 19), .inl (cI, 200, .inl (fun k => zI (g5 k))))]) (fun _ => rfl) (fun g5 e_g5 H locs hP hD hS => ?_)
        have hlp6 : LpOk g5 := ⟨hlp9.1.set (m := 1) e_g5 0 (by omega) rfl (by omega), LpT.small hlp9.2 e_g5 (by omega)⟩
        refine lv_aload_n hx hb dX9_layLine_64 rfl (lv_at hl 5 rfl) ?_
        refine r_get F hK hP 0 38 rfl rfl in_X9 (by decide) k_1201 rfl dX9_layLine_65 ?_
        refine lv_iload hx hb dX9_layLine_68 (lv_at hl 1 rfl) ?_
        refine lv_iconst (v := zI 1) hx hb dX9_layLine_70 rfl ?_
        refine r_iadd (v := zI ((20 * x) + 1)) F dX9_layLine_71 (zI_add _ _) ?_
        have j_82 : ∀ (zj82_0 : Int) (H : Heap) (locs : List Loc), (0 ≤ zj82_0 ∧ zj82_0 ≤ 1) → va_P G vwCl [(y, .inr (9, [.int (zI (i 0)), .ref (q 0), .int (zI (i 1)), .int (zI (i 2)), .int (zI (i 3)), .int (zI (i 4)), .int (zI (i 5)), .int (zI (i 6)), .int (zI (i 7)), .int (zI (i 8)), .int (zI (i 9)), .int (zI (i 10)), .ref (q 1), .int (zI (i 11)), .int (zI (i 12)), .ref (q 2), .ref (q 3), .ref (q 4), .ref (q 5), .ref (q 6), .ref (q 7), .ref (q 8), .ref (q 9), .ref (q 10), .ref (q 11), .ref (q 12), .ref (q 13), .ref (q 14), .ref (q 15), .ref (q 16), .int (zI (i 13)), .int (zI (i 14)), .int (zI (i 15)), .int (zI (i 16)), .int (zI (i 17)), .int (zI (i 18)), .ref (q 17), .ref (q 18), .ref (q 19), .ref (q 20)])), ((q 19), .inl (cI, 200, .inl (fun k => zI (g5 k))))] H → va_D A [(y, .inr (9, [.int (zI (i 0)), .ref (q 0), .int (zI (i 1)), .int (zI (i 2)), .int (zI (i 3)), .int (zI (i 4)), .int (zI (i 5)), .int (zI (i 6)), .int (zI (i 7)), .int (zI (i 8)), .int (zI (i 9)), .int (zI (i 10)), .ref (q 1), .int (zI (i 11)), .int (zI (i 12)), .ref (q 2), .ref (q 3), .ref (q 4), .ref (q 5), .ref (q 6), .ref (q 7), .ref (q 8), .ref (q 9), .ref (q 10), .ref (q 11), .ref (q 12), .ref (q 13), .ref (q 14), .ref (q 15), .ref (q 16), .int (zI (i 13)), .int (zI (i 14)), .int (zI (i 15)), .int (zI (i 16)), .int (zI (i 17)), .int (zI (i 18)), .ref (q 17), .ref (q 18), .ref (q 19), .ref (q 20)])), ((q 19), .inl (cI, 200, .inl (fun k => zI (g5 k))))] → va_S A s.heap H locs → ∀ ls : Array Slot, lv_has ls 10 [(9, .int (zI v9)), (8, .int (zI (20 * x))), (7, .int (zI z3)), (6, .int (zI z2)), (5, .int (zI 3)), (0, .ref y), (1, .int (zI x)), (2, .int (zI 1)), (3, .int (zI r)), (4, .int (zI w))] → W p l e rm_X9_layLine s m ([.ref y, .int (zI x), .int (zI 1), .int (zI r), .int (zI w)] : List Value).toArray below meth c H locs 0 0 Q (F0 m 82 ls [.int (zI zj82_0), .int (zI ((20 * x) + 1)), .ref (q 19)]) := by
          intro zj82_0 H locs hJ82  hP hD hS ls hl
          refine rz_iastG F hK hP hD hS 1 0 rfl rfl (by omega) (by omega) dX9_layLine_82 (w1 := fun g7 => [(y, .inr (9, [.int (zI (i 0)), .ref (q 0), .int (zI (i 1)), .int (zI (i 2)), .int (zI (i 3)), .int (zI (i 4)), .int (zI (i 5)), .int (zI (i 6)), .int (zI (i 7)), .int (zI (i 8)), .int (zI (i 9)), .int (zI (i 10)), .ref (q 1), .int (zI (i 11)), .int (zI (i 12)), .ref (q 2), .ref (q 3), .ref (q 4), .ref (q 5), .ref (q 6), .ref (q 7), .ref (q 8), .ref (q 9), .ref (q 10), .ref (q 11), .ref (q 12), .ref (q 13), .ref (q 14), .ref (q 15), .ref (q 16), .int (zI (i 13)), .int (zI (i 14)), .int (zI (i 15)), .int (zI (i 16)), .int (zI (i 17)), .int (zI (i 18)), .ref (q 17), .ref (q 18), .ref (q 19), .ref (q 20)])), ((q 19), .inl (cI, 200, .inl (fun k => zI (g7 k))))]) (fun _ => rfl) (fun g7 e_g7 H locs hP hD hS => ?_)
          have hlp8 : LpOk g7 := ⟨hlp6.1.set (m := 4) e_g7 1 (by omega) rfl (by omega), LpT.small hlp6.2 e_g7 (by omega)⟩
          refine lv_aload_n hx hb dX9_layLine_83 rfl (lv_at hl 5 rfl) ?_
          refine r_get F hK hP 0 38 rfl rfl in_X9 (by decide) k_1201 rfl dX9_layLine_84 ?_
          refine lv_iload hx hb dX9_layLine_87 (lv_at hl 1 rfl) ?_
          refine lv_iconst (v := zI 2) hx hb dX9_layLine_89 rfl ?_
          refine r_iadd (v := zI ((20 * x) + 2)) F dX9_layLine_90 (zI_add _ _) ?_
          have j_102 : ∀ (zj102_0 : Int) (H : Heap) (locs : List Loc), (0 ≤ zj102_0 ∧ zj102_0 ≤ 1) → va_P G vwCl [(y, .inr (9, [.int (zI (i 0)), .ref (q 0), .int (zI (i 1)), .int (zI (i 2)), .int (zI (i 3)), .int (zI (i 4)), .int (zI (i 5)), .int (zI (i 6)), .int (zI (i 7)), .int (zI (i 8)), .int (zI (i 9)), .int (zI (i 10)), .ref (q 1), .int (zI (i 11)), .int (zI (i 12)), .ref (q 2), .ref (q 3), .ref (q 4), .ref (q 5), .ref (q 6), .ref (q 7), .ref (q 8), .ref (q 9), .ref (q 10), .ref (q 11), .ref (q 12), .ref (q 13), .ref (q 14), .ref (q 15), .ref (q 16), .int (zI (i 13)), .int (zI (i 14)), .int (zI (i 15)), .int (zI (i 16)), .int (zI (i 17)), .int (zI (i 18)), .ref (q 17), .ref (q 18), .ref (q 19), .ref (q 20)])), ((q 19), .inl (cI, 200, .inl (fun k => zI (g7 k))))] H → va_D A [(y, .inr (9, [.int (zI (i 0)), .ref (q 0), .int (zI (i 1)), .int (zI (i 2)), .int (zI (i 3)), .int (zI (i 4)), .int (zI (i 5)), .int (zI (i 6)), .int (zI (i 7)), .int (zI (i 8)), .int (zI (i 9)), .int (zI (i 10)), .ref (q 1), .int (zI (i 11)), .int (zI (i 12)), .ref (q 2), .ref (q 3), .ref (q 4), .ref (q 5), .ref (q 6), .ref (q 7), .ref (q 8), .ref (q 9), .ref (q 10), .ref (q 11), .ref (q 12), .ref (q 13), .ref (q 14), .ref (q 15), .ref (q 16), .int (zI (i 13)), .int (zI (i 14)), .int (zI (i 15)), .int (zI (i 16)), .int (zI (i 17)), .int (zI (i 18)), .ref (q 17), .ref (q 18), .ref (q 19), .ref (q 20)])), ((q 19), .inl (cI, 200, .inl (fun k => zI (g7 k))))] → va_S A s.heap H locs → ∀ ls : Array Slot, lv_has ls 10 [(9, .int (zI v9)), (8, .int (zI (20 * x))), (7, .int (zI z3)), (6, .int (zI z2)), (5, .int (zI 3)), (0, .ref y), (1, .int (zI x)), (2, .int (zI 1)), (3, .int (zI r)), (4, .int (zI w))] → W p l e rm_X9_layLine s m ([.ref y, .int (zI x), .int (zI 1), .int (zI r), .int (zI w)] : List Value).toArray below meth c H locs 0 0 Q (F0 m 102 ls [.int (zI zj102_0), .int (zI ((20 * x) + 2)), .ref (q 19)]) := by
            intro zj102_0 H locs hJ102  hP hD hS ls hl
            refine rz_iastG F hK hP hD hS 1 0 rfl rfl (by omega) (by omega) dX9_layLine_102 (w1 := fun g9 => [(y, .inr (9, [.int (zI (i 0)), .ref (q 0), .int (zI (i 1)), .int (zI (i 2)), .int (zI (i 3)), .int (zI (i 4)), .int (zI (i 5)), .int (zI (i 6)), .int (zI (i 7)), .int (zI (i 8)), .int (zI (i 9)), .int (zI (i 10)), .ref (q 1), .int (zI (i 11)), .int (zI (i 12)), .ref (q 2), .ref (q 3), .ref (q 4), .ref (q 5), .ref (q 6), .ref (q 7), .ref (q 8), .ref (q 9), .ref (q 10), .ref (q 11), .ref (q 12), .ref (q 13), .ref (q 14), .ref (q 15), .ref (q 16), .int (zI (i 13)), .int (zI (i 14)), .int (zI (i 15)), .int (zI (i 16)), .int (zI (i 17)), .int (zI (i 18)), .ref (q 17), .ref (q 18), .ref (q 19), .ref (q 20)])), ((q 19), .inl (cI, 200, .inl (fun k => zI (g9 k))))]) (fun _ => rfl) (fun g9 e_g9 H locs hP hD hS => ?_)
            have hlp10 : LpOk g9 := ⟨hlp8.1.set (m := 3) e_g9 2 (by omega) rfl (by omega), LpT.small hlp8.2 e_g9 (by omega)⟩
            refine lv_aload_n hx hb dX9_layLine_103 rfl (lv_at hl 5 rfl) ?_
            refine r_get F hK hP 0 38 rfl rfl in_X9 (by decide) k_1201 rfl dX9_layLine_104 ?_
            refine lv_iload hx hb dX9_layLine_107 (lv_at hl 1 rfl) ?_
            refine lv_iconst (v := zI 2) hx hb dX9_layLine_109 rfl ?_
            refine r_iadd (v := zI ((20 * x) + 2)) F dX9_layLine_110 (zI_add _ _) ?_
            refine lv_iconst (v := zI 1) hx hb dX9_layLine_111 rfl ?_
            refine r_iadd (v := zI (((20 * x) + 2) + 1)) F dX9_layLine_112 (zI_add _ _) ?_
            have j_124 : ∀ (zj124_0 : Int) (H : Heap) (locs : List Loc), (0 ≤ zj124_0 ∧ zj124_0 ≤ 1) → va_P G vwCl [(y, .inr (9, [.int (zI (i 0)), .ref (q 0), .int (zI (i 1)), .int (zI (i 2)), .int (zI (i 3)), .int (zI (i 4)), .int (zI (i 5)), .int (zI (i 6)), .int (zI (i 7)), .int (zI (i 8)), .int (zI (i 9)), .int (zI (i 10)), .ref (q 1), .int (zI (i 11)), .int (zI (i 12)), .ref (q 2), .ref (q 3), .ref (q 4), .ref (q 5), .ref (q 6), .ref (q 7), .ref (q 8), .ref (q 9), .ref (q 10), .ref (q 11), .ref (q 12), .ref (q 13), .ref (q 14), .ref (q 15), .ref (q 16), .int (zI (i 13)), .int (zI (i 14)), .int (zI (i 15)), .int (zI (i 16)), .int (zI (i 17)), .int (zI (i 18)), .ref (q 17), .ref (q 18), .ref (q 19), .ref (q 20)])), ((q 19), .inl (cI, 200, .inl (fun k => zI (g9 k))))] H → va_D A [(y, .inr (9, [.int (zI (i 0)), .ref (q 0), .int (zI (i 1)), .int (zI (i 2)), .int (zI (i 3)), .int (zI (i 4)), .int (zI (i 5)), .int (zI (i 6)), .int (zI (i 7)), .int (zI (i 8)), .int (zI (i 9)), .int (zI (i 10)), .ref (q 1), .int (zI (i 11)), .int (zI (i 12)), .ref (q 2), .ref (q 3), .ref (q 4), .ref (q 5), .ref (q 6), .ref (q 7), .ref (q 8), .ref (q 9), .ref (q 10), .ref (q 11), .ref (q 12), .ref (q 13), .ref (q 14), .ref (q 15), .ref (q 16), .int (zI (i 13)), .int (zI (i 14)), .int (zI (i 15)), .int (zI (i 16)), .int (zI (i 17)), .int (zI (i 18)), .ref (q 17), .ref (q 18), .ref (q 19), .ref (q 20)])), ((q 19), .inl (cI, 200, .inl (fun k => zI (g9 k))))] → va_S A s.heap H locs → ∀ ls : Array Slot, lv_has ls 10 [(9, .int (zI v9)), (8, .int (zI (20 * x))), (7, .int (zI z3)), (6, .int (zI z2)), (5, .int (zI 3)), (0, .ref y), (1, .int (zI x)), (2, .int (zI 1)), (3, .int (zI r)), (4, .int (zI w))] → W p l e rm_X9_layLine s m ([.ref y, .int (zI x), .int (zI 1), .int (zI r), .int (zI w)] : List Value).toArray below meth c H locs 0 0 Q (F0 m 124 ls [.int (zI zj124_0), .int (zI (((20 * x) + 2) + 1)), .ref (q 19)]) := by
              intro zj124_0 H locs hJ124  hP hD hS ls hl
              refine rz_iastG F hK hP hD hS 1 0 rfl rfl (by omega) (by omega) dX9_layLine_124 (w1 := fun g11 => [(y, .inr (9, [.int (zI (i 0)), .ref (q 0), .int (zI (i 1)), .int (zI (i 2)), .int (zI (i 3)), .int (zI (i 4)), .int (zI (i 5)), .int (zI (i 6)), .int (zI (i 7)), .int (zI (i 8)), .int (zI (i 9)), .int (zI (i 10)), .ref (q 1), .int (zI (i 11)), .int (zI (i 12)), .ref (q 2), .ref (q 3), .ref (q 4), .ref (q 5), .ref (q 6), .ref (q 7), .ref (q 8), .ref (q 9), .ref (q 10), .ref (q 11), .ref (q 12), .ref (q 13), .ref (q 14), .ref (q 15), .ref (q 16), .int (zI (i 13)), .int (zI (i 14)), .int (zI (i 15)), .int (zI (i 16)), .int (zI (i 17)), .int (zI (i 18)), .ref (q 17), .ref (q 18), .ref (q 19), .ref (q 20)])), ((q 19), .inl (cI, 200, .inl (fun k => zI (g11 k))))]) (fun _ => rfl) (fun g11 e_g11 H locs hP hD hS => ?_)
              have hlp12 : LpOk g11 := ⟨hlp10.1.set (m := 9) e_g11 3 (by omega) rfl (by omega), LpT.small hlp10.2 e_g11 (by omega)⟩
              refine lv_iload hx hb dX9_layLine_125 (lv_at hl 2 rfl) ?_
              refine rz_if_ne (tgt := 131) F (by omega) dX9_layLine_127 (by decide) (fun h127_12 => ?_) (fun h127_12 => ?_)
              · refine lv_aload_n hx hb dX9_layLine_131 rfl (lv_at hl 5 rfl) ?_
                refine r_get F hK hP 0 38 rfl rfl in_X9 (by decide) k_1201 rfl dX9_layLine_132 ?_
                refine lv_iload hx hb dX9_layLine_135 (lv_at hl 1 rfl) ?_
                refine lv_bipush (v := zI 14) hx hb dX9_layLine_137 (by decide) ?_
                refine r_iadd (v := zI ((20 * x) + 14)) F dX9_layLine_139 (zI_add _ _) ?_
                have j_151 : ∀ (zj151_0 : Int) (H : Heap) (locs : List Loc), (0 ≤ zj151_0 ∧ zj151_0 ≤ 2) → va_P G vwCl [(y, .inr (9, [.int (zI (i 0)), .ref (q 0), .int (zI (i 1)), .int (zI (i 2)), .int (zI (i 3)), .int (zI (i 4)), .int (zI (i 5)), .int (zI (i 6)), .int (zI (i 7)), .int (zI (i 8)), .int (zI (i 9)), .int (zI (i 10)), .ref (q 1), .int (zI (i 11)), .int (zI (i 12)), .ref (q 2), .ref (q 3), .ref (q 4), .ref (q 5), .ref (q 6), .ref (q 7), .ref (q 8), .ref (q 9), .ref (q 10), .ref (q 11), .ref (q 12), .ref (q 13), .ref (q 14), .ref (q 15), .ref (q 16), .int (zI (i 13)), .int (zI (i 14)), .int (zI (i 15)), .int (zI (i 16)), .int (zI (i 17)), .int (zI (i 18)), .ref (q 17), .ref (q 18), .ref (q 19), .ref (q 20)])), ((q 19), .inl (cI, 200, .inl (fun k => zI (g11 k))))] H → va_D A [(y, .inr (9, [.int (zI (i 0)), .ref (q 0), .int (zI (i 1)), .int (zI (i 2)), .int (zI (i 3)), .int (zI (i 4)), .int (zI (i 5)), .int (zI (i 6)), .int (zI (i 7)), .int (zI (i 8)), .int (zI (i 9)), .int (zI (i 10)), .ref (q 1), .int (zI (i 11)), .int (zI (i 12)), .ref (q 2), .ref (q 3), .ref (q 4), .ref (q 5), .ref (q 6), .ref (q 7), .ref (q 8), .ref (q 9), .ref (q 10), .ref (q 11), .ref (q 12), .ref (q 13), .ref (q 14), .ref (q 15), .ref (q 16), .int (zI (i 13)), .int (zI (i 14)), .int (zI (i 15)), .int (zI (i 16)), .int (zI (i 17)), .int (zI (i 18)), .ref (q 17), .ref (q 18), .ref (q 19), .ref (q 20)])), ((q 19), .inl (cI, 200, .inl (fun k => zI (g11 k))))] → va_S A s.heap H locs → ∀ ls : Array Slot, lv_has ls 10 [(9, .int (zI v9)), (8, .int (zI (20 * x))), (7, .int (zI z3)), (6, .int (zI z2)), (5, .int (zI 3)), (0, .ref y), (1, .int (zI x)), (2, .int (zI 1)), (3, .int (zI r)), (4, .int (zI w))] → W p l e rm_X9_layLine s m ([.ref y, .int (zI x), .int (zI 1), .int (zI r), .int (zI w)] : List Value).toArray below meth c H locs 0 0 Q (F0 m 151 ls [.int (zI zj151_0), .int (zI ((20 * x) + 14)), .ref (q 19)]) := by
                  intro zj151_0 H locs hJ151  hP hD hS ls hl
                  refine rz_iastG F hK hP hD hS 1 0 rfl rfl (by omega) (by omega) dX9_layLine_151 (w1 := fun g14 => [(y, .inr (9, [.int (zI (i 0)), .ref (q 0), .int (zI (i 1)), .int (zI (i 2)), .int (zI (i 3)), .int (zI (i 4)), .int (zI (i 5)), .int (zI (i 6)), .int (zI (i 7)), .int (zI (i 8)), .int (zI (i 9)), .int (zI (i 10)), .ref (q 1), .int (zI (i 11)), .int (zI (i 12)), .ref (q 2), .ref (q 3), .ref (q 4), .ref (q 5), .ref (q 6), .ref (q 7), .ref (q 8), .ref (q 9), .ref (q 10), .ref (q 11), .ref (q 12), .ref (q 13), .ref (q 14), .ref (q 15), .ref (q 16), .int (zI (i 13)), .int (zI (i 14)), .int (zI (i 15)), .int (zI (i 16)), .int (zI (i 17)), .int (zI (i 18)), .ref (q 17), .ref (q 18), .ref (q 19), .ref (q 20)])), ((q 19), .inl (cI, 200, .inl (fun k => zI (g14 k))))]) (fun _ => rfl) (fun g14 e_g14 H locs hP hD hS => ?_)
                  have hlp15 : LpOk g14 := ⟨hlp12.1.set (m := 2) e_g14 14 (by omega) rfl (by omega), LpT.off hlp12.2 e_g14 (by omega)⟩
                  refine lv_aload_n hx hb dX9_layLine_152 rfl (lv_at hl 5 rfl) ?_
                  refine r_get F hK hP 0 38 rfl rfl in_X9 (by decide) k_1201 rfl dX9_layLine_153 ?_
                  refine lv_iload hx hb dX9_layLine_156 (lv_at hl 1 rfl) ?_
                  refine lv_bipush (v := zI 15) hx hb dX9_layLine_158 (by decide) ?_
                  refine r_iadd (v := zI ((20 * x) + 15)) F dX9_layLine_160 (zI_add _ _) ?_
                  refine lv_iconst (v := zI 1) hx hb dX9_layLine_161 rfl ?_
                  refine rz_iastG F hK hP hD hS 1 0 rfl rfl (by omega) (by omega) dX9_layLine_162 (w1 := fun g16 => [(y, .inr (9, [.int (zI (i 0)), .ref (q 0), .int (zI (i 1)), .int (zI (i 2)), .int (zI (i 3)), .int (zI (i 4)), .int (zI (i 5)), .int (zI (i 6)), .int (zI (i 7)), .int (zI (i 8)), .int (zI (i 9)), .int (zI (i 10)), .ref (q 1), .int (zI (i 11)), .int (zI (i 12)), .ref (q 2), .ref (q 3), .ref (q 4), .ref (q 5), .ref (q 6), .ref (q 7), .ref (q 8), .ref (q 9), .ref (q 10), .ref (q 11), .ref (q 12), .ref (q 13), .ref (q 14), .ref (q 15), .ref (q 16), .int (zI (i 13)), .int (zI (i 14)), .int (zI (i 15)), .int (zI (i 16)), .int (zI (i 17)), .int (zI (i 18)), .ref (q 17), .ref (q 18), .ref (q 19), .ref (q 20)])), ((q 19), .inl (cI, 200, .inl (fun k => zI (g16 k))))]) (fun _ => rfl) (fun g16 e_g16 H locs hP hD hS => ?_)
                  have hlp17 : LpOk g16 := ⟨hlp15.1.set (m := 3) e_g16 15 (by omega) rfl (by omega), LpT.off hlp15.2 e_g16 (by omega)⟩
                  refine lv_aload_n hx hb dX9_layLine_163 rfl (lv_at hl 5 rfl) ?_
                  refine r_get F hK hP 0 38 rfl rfl in_X9 (by decide) k_1201 rfl dX9_layLine_164 ?_
                  refine lv_iload hx hb dX9_layLine_167 (lv_at hl 1 rfl) ?_
                  refine lv_bipush (v := zI 16) hx hb dX9_layLine_169 (by decide) ?_
                  refine r_iadd (v := zI ((20 * x) + 16)) F dX9_layLine_171 (zI_add _ _) ?_
                  have j_193 : ∀ (zj193_0 : Int) (H : Heap) (locs : List Loc), (0 ≤ zj193_0 ∧ zj193_0 ≤ 9) → va_P G vwCl [(y, .inr (9, [.int (zI (i 0)), .ref (q 0), .int (zI (i 1)), .int (zI (i 2)), .int (zI (i 3)), .int (zI (i 4)), .int (zI (i 5)), .int (zI (i 6)), .int (zI (i 7)), .int (zI (i 8)), .int (zI (i 9)), .int (zI (i 10)), .ref (q 1), .int (zI (i 11)), .int (zI (i 12)), .ref (q 2), .ref (q 3), .ref (q 4), .ref (q 5), .ref (q 6), .ref (q 7), .ref (q 8), .ref (q 9), .ref (q 10), .ref (q 11), .ref (q 12), .ref (q 13), .ref (q 14), .ref (q 15), .ref (q 16), .int (zI (i 13)), .int (zI (i 14)), .int (zI (i 15)), .int (zI (i 16)), .int (zI (i 17)), .int (zI (i 18)), .ref (q 17), .ref (q 18), .ref (q 19), .ref (q 20)])), ((q 19), .inl (cI, 200, .inl (fun k => zI (g16 k))))] H → va_D A [(y, .inr (9, [.int (zI (i 0)), .ref (q 0), .int (zI (i 1)), .int (zI (i 2)), .int (zI (i 3)), .int (zI (i 4)), .int (zI (i 5)), .int (zI (i 6)), .int (zI (i 7)), .int (zI (i 8)), .int (zI (i 9)), .int (zI (i 10)), .ref (q 1), .int (zI (i 11)), .int (zI (i 12)), .ref (q 2), .ref (q 3), .ref (q 4), .ref (q 5), .ref (q 6), .ref (q 7), .ref (q 8), .ref (q 9), .ref (q 10), .ref (q 11), .ref (q 12), .ref (q 13), .ref (q 14), .ref (q 15), .ref (q 16), .int (zI (i 13)), .int (zI (i 14)), .int (zI (i 15)), .int (zI (i 16)), .int (zI (i 17)), .int (zI (i 18)), .ref (q 17), .ref (q 18), .ref (q 19), .ref (q 20)])), ((q 19), .inl (cI, 200, .inl (fun k => zI (g16 k))))] → va_S A s.heap H locs → ∀ ls : Array Slot, lv_has ls 10 [(9, .int (zI v9)), (8, .int (zI (20 * x))), (7, .int (zI z3)), (6, .int (zI z2)), (5, .int (zI 3)), (0, .ref y), (1, .int (zI x)), (2, .int (zI 1)), (3, .int (zI r)), (4, .int (zI w))] → W p l e rm_X9_layLine s m ([.ref y, .int (zI x), .int (zI 1), .int (zI r), .int (zI w)] : List Value).toArray below meth c H locs 0 0 Q (F0 m 193 ls [.int (zI zj193_0), .int (zI ((20 * x) + 16)), .ref (q 19)]) := by
                    intro zj193_0 H locs hJ193  hP hD hS ls hl
                    refine rz_iastG F hK hP hD hS 1 0 rfl rfl (by omega) (by omega) dX9_layLine_193 (w1 := fun g18 => [(y, .inr (9, [.int (zI (i 0)), .ref (q 0), .int (zI (i 1)), .int (zI (i 2)), .int (zI (i 3)), .int (zI (i 4)), .int (zI (i 5)), .int (zI (i 6)), .int (zI (i 7)), .int (zI (i 8)), .int (zI (i 9)), .int (zI (i 10)), .ref (q 1), .int (zI (i 11)), .int (zI (i 12)), .ref (q 2), .ref (q 3), .ref (q 4), .ref (q 5), .ref (q 6), .ref (q 7), .ref (q 8), .ref (q 9), .ref (q 10), .ref (q 11), .ref (q 12), .ref (q 13), .ref (q 14), .ref (q 15), .ref (q 16), .int (zI (i 13)), .int (zI (i 14)), .int (zI (i 15)), .int (zI (i 16)), .int (zI (i 17)), .int (zI (i 18)), .ref (q 17), .ref (q 18), .ref (q 19), .ref (q 20)])), ((q 19), .inl (cI, 200, .inl (fun k => zI (g18 k))))]) (fun _ => rfl) (fun g18 e_g18 H locs hP hD hS => ?_)
                    have hlp19 : LpOk g18 := ⟨hlp17.1.set (m := 9) e_g18 16 (by omega) rfl (by omega), LpT.off hlp17.2 e_g18 (by omega)⟩
                    refine lv_aload_n hx hb dX9_layLine_194 rfl (lv_at hl 5 rfl) ?_
                    refine r_get F hK hP 0 38 rfl rfl in_X9 (by decide) k_1201 rfl dX9_layLine_195 ?_
                    refine lv_iload hx hb dX9_layLine_198 (lv_at hl 1 rfl) ?_
                    refine lv_bipush (v := zI 18) hx hb dX9_layLine_200 (by decide) ?_
                    refine r_iadd (v := zI ((20 * x) + 18)) F dX9_layLine_202 (zI_add _ _) ?_
                    have j_221 : ∀ (zj221_0 : Int) (H : Heap) (locs : List Loc), (0 ≤ zj221_0 ∧ zj221_0 ≤ 9) → va_P G vwCl [(y, .inr (9, [.int (zI (i 0)), .ref (q 0), .int (zI (i 1)), .int (zI (i 2)), .int (zI (i 3)), .int (zI (i 4)), .int (zI (i 5)), .int (zI (i 6)), .int (zI (i 7)), .int (zI (i 8)), .int (zI (i 9)), .int (zI (i 10)), .ref (q 1), .int (zI (i 11)), .int (zI (i 12)), .ref (q 2), .ref (q 3), .ref (q 4), .ref (q 5), .ref (q 6), .ref (q 7), .ref (q 8), .ref (q 9), .ref (q 10), .ref (q 11), .ref (q 12), .ref (q 13), .ref (q 14), .ref (q 15), .ref (q 16), .int (zI (i 13)), .int (zI (i 14)), .int (zI (i 15)), .int (zI (i 16)), .int (zI (i 17)), .int (zI (i 18)), .ref (q 17), .ref (q 18), .ref (q 19), .ref (q 20)])), ((q 19), .inl (cI, 200, .inl (fun k => zI (g18 k))))] H → va_D A [(y, .inr (9, [.int (zI (i 0)), .ref (q 0), .int (zI (i 1)), .int (zI (i 2)), .int (zI (i 3)), .int (zI (i 4)), .int (zI (i 5)), .int (zI (i 6)), .int (zI (i 7)), .int (zI (i 8)), .int (zI (i 9)), .int (zI (i 10)), .ref (q 1), .int (zI (i 11)), .int (zI (i 12)), .ref (q 2), .ref (q 3), .ref (q 4), .ref (q 5), .ref (q 6), .ref (q 7), .ref (q 8), .ref (q 9), .ref (q 10), .ref (q 11), .ref (q 12), .ref (q 13), .ref (q 14), .ref (q 15), .ref (q 16), .int (zI (i 13)), .int (zI (i 14)), .int (zI (i 15)), .int (zI (i 16)), .int (zI (i 17)), .int (zI (i 18)), .ref (q 17), .ref (q 18), .ref (q 19), .ref (q 20)])), ((q 19), .inl (cI, 200, .inl (fun k => zI (g18 k))))] → va_S A s.heap H locs → ∀ ls : Array Slot, lv_has ls 10 [(9, .int (zI v9)), (8, .int (zI (20 * x))), (7, .int (zI z3)), (6, .int (zI z2)), (5, .int (zI 3)), (0, .ref y), (1, .int (zI x)), (2, .int (zI 1)), (3, .int (zI r)), (4, .int (zI w))] → W p l e rm_X9_layLine s m ([.ref y, .int (zI x), .int (zI 1), .int (zI r), .int (zI w)] : List Value).toArray below meth c H locs 0 0 Q (F0 m 221 ls [.int (zI zj221_0), .int (zI ((20 * x) + 18)), .ref (q 19)]) := by
                      intro zj221_0 H locs hJ221  hP hD hS ls hl
                      refine rz_iastG F hK hP hD hS 1 0 rfl rfl (by omega) (by omega) dX9_layLine_221 (w1 := fun g20 => [(y, .inr (9, [.int (zI (i 0)), .ref (q 0), .int (zI (i 1)), .int (zI (i 2)), .int (zI (i 3)), .int (zI (i 4)), .int (zI (i 5)), .int (zI (i 6)), .int (zI (i 7)), .int (zI (i 8)), .int (zI (i 9)), .int (zI (i 10)), .ref (q 1), .int (zI (i 11)), .int (zI (i 12)), .ref (q 2), .ref (q 3), .ref (q 4), .ref (q 5), .ref (q 6), .ref (q 7), .ref (q 8), .ref (q 9), .ref (q 10), .ref (q 11), .ref (q 12), .ref (q 13), .ref (q 14), .ref (q 15), .ref (q 16), .int (zI (i 13)), .int (zI (i 14)), .int (zI (i 15)), .int (zI (i 16)), .int (zI (i 17)), .int (zI (i 18)), .ref (q 17), .ref (q 18), .ref (q 19), .ref (q 20)])), ((q 19), .inl (cI, 200, .inl (fun k => zI (g20 k))))]) (fun _ => rfl) (fun g20 e_g20 H locs hP hD hS => ?_)
                      have hlp21 : LpOk g20 := ⟨hlp19.1.set (m := 9) e_g20 18 (by omega) rfl (by omega), LpT.off hlp19.2 e_g20 (by omega)⟩
                      refine lv_aload_n hx hb dX9_layLine_222 rfl (lv_at hl 5 rfl) ?_
                      refine r_get F hK hP 0 38 rfl rfl in_X9 (by decide) k_1201 rfl dX9_layLine_223 ?_
                      refine lv_iload hx hb dX9_layLine_226 (lv_at hl 1 rfl) ?_
                      refine lv_bipush (v := zI 17) hx hb dX9_layLine_228 (by decide) ?_
                      refine r_iadd (v := zI ((20 * x) + 17)) F dX9_layLine_230 (zI_add _ _) ?_
                      refine lv_iload hx hb dX9_layLine_231 (lv_at hl 9 rfl) ?_
                      refine rz_iastG F hK hP hD hS 1 0 rfl rfl (by omega) (by omega) dX9_layLine_233 (w1 := fun g22 => [(y, .inr (9, [.int (zI (i 0)), .ref (q 0), .int (zI (i 1)), .int (zI (i 2)), .int (zI (i 3)), .int (zI (i 4)), .int (zI (i 5)), .int (zI (i 6)), .int (zI (i 7)), .int (zI (i 8)), .int (zI (i 9)), .int (zI (i 10)), .ref (q 1), .int (zI (i 11)), .int (zI (i 12)), .ref (q 2), .ref (q 3), .ref (q 4), .ref (q 5), .ref (q 6), .ref (q 7), .ref (q 8), .ref (q 9), .ref (q 10), .ref (q 11), .ref (q 12), .ref (q 13), .ref (q 14), .ref (q 15), .ref (q 16), .int (zI (i 13)), .int (zI (i 14)), .int (zI (i 15)), .int (zI (i 16)), .int (zI (i 17)), .int (zI (i 18)), .ref (q 17), .ref (q 18), .ref (q 19), .ref (q 20)])), ((q 19), .inl (cI, 200, .inl (fun k => zI (g22 k))))]) (fun _ => rfl) (fun g22 e_g22 H locs hP hD hS => ?_)
                      have hlp23 : LpOk g22 := ⟨hlp21.1.set (m := 9) e_g22 17 (by omega) rfl (by omega), LpT.off hlp21.2 e_g22 (by omega)⟩
                      refine lv_aload_n hx hb dX9_layLine_234 rfl (lv_at hl 5 rfl) ?_
                      refine r_get F hK hP 0 38 rfl rfl in_X9 (by decide) k_1201 rfl dX9_layLine_235 ?_
                      refine lv_iload hx hb dX9_layLine_238 (lv_at hl 1 rfl) ?_
                      refine lv_bipush (v := zI 19) hx hb dX9_layLine_240 (by decide) ?_
                      refine r_iadd (v := zI ((20 * x) + 19)) F dX9_layLine_242 (zI_add _ _) ?_
                      refine lv_iload hx hb dX9_layLine_243 (lv_at hl 9 rfl) ?_
                      refine rz_iastG F hK hP hD hS 1 0 rfl rfl (by omega) (by omega) dX9_layLine_245 (w1 := fun g24 => [(y, .inr (9, [.int (zI (i 0)), .ref (q 0), .int (zI (i 1)), .int (zI (i 2)), .int (zI (i 3)), .int (zI (i 4)), .int (zI (i 5)), .int (zI (i 6)), .int (zI (i 7)), .int (zI (i 8)), .int (zI (i 9)), .int (zI (i 10)), .ref (q 1), .int (zI (i 11)), .int (zI (i 12)), .ref (q 2), .ref (q 3), .ref (q 4), .ref (q 5), .ref (q 6), .ref (q 7), .ref (q 8), .ref (q 9), .ref (q 10), .ref (q 11), .ref (q 12), .ref (q 13), .ref (q 14), .ref (q 15), .ref (q 16), .int (zI (i 13)), .int (zI (i 14)), .int (zI (i 15)), .int (zI (i 16)), .int (zI (i 17)), .int (zI (i 18)), .ref (q 17), .ref (q 18), .ref (q 19), .ref (q 20)])), ((q 19), .inl (cI, 200, .inl (fun k => zI (g24 k))))]) (fun _ => rfl) (fun g24 e_g24 H locs hP hD hS => ?_)
                      have hlp25 : LpOk g24 := ⟨hlp23.1.set (m := 9) e_g24 19 (by omega) rfl (by omega), LpT.off hlp23.2 e_g24 (by omega)⟩
                      exact ret (fun k => [((fun _ => 0), fun _ _ => 0), (fun _ => 0, fun _ => g24)].getD k (fun _ => 0, fun _ _ => 0)) _ _ _ _ _ _ hlp25 (bw_subP (isC := [0, 1]) hP rfl) (hD.sub [0, 1] (by decide) rfl) hS (Nat.le_of_ble_eq_true rfl) (Nat.le_of_ble_eq_true rfl) dX9_layLine_246
                    refine lv_iload hx hb dX9_layLine_203 (lv_at hl 2 rfl) ?_
                    refine lv_iload_n hx hb dX9_layLine_205 rfl (lv_at hl 7 rfl) ?_
                    refine rz_icmp_gt (tgt := 213) F (by omega) (by omega) dX9_layLine_206 (by decide) (fun h206_25 => ?_) (fun h206_25 => ?_)
                    · refine lv_iload hx hb dX9_layLine_213 (lv_at hl 2 rfl) ?_
                      refine lv_iconst (v := zI 1) hx hb dX9_layLine_215 rfl ?_
                      refine r_isub (v := zI (z3 - 1)) F dX9_layLine_216 (zI_sub _ _) ?_
                      refine lv_iload_n hx hb dX9_layLine_217 rfl (lv_at hl 7 rfl) ?_
                      refine r_isub (v := zI ((z3 - 1) - 1)) F dX9_layLine_218 (zI_sub _ _) ?_
                      refine lv_iload_n hx hb dX9_layLine_219 rfl (lv_at hl 7 rfl) ?_
                      refine rz_irem F (by omega) (by omega) dX9_layLine_220 (fun z27 h_z27 => ?_)
                      exact j_221 z27 _ _ (by omega) hP hD hS ls (lv_sub hl [0, 1, 2, 3, 4, 5, 6, 7, 8, 9] rfl)
                    · refine lv_iconst (v := zI 0) hx hb dX9_layLine_209 rfl ?_
                      refine lv_goto (tgt := 221) hx hb dX9_layLine_210 (by decide) ?_
                      exact j_221 0 _ _ (by omega) hP hD hS ls (lv_sub hl [0, 1, 2, 3, 4, 5, 6, 7, 8, 9] rfl)
                  refine lv_iload hx hb dX9_layLine_172 (lv_at hl 2 rfl) ?_
                  refine lv_iload_n hx hb dX9_layLine_174 rfl (lv_at hl 7 rfl) ?_
                  refine rz_icmp_gt (tgt := 185) F (by omega) (by omega) dX9_layLine_175 (by decide) (fun h175_27 => ?_) (fun h175_27 => ?_)
                  · refine lv_iload hx hb dX9_layLine_185 (lv_at hl 2 rfl) ?_
                    refine lv_iconst (v := zI 1) hx hb dX9_layLine_187 rfl ?_
                    refine r_isub (v := zI (z3 - 1)) F dX9_layLine_188 (zI_sub _ _) ?_
                    refine lv_iload_n hx hb dX9_layLine_189 rfl (lv_at hl 7 rfl) ?_
                    refine r_isub (v := zI ((z3 - 1) - 1)) F dX9_layLine_190 (zI_sub _ _) ?_
                    refine lv_iload_n hx hb dX9_layLine_191 rfl (lv_at hl 7 rfl) ?_
                    refine rz_idiv F (by omega) (by omega) dX9_layLine_192 (fun z29 h_z29 => ?_)
                    exact j_193 z29 _ _ (by omega) hP hD hS ls (lv_sub hl [0, 1, 2, 3, 4, 5, 6, 7, 8, 9] rfl)
                  · refine lv_iload hx hb dX9_layLine_178 (lv_at hl 2 rfl) ?_
                    refine lv_iconst (v := zI 1) hx hb dX9_layLine_180 rfl ?_
                    refine r_isub (v := zI (z3 - 1)) F dX9_layLine_181 (zI_sub _ _) ?_
                    refine lv_goto (tgt := 193) hx hb dX9_layLine_182 (by decide) ?_
                    exact j_193 (z3 - 1) _ _ (by omega) hP hD hS ls (lv_sub hl [0, 1, 2, 3, 4, 5, 6, 7, 8, 9] rfl)
                refine lv_iload hx hb dX9_layLine_140 (lv_at hl 2 rfl) ?_
                refine lv_iload_n hx hb dX9_layLine_142 rfl (lv_at hl 7 rfl) ?_
                refine rz_icmp_gt (tgt := 150) F (by omega) (by omega) dX9_layLine_143 (by decide) (fun h143_29 => ?_) (fun h143_29 => ?_)
                · refine lv_iconst (v := zI 2) hx hb dX9_layLine_150 rfl ?_
                  exact j_151 2 _ _ (by omega) hP hD hS ls (lv_sub hl [0, 1, 2, 3, 4, 5, 6, 7, 8, 9] rfl)
                · refine lv_iconst (v := zI 1) hx hb dX9_layLine_146 rfl ?_
                  refine lv_goto (tgt := 151) hx hb dX9_layLine_147 (by decide) ?_
                  exact j_151 1 _ _ (by omega) hP hD hS ls (lv_sub hl [0, 1, 2, 3, 4, 5, 6, 7, 8, 9] rfl)
              · exact ret (fun k => [((fun _ => 0), fun _ _ => 0), (fun _ => 0, fun _ => g11)].getD k (fun _ => 0, fun _ _ => 0)) _ _ _ _ _ _ hlp12 (bw_subP (isC := [0, 1]) hP rfl) (hD.sub [0, 1] (by decide) rfl) hS (Nat.le_of_ble_eq_true rfl) (Nat.le_of_ble_eq_true rfl) dX9_layLine_130
            refine lv_iload hx hb dX9_layLine_113 (lv_at hl 3 rfl) ?_
            refine lv_iconst (v := zI 3) hx hb dX9_layLine_115 rfl ?_
            refine rz_icmp_ne (tgt := 123) F (by omega) (by omega) dX9_layLine_116 (by decide) (fun h116_30 => ?_) (fun h116_30 => ?_)
            · refine lv_iconst (v := zI 0) hx hb dX9_layLine_123 rfl ?_
              exact j_124 0 _ _ (by omega) hP hD hS ls (lv_sub hl [0, 1, 2, 3, 4, 5, 6, 7, 8, 9] rfl)
            · refine lv_iconst (v := zI 1) hx hb dX9_layLine_119 rfl ?_
              refine lv_goto (tgt := 124) hx hb dX9_layLine_120 (by decide) ?_
              exact j_124 1 _ _ (by omega) hP hD hS ls (lv_sub hl [0, 1, 2, 3, 4, 5, 6, 7, 8, 9] rfl)
          refine lv_iload hx hb dX9_layLine_91 (lv_at hl 3 rfl) ?_
          refine lv_iconst (v := zI 2) hx hb dX9_layLine_93 rfl ?_
          refine rz_icmp_ge (tgt := 101) F (by omega) (by omega) dX9_layLine_94 (by decide) (fun h94_31 => ?_) (fun h94_31 => ?_)
          · refine lv_iconst (v := zI 1) hx hb dX9_layLine_101 rfl ?_
            exact j_102 1 _ _ (by omega) hP hD hS ls (lv_sub hl [0, 1, 2, 3, 4, 5, 6, 7, 8, 9] rfl)
          · refine lv_iconst (v := zI 0) hx hb dX9_layLine_97 rfl ?_
            refine lv_goto (tgt := 102) hx hb dX9_layLine_98 (by decide) ?_
            exact j_102 0 _ _ (by omega) hP hD hS ls (lv_sub hl [0, 1, 2, 3, 4, 5, 6, 7, 8, 9] rfl)
        refine lv_iload hx hb dX9_layLine_72 (lv_at hl 3 rfl) ?_
        refine rz_if_ne (tgt := 81) F (by omega) dX9_layLine_74 (by decide) (fun h74_32 => ?_) (fun h74_32 => ?_)
        · refine lv_iconst (v := zI 1) hx hb dX9_layLine_81 rfl ?_
          exact j_82 1 _ _ (by omega) hP hD hS ls (lv_sub hl [0, 1, 2, 3, 4, 5, 6, 7, 8, 9] rfl)
        · refine lv_iconst (v := zI 0) hx hb dX9_layLine_77 rfl ?_
          refine lv_goto (tgt := 82) hx hb dX9_layLine_78 (by decide) ?_
          exact j_82 0 _ _ (by omega) hP hD hS ls (lv_sub hl [0, 1, 2, 3, 4, 5, 6, 7, 8, 9] rfl)
      · refine lv_aload_n hx hb dX9_layLine_37 rfl (lv_at hl 5 rfl) ?_
        refine r_get F hK hP 0 38 rfl rfl in_X9 (by decide) k_1201 rfl dX9_layLine_38 ?_
        refine lv_iload hx hb dX9_layLine_41 (lv_at hl 1 rfl) ?_
        refine lv_iload hx hb dX9_layLine_43 (lv_at hl 0 rfl) ?_
        refine r_iadd (v := zI ((20 * x) + v9)) F dX9_layLine_45 (zI_add _ _) ?_
        refine lv_iconst (v := zI 0) hx hb dX9_layLine_46 rfl ?_
        refine rz_iastG F hK hP hD hS 1 0 rfl rfl (by omega) (by omega) dX9_layLine_47 (w1 := fun g34 => [(y, .inr (9, [.int (zI (i 0)), .ref (q 0), .int (zI (i 1)), .int (zI (i 2)), .int (zI (i 3)), .int (zI (i 4)), .int (zI (i 5)), .int (zI (i 6)), .int (zI (i 7)), .int (zI (i 8)), .int (zI (i 9)), .int (zI (i 10)), .ref (q 1), .int (zI (i 11)), .int (zI (i 12)), .ref (q 2), .ref (q 3), .ref (q 4), .ref (q 5), .ref (q 6), .ref (q 7), .ref (q 8), .ref (q 9), .ref (q 10), .ref (q 11), .ref (q 12), .ref (q 13), .ref (q 14), .ref (q 15), .ref (q 16), .int (zI (i 13)), .int (zI (i 14)), .int (zI (i 15)), .int (zI (i 16)), .int (zI (i 17)), .int (zI (i 18)), .ref (q 17), .ref (q 18), .ref (q 19), .ref (q 20)])), ((q 19), .inl (cI, 200, .inl (fun k => zI (g34 k))))]) (fun _ => rfl) (fun g34 e_g34 H locs hP hD hS => ?_)
        have hlp35 : LpOk g34 := ⟨ProgR.zero hlp9.1 e_g34, LpT.small hlp9.2 e_g34 (by omega)⟩
        refine lv_iinc (v := zI (v9 + 1)) (lv' := [(9, .int (zI (v9 + 1))), (8, .int (zI (20 * x))), (7, .int (zI z3)), (6, .int (zI z2)), (5, .int (zI 3)), (0, .ref y), (1, .int (zI x)), (2, .int (zI 1)), (3, .int (zI r)), (4, .int (zI w))]) hx hb dX9_layLine_48 hl (k := 0) rfl (zI_add _ _) (by decide) rfl (fun ls hl => ?_)
        refine lv_goto (tgt := 30) hx hb dX9_layLine_51 (by decide) ?_
        exact ih1 (v9 + 1) g34 _ _ (by omega) (by omega) hlp35 hP hD hS ls (lv_sub hl [0, 1, 2, 3, 4, 5, 6, 7, 8, 9] rfl)
  · refine lv_iconst (v := zI 1) hx hb dX9_layLine_0 rfl ?_
    refine lv_iload_n hx hb dX9_layLine_1 rfl (lv_at hl 2 rfl) ?_
    refine r_iadd (v := zI 3) F dX9_layLine_2 (by decide) ?_
    refine lv_iload_n hx hb dX9_layLine_3 rfl (lv_at hl 2 rfl) ?_
    refine lv_iload_n hx hb dX9_layLine_4 rfl (lv_at hl 2 rfl) ?_
    refine r_imul (v := zI 4) F dX9_layLine_5 (by decide) ?_
    refine r_iadd (v := zI 7) F dX9_layLine_6 (by decide) ?_
    refine lv_istore (lv' := [(5, .int (zI 7)), (0, .ref y), (1, .int (zI x)), (2, .int (zI 2)), (3, .int (zI r)), (4, .int (zI w))]) hx hb dX9_layLine_7 hl (by decide) rfl (fun ls hl => ?_)
    refine lv_iload_n hx hb dX9_layLine_9 rfl (lv_at hl 4 rfl) ?_
    refine lv_iload hx hb dX9_layLine_10 (lv_at hl 0 rfl) ?_
    refine rz_idiv F (by omega) (by omega) dX9_layLine_12 (fun z36 h_z36 => ?_)
    refine lv_istore (lv' := [(6, .int (zI z36)), (5, .int (zI 7)), (0, .ref y), (1, .int (zI x)), (2, .int (zI 2)), (3, .int (zI r)), (4, .int (zI w))]) hx hb dX9_layLine_13 hl (by decide) rfl (fun ls hl => ?_)
    refine lv_iload_n hx hb dX9_layLine_15 rfl (lv_at hl 5 rfl) ?_
    refine lv_iload hx hb dX9_layLine_16 (lv_at hl 1 rfl) ?_
    refine rz_irem F (by omega) (by omega) dX9_layLine_18 (fun z37 h_z37 => ?_)
    refine lv_istore (lv' := [(7, .int (zI z37)), (6, .int (zI z36)), (5, .int (zI 7)), (0, .ref y), (1, .int (zI x)), (2, .int (zI 2)), (3, .int (zI r)), (4, .int (zI w))]) hx hb dX9_layLine_19 hl (by decide) rfl (fun ls hl => ?_)
    refine lv_bipush (v := zI 20) hx hb dX9_layLine_21 (by decide) ?_
    refine lv_iload_n hx hb dX9_layLine_23 rfl (lv_at hl 4 rfl) ?_
    refine r_imul (v := zI (20 * x)) F dX9_layLine_24 (zI_mul _ _) ?_
    refine lv_istore (lv' := [(8, .int (zI (20 * x))), (7, .int (zI z37)), (6, .int (zI z36)), (5, .int (zI 7)), (0, .ref y), (1, .int (zI x)), (2, .int (zI 2)), (3, .int (zI r)), (4, .int (zI w))]) hx hb dX9_layLine_25 hl (by decide) rfl (fun ls hl => ?_)
    refine lv_iconst (v := zI 0) hx hb dX9_layLine_27 rfl ?_
    refine lv_istore (lv' := [(9, .int (zI 0)), (8, .int (zI (20 * x))), (7, .int (zI z37)), (6, .int (zI z36)), (5, .int (zI 7)), (0, .ref y), (1, .int (zI x)), (2, .int (zI 2)), (3, .int (zI r)), (4, .int (zI w))]) hx hb dX9_layLine_28 hl (by decide) rfl (fun ls hl => ?_)
    refine W.widen (k := 0) (n := 0) (Nat.le_of_ble_eq_true rfl) (Nat.le_of_ble_eq_true rfl) ?_
    refine (?_ : ∀ (n9_1 : Nat) (v9 : Int) (gl9 : Nat → Int) (H : Heap) (locs : List Loc), (0 ≤ v9 ∧ v9 ≤ 20) → (20 - v9 : Int).toNat < n9_1 → (LpOk gl9) → va_P G vwCl [(y, .inr (9, [.int (zI (i 0)), .ref (q 0), .int (zI (i 1)), .int (zI (i 2)), .int (zI (i 3)), .int (zI (i 4)), .int (zI (i 5)), .int (zI (i 6)), .int (zI (i 7)), .int (zI (i 8)), .int (zI (i 9)), .int (zI (i 10)), .ref (q 1), .int (zI (i 11)), .int (zI (i 12)), .ref (q 2), .ref (q 3), .ref (q 4), .ref (q 5), .ref (q 6), .ref (q 7), .ref (q 8), .ref (q 9), .ref (q 10), .ref (q 11), .ref (q 12), .ref (q 13), .ref (q 14), .ref (q 15), .ref (q 16), .int (zI (i 13)), .int (zI (i 14)), .int (zI (i 15)), .int (zI (i 16)), .int (zI (i 17)), .int (zI (i 18)), .ref (q 17), .ref (q 18), .ref (q 19), .ref (q 20)])), ((q 19), .inl (cI, 200, .inl (fun k => zI (gl9 k))))] H → va_D A [(y, .inr (9, [.int (zI (i 0)), .ref (q 0), .int (zI (i 1)), .int (zI (i 2)), .int (zI (i 3)), .int (zI (i 4)), .int (zI (i 5)), .int (zI (i 6)), .int (zI (i 7)), .int (zI (i 8)), .int (zI (i 9)), .int (zI (i 10)), .ref (q 1), .int (zI (i 11)), .int (zI (i 12)), .ref (q 2), .ref (q 3), .ref (q 4), .ref (q 5), .ref (q 6), .ref (q 7), .ref (q 8), .ref (q 9), .ref (q 10), .ref (q 11), .ref (q 12), .ref (q 13), .ref (q 14), .ref (q 15), .ref (q 16), .int (zI (i 13)), .int (zI (i 14)), .int (zI (i 15)), .int (zI (i 16)), .int (zI (i 17)), .int (zI (i 18)), .ref (q 17), .ref (q 18), .ref (q 19), .ref (q 20)])), ((q 19), .inl (cI, 200, .inl (fun k => zI (gl9 k))))] → va_S A s.heap H locs → ∀ ls : Array Slot, lv_has ls 10 [(9, .int (zI v9)), (8, .int (zI (20 * x))), (7, .int (zI z37)), (6, .int (zI z36)), (5, .int (zI 7)), (0, .ref y), (1, .int (zI x)), (2, .int (zI 2)), (3, .int (zI r)), (4, .int (zI w))] → W p l e rm_X9_layLine s m ([.ref y, .int (zI x), .int (zI 2), .int (zI r), .int (zI w)] : List Value).toArray below meth c H locs 0 0 Q (F0 m 30 ls [])) ((20 - 0 : Int).toNat + 1) 0 g_least _ _ (by omega) (by omega) hlq hP hD hS ls hl
    clear hP hD hS hl ls
    intro n9_1
    induction n9_1 with
    | zero =>
      intro v9 gl9 H locs hI hM
      exact absurd hM (by omega)
    | succ n9_1 ih1 =>
      intro v9 gl9 H locs hI1 hM1 hlp9 hP hD hS ls hl
      refine lv_iload hx hb dX9_layLine_30 (lv_at hl 0 rfl) ?_
      refine lv_bipush (v := zI 20) hx hb dX9_layLine_32 (by decide) ?_
      refine rz_icmp_ge (tgt := 54) F (by omega) (by omega) dX9_layLine_34 (by decide) (fun h34_37 => ?_) (fun h34_37 => ?_)
      · refine lv_aload_n hx hb dX9_layLine_54 rfl (lv_at hl 5 rfl) ?_
        refine r_get F hK hP 0 38 rfl rfl in_X9 (by decide) k_1201 rfl dX9_layLine_55 ?_
        refine lv_iload hx hb dX9_layLine_58 (lv_at hl 1 rfl) ?_
        refine lv_iconst (v := zI 0) hx hb dX9_layLine_60 rfl ?_
        refine r_iadd (v := zI ((20 * x) + 0)) F dX9_layLine_61 (zI_add _ _) ?_
        refine lv_iconst (v := zI 1) hx hb dX9_layLine_62 rfl ?_
        refine rz_iastG F hK hP hD hS 1 0 rfl rfl (by omega) (by omega) dX9_layLine_63 (w1 := fun g39 => [(y, .inr (9, [.int (zI (i 0)), .ref (q 0), .int (zI (i 1)), .int (zI (i 2)), .int (zI (i 3)), .int (zI (i 4)), .int (zI (i 5)), .int (zI (i 6)), .int (zI (i 7)), .int (zI (i 8)), .int (zI (i 9)), .int (zI (i 10)), .ref (q 1), .int (zI (i 11)), .int (zI (i 12)), .ref (q 2), .ref (q 3), .ref (q 4), .ref (q 5), .ref (q 6), .ref (q 7), .ref (q 8), .ref (q 9), .ref (q 10), .ref (q 11), .ref (q 12), .ref (q 13), .ref (q 14), .ref (q 15), .ref (q 16), .int (zI (i 13)), .int (zI (i 14)), .int (zI (i 15)), .int (zI (i 16)), .int (zI (i 17)), .int (zI (i 18)), .ref (q 17), .ref (q 18), .ref (q 19), .ref (q 20)])), ((q 19), .inl (cI, 200, .inl (fun k => zI (g39 k))))]) (fun _ => rfl) (fun g39 e_g39 H locs hP hD hS => ?_)
        have hlp40 : LpOk g39 := ⟨hlp9.1.set (m := 1) e_g39 0 (by omega) rfl (by omega), LpT.small hlp9.2 e_g39 (by omega)⟩
        refine lv_aload_n hx hb dX9_layLine_64 rfl (lv_at hl 5 rfl) ?_
        refine r_get F hK hP 0 38 rfl rfl in_X9 (by decide) k_1201 rfl dX9_layLine_65 ?_
        refine lv_iload hx hb dX9_layLine_68 (lv_at hl 1 rfl) ?_
        refine lv_iconst (v := zI 1) hx hb dX9_layLine_70 rfl ?_
        refine r_iadd (v := zI ((20 * x) + 1)) F dX9_layLine_71 (zI_add _ _) ?_
        have j_82 : ∀ (zj82_0 : Int) (H : Heap) (locs : List Loc), (0 ≤ zj82_0 ∧ zj82_0 ≤ 1) → va_P G vwCl [(y, .inr (9, [.int (zI (i 0)), .ref (q 0), .int (zI (i 1)), .int (zI (i 2)), .int (zI (i 3)), .int (zI (i 4)), .int (zI (i 5)), .int (zI (i 6)), .int (zI (i 7)), .int (zI (i 8)), .int (zI (i 9)), .int (zI (i 10)), .ref (q 1), .int (zI (i 11)), .int (zI (i 12)), .ref (q 2), .ref (q 3), .ref (q 4), .ref (q 5), .ref (q 6), .ref (q 7), .ref (q 8), .ref (q 9), .ref (q 10), .ref (q 11), .ref (q 12), .ref (q 13), .ref (q 14), .ref (q 15), .ref (q 16), .int (zI (i 13)), .int (zI (i 14)), .int (zI (i 15)), .int (zI (i 16)), .int (zI (i 17)), .int (zI (i 18)), .ref (q 17), .ref (q 18), .ref (q 19), .ref (q 20)])), ((q 19), .inl (cI, 200, .inl (fun k => zI (g39 k))))] H → va_D A [(y, .inr (9, [.int (zI (i 0)), .ref (q 0), .int (zI (i 1)), .int (zI (i 2)), .int (zI (i 3)), .int (zI (i 4)), .int (zI (i 5)), .int (zI (i 6)), .int (zI (i 7)), .int (zI (i 8)), .int (zI (i 9)), .int (zI (i 10)), .ref (q 1), .int (zI (i 11)), .int (zI (i 12)), .ref (q 2), .ref (q 3), .ref (q 4), .ref (q 5), .ref (q 6), .ref (q 7), .ref (q 8), .ref (q 9), .ref (q 10), .ref (q 11), .ref (q 12), .ref (q 13), .ref (q 14), .ref (q 15), .ref (q 16), .int (zI (i 13)), .int (zI (i 14)), .int (zI (i 15)), .int (zI (i 16)), .int (zI (i 17)), .int (zI (i 18)), .ref (q 17), .ref (q 18), .ref (q 19), .ref (q 20)])), ((q 19), .inl (cI, 200, .inl (fun k => zI (g39 k))))] → va_S A s.heap H locs → ∀ ls : Array Slot, lv_has ls 10 [(9, .int (zI v9)), (8, .int (zI (20 * x))), (7, .int (zI z37)), (6, .int (zI z36)), (5, .int (zI 7)), (0, .ref y), (1, .int (zI x)), (2, .int (zI 2)), (3, .int (zI r)), (4, .int (zI w))] → W p l e rm_X9_layLine s m ([.ref y, .int (zI x), .int (zI 2), .int (zI r), .int (zI w)] : List Value).toArray below meth c H locs 0 0 Q (F0 m 82 ls [.int (zI zj82_0), .int (zI ((20 * x) + 1)), .ref (q 19)]) := by
          intro zj82_0 H locs hJ82  hP hD hS ls hl
          refine rz_iastG F hK hP hD hS 1 0 rfl rfl (by omega) (by omega) dX9_layLine_82 (w1 := fun g41 => [(y, .inr (9, [.int (zI (i 0)), .ref (q 0), .int (zI (i 1)), .int (zI (i 2)), .int (zI (i 3)), .int (zI (i 4)), .int (zI (i 5)), .int (zI (i 6)), .int (zI (i 7)), .int (zI (i 8)), .int (zI (i 9)), .int (zI (i 10)), .ref (q 1), .int (zI (i 11)), .int (zI (i 12)), .ref (q 2), .ref (q 3), .ref (q 4), .ref (q 5), .ref (q 6), .ref (q 7), .ref (q 8), .ref (q 9), .ref (q 10), .ref (q 11), .ref (q 12), .ref (q 13), .ref (q 14), .ref (q 15), .ref (q 16), .int (zI (i 13)), .int (zI (i 14)), .int (zI (i 15)), .int (zI (i 16)), .int (zI (i 17)), .int (zI (i 18)), .ref (q 17), .ref (q 18), .ref (q 19), .ref (q 20)])), ((q 19), .inl (cI, 200, .inl (fun k => zI (g41 k))))]) (fun _ => rfl) (fun g41 e_g41 H locs hP hD hS => ?_)
          have hlp42 : LpOk g41 := ⟨hlp40.1.set (m := 4) e_g41 1 (by omega) rfl (by omega), LpT.small hlp40.2 e_g41 (by omega)⟩
          refine lv_aload_n hx hb dX9_layLine_83 rfl (lv_at hl 5 rfl) ?_
          refine r_get F hK hP 0 38 rfl rfl in_X9 (by decide) k_1201 rfl dX9_layLine_84 ?_
          refine lv_iload hx hb dX9_layLine_87 (lv_at hl 1 rfl) ?_
          refine lv_iconst (v := zI 2) hx hb dX9_layLine_89 rfl ?_
          refine r_iadd (v := zI ((20 * x) + 2)) F dX9_layLine_90 (zI_add _ _) ?_
          have j_102 : ∀ (zj102_0 : Int) (H : Heap) (locs : List Loc), (0 ≤ zj102_0 ∧ zj102_0 ≤ 1) → va_P G vwCl [(y, .inr (9, [.int (zI (i 0)), .ref (q 0), .int (zI (i 1)), .int (zI (i 2)), .int (zI (i 3)), .int (zI (i 4)), .int (zI (i 5)), .int (zI (i 6)), .int (zI (i 7)), .int (zI (i 8)), .int (zI (i 9)), .int (zI (i 10)), .ref (q 1), .int (zI (i 11)), .int (zI (i 12)), .ref (q 2), .ref (q 3), .ref (q 4), .ref (q 5), .ref (q 6), .ref (q 7), .ref (q 8), .ref (q 9), .ref (q 10), .ref (q 11), .ref (q 12), .ref (q 13), .ref (q 14), .ref (q 15), .ref (q 16), .int (zI (i 13)), .int (zI (i 14)), .int (zI (i 15)), .int (zI (i 16)), .int (zI (i 17)), .int (zI (i 18)), .ref (q 17), .ref (q 18), .ref (q 19), .ref (q 20)])), ((q 19), .inl (cI, 200, .inl (fun k => zI (g41 k))))] H → va_D A [(y, .inr (9, [.int (zI (i 0)), .ref (q 0), .int (zI (i 1)), .int (zI (i 2)), .int (zI (i 3)), .int (zI (i 4)), .int (zI (i 5)), .int (zI (i 6)), .int (zI (i 7)), .int (zI (i 8)), .int (zI (i 9)), .int (zI (i 10)), .ref (q 1), .int (zI (i 11)), .int (zI (i 12)), .ref (q 2), .ref (q 3), .ref (q 4), .ref (q 5), .ref (q 6), .ref (q 7), .ref (q 8), .ref (q 9), .ref (q 10), .ref (q 11), .ref (q 12), .ref (q 13), .ref (q 14), .ref (q 15), .ref (q 16), .int (zI (i 13)), .int (zI (i 14)), .int (zI (i 15)), .int (zI (i 16)), .int (zI (i 17)), .int (zI (i 18)), .ref (q 17), .ref (q 18), .ref (q 19), .ref (q 20)])), ((q 19), .inl (cI, 200, .inl (fun k => zI (g41 k))))] → va_S A s.heap H locs → ∀ ls : Array Slot, lv_has ls 10 [(9, .int (zI v9)), (8, .int (zI (20 * x))), (7, .int (zI z37)), (6, .int (zI z36)), (5, .int (zI 7)), (0, .ref y), (1, .int (zI x)), (2, .int (zI 2)), (3, .int (zI r)), (4, .int (zI w))] → W p l e rm_X9_layLine s m ([.ref y, .int (zI x), .int (zI 2), .int (zI r), .int (zI w)] : List Value).toArray below meth c H locs 0 0 Q (F0 m 102 ls [.int (zI zj102_0), .int (zI ((20 * x) + 2)), .ref (q 19)]) := by
            intro zj102_0 H locs hJ102  hP hD hS ls hl
            refine rz_iastG F hK hP hD hS 1 0 rfl rfl (by omega) (by omega) dX9_layLine_102 (w1 := fun g43 => [(y, .inr (9, [.int (zI (i 0)), .ref (q 0), .int (zI (i 1)), .int (zI (i 2)), .int (zI (i 3)), .int (zI (i 4)), .int (zI (i 5)), .int (zI (i 6)), .int (zI (i 7)), .int (zI (i 8)), .int (zI (i 9)), .int (zI (i 10)), .ref (q 1), .int (zI (i 11)), .int (zI (i 12)), .ref (q 2), .ref (q 3), .ref (q 4), .ref (q 5), .ref (q 6), .ref (q 7), .ref (q 8), .ref (q 9), .ref (q 10), .ref (q 11), .ref (q 12), .ref (q 13), .ref (q 14), .ref (q 15), .ref (q 16), .int (zI (i 13)), .int (zI (i 14)), .int (zI (i 15)), .int (zI (i 16)), .int (zI (i 17)), .int (zI (i 18)), .ref (q 17), .ref (q 18), .ref (q 19), .ref (q 20)])), ((q 19), .inl (cI, 200, .inl (fun k => zI (g43 k))))]) (fun _ => rfl) (fun g43 e_g43 H locs hP hD hS => ?_)
            have hlp44 : LpOk g43 := ⟨hlp42.1.set (m := 3) e_g43 2 (by omega) rfl (by omega), LpT.small hlp42.2 e_g43 (by omega)⟩
            refine lv_aload_n hx hb dX9_layLine_103 rfl (lv_at hl 5 rfl) ?_
            refine r_get F hK hP 0 38 rfl rfl in_X9 (by decide) k_1201 rfl dX9_layLine_104 ?_
            refine lv_iload hx hb dX9_layLine_107 (lv_at hl 1 rfl) ?_
            refine lv_iconst (v := zI 2) hx hb dX9_layLine_109 rfl ?_
            refine r_iadd (v := zI ((20 * x) + 2)) F dX9_layLine_110 (zI_add _ _) ?_
            refine lv_iconst (v := zI 1) hx hb dX9_layLine_111 rfl ?_
            refine r_iadd (v := zI (((20 * x) + 2) + 1)) F dX9_layLine_112 (zI_add _ _) ?_
            have j_124 : ∀ (zj124_0 : Int) (H : Heap) (locs : List Loc), (0 ≤ zj124_0 ∧ zj124_0 ≤ 1) → va_P G vwCl [(y, .inr (9, [.int (zI (i 0)), .ref (q 0), .int (zI (i 1)), .int (zI (i 2)), .int (zI (i 3)), .int (zI (i 4)), .int (zI (i 5)), .int (zI (i 6)), .int (zI (i 7)), .int (zI (i 8)), .int (zI (i 9)), .int (zI (i 10)), .ref (q 1), .int (zI (i 11)), .int (zI (i 12)), .ref (q 2), .ref (q 3), .ref (q 4), .ref (q 5), .ref (q 6), .ref (q 7), .ref (q 8), .ref (q 9), .ref (q 10), .ref (q 11), .ref (q 12), .ref (q 13), .ref (q 14), .ref (q 15), .ref (q 16), .int (zI (i 13)), .int (zI (i 14)), .int (zI (i 15)), .int (zI (i 16)), .int (zI (i 17)), .int (zI (i 18)), .ref (q 17), .ref (q 18), .ref (q 19), .ref (q 20)])), ((q 19), .inl (cI, 200, .inl (fun k => zI (g43 k))))] H → va_D A [(y, .inr (9, [.int (zI (i 0)), .ref (q 0), .int (zI (i 1)), .int (zI (i 2)), .int (zI (i 3)), .int (zI (i 4)), .int (zI (i 5)), .int (zI (i 6)), .int (zI (i 7)), .int (zI (i 8)), .int (zI (i 9)), .int (zI (i 10)), .ref (q 1), .int (zI (i 11)), .int (zI (i 12)), .ref (q 2), .ref (q 3), .ref (q 4), .ref (q 5), .ref (q 6), .ref (q 7), .ref (q 8), .ref (q 9), .ref (q 10), .ref (q 11), .ref (q 12), .ref (q 13), .ref (q 14), .ref (q 15), .ref (q 16), .int (zI (i 13)), .int (zI (i 14)), .int (zI (i 15)), .int (zI (i 16)), .int (zI (i 17)), .int (zI (i 18)), .ref (q 17), .ref (q 18), .ref (q 19), .ref (q 20)])), ((q 19), .inl (cI, 200, .inl (fun k => zI (g43 k))))] → va_S A s.heap H locs → ∀ ls : Array Slot, lv_has ls 10 [(9, .int (zI v9)), (8, .int (zI (20 * x))), (7, .int (zI z37)), (6, .int (zI z36)), (5, .int (zI 7)), (0, .ref y), (1, .int (zI x)), (2, .int (zI 2)), (3, .int (zI r)), (4, .int (zI w))] → W p l e rm_X9_layLine s m ([.ref y, .int (zI x), .int (zI 2), .int (zI r), .int (zI w)] : List Value).toArray below meth c H locs 0 0 Q (F0 m 124 ls [.int (zI zj124_0), .int (zI (((20 * x) + 2) + 1)), .ref (q 19)]) := by
              intro zj124_0 H locs hJ124  hP hD hS ls hl
              refine rz_iastG F hK hP hD hS 1 0 rfl rfl (by omega) (by omega) dX9_layLine_124 (w1 := fun g45 => [(y, .inr (9, [.int (zI (i 0)), .ref (q 0), .int (zI (i 1)), .int (zI (i 2)), .int (zI (i 3)), .int (zI (i 4)), .int (zI (i 5)), .int (zI (i 6)), .int (zI (i 7)), .int (zI (i 8)), .int (zI (i 9)), .int (zI (i 10)), .ref (q 1), .int (zI (i 11)), .int (zI (i 12)), .ref (q 2), .ref (q 3), .ref (q 4), .ref (q 5), .ref (q 6), .ref (q 7), .ref (q 8), .ref (q 9), .ref (q 10), .ref (q 11), .ref (q 12), .ref (q 13), .ref (q 14), .ref (q 15), .ref (q 16), .int (zI (i 13)), .int (zI (i 14)), .int (zI (i 15)), .int (zI (i 16)), .int (zI (i 17)), .int (zI (i 18)), .ref (q 17), .ref (q 18), .ref (q 19), .ref (q 20)])), ((q 19), .inl (cI, 200, .inl (fun k => zI (g45 k))))]) (fun _ => rfl) (fun g45 e_g45 H locs hP hD hS => ?_)
              have hlp46 : LpOk g45 := ⟨hlp44.1.set (m := 9) e_g45 3 (by omega) rfl (by omega), LpT.small hlp44.2 e_g45 (by omega)⟩
              refine lv_iload hx hb dX9_layLine_125 (lv_at hl 2 rfl) ?_
              refine rz_if_ne (tgt := 131) F (by omega) dX9_layLine_127 (by decide) (fun h127_46 => ?_) (fun h127_46 => ?_)
              · refine lv_aload_n hx hb dX9_layLine_131 rfl (lv_at hl 5 rfl) ?_
                refine r_get F hK hP 0 38 rfl rfl in_X9 (by decide) k_1201 rfl dX9_layLine_132 ?_
                refine lv_iload hx hb dX9_layLine_135 (lv_at hl 1 rfl) ?_
                refine lv_bipush (v := zI 14) hx hb dX9_layLine_137 (by decide) ?_
                refine r_iadd (v := zI ((20 * x) + 14)) F dX9_layLine_139 (zI_add _ _) ?_
                have j_151 : ∀ (zj151_0 : Int) (H : Heap) (locs : List Loc), (0 ≤ zj151_0 ∧ zj151_0 ≤ 2) → va_P G vwCl [(y, .inr (9, [.int (zI (i 0)), .ref (q 0), .int (zI (i 1)), .int (zI (i 2)), .int (zI (i 3)), .int (zI (i 4)), .int (zI (i 5)), .int (zI (i 6)), .int (zI (i 7)), .int (zI (i 8)), .int (zI (i 9)), .int (zI (i 10)), .ref (q 1), .int (zI (i 11)), .int (zI (i 12)), .ref (q 2), .ref (q 3), .ref (q 4), .ref (q 5), .ref (q 6), .ref (q 7), .ref (q 8), .ref (q 9), .ref (q 10), .ref (q 11), .ref (q 12), .ref (q 13), .ref (q 14), .ref (q 15), .ref (q 16), .int (zI (i 13)), .int (zI (i 14)), .int (zI (i 15)), .int (zI (i 16)), .int (zI (i 17)), .int (zI (i 18)), .ref (q 17), .ref (q 18), .ref (q 19), .ref (q 20)])), ((q 19), .inl (cI, 200, .inl (fun k => zI (g45 k))))] H → va_D A [(y, .inr (9, [.int (zI (i 0)), .ref (q 0), .int (zI (i 1)), .int (zI (i 2)), .int (zI (i 3)), .int (zI (i 4)), .int (zI (i 5)), .int (zI (i 6)), .int (zI (i 7)), .int (zI (i 8)), .int (zI (i 9)), .int (zI (i 10)), .ref (q 1), .int (zI (i 11)), .int (zI (i 12)), .ref (q 2), .ref (q 3), .ref (q 4), .ref (q 5), .ref (q 6), .ref (q 7), .ref (q 8), .ref (q 9), .ref (q 10), .ref (q 11), .ref (q 12), .ref (q 13), .ref (q 14), .ref (q 15), .ref (q 16), .int (zI (i 13)), .int (zI (i 14)), .int (zI (i 15)), .int (zI (i 16)), .int (zI (i 17)), .int (zI (i 18)), .ref (q 17), .ref (q 18), .ref (q 19), .ref (q 20)])), ((q 19), .inl (cI, 200, .inl (fun k => zI (g45 k))))] → va_S A s.heap H locs → ∀ ls : Array Slot, lv_has ls 10 [(9, .int (zI v9)), (8, .int (zI (20 * x))), (7, .int (zI z37)), (6, .int (zI z36)), (5, .int (zI 7)), (0, .ref y), (1, .int (zI x)), (2, .int (zI 2)), (3, .int (zI r)), (4, .int (zI w))] → W p l e rm_X9_layLine s m ([.ref y, .int (zI x), .int (zI 2), .int (zI r), .int (zI w)] : List Value).toArray below meth c H locs 0 0 Q (F0 m 151 ls [.int (zI zj151_0), .int (zI ((20 * x) + 14)), .ref (q 19)]) := by
                  intro zj151_0 H locs hJ151  hP hD hS ls hl
                  refine rz_iastG F hK hP hD hS 1 0 rfl rfl (by omega) (by omega) dX9_layLine_151 (w1 := fun g48 => [(y, .inr (9, [.int (zI (i 0)), .ref (q 0), .int (zI (i 1)), .int (zI (i 2)), .int (zI (i 3)), .int (zI (i 4)), .int (zI (i 5)), .int (zI (i 6)), .int (zI (i 7)), .int (zI (i 8)), .int (zI (i 9)), .int (zI (i 10)), .ref (q 1), .int (zI (i 11)), .int (zI (i 12)), .ref (q 2), .ref (q 3), .ref (q 4), .ref (q 5), .ref (q 6), .ref (q 7), .ref (q 8), .ref (q 9), .ref (q 10), .ref (q 11), .ref (q 12), .ref (q 13), .ref (q 14), .ref (q 15), .ref (q 16), .int (zI (i 13)), .int (zI (i 14)), .int (zI (i 15)), .int (zI (i 16)), .int (zI (i 17)), .int (zI (i 18)), .ref (q 17), .ref (q 18), .ref (q 19), .ref (q 20)])), ((q 19), .inl (cI, 200, .inl (fun k => zI (g48 k))))]) (fun _ => rfl) (fun g48 e_g48 H locs hP hD hS => ?_)
                  have hlp49 : LpOk g48 := ⟨hlp46.1.set (m := 2) e_g48 14 (by omega) rfl (by omega), LpT.off hlp46.2 e_g48 (by omega)⟩
                  refine lv_aload_n hx hb dX9_layLine_152 rfl (lv_at hl 5 rfl) ?_
                  refine r_get F hK hP 0 38 rfl rfl in_X9 (by decide) k_1201 rfl dX9_layLine_153 ?_
                  refine lv_iload hx hb dX9_layLine_156 (lv_at hl 1 rfl) ?_
                  refine lv_bipush (v := zI 15) hx hb dX9_layLine_158 (by decide) ?_
                  refine r_iadd (v := zI ((20 * x) + 15)) F dX9_layLine_160 (zI_add _ _) ?_
                  refine lv_iconst (v := zI 1) hx hb dX9_layLine_161 rfl ?_
                  refine rz_iastG F hK hP hD hS 1 0 rfl rfl (by omega) (by omega) dX9_layLine_162 (w1 := fun g50 => [(y, .inr (9, [.int (zI (i 0)), .ref (q 0), .int (zI (i 1)), .int (zI (i 2)), .int (zI (i 3)), .int (zI (i 4)), .int (zI (i 5)), .int (zI (i 6)), .int (zI (i 7)), .int (zI (i 8)), .int (zI (i 9)), .int (zI (i 10)), .ref (q 1), .int (zI (i 11)), .int (zI (i 12)), .ref (q 2), .ref (q 3), .ref (q 4), .ref (q 5), .ref (q 6), .ref (q 7), .ref (q 8), .ref (q 9), .ref (q 10), .ref (q 11), .ref (q 12), .ref (q 13), .ref (q 14), .ref (q 15), .ref (q 16), .int (zI (i 13)), .int (zI (i 14)), .int (zI (i 15)), .int (zI (i 16)), .int (zI (i 17)), .int (zI (i 18)), .ref (q 17), .ref (q 18), .ref (q 19), .ref (q 20)])), ((q 19), .inl (cI, 200, .inl (fun k => zI (g50 k))))]) (fun _ => rfl) (fun g50 e_g50 H locs hP hD hS => ?_)
                  have hlp51 : LpOk g50 := ⟨hlp49.1.set (m := 3) e_g50 15 (by omega) rfl (by omega), LpT.off hlp49.2 e_g50 (by omega)⟩
                  refine lv_aload_n hx hb dX9_layLine_163 rfl (lv_at hl 5 rfl) ?_
                  refine r_get F hK hP 0 38 rfl rfl in_X9 (by decide) k_1201 rfl dX9_layLine_164 ?_
                  refine lv_iload hx hb dX9_layLine_167 (lv_at hl 1 rfl) ?_
                  refine lv_bipush (v := zI 16) hx hb dX9_layLine_169 (by decide) ?_
                  refine r_iadd (v := zI ((20 * x) + 16)) F dX9_layLine_171 (zI_add _ _) ?_
                  have j_193 : ∀ (zj193_0 : Int) (H : Heap) (locs : List Loc), (0 ≤ zj193_0 ∧ zj193_0 ≤ 9) → va_P G vwCl [(y, .inr (9, [.int (zI (i 0)), .ref (q 0), .int (zI (i 1)), .int (zI (i 2)), .int (zI (i 3)), .int (zI (i 4)), .int (zI (i 5)), .int (zI (i 6)), .int (zI (i 7)), .int (zI (i 8)), .int (zI (i 9)), .int (zI (i 10)), .ref (q 1), .int (zI (i 11)), .int (zI (i 12)), .ref (q 2), .ref (q 3), .ref (q 4), .ref (q 5), .ref (q 6), .ref (q 7), .ref (q 8), .ref (q 9), .ref (q 10), .ref (q 11), .ref (q 12), .ref (q 13), .ref (q 14), .ref (q 15), .ref (q 16), .int (zI (i 13)), .int (zI (i 14)), .int (zI (i 15)), .int (zI (i 16)), .int (zI (i 17)), .int (zI (i 18)), .ref (q 17), .ref (q 18), .ref (q 19), .ref (q 20)])), ((q 19), .inl (cI, 200, .inl (fun k => zI (g50 k))))] H → va_D A [(y, .inr (9, [.int (zI (i 0)), .ref (q 0), .int (zI (i 1)), .int (zI (i 2)), .int (zI (i 3)), .int (zI (i 4)), .int (zI (i 5)), .int (zI (i 6)), .int (zI (i 7)), .int (zI (i 8)), .int (zI (i 9)), .int (zI (i 10)), .ref (q 1), .int (zI (i 11)), .int (zI (i 12)), .ref (q 2), .ref (q 3), .ref (q 4), .ref (q 5), .ref (q 6), .ref (q 7), .ref (q 8), .ref (q 9), .ref (q 10), .ref (q 11), .ref (q 12), .ref (q 13), .ref (q 14), .ref (q 15), .ref (q 16), .int (zI (i 13)), .int (zI (i 14)), .int (zI (i 15)), .int (zI (i 16)), .int (zI (i 17)), .int (zI (i 18)), .ref (q 17), .ref (q 18), .ref (q 19), .ref (q 20)])), ((q 19), .inl (cI, 200, .inl (fun k => zI (g50 k))))] → va_S A s.heap H locs → ∀ ls : Array Slot, lv_has ls 10 [(9, .int (zI v9)), (8, .int (zI (20 * x))), (7, .int (zI z37)), (6, .int (zI z36)), (5, .int (zI 7)), (0, .ref y), (1, .int (zI x)), (2, .int (zI 2)), (3, .int (zI r)), (4, .int (zI w))] → W p l e rm_X9_layLine s m ([.ref y, .int (zI x), .int (zI 2), .int (zI r), .int (zI w)] : List Value).toArray below meth c H locs 0 0 Q (F0 m 193 ls [.int (zI zj193_0), .int (zI ((20 * x) + 16)), .ref (q 19)]) := by
                    intro zj193_0 H locs hJ193  hP hD hS ls hl
                    refine rz_iastG F hK hP hD hS 1 0 rfl rfl (by omega) (by omega) dX9_layLine_193 (w1 := fun g52 => [(y, .inr (9, [.int (zI (i 0)), .ref (q 0), .int (zI (i 1)), .int (zI (i 2)), .int (zI (i 3)), .int (zI (i 4)), .int (zI (i 5)), .int (zI (i 6)), .int (zI (i 7)), .int (zI (i 8)), .int (zI (i 9)), .int (zI (i 10)), .ref (q 1), .int (zI (i 11)), .int (zI (i 12)), .ref (q 2), .ref (q 3), .ref (q 4), .ref (q 5), .ref (q 6), .ref (q 7), .ref (q 8), .ref (q 9), .ref (q 10), .ref (q 11), .ref (q 12), .ref (q 13), .ref (q 14), .ref (q 15), .ref (q 16), .int (zI (i 13)), .int (zI (i 14)), .int (zI (i 15)), .int (zI (i 16)), .int (zI (i 17)), .int (zI (i 18)), .ref (q 17), .ref (q 18), .ref (q 19), .ref (q 20)])), ((q 19), .inl (cI, 200, .inl (fun k => zI (g52 k))))]) (fun _ => rfl) (fun g52 e_g52 H locs hP hD hS => ?_)
                    have hlp53 : LpOk g52 := ⟨hlp51.1.set (m := 9) e_g52 16 (by omega) rfl (by omega), LpT.off hlp51.2 e_g52 (by omega)⟩
                    refine lv_aload_n hx hb dX9_layLine_194 rfl (lv_at hl 5 rfl) ?_
                    refine r_get F hK hP 0 38 rfl rfl in_X9 (by decide) k_1201 rfl dX9_layLine_195 ?_
                    refine lv_iload hx hb dX9_layLine_198 (lv_at hl 1 rfl) ?_
                    refine lv_bipush (v := zI 18) hx hb dX9_layLine_200 (by decide) ?_
                    refine r_iadd (v := zI ((20 * x) + 18)) F dX9_layLine_202 (zI_add _ _) ?_
                    have j_221 : ∀ (zj221_0 : Int) (H : Heap) (locs : List Loc), (0 ≤ zj221_0 ∧ zj221_0 ≤ 9) → va_P G vwCl [(y, .inr (9, [.int (zI (i 0)), .ref (q 0), .int (zI (i 1)), .int (zI (i 2)), .int (zI (i 3)), .int (zI (i 4)), .int (zI (i 5)), .int (zI (i 6)), .int (zI (i 7)), .int (zI (i 8)), .int (zI (i 9)), .int (zI (i 10)), .ref (q 1), .int (zI (i 11)), .int (zI (i 12)), .ref (q 2), .ref (q 3), .ref (q 4), .ref (q 5), .ref (q 6), .ref (q 7), .ref (q 8), .ref (q 9), .ref (q 10), .ref (q 11), .ref (q 12), .ref (q 13), .ref (q 14), .ref (q 15), .ref (q 16), .int (zI (i 13)), .int (zI (i 14)), .int (zI (i 15)), .int (zI (i 16)), .int (zI (i 17)), .int (zI (i 18)), .ref (q 17), .ref (q 18), .ref (q 19), .ref (q 20)])), ((q 19), .inl (cI, 200, .inl (fun k => zI (g52 k))))] H → va_D A [(y, .inr (9, [.int (zI (i 0)), .ref (q 0), .int (zI (i 1)), .int (zI (i 2)), .int (zI (i 3)), .int (zI (i 4)), .int (zI (i 5)), .int (zI (i 6)), .int (zI (i 7)), .int (zI (i 8)), .int (zI (i 9)), .int (zI (i 10)), .ref (q 1), .int (zI (i 11)), .int (zI (i 12)), .ref (q 2), .ref (q 3), .ref (q 4), .ref (q 5), .ref (q 6), .ref (q 7), .ref (q 8), .ref (q 9), .ref (q 10), .ref (q 11), .ref (q 12), .ref (q 13), .ref (q 14), .ref (q 15), .ref (q 16), .int (zI (i 13)), .int (zI (i 14)), .int (zI (i 15)), .int (zI (i 16)), .int (zI (i 17)), .int (zI (i 18)), .ref (q 17), .ref (q 18), .ref (q 19), .ref (q 20)])), ((q 19), .inl (cI, 200, .inl (fun k => zI (g52 k))))] → va_S A s.heap H locs → ∀ ls : Array Slot, lv_has ls 10 [(9, .int (zI v9)), (8, .int (zI (20 * x))), (7, .int (zI z37)), (6, .int (zI z36)), (5, .int (zI 7)), (0, .ref y), (1, .int (zI x)), (2, .int (zI 2)), (3, .int (zI r)), (4, .int (zI w))] → W p l e rm_X9_layLine s m ([.ref y, .int (zI x), .int (zI 2), .int (zI r), .int (zI w)] : List Value).toArray below meth c H locs 0 0 Q (F0 m 221 ls [.int (zI zj221_0), .int (zI ((20 * x) + 18)), .ref (q 19)]) := by
                      intro zj221_0 H locs hJ221  hP hD hS ls hl
                      refine rz_iastG F hK hP hD hS 1 0 rfl rfl (by omega) (by omega) dX9_layLine_221 (w1 := fun g54 => [(y, .inr (9, [.int (zI (i 0)), .ref (q 0), .int (zI (i 1)), .int (zI (i 2)), .int (zI (i 3)), .int (zI (i 4)), .int (zI (i 5)), .int (zI (i 6)), .int (zI (i 7)), .int (zI (i 8)), .int (zI (i 9)), .int (zI (i 10)), .ref (q 1), .int (zI (i 11)), .int (zI (i 12)), .ref (q 2), .ref (q 3), .ref (q 4), .ref (q 5), .ref (q 6), .ref (q 7), .ref (q 8), .ref (q 9), .ref (q 10), .ref (q 11), .ref (q 12), .ref (q 13), .ref (q 14), .ref (q 15), .ref (q 16), .int (zI (i 13)), .int (zI (i 14)), .int (zI (i 15)), .int (zI (i 16)), .int (zI (i 17)), .int (zI (i 18)), .ref (q 17), .ref (q 18), .ref (q 19), .ref (q 20)])), ((q 19), .inl (cI, 200, .inl (fun k => zI (g54 k))))]) (fun _ => rfl) (fun g54 e_g54 H locs hP hD hS => ?_)
                      have hlp55 : LpOk g54 := ⟨hlp53.1.set (m := 9) e_g54 18 (by omega) rfl (by omega), LpT.off hlp53.2 e_g54 (by omega)⟩
                      refine lv_aload_n hx hb dX9_layLine_222 rfl (lv_at hl 5 rfl) ?_
                      refine r_get F hK hP 0 38 rfl rfl in_X9 (by decide) k_1201 rfl dX9_layLine_223 ?_
                      refine lv_iload hx hb dX9_layLine_226 (lv_at hl 1 rfl) ?_
                      refine lv_bipush (v := zI 17) hx hb dX9_layLine_228 (by decide) ?_
                      refine r_iadd (v := zI ((20 * x) + 17)) F dX9_layLine_230 (zI_add _ _) ?_
                      refine lv_iload hx hb dX9_layLine_231 (lv_at hl 9 rfl) ?_
                      refine rz_iastG F hK hP hD hS 1 0 rfl rfl (by omega) (by omega) dX9_layLine_233 (w1 := fun g56 => [(y, .inr (9, [.int (zI (i 0)), .ref (q 0), .int (zI (i 1)), .int (zI (i 2)), .int (zI (i 3)), .int (zI (i 4)), .int (zI (i 5)), .int (zI (i 6)), .int (zI (i 7)), .int (zI (i 8)), .int (zI (i 9)), .int (zI (i 10)), .ref (q 1), .int (zI (i 11)), .int (zI (i 12)), .ref (q 2), .ref (q 3), .ref (q 4), .ref (q 5), .ref (q 6), .ref (q 7), .ref (q 8), .ref (q 9), .ref (q 10), .ref (q 11), .ref (q 12), .ref (q 13), .ref (q 14), .ref (q 15), .ref (q 16), .int (zI (i 13)), .int (zI (i 14)), .int (zI (i 15)), .int (zI (i 16)), .int (zI (i 17)), .int (zI (i 18)), .ref (q 17), .ref (q 18), .ref (q 19), .ref (q 20)])), ((q 19), .inl (cI, 200, .inl (fun k => zI (g56 k))))]) (fun _ => rfl) (fun g56 e_g56 H locs hP hD hS => ?_)
                      have hlp57 : LpOk g56 := ⟨hlp55.1.set (m := 9) e_g56 17 (by omega) rfl (by omega), LpT.off hlp55.2 e_g56 (by omega)⟩
                      refine lv_aload_n hx hb dX9_layLine_234 rfl (lv_at hl 5 rfl) ?_
                      refine r_get F hK hP 0 38 rfl rfl in_X9 (by decide) k_1201 rfl dX9_layLine_235 ?_
                      refine lv_iload hx hb dX9_layLine_238 (lv_at hl 1 rfl) ?_
                      refine lv_bipush (v := zI 19) hx hb dX9_layLine_240 (by decide) ?_
                      refine r_iadd (v := zI ((20 * x) + 19)) F dX9_layLine_242 (zI_add _ _) ?_
                      refine lv_iload hx hb dX9_layLine_243 (lv_at hl 9 rfl) ?_
                      refine rz_iastG F hK hP hD hS 1 0 rfl rfl (by omega) (by omega) dX9_layLine_245 (w1 := fun g58 => [(y, .inr (9, [.int (zI (i 0)), .ref (q 0), .int (zI (i 1)), .int (zI (i 2)), .int (zI (i 3)), .int (zI (i 4)), .int (zI (i 5)), .int (zI (i 6)), .int (zI (i 7)), .int (zI (i 8)), .int (zI (i 9)), .int (zI (i 10)), .ref (q 1), .int (zI (i 11)), .int (zI (i 12)), .ref (q 2), .ref (q 3), .ref (q 4), .ref (q 5), .ref (q 6), .ref (q 7), .ref (q 8), .ref (q 9), .ref (q 10), .ref (q 11), .ref (q 12), .ref (q 13), .ref (q 14), .ref (q 15), .ref (q 16), .int (zI (i 13)), .int (zI (i 14)), .int (zI (i 15)), .int (zI (i 16)), .int (zI (i 17)), .int (zI (i 18)), .ref (q 17), .ref (q 18), .ref (q 19), .ref (q 20)])), ((q 19), .inl (cI, 200, .inl (fun k => zI (g58 k))))]) (fun _ => rfl) (fun g58 e_g58 H locs hP hD hS => ?_)
                      have hlp59 : LpOk g58 := ⟨hlp57.1.set (m := 9) e_g58 19 (by omega) rfl (by omega), LpT.off hlp57.2 e_g58 (by omega)⟩
                      exact ret (fun k => [((fun _ => 0), fun _ _ => 0), (fun _ => 0, fun _ => g58)].getD k (fun _ => 0, fun _ _ => 0)) _ _ _ _ _ _ hlp59 (bw_subP (isC := [0, 1]) hP rfl) (hD.sub [0, 1] (by decide) rfl) hS (Nat.le_of_ble_eq_true rfl) (Nat.le_of_ble_eq_true rfl) dX9_layLine_246
                    refine lv_iload hx hb dX9_layLine_203 (lv_at hl 2 rfl) ?_
                    refine lv_iload_n hx hb dX9_layLine_205 rfl (lv_at hl 7 rfl) ?_
                    refine rz_icmp_gt (tgt := 213) F (by omega) (by omega) dX9_layLine_206 (by decide) (fun h206_59 => ?_) (fun h206_59 => ?_)
                    · refine lv_iload hx hb dX9_layLine_213 (lv_at hl 2 rfl) ?_
                      refine lv_iconst (v := zI 1) hx hb dX9_layLine_215 rfl ?_
                      refine r_isub (v := zI (z37 - 1)) F dX9_layLine_216 (zI_sub _ _) ?_
                      refine lv_iload_n hx hb dX9_layLine_217 rfl (lv_at hl 7 rfl) ?_
                      refine r_isub (v := zI ((z37 - 1) - 2)) F dX9_layLine_218 (zI_sub _ _) ?_
                      refine lv_iload_n hx hb dX9_layLine_219 rfl (lv_at hl 7 rfl) ?_
                      refine rz_irem F (by omega) (by omega) dX9_layLine_220 (fun z61 h_z61 => ?_)
                      exact j_221 z61 _ _ (by omega) hP hD hS ls (lv_sub hl [0, 1, 2, 3, 4, 5, 6, 7, 8, 9] rfl)
                    · refine lv_iconst (v := zI 0) hx hb dX9_layLine_209 rfl ?_
                      refine lv_goto (tgt := 221) hx hb dX9_layLine_210 (by decide) ?_
                      exact j_221 0 _ _ (by omega) hP hD hS ls (lv_sub hl [0, 1, 2, 3, 4, 5, 6, 7, 8, 9] rfl)
                  refine lv_iload hx hb dX9_layLine_172 (lv_at hl 2 rfl) ?_
                  refine lv_iload_n hx hb dX9_layLine_174 rfl (lv_at hl 7 rfl) ?_
                  refine rz_icmp_gt (tgt := 185) F (by omega) (by omega) dX9_layLine_175 (by decide) (fun h175_61 => ?_) (fun h175_61 => ?_)
                  · refine lv_iload hx hb dX9_layLine_185 (lv_at hl 2 rfl) ?_
                    refine lv_iconst (v := zI 1) hx hb dX9_layLine_187 rfl ?_
                    refine r_isub (v := zI (z37 - 1)) F dX9_layLine_188 (zI_sub _ _) ?_
                    refine lv_iload_n hx hb dX9_layLine_189 rfl (lv_at hl 7 rfl) ?_
                    refine r_isub (v := zI ((z37 - 1) - 2)) F dX9_layLine_190 (zI_sub _ _) ?_
                    refine lv_iload_n hx hb dX9_layLine_191 rfl (lv_at hl 7 rfl) ?_
                    refine rz_idiv F (by omega) (by omega) dX9_layLine_192 (fun z63 h_z63 => ?_)
                    exact j_193 z63 _ _ (by omega) hP hD hS ls (lv_sub hl [0, 1, 2, 3, 4, 5, 6, 7, 8, 9] rfl)
                  · refine lv_iload hx hb dX9_layLine_178 (lv_at hl 2 rfl) ?_
                    refine lv_iconst (v := zI 1) hx hb dX9_layLine_180 rfl ?_
                    refine r_isub (v := zI (z37 - 1)) F dX9_layLine_181 (zI_sub _ _) ?_
                    refine lv_goto (tgt := 193) hx hb dX9_layLine_182 (by decide) ?_
                    exact j_193 (z37 - 1) _ _ (by omega) hP hD hS ls (lv_sub hl [0, 1, 2, 3, 4, 5, 6, 7, 8, 9] rfl)
                refine lv_iload hx hb dX9_layLine_140 (lv_at hl 2 rfl) ?_
                refine lv_iload_n hx hb dX9_layLine_142 rfl (lv_at hl 7 rfl) ?_
                refine rz_icmp_gt (tgt := 150) F (by omega) (by omega) dX9_layLine_143 (by decide) (fun h143_63 => ?_) (fun h143_63 => ?_)
                · refine lv_iconst (v := zI 2) hx hb dX9_layLine_150 rfl ?_
                  exact j_151 2 _ _ (by omega) hP hD hS ls (lv_sub hl [0, 1, 2, 3, 4, 5, 6, 7, 8, 9] rfl)
                · refine lv_iconst (v := zI 1) hx hb dX9_layLine_146 rfl ?_
                  refine lv_goto (tgt := 151) hx hb dX9_layLine_147 (by decide) ?_
                  exact j_151 1 _ _ (by omega) hP hD hS ls (lv_sub hl [0, 1, 2, 3, 4, 5, 6, 7, 8, 9] rfl)
              · exact ret (fun k => [((fun _ => 0), fun _ _ => 0), (fun _ => 0, fun _ => g45)].getD k (fun _ => 0, fun _ _ => 0)) _ _ _ _ _ _ hlp46 (bw_subP (isC := [0, 1]) hP rfl) (hD.sub [0, 1] (by decide) rfl) hS (Nat.le_of_ble_eq_true rfl) (Nat.le_of_ble_eq_true rfl) dX9_layLine_130
            refine lv_iload hx hb dX9_layLine_113 (lv_at hl 3 rfl) ?_
            refine lv_iconst (v := zI 3) hx hb dX9_layLine_115 rfl ?_
            refine rz_icmp_ne (tgt := 123) F (by omega) (by omega) dX9_layLine_116 (by decide) (fun h116_64 => ?_) (fun h116_64 => ?_)
            · refine lv_iconst (v := zI 0) hx hb dX9_layLine_123 rfl ?_
              exact j_124 0 _ _ (by omega) hP hD hS ls (lv_sub hl [0, 1, 2, 3, 4, 5, 6, 7, 8, 9] rfl)
            · refine lv_iconst (v := zI 1) hx hb dX9_layLine_119 rfl ?_
              refine lv_goto (tgt := 124) hx hb dX9_layLine_120 (by decide) ?_
              exact j_124 1 _ _ (by omega) hP hD hS ls (lv_sub hl [0, 1, 2, 3, 4, 5, 6, 7, 8, 9] rfl)
          refine lv_iload hx hb dX9_layLine_91 (lv_at hl 3 rfl) ?_
          refine lv_iconst (v := zI 2) hx hb dX9_layLine_93 rfl ?_
          refine rz_icmp_ge (tgt := 101) F (by omega) (by omega) dX9_layLine_94 (by decide) (fun h94_65 => ?_) (fun h94_65 => ?_)
          · refine lv_iconst (v := zI 1) hx hb dX9_layLine_101 rfl ?_
            exact j_102 1 _ _ (by omega) hP hD hS ls (lv_sub hl [0, 1, 2, 3, 4, 5, 6, 7, 8, 9] rfl)
          · refine lv_iconst (v := zI 0) hx hb dX9_layLine_97 rfl ?_
            refine lv_goto (tgt := 102) hx hb dX9_layLine_98 (by decide) ?_
            exact j_102 0 _ _ (by omega) hP hD hS ls (lv_sub hl [0, 1, 2, 3, 4, 5, 6, 7, 8, 9] rfl)
        refine lv_iload hx hb dX9_layLine_72 (lv_at hl 3 rfl) ?_
        refine rz_if_ne (tgt := 81) F (by omega) dX9_layLine_74 (by decide) (fun h74_66 => ?_) (fun h74_66 => ?_)
        · refine lv_iconst (v := zI 1) hx hb dX9_layLine_81 rfl ?_
          exact j_82 1 _ _ (by omega) hP hD hS ls (lv_sub hl [0, 1, 2, 3, 4, 5, 6, 7, 8, 9] rfl)
        · refine lv_iconst (v := zI 0) hx hb dX9_layLine_77 rfl ?_
          refine lv_goto (tgt := 82) hx hb dX9_layLine_78 (by decide) ?_
          exact j_82 0 _ _ (by omega) hP hD hS ls (lv_sub hl [0, 1, 2, 3, 4, 5, 6, 7, 8, 9] rfl)
      · refine lv_aload_n hx hb dX9_layLine_37 rfl (lv_at hl 5 rfl) ?_
        refine r_get F hK hP 0 38 rfl rfl in_X9 (by decide) k_1201 rfl dX9_layLine_38 ?_
        refine lv_iload hx hb dX9_layLine_41 (lv_at hl 1 rfl) ?_
        refine lv_iload hx hb dX9_layLine_43 (lv_at hl 0 rfl) ?_
        refine r_iadd (v := zI ((20 * x) + v9)) F dX9_layLine_45 (zI_add _ _) ?_
        refine lv_iconst (v := zI 0) hx hb dX9_layLine_46 rfl ?_
        refine rz_iastG F hK hP hD hS 1 0 rfl rfl (by omega) (by omega) dX9_layLine_47 (w1 := fun g68 => [(y, .inr (9, [.int (zI (i 0)), .ref (q 0), .int (zI (i 1)), .int (zI (i 2)), .int (zI (i 3)), .int (zI (i 4)), .int (zI (i 5)), .int (zI (i 6)), .int (zI (i 7)), .int (zI (i 8)), .int (zI (i 9)), .int (zI (i 10)), .ref (q 1), .int (zI (i 11)), .int (zI (i 12)), .ref (q 2), .ref (q 3), .ref (q 4), .ref (q 5), .ref (q 6), .ref (q 7), .ref (q 8), .ref (q 9), .ref (q 10), .ref (q 11), .ref (q 12), .ref (q 13), .ref (q 14), .ref (q 15), .ref (q 16), .int (zI (i 13)), .int (zI (i 14)), .int (zI (i 15)), .int (zI (i 16)), .int (zI (i 17)), .int (zI (i 18)), .ref (q 17), .ref (q 18), .ref (q 19), .ref (q 20)])), ((q 19), .inl (cI, 200, .inl (fun k => zI (g68 k))))]) (fun _ => rfl) (fun g68 e_g68 H locs hP hD hS => ?_)
        have hlp69 : LpOk g68 := ⟨ProgR.zero hlp9.1 e_g68, LpT.small hlp9.2 e_g68 (by omega)⟩
        refine lv_iinc (v := zI (v9 + 1)) (lv' := [(9, .int (zI (v9 + 1))), (8, .int (zI (20 * x))), (7, .int (zI z37)), (6, .int (zI z36)), (5, .int (zI 7)), (0, .ref y), (1, .int (zI x)), (2, .int (zI 2)), (3, .int (zI r)), (4, .int (zI w))]) hx hb dX9_layLine_48 hl (k := 0) rfl (zI_add _ _) (by decide) rfl (fun ls hl => ?_)
        refine lv_goto (tgt := 30) hx hb dX9_layLine_51 (by decide) ?_
        exact ih1 (v9 + 1) g68 _ _ (by omega) (by omega) hlp69 hP hD hS ls (lv_sub hl [0, 1, 2, 3, 4, 5, 6, 7, 8, 9] rfl)
  · refine lv_iconst (v := zI 1) hx hb dX9_layLine_0 rfl ?_
    refine lv_iload_n hx hb dX9_layLine_1 rfl (lv_at hl 2 rfl) ?_
    refine r_iadd (v := zI 4) F dX9_layLine_2 (by decide) ?_
    refine lv_iload_n hx hb dX9_layLine_3 rfl (lv_at hl 2 rfl) ?_
    refine lv_iload_n hx hb dX9_layLine_4 rfl (lv_at hl 2 rfl) ?_
    refine r_imul (v := zI 9) F dX9_layLine_5 (by decide) ?_
    refine r_iadd (v := zI 13) F dX9_layLine_6 (by decide) ?_
    refine lv_istore (lv' := [(5, .int (zI 13)), (0, .ref y), (1, .int (zI x)), (2, .int (zI 3)), (3, .int (zI r)), (4, .int (zI w))]) hx hb dX9_layLine_7 hl (by decide) rfl (fun ls hl => ?_)
    refine lv_iload_n hx hb dX9_layLine_9 rfl (lv_at hl 4 rfl) ?_
    refine lv_iload hx hb dX9_layLine_10 (lv_at hl 0 rfl) ?_
    refine rz_idiv F (by omega) (by omega) dX9_layLine_12 (fun z70 h_z70 => ?_)
    refine lv_istore (lv' := [(6, .int (zI z70)), (5, .int (zI 13)), (0, .ref y), (1, .int (zI x)), (2, .int (zI 3)), (3, .int (zI r)), (4, .int (zI w))]) hx hb dX9_layLine_13 hl (by decide) rfl (fun ls hl => ?_)
    refine lv_iload_n hx hb dX9_layLine_15 rfl (lv_at hl 5 rfl) ?_
    refine lv_iload hx hb dX9_layLine_16 (lv_at hl 1 rfl) ?_
    refine rz_irem F (by omega) (by omega) dX9_layLine_18 (fun z71 h_z71 => ?_)
    refine lv_istore (lv' := [(7, .int (zI z71)), (6, .int (zI z70)), (5, .int (zI 13)), (0, .ref y), (1, .int (zI x)), (2, .int (zI 3)), (3, .int (zI r)), (4, .int (zI w))]) hx hb dX9_layLine_19 hl (by decide) rfl (fun ls hl => ?_)
    refine lv_bipush (v := zI 20) hx hb dX9_layLine_21 (by decide) ?_
    refine lv_iload_n hx hb dX9_layLine_23 rfl (lv_at hl 4 rfl) ?_
    refine r_imul (v := zI (20 * x)) F dX9_layLine_24 (zI_mul _ _) ?_
    refine lv_istore (lv' := [(8, .int (zI (20 * x))), (7, .int (zI z71)), (6, .int (zI z70)), (5, .int (zI 13)), (0, .ref y), (1, .int (zI x)), (2, .int (zI 3)), (3, .int (zI r)), (4, .int (zI w))]) hx hb dX9_layLine_25 hl (by decide) rfl (fun ls hl => ?_)
    refine lv_iconst (v := zI 0) hx hb dX9_layLine_27 rfl ?_
    refine lv_istore (lv' := [(9, .int (zI 0)), (8, .int (zI (20 * x))), (7, .int (zI z71)), (6, .int (zI z70)), (5, .int (zI 13)), (0, .ref y), (1, .int (zI x)), (2, .int (zI 3)), (3, .int (zI r)), (4, .int (zI w))]) hx hb dX9_layLine_28 hl (by decide) rfl (fun ls hl => ?_)
    refine W.widen (k := 0) (n := 0) (Nat.le_of_ble_eq_true rfl) (Nat.le_of_ble_eq_true rfl) ?_
    refine (?_ : ∀ (n9_1 : Nat) (v9 : Int) (gl9 : Nat → Int) (H : Heap) (locs : List Loc), (0 ≤ v9 ∧ v9 ≤ 20) → (20 - v9 : Int).toNat < n9_1 → (LpOk gl9) → va_P G vwCl [(y, .inr (9, [.int (zI (i 0)), .ref (q 0), .int (zI (i 1)), .int (zI (i 2)), .int (zI (i 3)), .int (zI (i 4)), .int (zI (i 5)), .int (zI (i 6)), .int (zI (i 7)), .int (zI (i 8)), .int (zI (i 9)), .int (zI (i 10)), .ref (q 1), .int (zI (i 11)), .int (zI (i 12)), .ref (q 2), .ref (q 3), .ref (q 4), .ref (q 5), .ref (q 6), .ref (q 7), .ref (q 8), .ref (q 9), .ref (q 10), .ref (q 11), .ref (q 12), .ref (q 13), .ref (q 14), .ref (q 15), .ref (q 16), .int (zI (i 13)), .int (zI (i 14)), .int (zI (i 15)), .int (zI (i 16)), .int (zI (i 17)), .int (zI (i 18)), .ref (q 17), .ref (q 18), .ref (q 19), .ref (q 20)])), ((q 19), .inl (cI, 200, .inl (fun k => zI (gl9 k))))] H → va_D A [(y, .inr (9, [.int (zI (i 0)), .ref (q 0), .int (zI (i 1)), .int (zI (i 2)), .int (zI (i 3)), .int (zI (i 4)), .int (zI (i 5)), .int (zI (i 6)), .int (zI (i 7)), .int (zI (i 8)), .int (zI (i 9)), .int (zI (i 10)), .ref (q 1), .int (zI (i 11)), .int (zI (i 12)), .ref (q 2), .ref (q 3), .ref (q 4), .ref (q 5), .ref (q 6), .ref (q 7), .ref (q 8), .ref (q 9), .ref (q 10), .ref (q 11), .ref (q 12), .ref (q 13), .ref (q 14), .ref (q 15), .ref (q 16), .int (zI (i 13)), .int (zI (i 14)), .int (zI (i 15)), .int (zI (i 16)), .int (zI (i 17)), .int (zI (i 18)), .ref (q 17), .ref (q 18), .ref (q 19), .ref (q 20)])), ((q 19), .inl (cI, 200, .inl (fun k => zI (gl9 k))))] → va_S A s.heap H locs → ∀ ls : Array Slot, lv_has ls 10 [(9, .int (zI v9)), (8, .int (zI (20 * x))), (7, .int (zI z71)), (6, .int (zI z70)), (5, .int (zI 13)), (0, .ref y), (1, .int (zI x)), (2, .int (zI 3)), (3, .int (zI r)), (4, .int (zI w))] → W p l e rm_X9_layLine s m ([.ref y, .int (zI x), .int (zI 3), .int (zI r), .int (zI w)] : List Value).toArray below meth c H locs 0 0 Q (F0 m 30 ls [])) ((20 - 0 : Int).toNat + 1) 0 g_least _ _ (by omega) (by omega) hlq hP hD hS ls hl
    clear hP hD hS hl ls
    intro n9_1
    induction n9_1 with
    | zero =>
      intro v9 gl9 H locs hI hM
      exact absurd hM (by omega)
    | succ n9_1 ih1 =>
      intro v9 gl9 H locs hI1 hM1 hlp9 hP hD hS ls hl
      refine lv_iload hx hb dX9_layLine_30 (lv_at hl 0 rfl) ?_
      refine lv_bipush (v := zI 20) hx hb dX9_layLine_32 (by decide) ?_
      refine rz_icmp_ge (tgt := 54) F (by omega) (by omega) dX9_layLine_34 (by decide) (fun h34_71 => ?_) (fun h34_71 => ?_)
      · refine lv_aload_n hx hb dX9_layLine_54 rfl (lv_at hl 5 rfl) ?_
        refine r_get F hK hP 0 38 rfl rfl in_X9 (by decide) k_1201 rfl dX9_layLine_55 ?_
        refine lv_iload hx hb dX9_layLine_58 (lv_at hl 1 rfl) ?_
        refine lv_iconst (v := zI 0) hx hb dX9_layLine_60 rfl ?_
        refine r_iadd (v := zI ((20 * x) + 0)) F dX9_layLine_61 (zI_add _ _) ?_
        refine lv_iconst (v := zI 1) hx hb dX9_layLine_62 rfl ?_
        refine rz_iastG F hK hP hD hS 1 0 rfl rfl (by omega) (by omega) dX9_layLine_63 (w1 := fun g73 => [(y, .inr (9, [.int (zI (i 0)), .ref (q 0), .int (zI (i 1)), .int (zI (i 2)), .int (zI (i 3)), .int (zI (i 4)), .int (zI (i 5)), .int (zI (i 6)), .int (zI (i 7)), .int (zI (i 8)), .int (zI (i 9)), .int (zI (i 10)), .ref (q 1), .int (zI (i 11)), .int (zI (i 12)), .ref (q 2), .ref (q 3), .ref (q 4), .ref (q 5), .ref (q 6), .ref (q 7), .ref (q 8), .ref (q 9), .ref (q 10), .ref (q 11), .ref (q 12), .ref (q 13), .ref (q 14), .ref (q 15), .ref (q 16), .int (zI (i 13)), .int (zI (i 14)), .int (zI (i 15)), .int (zI (i 16)), .int (zI (i 17)), .int (zI (i 18)), .ref (q 17), .ref (q 18), .ref (q 19), .ref (q 20)])), ((q 19), .inl (cI, 200, .inl (fun k => zI (g73 k))))]) (fun _ => rfl) (fun g73 e_g73 H locs hP hD hS => ?_)
        have hlp74 : LpOk g73 := ⟨hlp9.1.set (m := 1) e_g73 0 (by omega) rfl (by omega), LpT.small hlp9.2 e_g73 (by omega)⟩
        refine lv_aload_n hx hb dX9_layLine_64 rfl (lv_at hl 5 rfl) ?_
        refine r_get F hK hP 0 38 rfl rfl in_X9 (by decide) k_1201 rfl dX9_layLine_65 ?_
        refine lv_iload hx hb dX9_layLine_68 (lv_at hl 1 rfl) ?_
        refine lv_iconst (v := zI 1) hx hb dX9_layLine_70 rfl ?_
        refine r_iadd (v := zI ((20 * x) + 1)) F dX9_layLine_71 (zI_add _ _) ?_
        have j_82 : ∀ (zj82_0 : Int) (H : Heap) (locs : List Loc), (0 ≤ zj82_0 ∧ zj82_0 ≤ 1) → va_P G vwCl [(y, .inr (9, [.int (zI (i 0)), .ref (q 0), .int (zI (i 1)), .int (zI (i 2)), .int (zI (i 3)), .int (zI (i 4)), .int (zI (i 5)), .int (zI (i 6)), .int (zI (i 7)), .int (zI (i 8)), .int (zI (i 9)), .int (zI (i 10)), .ref (q 1), .int (zI (i 11)), .int (zI (i 12)), .ref (q 2), .ref (q 3), .ref (q 4), .ref (q 5), .ref (q 6), .ref (q 7), .ref (q 8), .ref (q 9), .ref (q 10), .ref (q 11), .ref (q 12), .ref (q 13), .ref (q 14), .ref (q 15), .ref (q 16), .int (zI (i 13)), .int (zI (i 14)), .int (zI (i 15)), .int (zI (i 16)), .int (zI (i 17)), .int (zI (i 18)), .ref (q 17), .ref (q 18), .ref (q 19), .ref (q 20)])), ((q 19), .inl (cI, 200, .inl (fun k => zI (g73 k))))] H → va_D A [(y, .inr (9, [.int (zI (i 0)), .ref (q 0), .int (zI (i 1)), .int (zI (i 2)), .int (zI (i 3)), .int (zI (i 4)), .int (zI (i 5)), .int (zI (i 6)), .int (zI (i 7)), .int (zI (i 8)), .int (zI (i 9)), .int (zI (i 10)), .ref (q 1), .int (zI (i 11)), .int (zI (i 12)), .ref (q 2), .ref (q 3), .ref (q 4), .ref (q 5), .ref (q 6), .ref (q 7), .ref (q 8), .ref (q 9), .ref (q 10), .ref (q 11), .ref (q 12), .ref (q 13), .ref (q 14), .ref (q 15), .ref (q 16), .int (zI (i 13)), .int (zI (i 14)), .int (zI (i 15)), .int (zI (i 16)), .int (zI (i 17)), .int (zI (i 18)), .ref (q 17), .ref (q 18), .ref (q 19), .ref (q 20)])), ((q 19), .inl (cI, 200, .inl (fun k => zI (g73 k))))] → va_S A s.heap H locs → ∀ ls : Array Slot, lv_has ls 10 [(9, .int (zI v9)), (8, .int (zI (20 * x))), (7, .int (zI z71)), (6, .int (zI z70)), (5, .int (zI 13)), (0, .ref y), (1, .int (zI x)), (2, .int (zI 3)), (3, .int (zI r)), (4, .int (zI w))] → W p l e rm_X9_layLine s m ([.ref y, .int (zI x), .int (zI 3), .int (zI r), .int (zI w)] : List Value).toArray below meth c H locs 0 0 Q (F0 m 82 ls [.int (zI zj82_0), .int (zI ((20 * x) + 1)), .ref (q 19)]) := by
          intro zj82_0 H locs hJ82  hP hD hS ls hl
          refine rz_iastG F hK hP hD hS 1 0 rfl rfl (by omega) (by omega) dX9_layLine_82 (w1 := fun g75 => [(y, .inr (9, [.int (zI (i 0)), .ref (q 0), .int (zI (i 1)), .int (zI (i 2)), .int (zI (i 3)), .int (zI (i 4)), .int (zI (i 5)), .int (zI (i 6)), .int (zI (i 7)), .int (zI (i 8)), .int (zI (i 9)), .int (zI (i 10)), .ref (q 1), .int (zI (i 11)), .int (zI (i 12)), .ref (q 2), .ref (q 3), .ref (q 4), .ref (q 5), .ref (q 6), .ref (q 7), .ref (q 8), .ref (q 9), .ref (q 10), .ref (q 11), .ref (q 12), .ref (q 13), .ref (q 14), .ref (q 15), .ref (q 16), .int (zI (i 13)), .int (zI (i 14)), .int (zI (i 15)), .int (zI (i 16)), .int (zI (i 17)), .int (zI (i 18)), .ref (q 17), .ref (q 18), .ref (q 19), .ref (q 20)])), ((q 19), .inl (cI, 200, .inl (fun k => zI (g75 k))))]) (fun _ => rfl) (fun g75 e_g75 H locs hP hD hS => ?_)
          have hlp76 : LpOk g75 := ⟨hlp74.1.set (m := 4) e_g75 1 (by omega) rfl (by omega), LpT.small hlp74.2 e_g75 (by omega)⟩
          refine lv_aload_n hx hb dX9_layLine_83 rfl (lv_at hl 5 rfl) ?_
          refine r_get F hK hP 0 38 rfl rfl in_X9 (by decide) k_1201 rfl dX9_layLine_84 ?_
          refine lv_iload hx hb dX9_layLine_87 (lv_at hl 1 rfl) ?_
          refine lv_iconst (v := zI 2) hx hb dX9_layLine_89 rfl ?_
          refine r_iadd (v := zI ((20 * x) + 2)) F dX9_layLine_90 (zI_add _ _) ?_
          have j_102 : ∀ (zj102_0 : Int) (H : Heap) (locs : List Loc), (0 ≤ zj102_0 ∧ zj102_0 ≤ 1) → va_P G vwCl [(y, .inr (9, [.int (zI (i 0)), .ref (q 0), .int (zI (i 1)), .int (zI (i 2)), .int (zI (i 3)), .int (zI (i 4)), .int (zI (i 5)), .int (zI (i 6)), .int (zI (i 7)), .int (zI (i 8)), .int (zI (i 9)), .int (zI (i 10)), .ref (q 1), .int (zI (i 11)), .int (zI (i 12)), .ref (q 2), .ref (q 3), .ref (q 4), .ref (q 5), .ref (q 6), .ref (q 7), .ref (q 8), .ref (q 9), .ref (q 10), .ref (q 11), .ref (q 12), .ref (q 13), .ref (q 14), .ref (q 15), .ref (q 16), .int (zI (i 13)), .int (zI (i 14)), .int (zI (i 15)), .int (zI (i 16)), .int (zI (i 17)), .int (zI (i 18)), .ref (q 17), .ref (q 18), .ref (q 19), .ref (q 20)])), ((q 19), .inl (cI, 200, .inl (fun k => zI (g75 k))))] H → va_D A [(y, .inr (9, [.int (zI (i 0)), .ref (q 0), .int (zI (i 1)), .int (zI (i 2)), .int (zI (i 3)), .int (zI (i 4)), .int (zI (i 5)), .int (zI (i 6)), .int (zI (i 7)), .int (zI (i 8)), .int (zI (i 9)), .int (zI (i 10)), .ref (q 1), .int (zI (i 11)), .int (zI (i 12)), .ref (q 2), .ref (q 3), .ref (q 4), .ref (q 5), .ref (q 6), .ref (q 7), .ref (q 8), .ref (q 9), .ref (q 10), .ref (q 11), .ref (q 12), .ref (q 13), .ref (q 14), .ref (q 15), .ref (q 16), .int (zI (i 13)), .int (zI (i 14)), .int (zI (i 15)), .int (zI (i 16)), .int (zI (i 17)), .int (zI (i 18)), .ref (q 17), .ref (q 18), .ref (q 19), .ref (q 20)])), ((q 19), .inl (cI, 200, .inl (fun k => zI (g75 k))))] → va_S A s.heap H locs → ∀ ls : Array Slot, lv_has ls 10 [(9, .int (zI v9)), (8, .int (zI (20 * x))), (7, .int (zI z71)), (6, .int (zI z70)), (5, .int (zI 13)), (0, .ref y), (1, .int (zI x)), (2, .int (zI 3)), (3, .int (zI r)), (4, .int (zI w))] → W p l e rm_X9_layLine s m ([.ref y, .int (zI x), .int (zI 3), .int (zI r), .int (zI w)] : List Value).toArray below meth c H locs 0 0 Q (F0 m 102 ls [.int (zI zj102_0), .int (zI ((20 * x) + 2)), .ref (q 19)]) := by
            intro zj102_0 H locs hJ102  hP hD hS ls hl
            refine rz_iastG F hK hP hD hS 1 0 rfl rfl (by omega) (by omega) dX9_layLine_102 (w1 := fun g77 => [(y, .inr (9, [.int (zI (i 0)), .ref (q 0), .int (zI (i 1)), .int (zI (i 2)), .int (zI (i 3)), .int (zI (i 4)), .int (zI (i 5)), .int (zI (i 6)), .int (zI (i 7)), .int (zI (i 8)), .int (zI (i 9)), .int (zI (i 10)), .ref (q 1), .int (zI (i 11)), .int (zI (i 12)), .ref (q 2), .ref (q 3), .ref (q 4), .ref (q 5), .ref (q 6), .ref (q 7), .ref (q 8), .ref (q 9), .ref (q 10), .ref (q 11), .ref (q 12), .ref (q 13), .ref (q 14), .ref (q 15), .ref (q 16), .int (zI (i 13)), .int (zI (i 14)), .int (zI (i 15)), .int (zI (i 16)), .int (zI (i 17)), .int (zI (i 18)), .ref (q 17), .ref (q 18), .ref (q 19), .ref (q 20)])), ((q 19), .inl (cI, 200, .inl (fun k => zI (g77 k))))]) (fun _ => rfl) (fun g77 e_g77 H locs hP hD hS => ?_)
            have hlp78 : LpOk g77 := ⟨hlp76.1.set (m := 3) e_g77 2 (by omega) rfl (by omega), LpT.small hlp76.2 e_g77 (by omega)⟩
            refine lv_aload_n hx hb dX9_layLine_103 rfl (lv_at hl 5 rfl) ?_
            refine r_get F hK hP 0 38 rfl rfl in_X9 (by decide) k_1201 rfl dX9_layLine_104 ?_
            refine lv_iload hx hb dX9_layLine_107 (lv_at hl 1 rfl) ?_
            refine lv_iconst (v := zI 2) hx hb dX9_layLine_109 rfl ?_
            refine r_iadd (v := zI ((20 * x) + 2)) F dX9_layLine_110 (zI_add _ _) ?_
            refine lv_iconst (v := zI 1) hx hb dX9_layLine_111 rfl ?_
            refine r_iadd (v := zI (((20 * x) + 2) + 1)) F dX9_layLine_112 (zI_add _ _) ?_
            have j_124 : ∀ (zj124_0 : Int) (H : Heap) (locs : List Loc), (0 ≤ zj124_0 ∧ zj124_0 ≤ 1) → va_P G vwCl [(y, .inr (9, [.int (zI (i 0)), .ref (q 0), .int (zI (i 1)), .int (zI (i 2)), .int (zI (i 3)), .int (zI (i 4)), .int (zI (i 5)), .int (zI (i 6)), .int (zI (i 7)), .int (zI (i 8)), .int (zI (i 9)), .int (zI (i 10)), .ref (q 1), .int (zI (i 11)), .int (zI (i 12)), .ref (q 2), .ref (q 3), .ref (q 4), .ref (q 5), .ref (q 6), .ref (q 7), .ref (q 8), .ref (q 9), .ref (q 10), .ref (q 11), .ref (q 12), .ref (q 13), .ref (q 14), .ref (q 15), .ref (q 16), .int (zI (i 13)), .int (zI (i 14)), .int (zI (i 15)), .int (zI (i 16)), .int (zI (i 17)), .int (zI (i 18)), .ref (q 17), .ref (q 18), .ref (q 19), .ref (q 20)])), ((q 19), .inl (cI, 200, .inl (fun k => zI (g77 k))))] H → va_D A [(y, .inr (9, [.int (zI (i 0)), .ref (q 0), .int (zI (i 1)), .int (zI (i 2)), .int (zI (i 3)), .int (zI (i 4)), .int (zI (i 5)), .int (zI (i 6)), .int (zI (i 7)), .int (zI (i 8)), .int (zI (i 9)), .int (zI (i 10)), .ref (q 1), .int (zI (i 11)), .int (zI (i 12)), .ref (q 2), .ref (q 3), .ref (q 4), .ref (q 5), .ref (q 6), .ref (q 7), .ref (q 8), .ref (q 9), .ref (q 10), .ref (q 11), .ref (q 12), .ref (q 13), .ref (q 14), .ref (q 15), .ref (q 16), .int (zI (i 13)), .int (zI (i 14)), .int (zI (i 15)), .int (zI (i 16)), .int (zI (i 17)), .int (zI (i 18)), .ref (q 17), .ref (q 18), .ref (q 19), .ref (q 20)])), ((q 19), .inl (cI, 200, .inl (fun k => zI (g77 k))))] → va_S A s.heap H locs → ∀ ls : Array Slot, lv_has ls 10 [(9, .int (zI v9)), (8, .int (zI (20 * x))), (7, .int (zI z71)), (6, .int (zI z70)), (5, .int (zI 13)), (0, .ref y), (1, .int (zI x)), (2, .int (zI 3)), (3, .int (zI r)), (4, .int (zI w))] → W p l e rm_X9_layLine s m ([.ref y, .int (zI x), .int (zI 3), .int (zI r), .int (zI w)] : List Value).toArray below meth c H locs 0 0 Q (F0 m 124 ls [.int (zI zj124_0), .int (zI (((20 * x) + 2) + 1)), .ref (q 19)]) := by
              intro zj124_0 H locs hJ124  hP hD hS ls hl
              refine rz_iastG F hK hP hD hS 1 0 rfl rfl (by omega) (by omega) dX9_layLine_124 (w1 := fun g79 => [(y, .inr (9, [.int (zI (i 0)), .ref (q 0), .int (zI (i 1)), .int (zI (i 2)), .int (zI (i 3)), .int (zI (i 4)), .int (zI (i 5)), .int (zI (i 6)), .int (zI (i 7)), .int (zI (i 8)), .int (zI (i 9)), .int (zI (i 10)), .ref (q 1), .int (zI (i 11)), .int (zI (i 12)), .ref (q 2), .ref (q 3), .ref (q 4), .ref (q 5), .ref (q 6), .ref (q 7), .ref (q 8), .ref (q 9), .ref (q 10), .ref (q 11), .ref (q 12), .ref (q 13), .ref (q 14), .ref (q 15), .ref (q 16), .int (zI (i 13)), .int (zI (i 14)), .int (zI (i 15)), .int (zI (i 16)), .int (zI (i 17)), .int (zI (i 18)), .ref (q 17), .ref (q 18), .ref (q 19), .ref (q 20)])), ((q 19), .inl (cI, 200, .inl (fun k => zI (g79 k))))]) (fun _ => rfl) (fun g79 e_g79 H locs hP hD hS => ?_)
              have hlp80 : LpOk g79 := ⟨hlp78.1.set (m := 9) e_g79 3 (by omega) rfl (by omega), LpT.small hlp78.2 e_g79 (by omega)⟩
              refine lv_iload hx hb dX9_layLine_125 (lv_at hl 2 rfl) ?_
              refine rz_if_ne (tgt := 131) F (by omega) dX9_layLine_127 (by decide) (fun h127_80 => ?_) (fun h127_80 => ?_)
              · refine lv_aload_n hx hb dX9_layLine_131 rfl (lv_at hl 5 rfl) ?_
                refine r_get F hK hP 0 38 rfl rfl in_X9 (by decide) k_1201 rfl dX9_layLine_132 ?_
                refine lv_iload hx hb dX9_layLine_135 (lv_at hl 1 rfl) ?_
                refine lv_bipush (v := zI 14) hx hb dX9_layLine_137 (by decide) ?_
                refine r_iadd (v := zI ((20 * x) + 14)) F dX9_layLine_139 (zI_add _ _) ?_
                have j_151 : ∀ (zj151_0 : Int) (H : Heap) (locs : List Loc), (0 ≤ zj151_0 ∧ zj151_0 ≤ 2) → va_P G vwCl [(y, .inr (9, [.int (zI (i 0)), .ref (q 0), .int (zI (i 1)), .int (zI (i 2)), .int (zI (i 3)), .int (zI (i 4)), .int (zI (i 5)), .int (zI (i 6)), .int (zI (i 7)), .int (zI (i 8)), .int (zI (i 9)), .int (zI (i 10)), .ref (q 1), .int (zI (i 11)), .int (zI (i 12)), .ref (q 2), .ref (q 3), .ref (q 4), .ref (q 5), .ref (q 6), .ref (q 7), .ref (q 8), .ref (q 9), .ref (q 10), .ref (q 11), .ref (q 12), .ref (q 13), .ref (q 14), .ref (q 15), .ref (q 16), .int (zI (i 13)), .int (zI (i 14)), .int (zI (i 15)), .int (zI (i 16)), .int (zI (i 17)), .int (zI (i 18)), .ref (q 17), .ref (q 18), .ref (q 19), .ref (q 20)])), ((q 19), .inl (cI, 200, .inl (fun k => zI (g79 k))))] H → va_D A [(y, .inr (9, [.int (zI (i 0)), .ref (q 0), .int (zI (i 1)), .int (zI (i 2)), .int (zI (i 3)), .int (zI (i 4)), .int (zI (i 5)), .int (zI (i 6)), .int (zI (i 7)), .int (zI (i 8)), .int (zI (i 9)), .int (zI (i 10)), .ref (q 1), .int (zI (i 11)), .int (zI (i 12)), .ref (q 2), .ref (q 3), .ref (q 4), .ref (q 5), .ref (q 6), .ref (q 7), .ref (q 8), .ref (q 9), .ref (q 10), .ref (q 11), .ref (q 12), .ref (q 13), .ref (q 14), .ref (q 15), .ref (q 16), .int (zI (i 13)), .int (zI (i 14)), .int (zI (i 15)), .int (zI (i 16)), .int (zI (i 17)), .int (zI (i 18)), .ref (q 17), .ref (q 18), .ref (q 19), .ref (q 20)])), ((q 19), .inl (cI, 200, .inl (fun k => zI (g79 k))))] → va_S A s.heap H locs → ∀ ls : Array Slot, lv_has ls 10 [(9, .int (zI v9)), (8, .int (zI (20 * x))), (7, .int (zI z71)), (6, .int (zI z70)), (5, .int (zI 13)), (0, .ref y), (1, .int (zI x)), (2, .int (zI 3)), (3, .int (zI r)), (4, .int (zI w))] → W p l e rm_X9_layLine s m ([.ref y, .int (zI x), .int (zI 3), .int (zI r), .int (zI w)] : List Value).toArray below meth c H locs 0 0 Q (F0 m 151 ls [.int (zI zj151_0), .int (zI ((20 * x) + 14)), .ref (q 19)]) := by
                  intro zj151_0 H locs hJ151  hP hD hS ls hl
                  refine rz_iastG F hK hP hD hS 1 0 rfl rfl (by omega) (by omega) dX9_layLine_151 (w1 := fun g82 => [(y, .inr (9, [.int (zI (i 0)), .ref (q 0), .int (zI (i 1)), .int (zI (i 2)), .int (zI (i 3)), .int (zI (i 4)), .int (zI (i 5)), .int (zI (i 6)), .int (zI (i 7)), .int (zI (i 8)), .int (zI (i 9)), .int (zI (i 10)), .ref (q 1), .int (zI (i 11)), .int (zI (i 12)), .ref (q 2), .ref (q 3), .ref (q 4), .ref (q 5), .ref (q 6), .ref (q 7), .ref (q 8), .ref (q 9), .ref (q 10), .ref (q 11), .ref (q 12), .ref (q 13), .ref (q 14), .ref (q 15), .ref (q 16), .int (zI (i 13)), .int (zI (i 14)), .int (zI (i 15)), .int (zI (i 16)), .int (zI (i 17)), .int (zI (i 18)), .ref (q 17), .ref (q 18), .ref (q 19), .ref (q 20)])), ((q 19), .inl (cI, 200, .inl (fun k => zI (g82 k))))]) (fun _ => rfl) (fun g82 e_g82 H locs hP hD hS => ?_)
                  have hlp83 : LpOk g82 := ⟨hlp80.1.set (m := 2) e_g82 14 (by omega) rfl (by omega), LpT.off hlp80.2 e_g82 (by omega)⟩
                  refine lv_aload_n hx hb dX9_layLine_152 rfl (lv_at hl 5 rfl) ?_
                  refine r_get F hK hP 0 38 rfl rfl in_X9 (by decide) k_1201 rfl dX9_layLine_153 ?_
                  refine lv_iload hx hb dX9_layLine_156 (lv_at hl 1 rfl) ?_
                  refine lv_bipush (v := zI 15) hx hb dX9_layLine_158 (by decide) ?_
                  refine r_iadd (v := zI ((20 * x) + 15)) F dX9_layLine_160 (zI_add _ _) ?_
                  refine lv_iconst (v := zI 1) hx hb dX9_layLine_161 rfl ?_
                  refine rz_iastG F hK hP hD hS 1 0 rfl rfl (by omega) (by omega) dX9_layLine_162 (w1 := fun g84 => [(y, .inr (9, [.int (zI (i 0)), .ref (q 0), .int (zI (i 1)), .int (zI (i 2)), .int (zI (i 3)), .int (zI (i 4)), .int (zI (i 5)), .int (zI (i 6)), .int (zI (i 7)), .int (zI (i 8)), .int (zI (i 9)), .int (zI (i 10)), .ref (q 1), .int (zI (i 11)), .int (zI (i 12)), .ref (q 2), .ref (q 3), .ref (q 4), .ref (q 5), .ref (q 6), .ref (q 7), .ref (q 8), .ref (q 9), .ref (q 10), .ref (q 11), .ref (q 12), .ref (q 13), .ref (q 14), .ref (q 15), .ref (q 16), .int (zI (i 13)), .int (zI (i 14)), .int (zI (i 15)), .int (zI (i 16)), .int (zI (i 17)), .int (zI (i 18)), .ref (q 17), .ref (q 18), .ref (q 19), .ref (q 20)])), ((q 19), .inl (cI, 200, .inl (fun k => zI (g84 k))))]) (fun _ => rfl) (fun g84 e_g84 H locs hP hD hS => ?_)
                  have hlp85 : LpOk g84 := ⟨hlp83.1.set (m := 3) e_g84 15 (by omega) rfl (by omega), LpT.off hlp83.2 e_g84 (by omega)⟩
                  refine lv_aload_n hx hb dX9_layLine_163 rfl (lv_at hl 5 rfl) ?_
                  refine r_get F hK hP 0 38 rfl rfl in_X9 (by decide) k_1201 rfl dX9_layLine_164 ?_
                  refine lv_iload hx hb dX9_layLine_167 (lv_at hl 1 rfl) ?_
                  refine lv_bipush (v := zI 16) hx hb dX9_layLine_169 (by decide) ?_
                  refine r_iadd (v := zI ((20 * x) + 16)) F dX9_layLine_171 (zI_add _ _) ?_
                  have j_193 : ∀ (zj193_0 : Int) (H : Heap) (locs : List Loc), (0 ≤ zj193_0 ∧ zj193_0 ≤ 9) → va_P G vwCl [(y, .inr (9, [.int (zI (i 0)), .ref (q 0), .int (zI (i 1)), .int (zI (i 2)), .int (zI (i 3)), .int (zI (i 4)), .int (zI (i 5)), .int (zI (i 6)), .int (zI (i 7)), .int (zI (i 8)), .int (zI (i 9)), .int (zI (i 10)), .ref (q 1), .int (zI (i 11)), .int (zI (i 12)), .ref (q 2), .ref (q 3), .ref (q 4), .ref (q 5), .ref (q 6), .ref (q 7), .ref (q 8), .ref (q 9), .ref (q 10), .ref (q 11), .ref (q 12), .ref (q 13), .ref (q 14), .ref (q 15), .ref (q 16), .int (zI (i 13)), .int (zI (i 14)), .int (zI (i 15)), .int (zI (i 16)), .int (zI (i 17)), .int (zI (i 18)), .ref (q 17), .ref (q 18), .ref (q 19), .ref (q 20)])), ((q 19), .inl (cI, 200, .inl (fun k => zI (g84 k))))] H → va_D A [(y, .inr (9, [.int (zI (i 0)), .ref (q 0), .int (zI (i 1)), .int (zI (i 2)), .int (zI (i 3)), .int (zI (i 4)), .int (zI (i 5)), .int (zI (i 6)), .int (zI (i 7)), .int (zI (i 8)), .int (zI (i 9)), .int (zI (i 10)), .ref (q 1), .int (zI (i 11)), .int (zI (i 12)), .ref (q 2), .ref (q 3), .ref (q 4), .ref (q 5), .ref (q 6), .ref (q 7), .ref (q 8), .ref (q 9), .ref (q 10), .ref (q 11), .ref (q 12), .ref (q 13), .ref (q 14), .ref (q 15), .ref (q 16), .int (zI (i 13)), .int (zI (i 14)), .int (zI (i 15)), .int (zI (i 16)), .int (zI (i 17)), .int (zI (i 18)), .ref (q 17), .ref (q 18), .ref (q 19), .ref (q 20)])), ((q 19), .inl (cI, 200, .inl (fun k => zI (g84 k))))] → va_S A s.heap H locs → ∀ ls : Array Slot, lv_has ls 10 [(9, .int (zI v9)), (8, .int (zI (20 * x))), (7, .int (zI z71)), (6, .int (zI z70)), (5, .int (zI 13)), (0, .ref y), (1, .int (zI x)), (2, .int (zI 3)), (3, .int (zI r)), (4, .int (zI w))] → W p l e rm_X9_layLine s m ([.ref y, .int (zI x), .int (zI 3), .int (zI r), .int (zI w)] : List Value).toArray below meth c H locs 0 0 Q (F0 m 193 ls [.int (zI zj193_0), .int (zI ((20 * x) + 16)), .ref (q 19)]) := by
                    intro zj193_0 H locs hJ193  hP hD hS ls hl
                    refine rz_iastG F hK hP hD hS 1 0 rfl rfl (by omega) (by omega) dX9_layLine_193 (w1 := fun g86 => [(y, .inr (9, [.int (zI (i 0)), .ref (q 0), .int (zI (i 1)), .int (zI (i 2)), .int (zI (i 3)), .int (zI (i 4)), .int (zI (i 5)), .int (zI (i 6)), .int (zI (i 7)), .int (zI (i 8)), .int (zI (i 9)), .int (zI (i 10)), .ref (q 1), .int (zI (i 11)), .int (zI (i 12)), .ref (q 2), .ref (q 3), .ref (q 4), .ref (q 5), .ref (q 6), .ref (q 7), .ref (q 8), .ref (q 9), .ref (q 10), .ref (q 11), .ref (q 12), .ref (q 13), .ref (q 14), .ref (q 15), .ref (q 16), .int (zI (i 13)), .int (zI (i 14)), .int (zI (i 15)), .int (zI (i 16)), .int (zI (i 17)), .int (zI (i 18)), .ref (q 17), .ref (q 18), .ref (q 19), .ref (q 20)])), ((q 19), .inl (cI, 200, .inl (fun k => zI (g86 k))))]) (fun _ => rfl) (fun g86 e_g86 H locs hP hD hS => ?_)
                    have hlp87 : LpOk g86 := ⟨hlp85.1.set (m := 9) e_g86 16 (by omega) rfl (by omega), LpT.off hlp85.2 e_g86 (by omega)⟩
                    refine lv_aload_n hx hb dX9_layLine_194 rfl (lv_at hl 5 rfl) ?_
                    refine r_get F hK hP 0 38 rfl rfl in_X9 (by decide) k_1201 rfl dX9_layLine_195 ?_
                    refine lv_iload hx hb dX9_layLine_198 (lv_at hl 1 rfl) ?_
                    refine lv_bipush (v := zI 18) hx hb dX9_layLine_200 (by decide) ?_
                    refine r_iadd (v := zI ((20 * x) + 18)) F dX9_layLine_202 (zI_add _ _) ?_
                    have j_221 : ∀ (zj221_0 : Int) (H : Heap) (locs : List Loc), (0 ≤ zj221_0 ∧ zj221_0 ≤ 9) → va_P G vwCl [(y, .inr (9, [.int (zI (i 0)), .ref (q 0), .int (zI (i 1)), .int (zI (i 2)), .int (zI (i 3)), .int (zI (i 4)), .int (zI (i 5)), .int (zI (i 6)), .int (zI (i 7)), .int (zI (i 8)), .int (zI (i 9)), .int (zI (i 10)), .ref (q 1), .int (zI (i 11)), .int (zI (i 12)), .ref (q 2), .ref (q 3), .ref (q 4), .ref (q 5), .ref (q 6), .ref (q 7), .ref (q 8), .ref (q 9), .ref (q 10), .ref (q 11), .ref (q 12), .ref (q 13), .ref (q 14), .ref (q 15), .ref (q 16), .int (zI (i 13)), .int (zI (i 14)), .int (zI (i 15)), .int (zI (i 16)), .int (zI (i 17)), .int (zI (i 18)), .ref (q 17), .ref (q 18), .ref (q 19), .ref (q 20)])), ((q 19), .inl (cI, 200, .inl (fun k => zI (g86 k))))] H → va_D A [(y, .inr (9, [.int (zI (i 0)), .ref (q 0), .int (zI (i 1)), .int (zI (i 2)), .int (zI (i 3)), .int (zI (i 4)), .int (zI (i 5)), .int (zI (i 6)), .int (zI (i 7)), .int (zI (i 8)), .int (zI (i 9)), .int (zI (i 10)), .ref (q 1), .int (zI (i 11)), .int (zI (i 12)), .ref (q 2), .ref (q 3), .ref (q 4), .ref (q 5), .ref (q 6), .ref (q 7), .ref (q 8), .ref (q 9), .ref (q 10), .ref (q 11), .ref (q 12), .ref (q 13), .ref (q 14), .ref (q 15), .ref (q 16), .int (zI (i 13)), .int (zI (i 14)), .int (zI (i 15)), .int (zI (i 16)), .int (zI (i 17)), .int (zI (i 18)), .ref (q 17), .ref (q 18), .ref (q 19), .ref (q 20)])), ((q 19), .inl (cI, 200, .inl (fun k => zI (g86 k))))] → va_S A s.heap H locs → ∀ ls : Array Slot, lv_has ls 10 [(9, .int (zI v9)), (8, .int (zI (20 * x))), (7, .int (zI z71)), (6, .int (zI z70)), (5, .int (zI 13)), (0, .ref y), (1, .int (zI x)), (2, .int (zI 3)), (3, .int (zI r)), (4, .int (zI w))] → W p l e rm_X9_layLine s m ([.ref y, .int (zI x), .int (zI 3), .int (zI r), .int (zI w)] : List Value).toArray below meth c H locs 0 0 Q (F0 m 221 ls [.int (zI zj221_0), .int (zI ((20 * x) + 18)), .ref (q 19)]) := by
                      intro zj221_0 H locs hJ221  hP hD hS ls hl
                      refine rz_iastG F hK hP hD hS 1 0 rfl rfl (by omega) (by omega) dX9_layLine_221 (w1 := fun g88 => [(y, .inr (9, [.int (zI (i 0)), .ref (q 0), .int (zI (i 1)), .int (zI (i 2)), .int (zI (i 3)), .int (zI (i 4)), .int (zI (i 5)), .int (zI (i 6)), .int (zI (i 7)), .int (zI (i 8)), .int (zI (i 9)), .int (zI (i 10)), .ref (q 1), .int (zI (i 11)), .int (zI (i 12)), .ref (q 2), .ref (q 3), .ref (q 4), .ref (q 5), .ref (q 6), .ref (q 7), .ref (q 8), .ref (q 9), .ref (q 10), .ref (q 11), .ref (q 12), .ref (q 13), .ref (q 14), .ref (q 15), .ref (q 16), .int (zI (i 13)), .int (zI (i 14)), .int (zI (i 15)), .int (zI (i 16)), .int (zI (i 17)), .int (zI (i 18)), .ref (q 17), .ref (q 18), .ref (q 19), .ref (q 20)])), ((q 19), .inl (cI, 200, .inl (fun k => zI (g88 k))))]) (fun _ => rfl) (fun g88 e_g88 H locs hP hD hS => ?_)
                      have hlp89 : LpOk g88 := ⟨hlp87.1.set (m := 9) e_g88 18 (by omega) rfl (by omega), LpT.off hlp87.2 e_g88 (by omega)⟩
                      refine lv_aload_n hx hb dX9_layLine_222 rfl (lv_at hl 5 rfl) ?_
                      refine r_get F hK hP 0 38 rfl rfl in_X9 (by decide) k_1201 rfl dX9_layLine_223 ?_
                      refine lv_iload hx hb dX9_layLine_226 (lv_at hl 1 rfl) ?_
                      refine lv_bipush (v := zI 17) hx hb dX9_layLine_228 (by decide) ?_
                      refine r_iadd (v := zI ((20 * x) + 17)) F dX9_layLine_230 (zI_add _ _) ?_
                      refine lv_iload hx hb dX9_layLine_231 (lv_at hl 9 rfl) ?_
                      refine rz_iastG F hK hP hD hS 1 0 rfl rfl (by omega) (by omega) dX9_layLine_233 (w1 := fun g90 => [(y, .inr (9, [.int (zI (i 0)), .ref (q 0), .int (zI (i 1)), .int (zI (i 2)), .int (zI (i 3)), .int (zI (i 4)), .int (zI (i 5)), .int (zI (i 6)), .int (zI (i 7)), .int (zI (i 8)), .int (zI (i 9)), .int (zI (i 10)), .ref (q 1), .int (zI (i 11)), .int (zI (i 12)), .ref (q 2), .ref (q 3), .ref (q 4), .ref (q 5), .ref (q 6), .ref (q 7), .ref (q 8), .ref (q 9), .ref (q 10), .ref (q 11), .ref (q 12), .ref (q 13), .ref (q 14), .ref (q 15), .ref (q 16), .int (zI (i 13)), .int (zI (i 14)), .int (zI (i 15)), .int (zI (i 16)), .int (zI (i 17)), .int (zI (i 18)), .ref (q 17), .ref (q 18), .ref (q 19), .ref (q 20)])), ((q 19), .inl (cI, 200, .inl (fun k => zI (g90 k))))]) (fun _ => rfl) (fun g90 e_g90 H locs hP hD hS => ?_)
                      have hlp91 : LpOk g90 := ⟨hlp89.1.set (m := 9) e_g90 17 (by omega) rfl (by omega), LpT.off hlp89.2 e_g90 (by omega)⟩
                      refine lv_aload_n hx hb dX9_layLine_234 rfl (lv_at hl 5 rfl) ?_
                      refine r_get F hK hP 0 38 rfl rfl in_X9 (by decide) k_1201 rfl dX9_layLine_235 ?_
                      refine lv_iload hx hb dX9_layLine_238 (lv_at hl 1 rfl) ?_
                      refine lv_bipush (v := zI 19) hx hb dX9_layLine_240 (by decide) ?_
                      refine r_iadd (v := zI ((20 * x) + 19)) F dX9_layLine_242 (zI_add _ _) ?_
                      refine lv_iload hx hb dX9_layLine_243 (lv_at hl 9 rfl) ?_
                      refine rz_iastG F hK hP hD hS 1 0 rfl rfl (by omega) (by omega) dX9_layLine_245 (w1 := fun g92 => [(y, .inr (9, [.int (zI (i 0)), .ref (q 0), .int (zI (i 1)), .int (zI (i 2)), .int (zI (i 3)), .int (zI (i 4)), .int (zI (i 5)), .int (zI (i 6)), .int (zI (i 7)), .int (zI (i 8)), .int (zI (i 9)), .int (zI (i 10)), .ref (q 1), .int (zI (i 11)), .int (zI (i 12)), .ref (q 2), .ref (q 3), .ref (q 4), .ref (q 5), .ref (q 6), .ref (q 7), .ref (q 8), .ref (q 9), .ref (q 10), .ref (q 11), .ref (q 12), .ref (q 13), .ref (q 14), .ref (q 15), .ref (q 16), .int (zI (i 13)), .int (zI (i 14)), .int (zI (i 15)), .int (zI (i 16)), .int (zI (i 17)), .int (zI (i 18)), .ref (q 17), .ref (q 18), .ref (q 19), .ref (q 20)])), ((q 19), .inl (cI, 200, .inl (fun k => zI (g92 k))))]) (fun _ => rfl) (fun g92 e_g92 H locs hP hD hS => ?_)
                      have hlp93 : LpOk g92 := ⟨hlp91.1.set (m := 9) e_g92 19 (by omega) rfl (by omega), LpT.off hlp91.2 e_g92 (by omega)⟩
                      exact ret (fun k => [((fun _ => 0), fun _ _ => 0), (fun _ => 0, fun _ => g92)].getD k (fun _ => 0, fun _ _ => 0)) _ _ _ _ _ _ hlp93 (bw_subP (isC := [0, 1]) hP rfl) (hD.sub [0, 1] (by decide) rfl) hS (Nat.le_of_ble_eq_true rfl) (Nat.le_of_ble_eq_true rfl) dX9_layLine_246
                    refine lv_iload hx hb dX9_layLine_203 (lv_at hl 2 rfl) ?_
                    refine lv_iload_n hx hb dX9_layLine_205 rfl (lv_at hl 7 rfl) ?_
                    refine rz_icmp_gt (tgt := 213) F (by omega) (by omega) dX9_layLine_206 (by decide) (fun h206_93 => ?_) (fun h206_93 => ?_)
                    · refine lv_iload hx hb dX9_layLine_213 (lv_at hl 2 rfl) ?_
                      refine lv_iconst (v := zI 1) hx hb dX9_layLine_215 rfl ?_
                      refine r_isub (v := zI (z71 - 1)) F dX9_layLine_216 (zI_sub _ _) ?_
                      refine lv_iload_n hx hb dX9_layLine_217 rfl (lv_at hl 7 rfl) ?_
                      refine r_isub (v := zI ((z71 - 1) - 3)) F dX9_layLine_218 (zI_sub _ _) ?_
                      refine lv_iload_n hx hb dX9_layLine_219 rfl (lv_at hl 7 rfl) ?_
                      refine rz_irem F (by omega) (by omega) dX9_layLine_220 (fun z95 h_z95 => ?_)
                      exact j_221 z95 _ _ (by omega) hP hD hS ls (lv_sub hl [0, 1, 2, 3, 4, 5, 6, 7, 8, 9] rfl)
                    · refine lv_iconst (v := zI 0) hx hb dX9_layLine_209 rfl ?_
                      refine lv_goto (tgt := 221) hx hb dX9_layLine_210 (by decide) ?_
                      exact j_221 0 _ _ (by omega) hP hD hS ls (lv_sub hl [0, 1, 2, 3, 4, 5, 6, 7, 8, 9] rfl)
                  refine lv_iload hx hb dX9_layLine_172 (lv_at hl 2 rfl) ?_
                  refine lv_iload_n hx hb dX9_layLine_174 rfl (lv_at hl 7 rfl) ?_
                  refine rz_icmp_gt (tgt := 185) F (by omega) (by omega) dX9_layLine_175 (by decide) (fun h175_95 => ?_) (fun h175_95 => ?_)
                  · refine lv_iload hx hb dX9_layLine_185 (lv_at hl 2 rfl) ?_
                    refine lv_iconst (v := zI 1) hx hb dX9_layLine_187 rfl ?_
                    refine r_isub (v := zI (z71 - 1)) F dX9_layLine_188 (zI_sub _ _) ?_
                    refine lv_iload_n hx hb dX9_layLine_189 rfl (lv_at hl 7 rfl) ?_
                    refine r_isub (v := zI ((z71 - 1) - 3)) F dX9_layLine_190 (zI_sub _ _) ?_
                    refine lv_iload_n hx hb dX9_layLine_191 rfl (lv_at hl 7 rfl) ?_
                    refine rz_idiv F (by omega) (by omega) dX9_layLine_192 (fun z97 h_z97 => ?_)
                    exact j_193 z97 _ _ (by omega) hP hD hS ls (lv_sub hl [0, 1, 2, 3, 4, 5, 6, 7, 8, 9] rfl)
                  · refine lv_iload hx hb dX9_layLine_178 (lv_at hl 2 rfl) ?_
                    refine lv_iconst (v := zI 1) hx hb dX9_layLine_180 rfl ?_
                    refine r_isub (v := zI (z71 - 1)) F dX9_layLine_181 (zI_sub _ _) ?_
                    refine lv_goto (tgt := 193) hx hb dX9_layLine_182 (by decide) ?_
                    exact j_193 (z71 - 1) _ _ (by omega) hP hD hS ls (lv_sub hl [0, 1, 2, 3, 4, 5, 6, 7, 8, 9] rfl)
                refine lv_iload hx hb dX9_layLine_140 (lv_at hl 2 rfl) ?_
                refine lv_iload_n hx hb dX9_layLine_142 rfl (lv_at hl 7 rfl) ?_
                refine rz_icmp_gt (tgt := 150) F (by omega) (by omega) dX9_layLine_143 (by decide) (fun h143_97 => ?_) (fun h143_97 => ?_)
                · refine lv_iconst (v := zI 2) hx hb dX9_layLine_150 rfl ?_
                  exact j_151 2 _ _ (by omega) hP hD hS ls (lv_sub hl [0, 1, 2, 3, 4, 5, 6, 7, 8, 9] rfl)
                · refine lv_iconst (v := zI 1) hx hb dX9_layLine_146 rfl ?_
                  refine lv_goto (tgt := 151) hx hb dX9_layLine_147 (by decide) ?_
                  exact j_151 1 _ _ (by omega) hP hD hS ls (lv_sub hl [0, 1, 2, 3, 4, 5, 6, 7, 8, 9] rfl)
              · exact ret (fun k => [((fun _ => 0), fun _ _ => 0), (fun _ => 0, fun _ => g79)].getD k (fun _ => 0, fun _ _ => 0)) _ _ _ _ _ _ hlp80 (bw_subP (isC := [0, 1]) hP rfl) (hD.sub [0, 1] (by decide) rfl) hS (Nat.le_of_ble_eq_true rfl) (Nat.le_of_ble_eq_true rfl) dX9_layLine_130
            refine lv_iload hx hb dX9_layLine_113 (lv_at hl 3 rfl) ?_
            refine lv_iconst (v := zI 3) hx hb dX9_layLine_115 rfl ?_
            refine rz_icmp_ne (tgt := 123) F (by omega) (by omega) dX9_layLine_116 (by decide) (fun h116_98 => ?_) (fun h116_98 => ?_)
            · refine lv_iconst (v := zI 0) hx hb dX9_layLine_123 rfl ?_
              exact j_124 0 _ _ (by omega) hP hD hS ls (lv_sub hl [0, 1, 2, 3, 4, 5, 6, 7, 8, 9] rfl)
            · refine lv_iconst (v := zI 1) hx hb dX9_layLine_119 rfl ?_
              refine lv_goto (tgt := 124) hx hb dX9_layLine_120 (by decide) ?_
              exact j_124 1 _ _ (by omega) hP hD hS ls (lv_sub hl [0, 1, 2, 3, 4, 5, 6, 7, 8, 9] rfl)
          refine lv_iload hx hb dX9_layLine_91 (lv_at hl 3 rfl) ?_
          refine lv_iconst (v := zI 2) hx hb dX9_layLine_93 rfl ?_
          refine rz_icmp_ge (tgt := 101) F (by omega) (by omega) dX9_layLine_94 (by decide) (fun h94_99 => ?_) (fun h94_99 => ?_)
          · refine lv_iconst (v := zI 1) hx hb dX9_layLine_101 rfl ?_
            exact j_102 1 _ _ (by omega) hP hD hS ls (lv_sub hl [0, 1, 2, 3, 4, 5, 6, 7, 8, 9] rfl)
          · refine lv_iconst (v := zI 0) hx hb dX9_layLine_97 rfl ?_
            refine lv_goto (tgt := 102) hx hb dX9_layLine_98 (by decide) ?_
            exact j_102 0 _ _ (by omega) hP hD hS ls (lv_sub hl [0, 1, 2, 3, 4, 5, 6, 7, 8, 9] rfl)
        refine lv_iload hx hb dX9_layLine_72 (lv_at hl 3 rfl) ?_
        refine rz_if_ne (tgt := 81) F (by omega) dX9_layLine_74 (by decide) (fun h74_100 => ?_) (fun h74_100 => ?_)
        · refine lv_iconst (v := zI 1) hx hb dX9_layLine_81 rfl ?_
          exact j_82 1 _ _ (by omega) hP hD hS ls (lv_sub hl [0, 1, 2, 3, 4, 5, 6, 7, 8, 9] rfl)
        · refine lv_iconst (v := zI 0) hx hb dX9_layLine_77 rfl ?_
          refine lv_goto (tgt := 82) hx hb dX9_layLine_78 (by decide) ?_
          exact j_82 0 _ _ (by omega) hP hD hS ls (lv_sub hl [0, 1, 2, 3, 4, 5, 6, 7, 8, 9] rfl)
      · refine lv_aload_n hx hb dX9_layLine_37 rfl (lv_at hl 5 rfl) ?_
        refine r_get F hK hP 0 38 rfl rfl in_X9 (by decide) k_1201 rfl dX9_layLine_38 ?_
        refine lv_iload hx hb dX9_layLine_41 (lv_at hl 1 rfl) ?_
        refine lv_iload hx hb dX9_layLine_43 (lv_at hl 0 rfl) ?_
        refine r_iadd (v := zI ((20 * x) + v9)) F dX9_layLine_45 (zI_add _ _) ?_
        refine lv_iconst (v := zI 0) hx hb dX9_layLine_46 rfl ?_
        refine rz_iastG F hK hP hD hS 1 0 rfl rfl (by omega) (by omega) dX9_layLine_47 (w1 := fun g102 => [(y, .inr (9, [.int (zI (i 0)), .ref (q 0), .int (zI (i 1)), .int (zI (i 2)), .int (zI (i 3)), .int (zI (i 4)), .int (zI (i 5)), .int (zI (i 6)), .int (zI (i 7)), .int (zI (i 8)), .int (zI (i 9)), .int (zI (i 10)), .ref (q 1), .int (zI (i 11)), .int (zI (i 12)), .ref (q 2), .ref (q 3), .ref (q 4), .ref (q 5), .ref (q 6), .ref (q 7), .ref (q 8), .ref (q 9), .ref (q 10), .ref (q 11), .ref (q 12), .ref (q 13), .ref (q 14), .ref (q 15), .ref (q 16), .int (zI (i 13)), .int (zI (i 14)), .int (zI (i 15)), .int (zI (i 16)), .int (zI (i 17)), .int (zI (i 18)), .ref (q 17), .ref (q 18), .ref (q 19), .ref (q 20)])), ((q 19), .inl (cI, 200, .inl (fun k => zI (g102 k))))]) (fun _ => rfl) (fun g102 e_g102 H locs hP hD hS => ?_)
        have hlp103 : LpOk g102 := ⟨ProgR.zero hlp9.1 e_g102, LpT.small hlp9.2 e_g102 (by omega)⟩
        refine lv_iinc (v := zI (v9 + 1)) (lv' := [(9, .int (zI (v9 + 1))), (8, .int (zI (20 * x))), (7, .int (zI z71)), (6, .int (zI z70)), (5, .int (zI 13)), (0, .ref y), (1, .int (zI x)), (2, .int (zI 3)), (3, .int (zI r)), (4, .int (zI w))]) hx hb dX9_layLine_48 hl (k := 0) rfl (zI_add _ _) (by decide) rfl (fun ls hl => ?_)
        refine lv_goto (tgt := 30) hx hb dX9_layLine_51 (by decide) ?_
        exact ih1 (v9 + 1) g102 _ _ (by omega) (by omega) hlp103 hP hD hS ls (lv_sub hl [0, 1, 2, 3, 4, 5, 6, 7, 8, 9] rfl)
theorem dX9_answersAll_0 : decode cX9_answersAll 0 = .ok (.iconst 1, 1) := bo_4 (by decide +kernel)
theorem dX9_answersAll_1 : decode cX9_answersAll 1 = .ok (.istore_n 1, 1) := bo_60 (by decide +kernel)
theorem dX9_answersAll_2 : decode cX9_answersAll 2 = .ok (.iconst 0, 1) := bo_3 (by decide +kernel)
theorem dX9_answersAll_3 : decode cX9_answersAll 3 = .ok (.istore_n 2, 1) := bo_61 (by decide +kernel)
theorem dX9_answersAll_4 : decode cX9_answersAll 4 = .ok (.iload_n 2, 1) := bo_28 (by decide +kernel)
theorem dX9_answersAll_5 : decode cX9_answersAll 5 = .ok (.aload_n 0, 1) := bo_42 (by decide +kernel)
theorem dX9_answersAll_6 : decode cX9_answersAll 6 = .ok (.getfield 216, 3) := bo_180 0 216 (by decide +kernel)
theorem dX9_answersAll_9 : decode cX9_answersAll 9 = .ok (.if_icmp .ge 23, 3) := bo_162 0 23 (by decide +kernel)
theorem dX9_answersAll_32 : decode cX9_answersAll 32 = .ok (.iload_n 1, 1) := bo_27 (by decide +kernel)
theorem dX9_answersAll_33 : decode cX9_answersAll 33 = .ok (.ireturn, 1) := bo_172 (by decide +kernel)
theorem dX9_answersAll_12 : decode cX9_answersAll 12 = .ok (.iload_n 1, 1) := bo_27 (by decide +kernel)
theorem dX9_answersAll_13 : decode cX9_answersAll 13 = .ok (.ifCond .eq 19, 3) := bo_153 0 19 (by decide +kernel)
theorem dX9_answersAll_16 : decode cX9_answersAll 16 = .ok (.aload_n 0, 1) := bo_42 (by decide +kernel)
theorem dX9_answersAll_17 : decode cX9_answersAll 17 = .ok (.aload_n 0, 1) := bo_42 (by decide +kernel)
theorem dX9_answersAll_18 : decode cX9_answersAll 18 = .ok (.getfield 71, 3) := bo_180 0 71 (by decide +kernel)
theorem dX9_answersAll_21 : decode cX9_answersAll 21 = .ok (.iload_n 2, 1) := bo_28 (by decide +kernel)
theorem dX9_answersAll_22 : decode cX9_answersAll 22 = .ok (.invokevirtual 330, 3) := bo_182 1 74 (by decide +kernel)
theorem dX9_answersAll_25 : decode cX9_answersAll 25 = .ok (.istore_n 1, 1) := bo_60 (by decide +kernel)
theorem dX9_answersAll_26 : decode cX9_answersAll 26 = .ok (.iinc 2 1, 3) := bo_132 2 1 (by decide +kernel)
theorem dX9_answersAll_29 : decode cX9_answersAll 29 = .ok (.goto (-25), 3) := bo_167 255 231 (by decide +kernel)
abbrev rm_X9_answersAll : Room := { frames := 5, cells := 0, slots := 0, locals := 115 }
set_option maxRecDepth 100000 in
set_option maxHeartbeats 8000000 in
theorem c_X9_answersAll {l : Launch} {E : (Nat → Prop) → State → Prop} (hO : bw_Ok E) {G : va_G} {cI cB cJ cN cW : ClassId} (y : Nat) (q : Nat → Nat) (i : Nat → Int) (hM : ModOk i) (g_least : Nat → Int) (g_want : Nat → Int) (hr_want : ∀ k, k < 30 → 0 ≤ g_want k ∧ g_want k ≤ 99) (g_other : Nat → Int) (hlq : LpOk g_least) : bw_Ci (S := zV) l yX9_answersAll (bw_ws (Cond.code yX9_answersAll cX9_answersAll 3 (some .boolean))) rm_X9_answersAll E G (bw_kt cI cB cJ cN cW) [.ref y] [(y, .inr (9, [.int (zI (i 0)), .ref (q 0), .int (zI (i 1)), .int (zI (i 2)), .int (zI (i 3)), .int (zI (i 4)), .int (zI (i 5)), .int (zI (i 6)), .int (zI (i 7)), .int (zI (i 8)), .int (zI (i 9)), .int (zI (i 10)), .ref (q 1), .int (zI (i 11)), .int (zI (i 12)), .ref (q 2), .ref (q 3), .ref (q 4), .ref (q 5), .ref (q 6), .ref (q 7), .ref (q 8), .ref (q 9), .ref (q 10), .ref (q 11), .ref (q 12), .ref (q 13), .ref (q 14), .ref (q 15), .ref (q 16), .int (zI (i 13)), .int (zI (i 14)), .int (zI (i 15)), .int (zI (i 16)), .int (zI (i 17)), .int (zI (i 18)), .ref (q 17), .ref (q 18), .ref (q 19), .ref (q 20)])), ((q 19), .inl (cI, 200, .inl (fun k => zI (g_least k)))), ((q 11), .inl (cI, 30, .inl (fun k => zI (g_want k)))), ((q 14), .inl (cI, 159, .inl (fun k => zI (g_other k))))] (fun r u => ∃ z : Int, r = zI z ∧ (0 ≤ z ∧ z ≤ 1)) (fun u => [(y, .inr (9, [.int (zI (i 0)), .ref (q 0), .int (zI (i 1)), .int (zI (i 2)), .int (zI (i 3)), .int (zI (i 4)), .int (zI (i 5)), .int (zI (i 6)), .int (zI (i 7)), .int (zI (i 8)), .int (zI (i 9)), .int (zI (i 10)), .ref (q 1), .int (zI (i 11)), .int (zI (i 12)), .ref (q 2), .ref (q 3), .ref (q 4), .ref (q 5), .ref (q 6), .ref (q 7), .ref (q 8), .ref (q 9), .ref (q 10), .ref (q 11), .ref (q 12), .ref (q 13), .ref (q 14), .ref (q 15), .ref (q 16), .int (zI (i 13)), .int (zI (i 14)), .int (zI (i 15)), .int (zI (i 16)), .int (zI (i 17)), .int (zI (i 18)), .ref (q 17), .ref (q 18), .ref (q 19), .ref (q 20)])), ((q 19), .inl (cI, 200, .inl (fun k => zI (g_least k)))), ((q 11), .inl (cI, 30, .inl (fun k => zI (g_want k)))), ((q 14), .inl (cI, 159, .inl (fun k => zI (((u 1).2 0) k))))]) := by
  refine bw_Ci.of (cc := cX9_answersAll) (maxL := 3) (ty := .boolean) (by decide) rfl (Nat.le_of_ble_eq_true rfl) ?_
  intro p e s m below meth c A Q hx hb hml hts hown hin hK hA hS hP hD hE ret ls hl
  have F : CallFix p m c cX9_answersAll 3 s ([.ref y] : List Value).toArray bw_T RX9 := ⟨hx, hb, hml, hown, fun w h => hts w (List.mem_cons_of_mem _ h)⟩
  replace hl : lv_has ls 3 [(0, .ref y)] := hl
  have hf1 := hM.1
  refine lv_iconst (v := zI 1) hx hb dX9_answersAll_0 rfl ?_
  refine lv_istore_n (lv' := [(1, .int (zI 1)), (0, .ref y)]) hx hb dX9_answersAll_1 rfl hl (by decide) rfl (fun ls hl => ?_)
  refine lv_iconst (v := zI 0) hx hb dX9_answersAll_2 rfl ?_
  refine lv_istore_n (lv' := [(2, .int (zI 0)), (1, .int (zI 1)), (0, .ref y)]) hx hb dX9_answersAll_3 rfl hl (by decide) rfl (fun ls hl => ?_)
  refine W.widen (k := 0) (n := 0) (Nat.le_of_ble_eq_true rfl) (Nat.le_of_ble_eq_true rfl) ?_
  refine (?_ : ∀ (n9_1 : Nat) (v1 : Int) (v2 : Int) (go9 : Nat → Int) (H : Heap) (locs : List Loc), (0 ≤ v1 ∧ v1 ≤ 1 ∧ 0 ≤ v2 ∧ v2 ≤ 6) → (6 - v2 : Int).toNat < n9_1 → va_P G vwCl [(y, .inr (9, [.int (zI (i 0)), .ref (q 0), .int (zI (i 1)), .int (zI (i 2)), .int (zI (i 3)), .int (zI (i 4)), .int (zI (i 5)), .int (zI (i 6)), .int (zI (i 7)), .int (zI (i 8)), .int (zI (i 9)), .int (zI (i 10)), .ref (q 1), .int (zI (i 11)), .int (zI (i 12)), .ref (q 2), .ref (q 3), .ref (q 4), .ref (q 5), .ref (q 6), .ref (q 7), .ref (q 8), .ref (q 9), .ref (q 10), .ref (q 11), .ref (q 12), .ref (q 13), .ref (q 14), .ref (q 15), .ref (q 16), .int (zI (i 13)), .int (zI (i 14)), .int (zI (i 15)), .int (zI (i 16)), .int (zI (i 17)), .int (zI (i 18)), .ref (q 17), .ref (q 18), .ref (q 19), .ref (q 20)])), ((q 19), .inl (cI, 200, .inl (fun k => zI (g_least k)))), ((q 11), .inl (cI, 30, .inl (fun k => zI (g_want k)))), ((q 14), .inl (cI, 159, .inl (fun k => zI (go9 k))))] H → va_D A [(y, .inr (9, [.int (zI (i 0)), .ref (q 0), .int (zI (i 1)), .int (zI (i 2)), .int (zI (i 3)), .int (zI (i 4)), .int (zI (i 5)), .int (zI (i 6)), .int (zI (i 7)), .int (zI (i 8)), .int (zI (i 9)), .int (zI (i 10)), .ref (q 1), .int (zI (i 11)), .int (zI (i 12)), .ref (q 2), .ref (q 3), .ref (q 4), .ref (q 5), .ref (q 6), .ref (q 7), .ref (q 8), .ref (q 9), .ref (q 10), .ref (q 11), .ref (q 12), .ref (q 13), .ref (q 14), .ref (q 15), .ref (q 16), .int (zI (i 13)), .int (zI (i 14)), .int (zI (i 15)), .int (zI (i 16)), .int (zI (i 17)), .int (zI (i 18)), .ref (q 17), .ref (q 18), .ref (q 19), .ref (q 20)])), ((q 19), .inl (cI, 200, .inl (fun k => zI (g_least k)))), ((q 11), .inl (cI, 30, .inl (fun k => zI (g_want k)))), ((q 14), .inl (cI, 159, .inl (fun k => zI (go9 k))))] → va_S A s.heap H locs → ∀ ls : Array Slot, lv_has ls 3 [(2, .int (zI v2)), (1, .int (zI v1)), (0, .ref y)] → W p l e rm_X9_answersAll s m ([.ref y] : List Value).toArray below meth c H locs 0 0 Q (F0 m 4 ls [])) ((6 - 0 : Int).toNat + 1) 1 0 g_other _ _ (by omega) (by omega) hP hD hS ls hl
  clear hP hD hS hl ls
  intro n9_1
  induction n9_1 with
  | zero =>
    intro v1 v2 go9 H locs hI hM
    exact absurd hM (by omega)
  | succ n9_1 ih1 =>
    intro v1 v2 go9 H locs hI1 hM1  hP hD hS ls hl
    refine lv_iload_n hx hb dX9_answersAll_4 rfl (lv_at hl 0 rfl) ?_
    refine lv_aload_n hx hb dX9_answersAll_5 rfl (lv_at hl 2 rfl) ?_
    refine r_get F hK hP 0 32 rfl rfl in_X9 (by decide) k_1195 rfl dX9_answersAll_6 ?_
    refine rz_icmp_ge (tgt := 32) F (by omega) (by omega) dX9_answersAll_9 (by decide) (fun h9_1 => ?_) (fun h9_1 => ?_)
    · refine lv_iload_n hx hb dX9_answersAll_32 rfl (lv_at hl 1 rfl) ?_
      exact ret (zI v1) (fun k => [((fun _ => 0), fun _ _ => 0), (fun _ => 0, fun _ => go9)].getD k (fun _ => 0, fun _ _ => 0)) _ _ _ _ _ _ (zI_nz (by omega)) ⟨v1, rfl, by omega⟩ (bw_subP (isC := [0, 1, 2, 3]) hP rfl) (hD.sub [0, 1, 2, 3] (by decide) rfl) hS (Nat.le_of_ble_eq_true rfl) (Nat.le_of_ble_eq_true rfl) dX9_answersAll_33
    · refine lv_iload_n hx hb dX9_answersAll_12 rfl (lv_at hl 1 rfl) ?_
      refine rz_if_eq (tgt := 32) F (by omega) dX9_answersAll_13 (by decide) (fun h13_2 => ?_) (fun h13_2 => ?_)
      · refine lv_iload_n hx hb dX9_answersAll_32 rfl (lv_at hl 1 rfl) ?_
        exact ret (zI v1) (fun k => [((fun _ => 0), fun _ _ => 0), (fun _ => 0, fun _ => go9)].getD k (fun _ => 0, fun _ _ => 0)) _ _ _ _ _ _ (zI_nz (by omega)) ⟨v1, rfl, by omega⟩ (bw_subP (isC := [0, 1, 2, 3]) hP rfl) (hD.sub [0, 1, 2, 3] (by decide) rfl) hS (Nat.le_of_ble_eq_true rfl) (Nat.le_of_ble_eq_true rfl) dX9_answersAll_33
      · refine lv_aload_n hx hb dX9_answersAll_16 rfl (lv_at hl 2 rfl) ?_
        refine lv_aload_n hx hb dX9_answersAll_17 rfl (lv_at hl 2 rfl) ?_
        refine r_get F hK hP 0 38 rfl rfl in_X9 (by decide) k_1201 rfl dX9_answersAll_18 ?_
        refine lv_iload_n hx hb dX9_answersAll_21 rfl (lv_at hl 0 rfl) ?_
        refine r_callVi (As := [.ref (q 19), .int (zI v2)]) (rest := []) (wr := []) F hK hP hD hS hA hO hE (c_X9_answers hO y q i hM (q 19) g_least g_want hr_want go9 v2 (by omega) (LpOk.prog hlq) (by omega)) k_1570 kv_X9_answers 2 rfl (by decide +kernel) ⟨Nat.le_of_ble_eq_true rfl, Nat.le_of_ble_eq_true rfl⟩ [0, 1, 2, 3] [] rfl rfl (by decide) (by decide) (by decide) 0 9 rfl rfl rfl hl.1 rfl (Nat.le_of_ble_eq_true rfl) dX9_answersAll_22 ⟨Nat.le_of_ble_eq_true rfl, Nat.le_of_ble_eq_true rfl⟩ (w1 := fun u4 => [(y, .inr (9, [.int (zI (i 0)), .ref (q 0), .int (zI (i 1)), .int (zI (i 2)), .int (zI (i 3)), .int (zI (i 4)), .int (zI (i 5)), .int (zI (i 6)), .int (zI (i 7)), .int (zI (i 8)), .int (zI (i 9)), .int (zI (i 10)), .ref (q 1), .int (zI (i 11)), .int (zI (i 12)), .ref (q 2), .ref (q 3), .ref (q 4), .ref (q 5), .ref (q 6), .ref (q 7), .ref (q 8), .ref (q 9), .ref (q 10), .ref (q 11), .ref (q 12), .ref (q 13), .ref (q 14), .ref (q 15), .ref (q 16), .int (zI (i 13)), .int (zI (i 14)), .int (zI (i 15)), .int (zI (i 16)), .int (zI (i 17)), .int (zI (i 18)), .ref (q 17), .ref (q 18), .ref (q 19), .ref (q 20)])), ((q 19), .inl (cI, 200, .inl (fun k => zI (g_least k)))), ((q 11), .inl (cI, 30, .inl (fun k => zI (g_want k)))), ((q 14), .inl (cI, 159, .inl (fun k => zI (((u4 1).2 0) k))))]) (fun _ => rfl) (fun r5 u4 H locs hp6 hP hD hS => ?_)
        obtain ⟨z7, rfl, h_z7⟩ := hp6
        refine lv_istore_n (lv' := [(1, .int (zI z7)), (2, .int (zI v2)), (0, .ref y)]) hx hb dX9_answersAll_25 rfl hl (by decide) rfl (fun ls hl => ?_)
        refine lv_iinc (v := zI (v2 + 1)) (lv' := [(2, .int (zI (v2 + 1))), (1, .int (zI z7)), (0, .ref y)]) hx hb dX9_answersAll_26 hl (k := 1) rfl (zI_add _ _) (by decide) rfl (fun ls hl => ?_)
        refine lv_goto (tgt := 4) hx hb dX9_answersAll_29 (by decide) ?_
        exact ih1 z7 (v2 + 1) ((u4 1).2 0) _ _ (by omega) (by omega) hP hD hS ls (lv_sub hl [0, 1, 2] rfl)
