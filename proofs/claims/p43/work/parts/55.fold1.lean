def tN (g : Nat → Int) : Int := sumZ (fun l => g (20 * l)) 10
theorem zr_step {g g' G : Nat → Int} {a v : Int} (h0 : 0 ≤ a ∧ 0 ≤ v) (h : ∀ k : Nat, k < 200 → g k = if a ≤ (k : Int) ∧ (k : Int) < a + v then 0 else G k) (e : g' = uZ g (a + v).toNat 0) : ∀ k : Nat, k < 200 → g' k = if a ≤ (k : Int) ∧ (k : Int) < a + (v + 1) then 0 else G k := by
  intro k hk
  by_cases q : k = (a + v).toNat
  · rw [uZ_at e q, if_pos (by omega)]
  · rw [uZ_off e q, h k hk]
    by_cases z : a ≤ (k : Int) ∧ (k : Int) < a + v
    · rw [if_pos z, if_pos (by omega)]
    · rw [if_neg z, if_neg (by omega)]
theorem ProgOk.cleared {g g' : Nat → Int} {w : Int} (h : ProgOk g) (hw : 0 ≤ w ∧ w < 10) (hz : ∀ k : Nat, k < 200 → g' k = if 20 * w ≤ (k : Int) ∧ (k : Int) < 20 * w + 20 then 0 else g k) : ProgOk g' := by
  refine ⟨fun k hk => ?_, fun i n hi hn => ?_⟩
  · rw [hz k hk]
    by_cases q : 20 * w ≤ (k : Int) ∧ (k : Int) < 20 * w + 20
    · rw [if_pos q]
      have p : ∀ o ∈ List.range 20, (0 : Int) ≤ pMax o := by decide
      exact ⟨by omega, p (k % 20) (List.mem_range.mpr (Nat.mod_lt _ (by omega)))⟩
    · rw [if_neg q]; exact h.1 k hk
  · rw [hz _ (by omega), hz _ (by omega)]
    by_cases q : (i : Int) = w
    · rw [if_pos (show 20 * w ≤ ((20 * i + 3 + 3 * n : Nat) : Int) ∧ ((20 * i + 3 + 3 * n : Nat) : Int) < 20 * w + 20 by omega)]; exact Or.inr (by omega)
    · rw [if_neg (by omega), if_neg (by omega)]; exact h.2 i n hi hn
def MT (p q : Nat → Int) (w : Int) : Prop := ∀ l : Nat, l < 10 → q (20 * l) = if (l : Int) = w then 0 else p (20 * l)
theorem MT.of {g g' : Nat → Int} {w : Int} (hz : ∀ k : Nat, k < 200 → g' k = if 20 * w ≤ (k : Int) ∧ (k : Int) < 20 * w + 20 then 0 else g k) : MT g g' w := by
  intro l hl
  rw [hz _ (by omega)]
  by_cases q : (l : Int) = w
  · rw [if_pos q, if_pos (by omega)]
  · rw [if_neg q, if_neg (by omega)]
theorem MT.keep {p q q' : Nat → Int} {w v : Int} {k : Nat} (h : MT p q w) (e : q' = uZ q k v) (hk : k % 20 ≠ 0) : MT p q' w := fun l hl => (uZ_off e (by omega)).trans (h l hl)
theorem MT.keepA {p q q' : Nat → Int} {w v i n : Int} {k : Nat} (h : MT p q w) (e : q' = uZ q k v) (hi : 0 ≤ i ∧ i < 10) (hn : 0 ≤ n ∧ n < 4) (hk : (k : Int) = 20 * i + 2 + 3 * n + 1) : MT p q' w := by
  refine h.keep e ?_
  rcases (show n = 0 ∨ n = 1 ∨ n = 2 ∨ n = 3 by omega) with rfl | rfl | rfl | rfl <;> omega
theorem MT.sum {p q : Nat → Int} {w : Int} (h : MT p q w) (hw : 0 ≤ w ∧ w < 10) (h1 : p (20 * w + 0).toNat = 1) : tN q = tN p - 1 := by
  unfold tN
  rw [sumZ_upd (f := fun l => p (20 * l)) (g := fun l => q (20 * l)) (j := w.toNat) (by omega) (fun k hk hn => by show q (20 * k) = p (20 * k); rw [h k hk, if_neg (by omega)])]
  have a : q (20 * w.toNat) = 0 := by rw [h _ (by omega), if_pos (by omega)]
  have b : p (20 * w.toNat) = 1 := by rw [show 20 * w.toNat = (20 * w + 0).toNat by omega]; exact h1
  rw [a, b]
  omega
theorem tN_congr {p q : Nat → Int} (h : ∀ k : Nat, (k : Int) < 200 → q k = p k) : tN q = tN p := sumZ_congr (fun k hk => h (20 * k) (by omega))
theorem tN_pos {p : Nat → Int} (h : ProgOk p) : 0 ≤ tN p := sumZ_pos (fun k hk => (h.1 (20 * k) (by omega)).1)
theorem ProgOk.tgt3 {g g' : Nat → Int} {k : Nat} {i n v : Int} (h : ProgOk g) (e : g' = uZ g k v) (hi : 0 ≤ i ∧ i < 10) (hn : 0 ≤ n ∧ n < 4) (hk : (k : Int) = 20 * i + 2 + 3 * n + 1) (hv : 0 ≤ v ∧ v ≤ 9) {j : Nat} (hj : (j : Int) = 20 * i + 2 + 3 * n) (h3 : g j = 3) : ProgOk g' := by
  refine ⟨h.1.setA e (j := 1) hi hn (by omega) (by omega) (by omega), fun a b ha hb => ?_⟩
  have q := h.2 a b ha hb
  subst e
  by_cases z : 20 * a + 3 + 3 * b = k
  · left
    rw [uZ_ne (by omega), show 20 * a + 2 + 3 * b = j by omega]; exact h3
  · rw [uZ_ne (j := 20 * a + 3 + 3 * b) z]
    rw [uZ_ne (j := 20 * a + 2 + 3 * b) (by
      rcases (show n = 0 ∨ n = 1 ∨ n = 2 ∨ n = 3 by omega) with rfl | rfl | rfl | rfl <;> rcases (show b = 0 ∨ b = 1 ∨ b = 2 ∨ b = 3 by omega) with rfl | rfl | rfl | rfl <;> omega)]
    exact q
theorem dX9_areAlike_0 : decode cX9_areAlike 0 = .ok (.aload_n 1, 1) := bo_43 (by decide +kernel)
theorem dX9_areAlike_1 : decode cX9_areAlike 1 = .ok (.iload_n 2, 1) := bo_28 (by decide +kernel)
theorem dX9_areAlike_2 : decode cX9_areAlike 2 = .ok (.invokestatic 265, 3) := bo_184 1 9 (by decide +kernel)
theorem dX9_areAlike_5 : decode cX9_areAlike 5 = .ok (.ifCond .eq 11, 3) := bo_153 0 11 (by decide +kernel)
theorem dX9_areAlike_16 : decode cX9_areAlike 16 = .ok (.iconst 0, 1) := bo_3 (by decide +kernel)
theorem dX9_areAlike_17 : decode cX9_areAlike 17 = .ok (.ireturn, 1) := bo_172 (by decide +kernel)
theorem dX9_areAlike_8 : decode cX9_areAlike 8 = .ok (.aload_n 1, 1) := bo_43 (by decide +kernel)
theorem dX9_areAlike_9 : decode cX9_areAlike 9 = .ok (.iload_n 3, 1) := bo_29 (by decide +kernel)
theorem dX9_areAlike_10 : decode cX9_areAlike 10 = .ok (.invokestatic 265, 3) := bo_184 1 9 (by decide +kernel)
theorem dX9_areAlike_13 : decode cX9_areAlike 13 = .ok (.ifCond .ne 5, 3) := bo_154 0 5 (by decide +kernel)
theorem dX9_areAlike_18 : decode cX9_areAlike 18 = .ok (.iconst 1, 1) := bo_4 (by decide +kernel)
theorem dX9_areAlike_19 : decode cX9_areAlike 19 = .ok (.istore 4, 2) := bo_54 (by decide +kernel)
theorem dX9_areAlike_21 : decode cX9_areAlike 21 = .ok (.iconst 1, 1) := bo_4 (by decide +kernel)
theorem dX9_areAlike_22 : decode cX9_areAlike 22 = .ok (.istore 5, 2) := bo_54 (by decide +kernel)
theorem dX9_areAlike_24 : decode cX9_areAlike 24 = .ok (.iload 5, 2) := bo_21 (by decide +kernel)
theorem dX9_areAlike_26 : decode cX9_areAlike 26 = .ok (.bipush 18, 2) := bo_16 18 (by decide +kernel)
theorem dX9_areAlike_28 : decode cX9_areAlike 28 = .ok (.if_icmp .gt 149, 3) := bo_163 0 149 (by decide +kernel)
theorem dX9_areAlike_177 : decode cX9_areAlike 177 = .ok (.iload 4, 2) := bo_21 (by decide +kernel)
theorem dX9_areAlike_179 : decode cX9_areAlike 179 = .ok (.ireturn, 1) := bo_172 (by decide +kernel)
theorem dX9_areAlike_131 : decode cX9_areAlike 131 = .ok (.istore 6, 2) := bo_54 (by decide +kernel)
theorem dX9_areAlike_133 : decode cX9_areAlike 133 = .ok (.iload 4, 2) := bo_21 (by decide +kernel)
theorem dX9_areAlike_135 : decode cX9_areAlike 135 = .ok (.ifCond .eq 33, 3) := bo_153 0 33 (by decide +kernel)
theorem dX9_areAlike_168 : decode cX9_areAlike 168 = .ok (.iconst 0, 1) := bo_3 (by decide +kernel)
theorem dX9_areAlike_169 : decode cX9_areAlike 169 = .ok (.istore 4, 2) := bo_54 (by decide +kernel)
theorem dX9_areAlike_171 : decode cX9_areAlike 171 = .ok (.iinc 5 1, 3) := bo_132 5 1 (by decide +kernel)
theorem dX9_areAlike_174 : decode cX9_areAlike 174 = .ok (.goto (-150), 3) := bo_167 255 106 (by decide +kernel)
theorem dX9_areAlike_138 : decode cX9_areAlike 138 = .ok (.iload 6, 2) := bo_21 (by decide +kernel)
theorem dX9_areAlike_140 : decode cX9_areAlike 140 = .ok (.ifCond .eq 24, 3) := bo_153 0 24 (by decide +kernel)
theorem dX9_areAlike_164 : decode cX9_areAlike 164 = .ok (.iconst 1, 1) := bo_4 (by decide +kernel)
theorem dX9_areAlike_165 : decode cX9_areAlike 165 = .ok (.goto 4, 3) := bo_167 0 4 (by decide +kernel)
theorem dX9_areAlike_143 : decode cX9_areAlike 143 = .ok (.aload_n 1, 1) := bo_43 (by decide +kernel)
theorem dX9_areAlike_144 : decode cX9_areAlike 144 = .ok (.bipush 20, 2) := bo_16 20 (by decide +kernel)
theorem dX9_areAlike_146 : decode cX9_areAlike 146 = .ok (.iload_n 2, 1) := bo_28 (by decide +kernel)
theorem dX9_areAlike_147 : decode cX9_areAlike 147 = .ok (.imul, 1) := bo_104 (by decide +kernel)
theorem dX9_areAlike_148 : decode cX9_areAlike 148 = .ok (.iload 5, 2) := bo_21 (by decide +kernel)
theorem dX9_areAlike_150 : decode cX9_areAlike 150 = .ok (.iadd, 1) := bo_96 (by decide +kernel)
theorem dX9_areAlike_151 : decode cX9_areAlike 151 = .ok (.iaload, 1) := bo_46 (by decide +kernel)
theorem dX9_areAlike_152 : decode cX9_areAlike 152 = .ok (.aload_n 1, 1) := bo_43 (by decide +kernel)
theorem dX9_areAlike_153 : decode cX9_areAlike 153 = .ok (.bipush 20, 2) := bo_16 20 (by decide +kernel)
theorem dX9_areAlike_155 : decode cX9_areAlike 155 = .ok (.iload_n 3, 1) := bo_29 (by decide +kernel)
theorem dX9_areAlike_156 : decode cX9_areAlike 156 = .ok (.imul, 1) := bo_104 (by decide +kernel)
theorem dX9_areAlike_157 : decode cX9_areAlike 157 = .ok (.iload 5, 2) := bo_21 (by decide +kernel)
theorem dX9_areAlike_159 : decode cX9_areAlike 159 = .ok (.iadd, 1) := bo_96 (by decide +kernel)
theorem dX9_areAlike_160 : decode cX9_areAlike 160 = .ok (.iaload, 1) := bo_46 (by decide +kernel)
theorem dX9_areAlike_161 : decode cX9_areAlike 161 = .ok (.if_icmp .ne 7, 3) := bo_160 0 7 (by decide +kernel)
theorem dX9_areAlike_31 : decode cX9_areAlike 31 = .ok (.iload 5, 2) := bo_21 (by decide +kernel)
theorem dX9_areAlike_33 : decode cX9_areAlike 33 = .ok (.iconst 2, 1) := bo_5 (by decide +kernel)
theorem dX9_areAlike_34 : decode cX9_areAlike 34 = .ok (.if_icmp .ge 7, 3) := bo_162 0 7 (by decide +kernel)
theorem dX9_areAlike_41 : decode cX9_areAlike 41 = .ok (.iload 5, 2) := bo_21 (by decide +kernel)
theorem dX9_areAlike_43 : decode cX9_areAlike 43 = .ok (.bipush 14, 2) := bo_16 14 (by decide +kernel)
theorem dX9_areAlike_45 : decode cX9_areAlike 45 = .ok (.if_icmp .ge 28, 3) := bo_162 0 28 (by decide +kernel)
theorem dX9_areAlike_73 : decode cX9_areAlike 73 = .ok (.iload 5, 2) := bo_21 (by decide +kernel)
theorem dX9_areAlike_75 : decode cX9_areAlike 75 = .ok (.bipush 14, 2) := bo_16 14 (by decide +kernel)
theorem dX9_areAlike_77 : decode cX9_areAlike 77 = .ok (.if_icmp .eq 49, 3) := bo_159 0 49 (by decide +kernel)
theorem dX9_areAlike_126 : decode cX9_areAlike 126 = .ok (.iconst 1, 1) := bo_4 (by decide +kernel)
theorem dX9_areAlike_127 : decode cX9_areAlike 127 = .ok (.goto 4, 3) := bo_167 0 4 (by decide +kernel)
theorem dX9_areAlike_80 : decode cX9_areAlike 80 = .ok (.iload 5, 2) := bo_21 (by decide +kernel)
theorem dX9_areAlike_82 : decode cX9_areAlike 82 = .ok (.bipush 15, 2) := bo_16 15 (by decide +kernel)
theorem dX9_areAlike_84 : decode cX9_areAlike 84 = .ok (.if_icmp .eq 10, 3) := bo_159 0 10 (by decide +kernel)
theorem dX9_areAlike_94 : decode cX9_areAlike 94 = .ok (.aload_n 1, 1) := bo_43 (by decide +kernel)
theorem dX9_areAlike_95 : decode cX9_areAlike 95 = .ok (.bipush 20, 2) := bo_16 20 (by decide +kernel)
theorem dX9_areAlike_97 : decode cX9_areAlike 97 = .ok (.iload_n 2, 1) := bo_28 (by decide +kernel)
theorem dX9_areAlike_98 : decode cX9_areAlike 98 = .ok (.imul, 1) := bo_104 (by decide +kernel)
theorem dX9_areAlike_99 : decode cX9_areAlike 99 = .ok (.bipush 14, 2) := bo_16 14 (by decide +kernel)
theorem dX9_areAlike_101 : decode cX9_areAlike 101 = .ok (.iadd, 1) := bo_96 (by decide +kernel)
theorem dX9_areAlike_102 : decode cX9_areAlike 102 = .ok (.iaload, 1) := bo_46 (by decide +kernel)
theorem dX9_areAlike_103 : decode cX9_areAlike 103 = .ok (.iconst 2, 1) := bo_5 (by decide +kernel)
theorem dX9_areAlike_104 : decode cX9_areAlike 104 = .ok (.if_icmp .eq 22, 3) := bo_159 0 22 (by decide +kernel)
theorem dX9_areAlike_107 : decode cX9_areAlike 107 = .ok (.iload 5, 2) := bo_21 (by decide +kernel)
theorem dX9_areAlike_109 : decode cX9_areAlike 109 = .ok (.bipush 16, 2) := bo_16 16 (by decide +kernel)
theorem dX9_areAlike_111 : decode cX9_areAlike 111 = .ok (.if_icmp .ne 19, 3) := bo_160 0 19 (by decide +kernel)
theorem dX9_areAlike_130 : decode cX9_areAlike 130 = .ok (.iconst 0, 1) := bo_3 (by decide +kernel)
theorem dX9_areAlike_114 : decode cX9_areAlike 114 = .ok (.aload_n 1, 1) := bo_43 (by decide +kernel)
theorem dX9_areAlike_115 : decode cX9_areAlike 115 = .ok (.bipush 20, 2) := bo_16 20 (by decide +kernel)
theorem dX9_areAlike_117 : decode cX9_areAlike 117 = .ok (.iload_n 2, 1) := bo_28 (by decide +kernel)
theorem dX9_areAlike_118 : decode cX9_areAlike 118 = .ok (.imul, 1) := bo_104 (by decide +kernel)
theorem dX9_areAlike_119 : decode cX9_areAlike 119 = .ok (.bipush 14, 2) := bo_16 14 (by decide +kernel)
theorem dX9_areAlike_121 : decode cX9_areAlike 121 = .ok (.iadd, 1) := bo_96 (by decide +kernel)
theorem dX9_areAlike_122 : decode cX9_areAlike 122 = .ok (.iaload, 1) := bo_46 (by decide +kernel)
theorem dX9_areAlike_123 : decode cX9_areAlike 123 = .ok (.ifCond .le 7, 3) := bo_158 0 7 (by decide +kernel)
theorem dX9_areAlike_87 : decode cX9_areAlike 87 = .ok (.iload 5, 2) := bo_21 (by decide +kernel)
theorem dX9_areAlike_89 : decode cX9_areAlike 89 = .ok (.bipush 18, 2) := bo_16 18 (by decide +kernel)
theorem dX9_areAlike_91 : decode cX9_areAlike 91 = .ok (.if_icmp .ne 16, 3) := bo_160 0 16 (by decide +kernel)
theorem dX9_areAlike_48 : decode cX9_areAlike 48 = .ok (.iload 5, 2) := bo_21 (by decide +kernel)
theorem dX9_areAlike_50 : decode cX9_areAlike 50 = .ok (.iconst 2, 1) := bo_5 (by decide +kernel)
theorem dX9_areAlike_51 : decode cX9_areAlike 51 = .ok (.isub, 1) := bo_100 (by decide +kernel)
theorem dX9_areAlike_52 : decode cX9_areAlike 52 = .ok (.iconst 3, 1) := bo_6 (by decide +kernel)
theorem dX9_areAlike_53 : decode cX9_areAlike 53 = .ok (.idiv, 1) := bo_108 (by decide +kernel)
theorem dX9_areAlike_54 : decode cX9_areAlike 54 = .ok (.aload_n 1, 1) := bo_43 (by decide +kernel)
theorem dX9_areAlike_55 : decode cX9_areAlike 55 = .ok (.bipush 20, 2) := bo_16 20 (by decide +kernel)
theorem dX9_areAlike_57 : decode cX9_areAlike 57 = .ok (.iload_n 2, 1) := bo_28 (by decide +kernel)
theorem dX9_areAlike_58 : decode cX9_areAlike 58 = .ok (.imul, 1) := bo_104 (by decide +kernel)
theorem dX9_areAlike_59 : decode cX9_areAlike 59 = .ok (.iconst 1, 1) := bo_4 (by decide +kernel)
theorem dX9_areAlike_60 : decode cX9_areAlike 60 = .ok (.iadd, 1) := bo_96 (by decide +kernel)
theorem dX9_areAlike_61 : decode cX9_areAlike 61 = .ok (.iaload, 1) := bo_46 (by decide +kernel)
theorem dX9_areAlike_62 : decode cX9_areAlike 62 = .ok (.if_icmp .ge 7, 3) := bo_162 0 7 (by decide +kernel)
theorem dX9_areAlike_69 : decode cX9_areAlike 69 = .ok (.iconst 0, 1) := bo_3 (by decide +kernel)
theorem dX9_areAlike_70 : decode cX9_areAlike 70 = .ok (.goto 61, 3) := bo_167 0 61 (by decide +kernel)
theorem dX9_areAlike_65 : decode cX9_areAlike 65 = .ok (.iconst 1, 1) := bo_4 (by decide +kernel)
theorem dX9_areAlike_66 : decode cX9_areAlike 66 = .ok (.goto 65, 3) := bo_167 0 65 (by decide +kernel)
theorem dX9_areAlike_37 : decode cX9_areAlike 37 = .ok (.iconst 1, 1) := bo_4 (by decide +kernel)
theorem dX9_areAlike_38 : decode cX9_areAlike 38 = .ok (.goto 93, 3) := bo_167 0 93 (by decide +kernel)
abbrev rm_X9_areAlike : Room := { frames := 1, cells := 0, slots := 0, locals := 21 }
set_option maxRecDepth 100000 in
set_option maxHeartbeats 8000000 in
theorem c_X9_areAlike {l : Launch} {E : (Nat → Prop) → State → Prop} (hO : bw_Ok E) {G : va_G} {cI cB cJ cN cW : ClassId} (y : Nat) (q : Nat → Nat) (i : Nat → Int) (hM : ModOk i) (a : Nat) (g_p : Nat → Int) (x : Int) (w : Int) (hx9 : zR x) (hw9 : zR w) (hp : ProgOk g_p) (hx8 : 0 ≤ x ∧ x < 10) (hw8 : 0 ≤ w ∧ w < 10) : bw_Ci (S := zV) l yX9_areAlike (bw_ws (Cond.code yX9_areAlike cX9_areAlike 7 (some .boolean))) rm_X9_areAlike E G (bw_kt cI cB cJ cN cW) [.ref y, .ref a, .int (zI x), .int (zI w)] [(y, .inr (9, [.int (zI (i 0)), .ref (q 0), .int (zI (i 1)), .int (zI (i 2)), .int (zI (i 3)), .int (zI (i 4)), .int (zI (i 5)), .int (zI (i 6)), .int (zI (i 7)), .int (zI (i 8)), .int (zI (i 9)), .int (zI (i 10)), .ref (q 1), .int (zI (i 11)), .int (zI (i 12)), .ref (q 2), .ref (q 3), .ref (q 4), .ref (q 5), .ref (q 6), .ref (q 7), .ref (q 8), .ref (q 9), .ref (q 10), .ref (q 11), .ref (q 12), .ref (q 13), .ref (q 14), .ref (q 15), .ref (q 16), .int (zI (i 13)), .int (zI (i 14)), .int (zI (i 15)), .int (zI (i 16)), .int (zI (i 17)), .int (zI (i 18)), .ref (q 17), .ref (q 18), .ref (q 19), .ref (q 20)])), (a, .inl (cI, 200, .inl (fun k => zI (g_p k))))] (fun r u => ∃ z : Int, r = zI z ∧ ((0 ≤ z ∧ z ≤ 1) ∧ Imp (z = 1) (g_p (20 * x + 0).toNat = 1 ∧ g_p (20 * w + 0).toNat = 1))) (fun u => [(y, .inr (9, [.int (zI (i 0)), .ref (q 0), .int (zI (i 1)), .int (zI (i 2)), .int (zI (i 3)), .int (zI (i 4)), .int (zI (i 5)), .int (zI (i 6)), .int (zI (i 7)), .int (zI (i 8)), .int (zI (i 9)), .int (zI (i 10)), .ref (q 1), .int (zI (i 11)), .int (zI (i 12)), .ref (q 2), .ref (q 3), .ref (q 4), .ref (q 5), .ref (q 6), .ref (q 7), .ref (q 8), .ref (q 9), .ref (q 10), .ref (q 11), .ref (q 12), .ref (q 13), .ref (q 14), .ref (q 15), .ref (q 16), .int (zI (i 13)), .int (zI (i 14)), .int (zI (i 15)), .int (zI (i 16)), .int (zI (i 17)), .int (zI (i 18)), .ref (q 17), .ref (q 18), .ref (q 19), .ref (q 20)])), (a, .inl (cI, 200, .inl (fun k => zI (g_p k))))]) := by
  refine bw_Ci.of (cc := cX9_areAlike) (maxL := 7) (ty := .boolean) (by decide) rfl (Nat.le_of_ble_eq_true rfl) ?_
  intro p e s m below meth c A Q hx hb hml hts hown hin hK hA hS hP hD hE ret ls hl
  have F : CallFix p m c cX9_areAlike 7 s ([.ref y, .ref a, .int (zI x), .int (zI w)] : List Value).toArray bw_T RX9 := ⟨hx, hb, hml, hown, fun w h => hts w (List.mem_cons_of_mem _ h)⟩
  replace hl : lv_has ls 7 [(0, .ref y), (1, .ref a), (2, .int (zI x)), (3, .int (zI w))] := hl
  have hf1 := hM.1
  refine lv_aload_n hx hb dX9_areAlike_0 rfl (lv_at hl 1 rfl) ?_
  refine lv_iload_n hx hb dX9_areAlike_1 rfl (lv_at hl 2 rfl) ?_
  refine r_callSi (As := [.ref a, .int (zI x)]) (rest := []) (wr := [(y, .inr (9, [.int (zI (i 0)), .ref (q 0), .int (zI (i 1)), .int (zI (i 2)), .int (zI (i 3)), .int (zI (i 4)), .int (zI (i 5)), .int (zI (i 6)), .int (zI (i 7)), .int (zI (i 8)), .int (zI (i 9)), .int (zI (i 10)), .ref (q 1), .int (zI (i 11)), .int (zI (i 12)), .ref (q 2), .ref (q 3), .ref (q 4), .ref (q 5), .ref (q 6), .ref (q 7), .ref (q 8), .ref (q 9), .ref (q 10), .ref (q 11), .ref (q 12), .ref (q 13), .ref (q 14), .ref (q 15), .ref (q 16), .int (zI (i 13)), .int (zI (i 14)), .int (zI (i 15)), .int (zI (i 16)), .int (zI (i 17)), .int (zI (i 18)), .ref (q 17), .ref (q 18), .ref (q 19), .ref (q 20)]))]) F hK hP hD hS hA hO hE (c_X9_isTold hO a g_p x (by omega) hp (by omega)) k_1424 ks_X9_isTold 2 rfl (by decide +kernel) ⟨Nat.le_of_ble_eq_true rfl, Nat.le_of_ble_eq_true rfl⟩ [1] [0] rfl rfl (by decide) (by decide) (by decide) hl.1 rfl (Nat.le_of_ble_eq_true rfl) dX9_areAlike_2 ⟨Nat.le_of_ble_eq_true rfl, Nat.le_of_ble_eq_true rfl⟩ (w1 := fun u2 => [(y, .inr (9, [.int (zI (i 0)), .ref (q 0), .int (zI (i 1)), .int (zI (i 2)), .int (zI (i 3)), .int (zI (i 4)), .int (zI (i 5)), .int (zI (i 6)), .int (zI (i 7)), .int (zI (i 8)), .int (zI (i 9)), .int (zI (i 10)), .ref (q 1), .int (zI (i 11)), .int (zI (i 12)), .ref (q 2), .ref (q 3), .ref (q 4), .ref (q 5), .ref (q 6), .ref (q 7), .ref (q 8), .ref (q 9), .ref (q 10), .ref (q 11), .ref (q 12), .ref (q 13), .ref (q 14), .ref (q 15), .ref (q 16), .int (zI (i 13)), .int (zI (i 14)), .int (zI (i 15)), .int (zI (i 16)), .int (zI (i 17)), .int (zI (i 18)), .ref (q 17), .ref (q 18), .ref (q 19), .ref (q 20)])), (a, .inl (cI, 200, .inl (fun k => zI (g_p k))))]) (fun _ => rfl) (fun r3 u2 H locs hp4 hP hD hS => ?_)
  obtain ⟨z5, rfl, h_z5⟩ := hp4
  refine rz_ifb_eq (tgt := 16) F (by omega) dX9_areAlike_5 (by decide) (fun h5_5 => ?_) (fun h5_5 => ?_)
  · refine lv_iconst (v := zI 0) hx hb dX9_areAlike_16 rfl ?_
    exact ret (zI 0) (fun k => [((fun _ => 0), fun _ _ => 0)].getD k (fun _ => 0, fun _ _ => 0)) _ _ _ _ _ _ rfl ⟨0, rfl, ⟨(show 0 ≤ (0 : Int) ∧ (0 : Int) ≤ 1 from by omega), (show Imp ((0 : Int) = 1) (g_p (20 * x + 0).toNat = 1 ∧ g_p (20 * w + 0).toNat = 1) from fun q9 => by omega)⟩⟩ (bw_subP (isC := [0, 1]) hP rfl) (hD.sub [0, 1] (by decide) rfl) hS (Nat.le_of_ble_eq_true rfl) (Nat.le_of_ble_eq_true rfl) dX9_areAlike_17
  · have hq7 := h_z5.2 (by omega)
    refine lv_aload_n hx hb dX9_areAlike_8 rfl (lv_at hl 1 rfl) ?_
    refine lv_iload_n hx hb dX9_areAlike_9 rfl (lv_at hl 3 rfl) ?_
    refine r_callSi (As := [.ref a, .int (zI w)]) (rest := []) (wr := [(y, .inr (9, [.int (zI (i 0)), .ref (q 0), .int (zI (i 1)), .int (zI (i 2)), .int (zI (i 3)), .int (zI (i 4)), .int (zI (i 5)), .int (zI (i 6)), .int (zI (i 7)), .int (zI (i 8)), .int (zI (i 9)), .int (zI (i 10)), .ref (q 1), .int (zI (i 11)), .int (zI (i 12)), .ref (q 2), .ref (q 3), .ref (q 4), .ref (q 5), .ref (q 6), .ref (q 7), .ref (q 8), .ref (q 9), .ref (q 10), .ref (q 11), .ref (q 12), .ref (q 13), .ref (q 14), .ref (q 15), .ref (q 16), .int (zI (i 13)), .int (zI (i 14)), .int (zI (i 15)), .int (zI (i 16)), .int (zI (i 17)), .int (zI (i 18)), .ref (q 17), .ref (q 18), .ref (q 19), .ref (q 20)]))]) F hK hP hD hS hA hO hE (c_X9_isTold hO a g_p w (by omega) hp (by omega)) k_1424 ks_X9_isTold 2 rfl (by decide +kernel) ⟨Nat.le_of_ble_eq_true rfl, Nat.le_of_ble_eq_true rfl⟩ [1] [0] rfl rfl (by decide) (by decide) (by decide) hl.1 rfl (Nat.le_of_ble_eq_true rfl) dX9_areAlike_10 ⟨Nat.le_of_ble_eq_true rfl, Nat.le_of_ble_eq_true rfl⟩ (w1 := fun u8 => [(y, .inr (9, [.int (zI (i 0)), .ref (q 0), .int (zI (i 1)), .int (zI (i 2)), .int (zI (i 3)), .int (zI (i 4)), .int (zI (i 5)), .int (zI (i 6)), .int (zI (i 7)), .int (zI (i 8)), .int (zI (i 9)), .int (zI (i 10)), .ref (q 1), .int (zI (i 11)), .int (zI (i 12)), .ref (q 2), .ref (q 3), .ref (q 4), .ref (q 5), .ref (q 6), .ref (q 7), .ref (q 8), .ref (q 9), .ref (q 10), .ref (q 11), .ref (q 12), .ref (q 13), .ref (q 14), .ref (q 15), .ref (q 16), .int (zI (i 13)), .int (zI (i 14)), .int (zI (i 15)), .int (zI (i 16)), .int (zI (i 17)), .int (zI (i 18)), .ref (q 17), .ref (q 18), .ref (q 19), .ref (q 20)])), (a, .inl (cI, 200, .inl (fun k => zI (g_p k))))]) (fun _ => rfl) (fun r9 u8 H locs hp10 hP hD hS => ?_)
    obtain ⟨z11, rfl, h_z11⟩ := hp10
    refine rz_ifb_ne (tgt := 18) F (by omega) dX9_areAlike_13 (by decide) (fun h13_11 => ?_) (fun h13_11 => ?_)
    · have hq13 := h_z11.2 (by omega)
      refine lv_iconst (v := zI 1) hx hb dX9_areAlike_18 rfl ?_
      refine lv_istore (lv' := [(4, .int (zI 1)), (0, .ref y), (1, .ref a), (2, .int (zI x)), (3, .int (zI w))]) hx hb dX9_areAlike_19 hl (by decide) rfl (fun ls hl => ?_)
      refine lv_iconst (v := zI 1) hx hb dX9_areAlike_21 rfl ?_
      refine lv_istore (lv' := [(5, .int (zI 1)), (4, .int (zI 1)), (0, .ref y), (1, .ref a), (2, .int (zI x)), (3, .int (zI w))]) hx hb dX9_areAlike_22 hl (by decide) rfl (fun ls hl => ?_)
      refine W.widen (k := 0) (n := 0) (Nat.le_of_ble_eq_true rfl) (Nat.le_of_ble_eq_true rfl) ?_
      refine (?_ : ∀ (n9_1 : Nat) (v4 : Int) (v5 : Int) (H : Heap) (locs : List Loc), (0 ≤ v4 ∧ v4 ≤ 1 ∧ 1 ≤ v5 ∧ v5 ≤ 19) → (19 - v5 : Int).toNat < n9_1 → va_P G vwCl [(y, .inr (9, [.int (zI (i 0)), .ref (q 0), .int (zI (i 1)), .int (zI (i 2)), .int (zI (i 3)), .int (zI (i 4)), .int (zI (i 5)), .int (zI (i 6)), .int (zI (i 7)), .int (zI (i 8)), .int (zI (i 9)), .int (zI (i 10)), .ref (q 1), .int (zI (i 11)), .int (zI (i 12)), .ref (q 2), .ref (q 3), .ref (q 4), .ref (q 5), .ref (q 6), .ref (q 7), .ref (q 8), .ref (q 9), .ref (q 10), .ref (q 11), .ref (q 12), .ref (q 13), .ref (q 14), .ref (q 15), .ref (q 16), .int (zI (i 13)), .int (zI (i 14)), .int (zI (i 15)), .int (zI (i 16)), .int (zI (i 17)), .int (zI (i 18)), .ref (q 17), .ref (q 18), .ref (q 19), .ref (q 20)])), (a, .inl (cI, 200, .inl (fun k => zI (g_p k))))] H → va_D A [(y, .inr (9, [.int (zI (i 0)), .ref (q 0), .int (zI (i 1)), .int (zI (i 2)), .int (zI (i 3)), .int (zI (i 4)), .int (zI (i 5)), .int (zI (i 6)), .int (zI (i 7)), .int (zI (i 8)), .int (zI (i 9)), .int (zI (i 10)), .ref (q 1), .int (zI (i 11)), .int (zI (i 12)), .ref (q 2), .ref (q 3), .ref (q 4), .ref (q 5), .ref (q 6), .ref (q 7), .ref (q 8), .ref (q 9), .ref (q 10), .ref (q 11), .ref (q 12), .ref (q 13), .ref (q 14), .ref (q 15), .ref (q 16), .int (zI (i 13)), .int (zI (i 14)), .int (zI (i 15)), .int (zI (i 16)), .int (zI (i 17)), .int (zI (i 18)), .ref (q 17), .ref (q 18), .ref (q 19), .ref (q 20)])), (a, .inl (cI, 200, .inl (fun k => zI (g_p k))))] → va_S A s.heap H locs → ∀ ls : Array Slot, lv_has ls 7 [(5, .int (zI v5)), (4, .int (zI v4)), (0, .ref y), (1, .ref a), (2, .int (zI x)), (3, .int (zI w))] → W p l e rm_X9_areAlike s m ([.ref y, .ref a, .int (zI x), .int (zI w)] : List Value).toArray below meth c H locs 0 0 Q (F0 m 24 ls [])) ((19 - 1 : Int).toNat + 1) 1 1 _ _ (by omega) (by omega) hP hD hS ls hl
      clear hP hD hS hl ls
      intro n9_1
      induction n9_1 with
      | zero =>
        intro v4 v5 H locs hI hM
        exact absurd hM (by omega)
      | succ n9_1 ih1 =>
        intro v4 v5 H locs hI1 hM1  hP hD hS ls hl
        refine lv_iload hx hb dX9_areAlike_24 (lv_at hl 0 rfl) ?_
        refine lv_bipush (v := zI 18) hx hb dX9_areAlike_26 (by decide) ?_
        refine rz_icmp_gt (tgt := 177) F (by omega) (by omega) dX9_areAlike_28 (by decide) (fun h28_13 => ?_) (fun h28_13 => ?_)
        · refine lv_iload hx hb dX9_areAlike_177 (lv_at hl 1 rfl) ?_
          exact ret (zI v4) (fun k => [((fun _ => 0), fun _ _ => 0)].getD k (fun _ => 0, fun _ _ => 0)) _ _ _ _ _ _ (zI_nz (by omega)) ⟨v4, rfl, ⟨(show 0 ≤ (v4 : Int) ∧ (v4 : Int) ≤ 1 from by omega), (show Imp ((v4 : Int) = 1) (g_p (20 * x + 0).toNat = 1 ∧ g_p (20 * w + 0).toNat = 1) from fun q9 => by omega)⟩⟩ (bw_subP (isC := [0, 1]) hP rfl) (hD.sub [0, 1] (by decide) rfl) hS (Nat.le_of_ble_eq_true rfl) (Nat.le_of_ble_eq_true rfl) dX9_areAlike_179
        · have j_131 : ∀ (zj131_0 : Int) (H : Heap) (locs : List Loc), (0 ≤ zj131_0 ∧ zj131_0 ≤ 1) → va_P G vwCl [(y, .inr (9, [.int (zI (i 0)), .ref (q 0), .int (zI (i 1)), .int (zI (i 2)), .int (zI (i 3)), .int (zI (i 4)), .int (zI (i 5)), .int (zI (i 6)), .int (zI (i 7)), .int (zI (i 8)), .int (zI (i 9)), .int (zI (i 10)), .ref (q 1), .int (zI (i 11)), .int (zI (i 12)), .ref (q 2), .ref (q 3), .ref (q 4), .ref (q 5), .ref (q 6), .ref (q 7), .ref (q 8), .ref (q 9), .ref (q 10), .ref (q 11), .ref (q 12), .ref (q 13), .ref (q 14), .ref (q 15), .ref (q 16), .int (zI (i 13)), .int (zI (i 14)), .int (zI (i 15)), .int (zI (i 16)), .int (zI (i 17)), .int (zI (i 18)), .ref (q 17), .ref (q 18), .ref (q 19), .ref (q 20)])), (a, .inl (cI, 200, .inl (fun k => zI (g_p k))))] H → va_D A [(y, .inr (9, [.int (zI (i 0)), .ref (q 0), .int (zI (i 1)), .int (zI (i 2)), .int (zI (i 3)), .int (zI (i 4)), .int (zI (i 5)), .int (zI (i 6)), .int (zI (i 7)), .int (zI (i 8)), .int (zI (i 9)), .int (zI (i 10)), .ref (q 1), .int (zI (i 11)), .int (zI (i 12)), .ref (q 2), .ref (q 3), .ref (q 4), .ref (q 5), .ref (q 6), .ref (q 7), .ref (q 8), .ref (q 9), .ref (q 10), .ref (q 11), .ref (q 12), .ref (q 13), .ref (q 14), .ref (q 15), .ref (q 16), .int (zI (i 13)), .int (zI (i 14)), .int (zI (i 15)), .int (zI (i 16)), .int (zI (i 17)), .int (zI (i 18)), .ref (q 17), .ref (q 18), .ref (q 19), .ref (q 20)])), (a, .inl (cI, 200, .inl (fun k => zI (g_p k))))] → va_S A s.heap H locs → ∀ ls : Array Slot, lv_has ls 7 [(5, .int (zI v5)), (4, .int (zI v4)), (0, .ref y), (1, .ref a), (2, .int (zI x)), (3, .int (zI w))] → W p l e rm_X9_areAlike s m ([.ref y, .ref a, .int (zI x), .int (zI w)] : List Value).toArray below meth c H locs 0 0 Q (F0 m 131 ls [.int (zI zj131_0)]) := by
            intro zj131_0 H locs hJ131  hP hD hS ls hl
            refine lv_istore (lv' := [(6, .int (zI zj131_0)), (5, .int (zI v5)), (4, .int (zI v4)), (0, .ref y), (1, .ref a), (2, .int (zI x)), (3, .int (zI w))]) hx hb dX9_areAlike_131 hl (by decide) rfl (fun ls hl => ?_)
            refine lv_iload hx hb dX9_areAlike_133 (lv_at hl 2 rfl) ?_
            refine rz_if_eq (tgt := 168) F (by omega) dX9_areAlike_135 (by decide) (fun h135_14 => ?_) (fun h135_14 => ?_)
            · refine lv_iconst (v := zI 0) hx hb dX9_areAlike_168 rfl ?_
              refine lv_istore (lv' := [(4, .int (zI 0)), (6, .int (zI zj131_0)), (5, .int (zI v5)), (0, .ref y), (1, .ref a), (2, .int (zI x)), (3, .int (zI w))]) hx hb dX9_areAlike_169 hl (by decide) rfl (fun ls hl => ?_)
              refine lv_iinc (v := zI (v5 + 1)) (lv' := [(5, .int (zI (v5 + 1))), (4, .int (zI 0)), (6, .int (zI zj131_0)), (0, .ref y), (1, .ref a), (2, .int (zI x)), (3, .int (zI w))]) hx hb dX9_areAlike_171 hl (k := 2) rfl (zI_add _ _) (by decide) rfl (fun ls hl => ?_)
              refine lv_goto (tgt := 24) hx hb dX9_areAlike_174 (by decide) ?_
              exact ih1 0 (v5 + 1) _ _ (by omega) (by omega) hP hD hS ls (lv_sub hl [0, 1, 3, 4, 5, 6] rfl)
            · refine lv_iload hx hb dX9_areAlike_138 (lv_at hl 0 rfl) ?_
              refine rz_if_eq (tgt := 164) F (by omega) dX9_areAlike_140 (by decide) (fun h140_15 => ?_) (fun h140_15 => ?_)
              · refine lv_iconst (v := zI 1) hx hb dX9_areAlike_164 rfl ?_
                refine lv_goto (tgt := 169) hx hb dX9_areAlike_165 (by decide) ?_
                refine lv_istore (lv' := [(4, .int (zI 1)), (6, .int (zI zj131_0)), (5, .int (zI v5)), (0, .ref y), (1, .ref a), (2, .int (zI x)), (3, .int (zI w))]) hx hb dX9_areAlike_169 hl (by decide) rfl (fun ls hl => ?_)
                refine lv_iinc (v := zI (v5 + 1)) (lv' := [(5, .int (zI (v5 + 1))), (4, .int (zI 1)), (6, .int (zI zj131_0)), (0, .ref y), (1, .ref a), (2, .int (zI x)), (3, .int (zI w))]) hx hb dX9_areAlike_171 hl (k := 2) rfl (zI_add _ _) (by decide) rfl (fun ls hl => ?_)
                refine lv_goto (tgt := 24) hx hb dX9_areAlike_174 (by decide) ?_
                exact ih1 1 (v5 + 1) _ _ (by omega) (by omega) hP hD hS ls (lv_sub hl [0, 1, 3, 4, 5, 6] rfl)
              · refine lv_aload_n hx hb dX9_areAlike_143 rfl (lv_at hl 4 rfl) ?_
                refine lv_bipush (v := zI 20) hx hb dX9_areAlike_144 (by decide) ?_
                refine lv_iload_n hx hb dX9_areAlike_146 rfl (lv_at hl 5 rfl) ?_
                refine r_imul (v := zI (20 * x)) F dX9_areAlike_147 (zI_mul _ _) ?_
                refine lv_iload hx hb dX9_areAlike_148 (lv_at hl 1 rfl) ?_
                refine r_iadd (v := zI ((20 * x) + v5)) F dX9_areAlike_150 (zI_add _ _) ?_
                refine rz_iald F hK hP 1 0 rfl rfl (by omega) (by omega) dX9_areAlike_151 ?_
                refine rz_top (fun z17 h_z17 => ?_)
                refine lv_aload_n hx hb dX9_areAlike_152 rfl (lv_at hl 4 rfl) ?_
                refine lv_bipush (v := zI 20) hx hb dX9_areAlike_153 (by decide) ?_
                refine lv_iload_n hx hb dX9_areAlike_155 rfl (lv_at hl 6 rfl) ?_
                refine r_imul (v := zI (20 * w)) F dX9_areAlike_156 (zI_mul _ _) ?_
                refine lv_iload hx hb dX9_areAlike_157 (lv_at hl 1 rfl) ?_
                refine r_iadd (v := zI ((20 * w) + v5)) F dX9_areAlike_159 (zI_add _ _) ?_
                refine rz_iald F hK hP 1 0 rfl rfl (by omega) (by omega) dX9_areAlike_160 ?_
                refine rz_top (fun z18 h_z18 => ?_)
                refine rz_icmp_ne (tgt := 168) F (by omega) (by omega) dX9_areAlike_161 (by decide) (fun h161_18 => ?_) (fun h161_18 => ?_)
                · refine lv_iconst (v := zI 0) hx hb dX9_areAlike_168 rfl ?_
                  refine lv_istore (lv' := [(4, .int (zI 0)), (6, .int (zI zj131_0)), (5, .int (zI v5)), (0, .ref y), (1, .ref a), (2, .int (zI x)), (3, .int (zI w))]) hx hb dX9_areAlike_169 hl (by decide) rfl (fun ls hl => ?_)
                  refine lv_iinc (v := zI (v5 + 1)) (lv' := [(5, .int (zI (v5 + 1))), (4, .int (zI 0)), (6, .int (zI zj131_0)), (0, .ref y), (1, .ref a), (2, .int (zI x)), (3, .int (zI w))]) hx hb dX9_areAlike_171 hl (k := 2) rfl (zI_add _ _) (by decide) rfl (fun ls hl => ?_)
                  refine lv_goto (tgt := 24) hx hb dX9_areAlike_174 (by decide) ?_
                  exact ih1 0 (v5 + 1) _ _ (by omega) (by omega) hP hD hS ls (lv_sub hl [0, 1, 3, 4, 5, 6] rfl)
                · refine lv_iconst (v := zI 1) hx hb dX9_areAlike_164 rfl ?_
                  refine lv_goto (tgt := 169) hx hb dX9_areAlike_165 (by decide) ?_
                  refine lv_istore (lv' := [(4, .int (zI 1)), (6, .int (zI zj131_0)), (5, .int (zI v5)), (0, .ref y), (1, .ref a), (2, .int (zI x)), (3, .int (zI w))]) hx hb dX9_areAlike_169 hl (by decide) rfl (fun ls hl => ?_)
                  refine lv_iinc (v := zI (v5 + 1)) (lv' := [(5, .int (zI (v5 + 1))), (4, .int (zI 1)), (6, .int (zI zj131_0)), (0, .ref y), (1, .ref a), (2, .int (zI x)), (3, .int (zI w))]) hx hb dX9_areAlike_171 hl (k := 2) rfl (zI_add _ _) (by decide) rfl (fun ls hl => ?_)
                  refine lv_goto (tgt := 24) hx hb dX9_areAlike_174 (by decide) ?_
                  exact ih1 1 (v5 + 1) _ _ (by omega) (by omega) hP hD hS ls (lv_sub hl [0, 1, 3, 4, 5, 6] rfl)
          refine lv_iload hx hb dX9_areAlike_31 (lv_at hl 0 rfl) ?_
          refine lv_iconst (v := zI 2) hx hb dX9_areAlike_33 rfl ?_
          refine rz_icmp_ge (tgt := 41) F (by omega) (by omega) dX9_areAlike_34 (by decide) (fun h34_19 => ?_) (fun h34_19 => ?_)
          · refine lv_iload hx hb dX9_areAlike_41 (lv_at hl 0 rfl) ?_
            refine lv_bipush (v := zI 14) hx hb dX9_areAlike_43 (by decide) ?_
            refine rz_icmp_ge (tgt := 73) F (by omega) (by omega) dX9_areAlike_45 (by decide) (fun h45_20 => ?_) (fun h45_20 => ?_)
            · refine lv_iload hx hb dX9_areAlike_73 (lv_at hl 0 rfl) ?_
              refine lv_bipush (v := zI 14) hx hb dX9_areAlike_75 (by decide) ?_
              refine rz_icmp_eq (tgt := 126) F (by omega) (by omega) dX9_areAlike_77 (by decide) (fun h77_21 => ?_) (fun h77_21 => ?_)
              · refine lv_iconst (v := zI 1) hx hb dX9_areAlike_126 rfl ?_
                refine lv_goto (tgt := 131) hx hb dX9_areAlike_127 (by decide) ?_
                exact j_131 1 _ _ (by omega) hP hD hS ls (lv_sub hl [0, 1, 2, 3, 4, 5] rfl)
              · refine lv_iload hx hb dX9_areAlike_80 (lv_at hl 0 rfl) ?_
                refine lv_bipush (v := zI 15) hx hb dX9_areAlike_82 (by decide) ?_
                refine rz_icmp_eq (tgt := 94) F (by omega) (by omega) dX9_areAlike_84 (by decide) (fun h84_22 => ?_) (fun h84_22 => ?_)
                · refine lv_aload_n hx hb dX9_areAlike_94 rfl (lv_at hl 3 rfl) ?_
                  refine lv_bipush (v := zI 20) hx hb dX9_areAlike_95 (by decide) ?_
                  refine lv_iload_n hx hb dX9_areAlike_97 rfl (lv_at hl 4 rfl) ?_
                  refine r_imul (v := zI (20 * x)) F dX9_areAlike_98 (zI_mul _ _) ?_
                  refine lv_bipush (v := zI 14) hx hb dX9_areAlike_99 (by decide) ?_
                  refine r_iadd (v := zI ((20 * x) + 14)) F dX9_areAlike_101 (zI_add _ _) ?_
                  refine rz_iald F hK hP 1 0 rfl rfl (by omega) (by omega) dX9_areAlike_102 ?_
                  refine rz_top (fun z24 h_z24 => ?_)
                  refine lv_iconst (v := zI 2) hx hb dX9_areAlike_103 rfl ?_
                  refine rz_icmp_eq (tgt := 126) F (by omega) (by omega) dX9_areAlike_104 (by decide) (fun h104_24 => ?_) (fun h104_24 => ?_)
                  · refine lv_iconst (v := zI 1) hx hb dX9_areAlike_126 rfl ?_
                    refine lv_goto (tgt := 131) hx hb dX9_areAlike_127 (by decide) ?_
                    exact j_131 1 _ _ (by omega) hP hD hS ls (lv_sub hl [0, 1, 2, 3, 4, 5] rfl)
                  · refine lv_iload hx hb dX9_areAlike_107 (lv_at hl 0 rfl) ?_
                    refine lv_bipush (v := zI 16) hx hb dX9_areAlike_109 (by decide) ?_
                    refine rz_icmp_ne (tgt := 130) F (by omega) (by omega) dX9_areAlike_111 (by decide) (fun h111_25 => ?_) (fun h111_25 => ?_)
                    · refine lv_iconst (v := zI 0) hx hb dX9_areAlike_130 rfl ?_
                      exact j_131 0 _ _ (by omega) hP hD hS ls (lv_sub hl [0, 1, 2, 3, 4, 5] rfl)
                    · refine lv_aload_n hx hb dX9_areAlike_114 rfl (lv_at hl 3 rfl) ?_
                      refine lv_bipush (v := zI 20) hx hb dX9_areAlike_115 (by decide) ?_
                      refine lv_iload_n hx hb dX9_areAlike_117 rfl (lv_at hl 4 rfl) ?_
                      refine r_imul (v := zI (20 * x)) F dX9_areAlike_118 (zI_mul _ _) ?_
                      refine lv_bipush (v := zI 14) hx hb dX9_areAlike_119 (by decide) ?_
                      refine r_iadd (v := zI ((20 * x) + 14)) F dX9_areAlike_121 (zI_add _ _) ?_
                      refine rz_iald F hK hP 1 0 rfl rfl (by omega) (by omega) dX9_areAlike_122 ?_
                      refine rz_top (fun z27 h_z27 => ?_)
                      refine rz_if_le (tgt := 130) F (by omega) dX9_areAlike_123 (by decide) (fun h123_27 => ?_) (fun h123_27 => ?_)
                      · refine lv_iconst (v := zI 0) hx hb dX9_areAlike_130 rfl ?_
                        exact j_131 0 _ _ (by omega) hP hD hS ls (lv_sub hl [0, 1, 2, 3, 4, 5] rfl)
                      · refine lv_iconst (v := zI 1) hx hb dX9_areAlike_126 rfl ?_
                        refine lv_goto (tgt := 131) hx hb dX9_areAlike_127 (by decide) ?_
                        exact j_131 1 _ _ (by omega) hP hD hS ls (lv_sub hl [0, 1, 2, 3, 4, 5] rfl)
                · refine lv_iload hx hb dX9_areAlike_87 (lv_at hl 0 rfl) ?_
                  refine lv_bipush (v := zI 18) hx hb dX9_areAlike_89 (by decide) ?_
                  refine rz_icmp_ne (tgt := 107) F (by omega) (by omega) dX9_areAlike_91 (by decide) (fun h91_28 => ?_) (fun h91_28 => ?_)
                  · refine lv_iload hx hb dX9_areAlike_107 (lv_at hl 0 rfl) ?_
                    refine lv_bipush (v := zI 16) hx hb dX9_areAlike_109 (by decide) ?_
                    refine rz_icmp_ne (tgt := 130) F (by omega) (by omega) dX9_areAlike_111 (by decide) (fun h111_29 => ?_) (fun h111_29 => ?_)
                    · refine lv_iconst (v := zI 0) hx hb dX9_areAlike_130 rfl ?_
                      exact j_131 0 _ _ (by omega) hP hD hS ls (lv_sub hl [0, 1, 2, 3, 4, 5] rfl)
                    · refine lv_aload_n hx hb dX9_areAlike_114 rfl (lv_at hl 3 rfl) ?_
                      refine lv_bipush (v := zI 20) hx hb dX9_areAlike_115 (by decide) ?_
                      refine lv_iload_n hx hb dX9_areAlike_117 rfl (lv_at hl 4 rfl) ?_
                      refine r_imul (v := zI (20 * x)) F dX9_areAlike_118 (zI_mul _ _) ?_
                      refine lv_bipush (v := zI 14) hx hb dX9_areAlike_119 (by decide) ?_
                      refine r_iadd (v := zI ((20 * x) + 14)) F dX9_areAlike_121 (zI_add _ _) ?_
                      refine rz_iald F hK hP 1 0 rfl rfl (by omega) (by omega) dX9_areAlike_122 ?_
                      refine rz_top (fun z31 h_z31 => ?_)
                      refine rz_if_le (tgt := 130) F (by omega) dX9_areAlike_123 (by decide) (fun h123_31 => ?_) (fun h123_31 => ?_)
                      · refine lv_iconst (v := zI 0) hx hb dX9_areAlike_130 rfl ?_
                        exact j_131 0 _ _ (by omega) hP hD hS ls (lv_sub hl [0, 1, 2, 3, 4, 5] rfl)
                      · refine lv_iconst (v := zI 1) hx hb dX9_areAlike_126 rfl ?_
                        refine lv_goto (tgt := 131) hx hb dX9_areAlike_127 (by decide) ?_
                        exact j_131 1 _ _ (by omega) hP hD hS ls (lv_sub hl [0, 1, 2, 3, 4, 5] rfl)
                  · refine lv_aload_n hx hb dX9_areAlike_94 rfl (lv_at hl 3 rfl) ?_
                    refine lv_bipush (v := zI 20) hx hb dX9_areAlike_95 (by decide) ?_
                    refine lv_iload_n hx hb dX9_areAlike_97 rfl (lv_at hl 4 rfl) ?_
                    refine r_imul (v := zI (20 * x)) F dX9_areAlike_98 (zI_mul _ _) ?_
                    refine lv_bipush (v := zI 14) hx hb dX9_areAlike_99 (by decide) ?_
                    refine r_iadd (v := zI ((20 * x) + 14)) F dX9_areAlike_101 (zI_add _ _) ?_
                    refine rz_iald F hK hP 1 0 rfl rfl (by omega) (by omega) dX9_areAlike_102 ?_
                    refine rz_top (fun z33 h_z33 => ?_)
                    refine lv_iconst (v := zI 2) hx hb dX9_areAlike_103 rfl ?_
                    refine rz_icmp_eq (tgt := 126) F (by omega) (by omega) dX9_areAlike_104 (by decide) (fun h104_33 => ?_) (fun h104_33 => ?_)
                    · refine lv_iconst (v := zI 1) hx hb dX9_areAlike_126 rfl ?_
                      refine lv_goto (tgt := 131) hx hb dX9_areAlike_127 (by decide) ?_
                      exact j_131 1 _ _ (by omega) hP hD hS ls (lv_sub hl [0, 1, 2, 3, 4, 5] rfl)
                    · refine lv_iload hx hb dX9_areAlike_107 (lv_at hl 0 rfl) ?_
                      refine lv_bipush (v := zI 16) hx hb dX9_areAlike_109 (by decide) ?_
                      refine rz_icmp_ne (tgt := 130) F (by omega) (by omega) dX9_areAlike_111 (by decide) (fun h111_34 => ?_) (fun h111_34 => ?_)
                      · refine lv_iconst (v := zI 0) hx hb dX9_areAlike_130 rfl ?_
                        exact j_131 0 _ _ (by omega) hP hD hS ls (lv_sub hl [0, 1, 2, 3, 4, 5] rfl)
                      · refine lv_aload_n hx hb dX9_areAlike_114 rfl (lv_at hl 3 rfl) ?_
                        refine lv_bipush (v := zI 20) hx hb dX9_areAlike_115 (by decide) ?_
                        refine lv_iload_n hx hb dX9_areAlike_117 rfl (lv_at hl 4 rfl) ?_
                        refine r_imul (v := zI (20 * x)) F dX9_areAlike_118 (zI_mul _ _) ?_
                        refine lv_bipush (v := zI 14) hx hb dX9_areAlike_119 (by decide) ?_
                        refine r_iadd (v := zI ((20 * x) + 14)) F dX9_areAlike_121 (zI_add _ _) ?_
                        refine rz_iald F hK hP 1 0 rfl rfl (by omega) (by omega) dX9_areAlike_122 ?_
                        refine rz_top (fun z36 h_z36 => ?_)
                        refine rz_if_le (tgt := 130) F (by omega) dX9_areAlike_123 (by decide) (fun h123_36 => ?_) (fun h123_36 => ?_)
                        · refine lv_iconst (v := zI 0) hx hb dX9_areAlike_130 rfl ?_
                          exact j_131 0 _ _ (by omega) hP hD hS ls (lv_sub hl [0, 1, 2, 3, 4, 5] rfl)
                        · refine lv_iconst (v := zI 1) hx hb dX9_areAlike_126 rfl ?_
                          refine lv_goto (tgt := 131) hx hb dX9_areAlike_127 (by decide) ?_
                          exact j_131 1 _ _ (by omega) hP hD hS ls (lv_sub hl [0, 1, 2, 3, 4, 5] rfl)
            · refine lv_iload hx hb dX9_areAlike_48 (lv_at hl 0 rfl) ?_
              refine lv_iconst (v := zI 2) hx hb dX9_areAlike_50 rfl ?_
              refine r_isub (v := zI (v5 - 2)) F dX9_areAlike_51 (zI_sub _ _) ?_
              refine lv_iconst (v := zI 3) hx hb dX9_areAlike_52 rfl ?_
              refine rz_idiv F (by omega) (by omega) dX9_areAlike_53 (fun z38 h_z38 => ?_)
              refine lv_aload_n hx hb dX9_areAlike_54 rfl (lv_at hl 3 rfl) ?_
              refine lv_bipush (v := zI 20) hx hb dX9_areAlike_55 (by decide) ?_
              refine lv_iload_n hx hb dX9_areAlike_57 rfl (lv_at hl 4 rfl) ?_
              refine r_imul (v := zI (20 * x)) F dX9_areAlike_58 (zI_mul _ _) ?_
              refine lv_iconst (v := zI 1) hx hb dX9_areAlike_59 rfl ?_
              refine r_iadd (v := zI ((20 * x) + 1)) F dX9_areAlike_60 (zI_add _ _) ?_
              refine rz_iald F hK hP 1 0 rfl rfl (by omega) (by omega) dX9_areAlike_61 ?_
              refine rz_top (fun z39 h_z39 => ?_)
              refine rz_icmp_ge (tgt := 69) F (by omega) (by omega) dX9_areAlike_62 (by decide) (fun h62_39 => ?_) (fun h62_39 => ?_)
              · refine lv_iconst (v := zI 0) hx hb dX9_areAlike_69 rfl ?_
                refine lv_goto (tgt := 131) hx hb dX9_areAlike_70 (by decide) ?_
                exact j_131 0 _ _ (by omega) hP hD hS ls (lv_sub hl [0, 1, 2, 3, 4, 5] rfl)
              · refine lv_iconst (v := zI 1) hx hb dX9_areAlike_65 rfl ?_
                refine lv_goto (tgt := 131) hx hb dX9_areAlike_66 (by decide) ?_
                exact j_131 1 _ _ (by omega) hP hD hS ls (lv_sub hl [0, 1, 2, 3, 4, 5] rfl)
          · refine lv_iconst (v := zI 1) hx hb dX9_areAlike_37 rfl ?_
            refine lv_goto (tgt := 131) hx hb dX9_areAlike_38 (by decide) ?_
            exact j_131 1 _ _ (by omega) hP hD hS ls (lv_sub hl [0, 1, 2, 3, 4, 5] rfl)
    · refine lv_iconst (v := zI 0) hx hb dX9_areAlike_16 rfl ?_
      exact ret (zI 0) (fun k => [((fun _ => 0), fun _ _ => 0)].getD k (fun _ => 0, fun _ _ => 0)) _ _ _ _ _ _ rfl ⟨0, rfl, ⟨(show 0 ≤ (0 : Int) ∧ (0 : Int) ≤ 1 from by omega), (show Imp ((0 : Int) = 1) (g_p (20 * x + 0).toNat = 1 ∧ g_p (20 * w + 0).toNat = 1) from fun q9 => by omega)⟩⟩ (bw_subP (isC := [0, 1]) hP rfl) (hD.sub [0, 1] (by decide) rfl) hS (Nat.le_of_ble_eq_true rfl) (Nat.le_of_ble_eq_true rfl) dX9_areAlike_17
theorem dX9_arePair_0 : decode cX9_arePair 0 = .ok (.aload_n 0, 1) := bo_42 (by decide +kernel)
theorem dX9_arePair_1 : decode cX9_arePair 1 = .ok (.getfield 222, 3) := bo_180 0 222 (by decide +kernel)
theorem dX9_arePair_4 : decode cX9_arePair 4 = .ok (.ifCond .eq 40, 3) := bo_153 0 40 (by decide +kernel)
theorem dX9_arePair_44 : decode cX9_arePair 44 = .ok (.iconst 0, 1) := bo_3 (by decide +kernel)
theorem dX9_arePair_45 : decode cX9_arePair 45 = .ok (.ireturn, 1) := bo_172 (by decide +kernel)
theorem dX9_arePair_7 : decode cX9_arePair 7 = .ok (.iload_n 1, 1) := bo_27 (by decide +kernel)
theorem dX9_arePair_8 : decode cX9_arePair 8 = .ok (.iconst 0, 1) := bo_3 (by decide +kernel)
theorem dX9_arePair_9 : decode cX9_arePair 9 = .ok (.aload_n 0, 1) := bo_42 (by decide +kernel)
theorem dX9_arePair_10 : decode cX9_arePair 10 = .ok (.getfield 213, 3) := bo_180 0 213 (by decide +kernel)
theorem dX9_arePair_13 : decode cX9_arePair 13 = .ok (.iconst 1, 1) := bo_4 (by decide +kernel)
theorem dX9_arePair_14 : decode cX9_arePair 14 = .ok (.isub, 1) := bo_100 (by decide +kernel)
theorem dX9_arePair_15 : decode cX9_arePair 15 = .ok (.invokestatic 146, 3) := bo_184 0 146 (by decide +kernel)
theorem dX9_arePair_18 : decode cX9_arePair 18 = .ok (.ifCond .eq 26, 3) := bo_153 0 26 (by decide +kernel)
theorem dX9_arePair_21 : decode cX9_arePair 21 = .ok (.iload_n 2, 1) := bo_28 (by decide +kernel)
theorem dX9_arePair_22 : decode cX9_arePair 22 = .ok (.iconst 0, 1) := bo_3 (by decide +kernel)
theorem dX9_arePair_23 : decode cX9_arePair 23 = .ok (.aload_n 0, 1) := bo_42 (by decide +kernel)
theorem dX9_arePair_24 : decode cX9_arePair 24 = .ok (.getfield 213, 3) := bo_180 0 213 (by decide +kernel)
theorem dX9_arePair_27 : decode cX9_arePair 27 = .ok (.iconst 1, 1) := bo_4 (by decide +kernel)
theorem dX9_arePair_28 : decode cX9_arePair 28 = .ok (.isub, 1) := bo_100 (by decide +kernel)
theorem dX9_arePair_29 : decode cX9_arePair 29 = .ok (.invokestatic 146, 3) := bo_184 0 146 (by decide +kernel)
theorem dX9_arePair_32 : decode cX9_arePair 32 = .ok (.ifCond .eq 12, 3) := bo_153 0 12 (by decide +kernel)
theorem dX9_arePair_35 : decode cX9_arePair 35 = .ok (.iload_n 1, 1) := bo_27 (by decide +kernel)
theorem dX9_arePair_36 : decode cX9_arePair 36 = .ok (.iload_n 2, 1) := bo_28 (by decide +kernel)
theorem dX9_arePair_37 : decode cX9_arePair 37 = .ok (.if_icmp .ge 7, 3) := bo_162 0 7 (by decide +kernel)
theorem dX9_arePair_40 : decode cX9_arePair 40 = .ok (.iconst 1, 1) := bo_4 (by decide +kernel)
theorem dX9_arePair_41 : decode cX9_arePair 41 = .ok (.goto 4, 3) := bo_167 0 4 (by decide +kernel)
abbrev rm_X9_arePair : Room := { frames := 1, cells := 0, slots := 0, locals := 22 }
set_option maxRecDepth 100000 in
set_option maxHeartbeats 8000000 in
theorem c_X9_arePair {l : Launch} {E : (Nat → Prop) → State → Prop} (hO : bw_Ok E) {G : va_G} {cI cB cJ cN cW : ClassId} (y : Nat) (q : Nat → Nat) (i : Nat → Int) (hM : ModOk i) (x : Int) (w : Int) (hx9 : zR x) (hw9 : zR w)  : bw_Ci (S := zV) l yX9_arePair (bw_ws (Cond.code yX9_arePair cX9_arePair 3 (some .boolean))) rm_X9_arePair E G (bw_kt cI cB cJ cN cW) [.ref y, .int (zI x), .int (zI w)] [(y, .inr (9, [.int (zI (i 0)), .ref (q 0), .int (zI (i 1)), .int (zI (i 2)), .int (zI (i 3)), .int (zI (i 4)), .int (zI (i 5)), .int (zI (i 6)), .int (zI (i 7)), .int (zI (i 8)), .int (zI (i 9)), .int (zI (i 10)), .ref (q 1), .int (zI (i 11)), .int (zI (i 12)), .ref (q 2), .ref (q 3), .ref (q 4), .ref (q 5), .ref (q 6), .ref (q 7), .ref (q 8), .ref (q 9), .ref (q 10), .ref (q 11), .ref (q 12), .ref (q 13), .ref (q 14), .ref (q 15), .ref (q 16), .int (zI (i 13)), .int (zI (i 14)), .int (zI (i 15)), .int (zI (i 16)), .int (zI (i 17)), .int (zI (i 18)), .ref (q 17), .ref (q 18), .ref (q 19), .ref (q 20)]))] (fun r u => ∃ z : Int, r = zI z ∧ ((0 ≤ z ∧ z ≤ 1) ∧ Imp (z = 1) (i 12 = 1 ∧ 0 ≤ x ∧ x < w ∧ w < i 13))) (fun u => [(y, .inr (9, [.int (zI (i 0)), .ref (q 0), .int (zI (i 1)), .int (zI (i 2)), .int (zI (i 3)), .int (zI (i 4)), .int (zI (i 5)), .int (zI (i 6)), .int (zI (i 7)), .int (zI (i 8)), .int (zI (i 9)), .int (zI (i 10)), .ref (q 1), .int (zI (i 11)), .int (zI (i 12)), .ref (q 2), .ref (q 3), .ref (q 4), .ref (q 5), .ref (q 6), .ref (q 7), .ref (q 8), .ref (q 9), .ref (q 10), .ref (q 11), .ref (q 12), .ref (q 13), .ref (q 14), .ref (q 15), .ref (q 16), .int (zI (i 13)), .int (zI (i 14)), .int (zI (i 15)), .int (zI (i 16)), .int (zI (i 17)), .int (zI (i 18)), .ref (q 17), .ref (q 18), .ref (q 19), .ref (q 20)]))]) := by
  refine bw_Ci.of (cc := cX9_arePair) (maxL := 3) (ty := .boolean) (by decide) rfl (Nat.le_of_ble_eq_true rfl) ?_
  intro p e s m below meth c A Q hx hb hml hts hown hin hK hA hS hP hD hE ret ls hl
  have F : CallFix p m c cX9_arePair 3 s ([.ref y, .int (zI x), .int (zI w)] : List Value).toArray bw_T RX9 := ⟨hx, hb, hml, hown, fun w h => hts w (List.mem_cons_of_mem _ h)⟩
  replace hl : lv_has ls 3 [(0, .ref y), (1, .int (zI x)), (2, .int (zI w))] := hl
  have hf1 := hM.1
  refine lv_aload_n hx hb dX9_arePair_0 rfl (lv_at hl 0 rfl) ?_
  refine r_get F hK hP 0 14 rfl rfl in_X9 (by decide) k_1177 rfl dX9_arePair_1 ?_
  refine rz_ifb_eq (tgt := 44) F (by omega) dX9_arePair_4 (by decide) (fun h4_1 => ?_) (fun h4_1 => ?_)
  · refine lv_iconst (v := zI 0) hx hb dX9_arePair_44 rfl ?_
    exact ret (zI 0) (fun k => [((fun _ => 0), fun _ _ => 0)].getD k (fun _ => 0, fun _ _ => 0)) _ _ _ _ _ _ rfl ⟨0, rfl, ⟨(show 0 ≤ (0 : Int) ∧ (0 : Int) ≤ 1 from by omega), (show Imp ((0 : Int) = 1) (i 12 = 1 ∧ 0 ≤ x ∧ x < w ∧ w < i 13) from fun q9 => by omega)⟩⟩ (bw_subP (isC := [0]) hP rfl) (hD.sub [0] (by decide) rfl) hS (Nat.le_of_ble_eq_true rfl) (Nat.le_of_ble_eq_true rfl) dX9_arePair_45
  · refine lv_iload_n hx hb dX9_arePair_7 rfl (lv_at hl 1 rfl) ?_
    refine lv_iconst (v := zI 0) hx hb dX9_arePair_8 rfl ?_
    refine lv_aload_n hx hb dX9_arePair_9 rfl (lv_at hl 0 rfl) ?_
    refine r_get F hK hP 0 30 rfl rfl in_X9 (by decide) k_1193 rfl dX9_arePair_10 ?_
    refine lv_iconst (v := zI 1) hx hb dX9_arePair_13 rfl ?_
    refine r_isub (v := zI ((i 13) - 1)) F dX9_arePair_14 (zI_sub _ _) ?_
    refine r_callSi (As := [.int (zI x), .int (zI 0), .int (zI ((i 13) - 1))]) (rest := []) (wr := [(y, .inr (9, [.int (zI (i 0)), .ref (q 0), .int (zI (i 1)), .int (zI (i 2)), .int (zI (i 3)), .int (zI (i 4)), .int (zI (i 5)), .int (zI (i 6)), .int (zI (i 7)), .int (zI (i 8)), .int (zI (i 9)), .int (zI (i 10)), .ref (q 1), .int (zI (i 11)), .int (zI (i 12)), .ref (q 2), .ref (q 3), .ref (q 4), .ref (q 5), .ref (q 6), .ref (q 7), .ref (q 8), .ref (q 9), .ref (q 10), .ref (q 11), .ref (q 12), .ref (q 13), .ref (q 14), .ref (q 15), .ref (q 16), .int (zI (i 13)), .int (zI (i 14)), .int (zI (i 15)), .int (zI (i 16)), .int (zI (i 17)), .int (zI (i 18)), .ref (q 17), .ref (q 18), .ref (q 19), .ref (q 20)]))]) F hK hP hD hS hA hO hE (c_X9_within hO x 0 ((i 13) - 1) (by omega) (by omega) (by omega)) k_1300 ks_X9_within 3 rfl (by decide +kernel) ⟨Nat.le_of_ble_eq_true rfl, Nat.le_of_ble_eq_true rfl⟩ [] [0] rfl rfl (by decide) (by decide) (by decide) hl.1 rfl (Nat.le_of_ble_eq_true rfl) dX9_arePair_15 ⟨Nat.le_of_ble_eq_true rfl, Nat.le_of_ble_eq_true rfl⟩ (w1 := fun u3 => [(y, .inr (9, [.int (zI (i 0)), .ref (q 0), .int (zI (i 1)), .int (zI (i 2)), .int (zI (i 3)), .int (zI (i 4)), .int (zI (i 5)), .int (zI (i 6)), .int (zI (i 7)), .int (zI (i 8)), .int (zI (i 9)), .int (zI (i 10)), .ref (q 1), .int (zI (i 11)), .int (zI (i 12)), .ref (q 2), .ref (q 3), .ref (q 4), .ref (q 5), .ref (q 6), .ref (q 7), .ref (q 8), .ref (q 9), .ref (q 10), .ref (q 11), .ref (q 12), .ref (q 13), .ref (q 14), .ref (q 15), .ref (q 16), .int (zI (i 13)), .int (zI (i 14)), .int (zI (i 15)), .int (zI (i 16)), .int (zI (i 17)), .int (zI (i 18)), .ref (q 17), .ref (q 18), .ref (q 19), .ref (q 20)]))]) (fun _ => rfl) (fun r4 u3 H locs hp5 hP hD hS => ?_)
    obtain ⟨z6, rfl, h_z6⟩ := hp5
    refine rz_ifb_eq (tgt := 44) F (by omega) dX9_arePair_18 (by decide) (fun h18_6 => ?_) (fun h18_6 => ?_)
    · have hq8 := h_z6.2.2 (by omega)
      refine lv_iconst (v := zI 0) hx hb dX9_arePair_44 rfl ?_
      exact ret (zI 0) (fun k => [((fun _ => 0), fun _ _ => 0)].getD k (fun _ => 0, fun _ _ => 0)) _ _ _ _ _ _ rfl ⟨0, rfl, ⟨(show 0 ≤ (0 : Int) ∧ (0 : Int) ≤ 1 from by omega), (show Imp ((0 : Int) = 1) (i 12 = 1 ∧ 0 ≤ x ∧ x < w ∧ w < i 13) from fun q9 => by omega)⟩⟩ (bw_subP (isC := [0]) hP rfl) (hD.sub [0] (by decide) rfl) hS (Nat.le_of_ble_eq_true rfl) (Nat.le_of_ble_eq_true rfl) dX9_arePair_45
    · have hq9 := h_z6.2.1 (by omega)
      refine lv_iload_n hx hb dX9_arePair_21 rfl (lv_at hl 2 rfl) ?_
      refine lv_iconst (v := zI 0) hx hb dX9_arePair_22 rfl ?_
      refine lv_aload_n hx hb dX9_arePair_23 rfl (lv_at hl 0 rfl) ?_
      refine r_get F hK hP 0 30 rfl rfl in_X9 (by decide) k_1193 rfl dX9_arePair_24 ?_
      refine lv_iconst (v := zI 1) hx hb dX9_arePair_27 rfl ?_
      refine r_isub (v := zI ((i 13) - 1)) F dX9_arePair_28 (zI_sub _ _) ?_
      refine r_callSi (As := [.int (zI w), .int (zI 0), .int (zI ((i 13) - 1))]) (rest := []) (wr := [(y, .inr (9, [.int (zI (i 0)), .ref (q 0), .int (zI (i 1)), .int (zI (i 2)), .int (zI (i 3)), .int (zI (i 4)), .int (zI (i 5)), .int (zI (i 6)), .int (zI (i 7)), .int (zI (i 8)), .int (zI (i 9)), .int (zI (i 10)), .ref (q 1), .int (zI (i 11)), .int (zI (i 12)), .ref (q 2), .ref (q 3), .ref (q 4), .ref (q 5), .ref (q 6), .ref (q 7), .ref (q 8), .ref (q 9), .ref (q 10), .ref (q 11), .ref (q 12), .ref (q 13), .ref (q 14), .ref (q 15), .ref (q 16), .int (zI (i 13)), .int (zI (i 14)), .int (zI (i 15)), .int (zI (i 16)), .int (zI (i 17)), .int (zI (i 18)), .ref (q 17), .ref (q 18), .ref (q 19), .ref (q 20)]))]) F hK hP hD hS hA hO hE (c_X9_within hO w 0 ((i 13) - 1) (by omega) (by omega) (by omega)) k_1300 ks_X9_within 3 rfl (by decide +kernel) ⟨Nat.le_of_ble_eq_true rfl, Nat.le_of_ble_eq_true rfl⟩ [] [0] rfl rfl (by decide) (by decide) (by decide) hl.1 rfl (Nat.le_of_ble_eq_true rfl) dX9_arePair_29 ⟨Nat.le_of_ble_eq_true rfl, Nat.le_of_ble_eq_true rfl⟩ (w1 := fun u10 => [(y, .inr (9, [.int (zI (i 0)), .ref (q 0), .int (zI (i 1)), .int (zI (i 2)), .int (zI (i 3)), .int (zI (i 4)), .int (zI (i 5)), .int (zI (i 6)), .int (zI (i 7)), .int (zI (i 8)), .int (zI (i 9)), .int (zI (i 10)), .ref (q 1), .int (zI (i 11)), .int (zI (i 12)), .ref (q 2), .ref (q 3), .ref (q 4), .ref (q 5), .ref (q 6), .ref (q 7), .ref (q 8), .ref (q 9), .ref (q 10), .ref (q 11), .ref (q 12), .ref (q 13), .ref (q 14), .ref (q 15), .ref (q 16), .int (zI (i 13)), .int (zI (i 14)), .int (zI (i 15)), .int (zI (i 16)), .int (zI (i 17)), .int (zI (i 18)), .ref (q 17), .ref (q 18), .ref (q 19), .ref (q 20)]))]) (fun _ => rfl) (fun r11 u10 H locs hp12 hP hD hS => ?_)
      obtain ⟨z13, rfl, h_z13⟩ := hp12
      refine rz_ifb_eq (tgt := 44) F (by omega) dX9_arePair_32 (by decide) (fun h32_13 => ?_) (fun h32_13 => ?_)
      · have hq15 := h_z13.2.2 (by omega)
        refine lv_iconst (v := zI 0) hx hb dX9_arePair_44 rfl ?_
        exact ret (zI 0) (fun k => [((fun _ => 0), fun _ _ => 0)].getD k (fun _ => 0, fun _ _ => 0)) _ _ _ _ _ _ rfl ⟨0, rfl, ⟨(show 0 ≤ (0 : Int) ∧ (0 : Int) ≤ 1 from by omega), (show Imp ((0 : Int) = 1) (i 12 = 1 ∧ 0 ≤ x ∧ x < w ∧ w < i 13) from fun q9 => by omega)⟩⟩ (bw_subP (isC := [0]) hP rfl) (hD.sub [0] (by decide) rfl) hS (Nat.le_of_ble_eq_true rfl) (Nat.le_of_ble_eq_true rfl) dX9_arePair_45
      · have hq16 := h_z13.2.1 (by omega)
        refine lv_iload_n hx hb dX9_arePair_35 rfl (lv_at hl 1 rfl) ?_
        refine lv_iload_n hx hb dX9_arePair_36 rfl (lv_at hl 2 rfl) ?_
        refine rz_icmp_ge (tgt := 44) F (by omega) (by omega) dX9_arePair_37 (by decide) (fun h37_16 => ?_) (fun h37_16 => ?_)
        · refine lv_iconst (v := zI 0) hx hb dX9_arePair_44 rfl ?_
          exact ret (zI 0) (fun k => [((fun _ => 0), fun _ _ => 0)].getD k (fun _ => 0, fun _ _ => 0)) _ _ _ _ _ _ rfl ⟨0, rfl, ⟨(show 0 ≤ (0 : Int) ∧ (0 : Int) ≤ 1 from by omega), (show Imp ((0 : Int) = 1) (i 12 = 1 ∧ 0 ≤ x ∧ x < w ∧ w < i 13) from fun q9 => by omega)⟩⟩ (bw_subP (isC := [0]) hP rfl) (hD.sub [0] (by decide) rfl) hS (Nat.le_of_ble_eq_true rfl) (Nat.le_of_ble_eq_true rfl) dX9_arePair_45
        · refine lv_iconst (v := zI 1) hx hb dX9_arePair_40 rfl ?_
          refine lv_goto (tgt := 45) hx hb dX9_arePair_41 (by decide) ?_
          exact ret (zI 1) (fun k => [((fun _ => 0), fun _ _ => 0)].getD k (fun _ => 0, fun _ _ => 0)) _ _ _ _ _ _ rfl ⟨1, rfl, ⟨(show 0 ≤ (1 : Int) ∧ (1 : Int) ≤ 1 from by omega), (show Imp ((1 : Int) = 1) (i 12 = 1 ∧ 0 ≤ x ∧ x < w ∧ w < i 13) from fun q9 => by omega)⟩⟩ (bw_subP (isC := [0]) hP rfl) (hD.sub [0] (by decide) rfl) hS (Nat.le_of_ble_eq_true rfl) (Nat.le_of_ble_eq_true rfl) dX9_arePair_45
theorem dX9_alike_0 : decode cX9_alike 0 = .ok (.aload_n 0, 1) := bo_42 (by decide +kernel)
theorem dX9_alike_1 : decode cX9_alike 1 = .ok (.invokevirtual 197, 3) := bo_182 0 197 (by decide +kernel)
theorem dX9_alike_4 : decode cX9_alike 4 = .ok (.aload_n 0, 1) := bo_42 (by decide +kernel)
theorem dX9_alike_5 : decode cX9_alike 5 = .ok (.iload_n 1, 1) := bo_27 (by decide +kernel)
theorem dX9_alike_6 : decode cX9_alike 6 = .ok (.iload_n 2, 1) := bo_28 (by decide +kernel)
theorem dX9_alike_7 : decode cX9_alike 7 = .ok (.invokevirtual 358, 3) := bo_182 1 102 (by decide +kernel)
theorem k_1653 : Cond.methodLink RX9 358 yX9_arePair ∈ bw_T := bw_m 1653 (by decide +kernel) rfl
theorem kv_X9_arePair : bw_KV RX9 yX9_arePair (Cond.code yX9_arePair cX9_arePair 3 (some .boolean)) := ⟨bw_m 1655 (by decide +kernel) rfl, bw_m 84 (by decide +kernel) rfl, bw_m 107 (by decide +kernel) rfl, bw_m 1656 (by decide +kernel) rfl⟩
theorem dX9_alike_10 : decode cX9_alike 10 = .ok (.ifCond .eq 24, 3) := bo_153 0 24 (by decide +kernel)
theorem dX9_alike_34 : decode cX9_alike 34 = .ok (.aload_n 0, 1) := bo_42 (by decide +kernel)
theorem dX9_alike_35 : decode cX9_alike 35 = .ok (.iconst 1, 1) := bo_4 (by decide +kernel)
theorem dX9_alike_36 : decode cX9_alike 36 = .ok (.invokevirtual 200, 3) := bo_182 0 200 (by decide +kernel)
theorem dX9_alike_39 : decode cX9_alike 39 = .ok (.ireturn, 1) := bo_172 (by decide +kernel)
theorem dX9_alike_13 : decode cX9_alike 13 = .ok (.aload_n 0, 1) := bo_42 (by decide +kernel)
theorem dX9_alike_14 : decode cX9_alike 14 = .ok (.aload_n 0, 1) := bo_42 (by decide +kernel)
theorem dX9_alike_15 : decode cX9_alike 15 = .ok (.getfield 23, 3) := bo_180 0 23 (by decide +kernel)
theorem dX9_alike_18 : decode cX9_alike 18 = .ok (.iload_n 1, 1) := bo_27 (by decide +kernel)
theorem dX9_alike_19 : decode cX9_alike 19 = .ok (.iload_n 2, 1) := bo_28 (by decide +kernel)
theorem dX9_alike_20 : decode cX9_alike 20 = .ok (.invokevirtual 361, 3) := bo_182 1 105 (by decide +kernel)
theorem k_1657 : Cond.methodLink RX9 361 yX9_areAlike ∈ bw_T := bw_m 1657 (by decide +kernel) rfl
theorem kv_X9_areAlike : bw_KV RX9 yX9_areAlike (Cond.code yX9_areAlike cX9_areAlike 7 (some .boolean)) := ⟨bw_m 1659 (by decide +kernel) rfl, bw_m 85 (by decide +kernel) rfl, bw_m 107 (by decide +kernel) rfl, bw_m 1660 (by decide +kernel) rfl⟩
theorem dX9_alike_23 : decode cX9_alike 23 = .ok (.ifCond .eq 7, 3) := bo_153 0 7 (by decide +kernel)
theorem dX9_alike_30 : decode cX9_alike 30 = .ok (.iconst 0, 1) := bo_3 (by decide +kernel)
theorem dX9_alike_31 : decode cX9_alike 31 = .ok (.goto 8, 3) := bo_167 0 8 (by decide +kernel)
theorem dX9_alike_26 : decode cX9_alike 26 = .ok (.iconst 1, 1) := bo_4 (by decide +kernel)
theorem dX9_alike_27 : decode cX9_alike 27 = .ok (.goto 12, 3) := bo_167 0 12 (by decide +kernel)
abbrev rm_X9_alike : Room := { frames := 2, cells := 0, slots := 0, locals := 47 }
set_option maxRecDepth 100000 in
set_option maxHeartbeats 8000000 in
theorem c_X9_alike {l : Launch} {E : (Nat → Prop) → State → Prop} (hO : bw_Ok E) {G : va_G} {cI cB cJ cN cW : ClassId} (y : Nat) (q : Nat → Nat) (i : Nat → Int) (hM : ModOk i) (g_now : Nat → Int) (x : Int) (w : Int) (hx9 : zR x) (hw9 : zR w) (hpn : ProgOk g_now) : bw_Ci (S := zV) l yX9_alike (bw_ws (Cond.code yX9_alike cX9_alike 3 (some .int))) rm_X9_alike E G (bw_kt cI cB cJ cN cW) [.ref y, .int (zI x), .int (zI w)] [(y, .inr (9, [.int (zI (i 0)), .ref (q 0), .int (zI (i 1)), .int (zI (i 2)), .int (zI (i 3)), .int (zI (i 4)), .int (zI (i 5)), .int (zI (i 6)), .int (zI (i 7)), .int (zI (i 8)), .int (zI (i 9)), .int (zI (i 10)), .ref (q 1), .int (zI (i 11)), .int (zI (i 12)), .ref (q 2), .ref (q 3), .ref (q 4), .ref (q 5), .ref (q 6), .ref (q 7), .ref (q 8), .ref (q 9), .ref (q 10), .ref (q 11), .ref (q 12), .ref (q 13), .ref (q 14), .ref (q 15), .ref (q 16), .int (zI (i 13)), .int (zI (i 14)), .int (zI (i 15)), .int (zI (i 16)), .int (zI (i 17)), .int (zI (i 18)), .ref (q 17), .ref (q 18), .ref (q 19), .ref (q 20)])), ((q 3), .inl (cI, 200, .inl (fun k => zI (g_now k))))] (fun r u => ∃ z : Int, r = zI z ∧ (ModOk (u 0).1) ∧ (((u 0).1 1 = i 1 ∧ (u 0).1 8 = i 8 ∧ (u 0).1 9 = i 9 ∧ (u 0).1 12 = i 12 ∧ (u 0).1 13 = i 13 ∧ (u 0).1 15 = i 15 ∧ (u 0).1 17 = i 17 ∧ (u 0).1 10 ≠ 4))) (fun u => [(y, .inr (9, [.int (zI ((u 0).1 0)), .ref (q 0), .int (zI ((u 0).1 1)), .int (zI ((u 0).1 2)), .int (zI ((u 0).1 3)), .int (zI ((u 0).1 4)), .int (zI ((u 0).1 5)), .int (zI ((u 0).1 6)), .int (zI ((u 0).1 7)), .int (zI ((u 0).1 8)), .int (zI ((u 0).1 9)), .int (zI ((u 0).1 10)), .ref (q 1), .int (zI ((u 0).1 11)), .int (zI ((u 0).1 12)), .ref (q 2), .ref (q 3), .ref (q 4), .ref (q 5), .ref (q 6), .ref (q 7), .ref (q 8), .ref (q 9), .ref (q 10), .ref (q 11), .ref (q 12), .ref (q 13), .ref (q 14), .ref (q 15), .ref (q 16), .int (zI ((u 0).1 13)), .int (zI ((u 0).1 14)), .int (zI ((u 0).1 15)), .int (zI ((u 0).1 16)), .int (zI ((u 0).1 17)), .int (zI ((u 0).1 18)), .ref (q 17), .ref (q 18), .ref (q 19), .ref (q 20)])), ((q 3), .inl (cI, 200, .inl (fun k => zI (g_now k))))]) := by
  refine bw_Ci.of (cc := cX9_alike) (maxL := 3) (ty := .int) (by decide) rfl (Nat.le_of_ble_eq_true rfl) ?_
  intro p e s m below meth c A Q hx hb hml hts hown hin hK hA hS hP hD hE ret ls hl
  have F : CallFix p m c cX9_alike 3 s ([.ref y, .int (zI x), .int (zI w)] : List Value).toArray bw_T RX9 := ⟨hx, hb, hml, hown, fun w h => hts w (List.mem_cons_of_mem _ h)⟩
  replace hl : lv_has ls 3 [(0, .ref y), (1, .int (zI x)), (2, .int (zI w))] := hl
  have hf1 := hM.1
  refine lv_aload_n hx hb dX9_alike_0 rfl (lv_at hl 0 rfl) ?_
  refine r_callVv (As := []) (rest := []) (wr := [((q 3), .inl (cI, 200, .inl (fun k => zI (g_now k))))]) F hK hP hD hS hA hO hE (c_X9_good hO y q i hM) k_1296 kv_X9_good 0 rfl (by decide +kernel) ⟨Nat.le_of_ble_eq_true rfl, Nat.le_of_ble_eq_true rfl⟩ [0] [1] rfl rfl (by decide) (by decide) (by decide) 0 9 rfl rfl rfl hl.1 rfl (Nat.le_of_ble_eq_true rfl) dX9_alike_1 ⟨Nat.le_of_ble_eq_true rfl, Nat.le_of_ble_eq_true rfl⟩ (w1 := fun u2 => [((q 3), .inl (cI, 200, .inl (fun k => zI (g_now k)))), (y, .inr (9, [.int (zI ((u2 0).1 0)), .ref (q 0), .int (zI ((u2 0).1 1)), .int (zI ((u2 0).1 2)), .int (zI ((u2 0).1 3)), .int (zI ((u2 0).1 4)), .int (zI ((u2 0).1 5)), .int (zI ((u2 0).1 6)), .int (zI ((u2 0).1 7)), .int (zI ((u2 0).1 8)), .int (zI ((u2 0).1 9)), .int (zI ((u2 0).1 10)), .ref (q 1), .int (zI ((u2 0).1 11)), .int (zI ((u2 0).1 12)), .ref (q 2), .ref (q 3), .ref (q 4), .ref (q 5), .ref (q 6), .ref (q 7), .ref (q 8), .ref (q 9), .ref (q 10), .ref (q 11), .ref (q 12), .ref (q 13), .ref (q 14), .ref (q 15), .ref (q 16), .int (zI ((u2 0).1 13)), .int (zI ((u2 0).1 14)), .int (zI ((u2 0).1 15)), .int (zI ((u2 0).1 16)), .int (zI ((u2 0).1 17)), .int (zI ((u2 0).1 18)), .ref (q 17), .ref (q 18), .ref (q 19), .ref (q 20)]))]) (fun _ => rfl) (fun  u2 H locs hp3 hP hD hS => ?_)
  have hf4 := hp3.1.1
  refine lv_aload_n hx hb dX9_alike_4 rfl (lv_at hl 0 rfl) ?_
  refine lv_iload_n hx hb dX9_alike_5 rfl (lv_at hl 1 rfl) ?_
  refine lv_iload_n hx hb dX9_alike_6 rfl (lv_at hl 2 rfl) ?_
  refine r_callVi (As := [.int (zI x), .int (zI w)]) (rest := []) (wr := [((q 3), .inl (cI, 200, .inl (fun k => zI (g_now k))))]) F hK hP hD hS hA hO hE (c_X9_arePair hO y q ((u2 0).1) hp3.1 x w (by omega) (by omega)) k_1653 kv_X9_arePair 2 rfl (by decide +kernel) ⟨Nat.le_of_ble_eq_true rfl, Nat.le_of_ble_eq_true rfl⟩ [1] [0] rfl rfl (by decide) (by decide) (by decide) 0 9 rfl rfl rfl hl.1 rfl (Nat.le_of_ble_eq_true rfl) dX9_alike_7 ⟨Nat.le_of_ble_eq_true rfl, Nat.le_of_ble_eq_true rfl⟩ (w1 := fun u5 => [((q 3), .inl (cI, 200, .inl (fun k => zI (g_now k)))), (y, .inr (9, [.int (zI ((u2 0).1 0)), .ref (q 0), .int (zI ((u2 0).1 1)), .int (zI ((u2 0).1 2)), .int (zI ((u2 0).1 3)), .int (zI ((u2 0).1 4)), .int (zI ((u2 0).1 5)), .int (zI ((u2 0).1 6)), .int (zI ((u2 0).1 7)), .int (zI ((u2 0).1 8)), .int (zI ((u2 0).1 9)), .int (zI ((u2 0).1 10)), .ref (q 1), .int (zI ((u2 0).1 11)), .int (zI ((u2 0).1 12)), .ref (q 2), .ref (q 3), .ref (q 4), .ref (q 5), .ref (q 6), .ref (q 7), .ref (q 8), .ref (q 9), .ref (q 10), .ref (q 11), .ref (q 12), .ref (q 13), .ref (q 14), .ref (q 15), .ref (q 16), .int (zI ((u2 0).1 13)), .int (zI ((u2 0).1 14)), .int (zI ((u2 0).1 15)), .int (zI ((u2 0).1 16)), .int (zI ((u2 0).1 17)), .int (zI ((u2 0).1 18)), .ref (q 17), .ref (q 18), .ref (q 19), .ref (q 20)]))]) (fun _ => rfl) (fun r6 u5 H locs hp7 hP hD hS => ?_)
  obtain ⟨z8, rfl, h_z8⟩ := hp7
  refine rz_ifb_eq (tgt := 34) F (by omega) dX9_alike_10 (by decide) (fun h10_8 => ?_) (fun h10_8 => ?_)
  · refine lv_aload_n hx hb dX9_alike_34 rfl (lv_at hl 0 rfl) ?_
    refine lv_iconst (v := zI 1) hx hb dX9_alike_35 rfl ?_
    refine r_callVi (As := [.int (zI 1)]) (rest := []) (wr := [((q 3), .inl (cI, 200, .inl (fun k => zI (g_now k))))]) F hK hP hD hS hA hO hE (c_X9_no hO y q ((u2 0).1) hp3.1 1 (by omega) (by omega)) k_1303 kv_X9_no 1 rfl (by decide +kernel) ⟨Nat.le_of_ble_eq_true rfl, Nat.le_of_ble_eq_true rfl⟩ [1] [0] rfl rfl (by decide) (by decide) (by decide) 0 9 rfl rfl rfl hl.1 rfl (Nat.le_of_ble_eq_true rfl) dX9_alike_36 ⟨Nat.le_of_ble_eq_true rfl, Nat.le_of_ble_eq_true rfl⟩ (w1 := fun u10 => [((q 3), .inl (cI, 200, .inl (fun k => zI (g_now k)))), (y, .inr (9, [.int (zI ((u10 0).1 0)), .ref (q 0), .int (zI ((u10 0).1 1)), .int (zI ((u10 0).1 2)), .int (zI ((u10 0).1 3)), .int (zI ((u10 0).1 4)), .int (zI ((u10 0).1 5)), .int (zI ((u10 0).1 6)), .int (zI ((u10 0).1 7)), .int (zI ((u10 0).1 8)), .int (zI ((u10 0).1 9)), .int (zI ((u10 0).1 10)), .ref (q 1), .int (zI ((u10 0).1 11)), .int (zI ((u10 0).1 12)), .ref (q 2), .ref (q 3), .ref (q 4), .ref (q 5), .ref (q 6), .ref (q 7), .ref (q 8), .ref (q 9), .ref (q 10), .ref (q 11), .ref (q 12), .ref (q 13), .ref (q 14), .ref (q 15), .ref (q 16), .int (zI ((u10 0).1 13)), .int (zI ((u10 0).1 14)), .int (zI ((u10 0).1 15)), .int (zI ((u10 0).1 16)), .int (zI ((u10 0).1 17)), .int (zI ((u10 0).1 18)), .ref (q 17), .ref (q 18), .ref (q 19), .ref (q 20)]))]) (fun _ => rfl) (fun r11 u10 H locs hp12 hP hD hS => ?_)
    obtain ⟨z13, rfl, h_z13⟩ := hp12
    have hf14 := h_z13.1.1
    exact ret (zI z13) (fun k => [((u10 0).1, fun _ _ => 0)].getD k (fun _ => 0, fun _ _ => 0)) _ _ _ _ _ _ rfl ⟨z13, rfl, h_z13.1, (show ((u10 0).1) 1 = i 1 ∧ ((u10 0).1) 8 = i 8 ∧ ((u10 0).1) 9 = i 9 ∧ ((u10 0).1) 12 = i 12 ∧ ((u10 0).1) 13 = i 13 ∧ ((u10 0).1) 15 = i 15 ∧ ((u10 0).1) 17 = i 17 ∧ ((u10 0).1) 10 ≠ 4 from by omega)⟩ (bw_subP (isC := [1, 0]) hP rfl) (hD.sub [1, 0] (by decide) rfl) hS (Nat.le_of_ble_eq_true rfl) (Nat.le_of_ble_eq_true rfl) dX9_alike_39
  · have hq15 := h_z8.2 (by omega)
    refine lv_aload_n hx hb dX9_alike_13 rfl (lv_at hl 0 rfl) ?_
    refine lv_aload_n hx hb dX9_alike_14 rfl (lv_at hl 0 rfl) ?_
    refine r_get F hK hP 1 16 rfl rfl in_X9 (by decide) k_1179 rfl dX9_alike_15 ?_
    refine lv_iload_n hx hb dX9_alike_18 rfl (lv_at hl 1 rfl) ?_
    refine lv_iload_n hx hb dX9_alike_19 rfl (lv_at hl 2 rfl) ?_
    refine r_callVi (As := [.ref (q 3), .int (zI x), .int (zI w)]) (rest := []) (wr := []) F hK hP hD hS hA hO hE (c_X9_areAlike hO y q ((u2 0).1) hp3.1 (q 3) g_now x w (by omega) (by omega) hpn (by omega) (by omega)) k_1657 kv_X9_areAlike 3 rfl (by decide +kernel) ⟨Nat.le_of_ble_eq_true rfl, Nat.le_of_ble_eq_true rfl⟩ [1, 0] [] rfl rfl (by decide) (by decide) (by decide) 0 9 rfl rfl rfl hl.1 rfl (Nat.le_of_ble_eq_true rfl) dX9_alike_20 ⟨Nat.le_of_ble_eq_true rfl, Nat.le_of_ble_eq_true rfl⟩ (w1 := fun u16 => [(y, .inr (9, [.int (zI ((u2 0).1 0)), .ref (q 0), .int (zI ((u2 0).1 1)), .int (zI ((u2 0).1 2)), .int (zI ((u2 0).1 3)), .int (zI ((u2 0).1 4)), .int (zI ((u2 0).1 5)), .int (zI ((u2 0).1 6)), .int (zI ((u2 0).1 7)), .int (zI ((u2 0).1 8)), .int (zI ((u2 0).1 9)), .int (zI ((u2 0).1 10)), .ref (q 1), .int (zI ((u2 0).1 11)), .int (zI ((u2 0).1 12)), .ref (q 2), .ref (q 3), .ref (q 4), .ref (q 5), .ref (q 6), .ref (q 7), .ref (q 8), .ref (q 9), .ref (q 10), .ref (q 11), .ref (q 12), .ref (q 13), .ref (q 14), .ref (q 15), .ref (q 16), .int (zI ((u2 0).1 13)), .int (zI ((u2 0).1 14)), .int (zI ((u2 0).1 15)), .int (zI ((u2 0).1 16)), .int (zI ((u2 0).1 17)), .int (zI ((u2 0).1 18)), .ref (q 17), .ref (q 18), .ref (q 19), .ref (q 20)])), ((q 3), .inl (cI, 200, .inl (fun k => zI (g_now k))))]) (fun _ => rfl) (fun r17 u16 H locs hp18 hP hD hS => ?_)
    obtain ⟨z19, rfl, h_z19⟩ := hp18
    refine rz_ifb_eq (tgt := 30) F (by omega) dX9_alike_23 (by decide) (fun h23_19 => ?_) (fun h23_19 => ?_)
    · refine lv_iconst (v := zI 0) hx hb dX9_alike_30 rfl ?_
      refine lv_goto (tgt := 39) hx hb dX9_alike_31 (by decide) ?_
      exact ret (zI 0) (fun k => [((u2 0).1, fun _ _ => 0)].getD k (fun _ => 0, fun _ _ => 0)) _ _ _ _ _ _ rfl ⟨0, rfl, hp3.1, (show ((u2 0).1) 1 = i 1 ∧ ((u2 0).1) 8 = i 8 ∧ ((u2 0).1) 9 = i 9 ∧ ((u2 0).1) 12 = i 12 ∧ ((u2 0).1) 13 = i 13 ∧ ((u2 0).1) 15 = i 15 ∧ ((u2 0).1) 17 = i 17 ∧ ((u2 0).1) 10 ≠ 4 from by omega)⟩ (bw_subP (isC := [0, 1]) hP rfl) (hD.sub [0, 1] (by decide) rfl) hS (Nat.le_of_ble_eq_true rfl) (Nat.le_of_ble_eq_true rfl) dX9_alike_39
    · have hq21 := h_z19.2 (by omega)
      refine lv_iconst (v := zI 1) hx hb dX9_alike_26 rfl ?_
      refine lv_goto (tgt := 39) hx hb dX9_alike_27 (by decide) ?_
      exact ret (zI 1) (fun k => [((u2 0).1, fun _ _ => 0)].getD k (fun _ => 0, fun _ _ => 0)) _ _ _ _ _ _ rfl ⟨1, rfl, hp3.1, (show ((u2 0).1) 1 = i 1 ∧ ((u2 0).1) 8 = i 8 ∧ ((u2 0).1) 9 = i 9 ∧ ((u2 0).1) 12 = i 12 ∧ ((u2 0).1) 13 = i 13 ∧ ((u2 0).1) 15 = i 15 ∧ ((u2 0).1) 17 = i 17 ∧ ((u2 0).1) 10 ≠ 4 from by omega)⟩ (bw_subP (isC := [0, 1]) hP rfl) (hD.sub [0, 1] (by decide) rfl) hS (Nat.le_of_ble_eq_true rfl) (Nat.le_of_ble_eq_true rfl) dX9_alike_39
theorem dX9_unlike_0 : decode cX9_unlike 0 = .ok (.iconst 0, 1) := bo_3 (by decide +kernel)
theorem dX9_unlike_1 : decode cX9_unlike 1 = .ok (.istore 4, 2) := bo_54 (by decide +kernel)
theorem dX9_unlike_3 : decode cX9_unlike 3 = .ok (.iload 4, 2) := bo_21 (by decide +kernel)
theorem dX9_unlike_5 : decode cX9_unlike 5 = .ok (.iload_n 3, 1) := bo_29 (by decide +kernel)
theorem dX9_unlike_6 : decode cX9_unlike 6 = .ok (.invokestatic 308, 3) := bo_184 1 52 (by decide +kernel)
theorem dX9_unlike_9 : decode cX9_unlike 9 = .ok (.if_icmp .ge 123, 3) := bo_162 0 123 (by decide +kernel)
theorem dX9_unlike_132 : decode cX9_unlike 132 = .ok (.bipush (-2), 2) := bo_16 254 (by decide +kernel)
theorem dX9_unlike_134 : decode cX9_unlike 134 = .ok (.ireturn, 1) := bo_172 (by decide +kernel)
theorem dX9_unlike_12 : decode cX9_unlike 12 = .ok (.aload_n 1, 1) := bo_43 (by decide +kernel)
theorem dX9_unlike_13 : decode cX9_unlike 13 = .ok (.aload_n 0, 1) := bo_42 (by decide +kernel)
theorem dX9_unlike_14 : decode cX9_unlike 14 = .ok (.getfield 56, 3) := bo_180 0 56 (by decide +kernel)
theorem dX9_unlike_17 : decode cX9_unlike 17 = .ok (.iload 4, 2) := bo_21 (by decide +kernel)
theorem dX9_unlike_19 : decode cX9_unlike 19 = .ok (.iload_n 3, 1) := bo_29 (by decide +kernel)
theorem dX9_unlike_20 : decode cX9_unlike 20 = .ok (.invokestatic 311, 3) := bo_184 1 55 (by decide +kernel)
theorem dX9_unlike_23 : decode cX9_unlike 23 = .ok (.aload_n 2, 1) := bo_44 (by decide +kernel)
theorem dX9_unlike_24 : decode cX9_unlike 24 = .ok (.aload_n 0, 1) := bo_42 (by decide +kernel)
theorem dX9_unlike_25 : decode cX9_unlike 25 = .ok (.getfield 59, 3) := bo_180 0 59 (by decide +kernel)
theorem dX9_unlike_28 : decode cX9_unlike 28 = .ok (.iload 4, 2) := bo_21 (by decide +kernel)
theorem dX9_unlike_30 : decode cX9_unlike 30 = .ok (.iload_n 3, 1) := bo_29 (by decide +kernel)
theorem dX9_unlike_31 : decode cX9_unlike 31 = .ok (.invokestatic 311, 3) := bo_184 1 55 (by decide +kernel)
theorem dX9_unlike_34 : decode cX9_unlike 34 = .ok (.aload_n 1, 1) := bo_43 (by decide +kernel)
theorem dX9_unlike_35 : decode cX9_unlike 35 = .ok (.aload_n 0, 1) := bo_42 (by decide +kernel)
theorem dX9_unlike_36 : decode cX9_unlike 36 = .ok (.getfield 56, 3) := bo_180 0 56 (by decide +kernel)
theorem dX9_unlike_39 : decode cX9_unlike 39 = .ok (.invokestatic 294, 3) := bo_184 1 38 (by decide +kernel)
theorem dX9_unlike_42 : decode cX9_unlike 42 = .ok (.aload_n 2, 1) := bo_44 (by decide +kernel)
theorem dX9_unlike_43 : decode cX9_unlike 43 = .ok (.aload_n 0, 1) := bo_42 (by decide +kernel)
theorem dX9_unlike_44 : decode cX9_unlike 44 = .ok (.getfield 59, 3) := bo_180 0 59 (by decide +kernel)
theorem dX9_unlike_47 : decode cX9_unlike 47 = .ok (.invokestatic 294, 3) := bo_184 1 38 (by decide +kernel)
theorem dX9_unlike_50 : decode cX9_unlike 50 = .ok (.aload_n 0, 1) := bo_42 (by decide +kernel)
theorem dX9_unlike_51 : decode cX9_unlike 51 = .ok (.getfield 56, 3) := bo_180 0 56 (by decide +kernel)
theorem dX9_unlike_54 : decode cX9_unlike 54 = .ok (.bipush 6, 2) := bo_16 6 (by decide +kernel)
theorem dX9_unlike_56 : decode cX9_unlike 56 = .ok (.iaload, 1) := bo_46 (by decide +kernel)
theorem dX9_unlike_57 : decode cX9_unlike 57 = .ok (.aload_n 0, 1) := bo_42 (by decide +kernel)
theorem dX9_unlike_58 : decode cX9_unlike 58 = .ok (.getfield 59, 3) := bo_180 0 59 (by decide +kernel)
theorem dX9_unlike_61 : decode cX9_unlike 61 = .ok (.bipush 6, 2) := bo_16 6 (by decide +kernel)
theorem dX9_unlike_63 : decode cX9_unlike 63 = .ok (.iaload, 1) := bo_46 (by decide +kernel)
theorem dX9_unlike_64 : decode cX9_unlike 64 = .ok (.if_icmp .ne 7, 3) := bo_160 0 7 (by decide +kernel)
theorem dX9_unlike_71 : decode cX9_unlike 71 = .ok (.iconst 0, 1) := bo_3 (by decide +kernel)
theorem dX9_unlike_72 : decode cX9_unlike 72 = .ok (.istore 5, 2) := bo_54 (by decide +kernel)
theorem dX9_unlike_74 : decode cX9_unlike 74 = .ok (.iconst 0, 1) := bo_3 (by decide +kernel)
theorem dX9_unlike_75 : decode cX9_unlike 75 = .ok (.istore 6, 2) := bo_54 (by decide +kernel)
theorem dX9_unlike_77 : decode cX9_unlike 77 = .ok (.iload 6, 2) := bo_21 (by decide +kernel)
theorem dX9_unlike_79 : decode cX9_unlike 79 = .ok (.iconst 4, 1) := bo_7 (by decide +kernel)
theorem dX9_unlike_80 : decode cX9_unlike 80 = .ok (.if_icmp .ge 38, 3) := bo_162 0 38 (by decide +kernel)
theorem dX9_unlike_118 : decode cX9_unlike 118 = .ok (.iload 5, 2) := bo_21 (by decide +kernel)
theorem dX9_unlike_120 : decode cX9_unlike 120 = .ok (.ifCond .ne 6, 3) := bo_154 0 6 (by decide +kernel)
theorem dX9_unlike_126 : decode cX9_unlike 126 = .ok (.iinc 4 1, 3) := bo_132 4 1 (by decide +kernel)
theorem dX9_unlike_129 : decode cX9_unlike 129 = .ok (.goto (-126), 3) := bo_167 255 130 (by decide +kernel)
theorem dX9_unlike_123 : decode cX9_unlike 123 = .ok (.iload 4, 2) := bo_21 (by decide +kernel)
theorem dX9_unlike_125 : decode cX9_unlike 125 = .ok (.ireturn, 1) := bo_172 (by decide +kernel)
theorem dX9_unlike_83 : decode cX9_unlike 83 = .ok (.iload 5, 2) := bo_21 (by decide +kernel)
theorem dX9_unlike_85 : decode cX9_unlike 85 = .ok (.ifCond .eq 24, 3) := bo_153 0 24 (by decide +kernel)
theorem dX9_unlike_109 : decode cX9_unlike 109 = .ok (.iconst 0, 1) := bo_3 (by decide +kernel)
theorem dX9_unlike_110 : decode cX9_unlike 110 = .ok (.istore 5, 2) := bo_54 (by decide +kernel)
theorem dX9_unlike_112 : decode cX9_unlike 112 = .ok (.iinc 6 1, 3) := bo_132 6 1 (by decide +kernel)
theorem dX9_unlike_115 : decode cX9_unlike 115 = .ok (.goto (-38), 3) := bo_167 255 218 (by decide +kernel)
theorem dX9_unlike_88 : decode cX9_unlike 88 = .ok (.aload_n 0, 1) := bo_42 (by decide +kernel)
theorem dX9_unlike_89 : decode cX9_unlike 89 = .ok (.getfield 56, 3) := bo_180 0 56 (by decide +kernel)
theorem dX9_unlike_92 : decode cX9_unlike 92 = .ok (.iload 6, 2) := bo_21 (by decide +kernel)
theorem dX9_unlike_94 : decode cX9_unlike 94 = .ok (.iaload, 1) := bo_46 (by decide +kernel)
theorem dX9_unlike_95 : decode cX9_unlike 95 = .ok (.aload_n 0, 1) := bo_42 (by decide +kernel)
theorem dX9_unlike_96 : decode cX9_unlike 96 = .ok (.getfield 59, 3) := bo_180 0 59 (by decide +kernel)
theorem dX9_unlike_99 : decode cX9_unlike 99 = .ok (.iload 6, 2) := bo_21 (by decide +kernel)
theorem dX9_unlike_101 : decode cX9_unlike 101 = .ok (.iaload, 1) := bo_46 (by decide +kernel)
theorem dX9_unlike_102 : decode cX9_unlike 102 = .ok (.if_icmp .ne 7, 3) := bo_160 0 7 (by decide +kernel)
theorem dX9_unlike_105 : decode cX9_unlike 105 = .ok (.iconst 1, 1) := bo_4 (by decide +kernel)
theorem dX9_unlike_106 : decode cX9_unlike 106 = .ok (.goto 4, 3) := bo_167 0 4 (by decide +kernel)
theorem dX9_unlike_67 : decode cX9_unlike 67 = .ok (.iconst 1, 1) := bo_4 (by decide +kernel)
theorem dX9_unlike_68 : decode cX9_unlike 68 = .ok (.goto 4, 3) := bo_167 0 4 (by decide +kernel)
abbrev rm_X9_unlike : Room := { frames := 4, cells := 0, slots := 0, locals := 93 }
set_option maxRecDepth 100000 in
set_option maxHeartbeats 8000000 in
theorem c_X9_unlike {l : Launch} {E : (Nat → Prop) → State → Prop} (hO : bw_Ok E) {G : va_G} {cI cB cJ cN cW : ClassId} (y : Nat) (q : Nat → Nat) (i : Nat → Int) (hM : ModOk i) (a : Nat) (g_p : Nat → Int) (f : Nat) (g_q : Nat → Int) (g_other : Nat → Int) (g_another : Nat → Int) (x : Int) (hx9 : zR x) (hp : ProgOk g_p) (hq : ProgOk g_q) (hx8 : 0 ≤ x ∧ x ≤ 3) : bw_Ci (S := zV) l yX9_unlike (bw_ws (Cond.code yX9_unlike cX9_unlike 7 (some .int))) rm_X9_unlike E G (bw_kt cI cB cJ cN cW) [.ref y, .ref a, .ref f, .int (zI x)] [(y, .inr (9, [.int (zI (i 0)), .ref (q 0), .int (zI (i 1)), .int (zI (i 2)), .int (zI (i 3)), .int (zI (i 4)), .int (zI (i 5)), .int (zI (i 6)), .int (zI (i 7)), .int (zI (i 8)), .int (zI (i 9)), .int (zI (i 10)), .ref (q 1), .int (zI (i 11)), .int (zI (i 12)), .ref (q 2), .ref (q 3), .ref (q 4), .ref (q 5), .ref (q 6), .ref (q 7), .ref (q 8), .ref (q 9), .ref (q 10), .ref (q 11), .ref (q 12), .ref (q 13), .ref (q 14), .ref (q 15), .ref (q 16), .int (zI (i 13)), .int (zI (i 14)), .int (zI (i 15)), .int (zI (i 16)), .int (zI (i 17)), .int (zI (i 18)), .ref (q 17), .ref (q 18), .ref (q 19), .ref (q 20)])), (a, .inl (cI, 200, .inl (fun k => zI (g_p k)))), (f, .inl (cI, 200, .inl (fun k => zI (g_q k)))), ((q 14), .inl (cI, 159, .inl (fun k => zI (g_other k)))), ((q 15), .inl (cI, 159, .inl (fun k => zI (g_another k))))] (fun r u => ∃ z : Int, r = zI z ∧ (-2 ≤ z ∧ z < 256)) (fun u => [(y, .inr (9, [.int (zI (i 0)), .ref (q 0), .int (zI (i 1)), .int (zI (i 2)), .int (zI (i 3)), .int (zI (i 4)), .int (zI (i 5)), .int (zI (i 6)), .int (zI (i 7)), .int (zI (i 8)), .int (zI (i 9)), .int (zI (i 10)), .ref (q 1), .int (zI (i 11)), .int (zI (i 12)), .ref (q 2), .ref (q 3), .ref (q 4), .ref (q 5), .ref (q 6), .ref (q 7), .ref (q 8), .ref (q 9), .ref (q 10), .ref (q 11), .ref (q 12), .ref (q 13), .ref (q 14), .ref (q 15), .ref (q 16), .int (zI (i 13)), .int (zI (i 14)), .int (zI (i 15)), .int (zI (i 16)), .int (zI (i 17)), .int (zI (i 18)), .ref (q 17), .ref (q 18), .ref (q 19), .ref (q 20)])), (a, .inl (cI, 200, .inl (fun k => zI (g_p k)))), (f, .inl (cI, 200, .inl (fun k => zI (g_q k)))), ((q 14), .inl (cI, 159, .inl (fun k => zI (((u 1).2 0) k)))), ((q 15), .inl (cI, 159, .inl (fun k => zI (((u 2).2 0) k))))]) := by
  refine bw_Ci.of (cc := cX9_unlike) (maxL := 7) (ty := .int) (by decide) rfl (Nat.le_of_ble_eq_true rfl) ?_
  intro p e s m below meth c A Q hx hb hml hts hown hin hK hA hS hP hD hE ret ls hl
  have F : CallFix p m c cX9_unlike 7 s ([.ref y, .ref a, .ref f, .int (zI x)] : List Value).toArray bw_T RX9 := ⟨hx, hb, hml, hown, fun w h => hts w (List.mem_cons_of_mem _ h)⟩
  replace hl : lv_has ls 7 [(0, .ref y), (1, .ref a), (2, .ref f), (3, .int (zI x))] := hl
  have hf1 := hM.1
  refine lv_iconst (v := zI 0) hx hb dX9_unlike_0 rfl ?_
  refine lv_istore (lv' := [(4, .int (zI 0)), (0, .ref y), (1, .ref a), (2, .ref f), (3, .int (zI x))]) hx hb dX9_unlike_1 hl (by decide) rfl (fun ls hl => ?_)
  refine W.widen (k := 0) (n := 0) (Nat.le_of_ble_eq_true rfl) (Nat.le_of_ble_eq_true rfl) ?_
  refine (?_ : ∀ (n9_1 : Nat) (v4 : Int) (go9 : Nat → Int) (ga9 : Nat → Int) (H : Heap) (locs : List Loc), (0 ≤ v4 ∧ v4 ≤ 256) → (256 - v4 : Int).toNat < n9_1 → va_P G vwCl [(y, .inr (9, [.int (zI (i 0)), .ref (q 0), .int (zI (i 1)), .int (zI (i 2)), .int (zI (i 3)), .int (zI (i 4)), .int (zI (i 5)), .int (zI (i 6)), .int (zI (i 7)), .int (zI (i 8)), .int (zI (i 9)), .int (zI (i 10)), .ref (q 1), .int (zI (i 11)), .int (zI (i 12)), .ref (q 2), .ref (q 3), .ref (q 4), .ref (q 5), .ref (q 6), .ref (q 7), .ref (q 8), .ref (q 9), .ref (q 10), .ref (q 11), .ref (q 12), .ref (q 13), .ref (q 14), .ref (q 15), .ref (q 16), .int (zI (i 13)), .int (zI (i 14)), .int (zI (i 15)), .int (zI (i 16)), .int (zI (i 17)), .int (zI (i 18)), .ref (q 17), .ref (q 18), .ref (q 19), .ref (q 20)])), (a, .inl (cI, 200, .inl (fun k => zI (g_p k)))), (f, .inl (cI, 200, .inl (fun k => zI (g_q k)))), ((q 14), .inl (cI, 159, .inl (fun k => zI (go9 k)))), ((q 15), .inl (cI, 159, .inl (fun k => zI (ga9 k))))] H → va_D A [(y, .inr (9, [.int (zI (i 0)), .ref (q 0), .int (zI (i 1)), .int (zI (i 2)), .int (zI (i 3)), .int (zI (i 4)), .int (zI (i 5)), .int (zI (i 6)), .int (zI (i 7)), .int (zI (i 8)), .int (zI (i 9)), .int (zI (i 10)), .ref (q 1), .int (zI (i 11)), .int (zI (i 12)), .ref (q 2), .ref (q 3), .ref (q 4), .ref (q 5), .ref (q 6), .ref (q 7), .ref (q 8), .ref (q 9), .ref (q 10), .ref (q 11), .ref (q 12), .ref (q 13), .ref (q 14), .ref (q 15), .ref (q 16), .int (zI (i 13)), .int (zI (i 14)), .int (zI (i 15)), .int (zI (i 16)), .int (zI (i 17)), .int (zI (i 18)), .ref (q 17), .ref (q 18), .ref (q 19), .ref (q 20)])), (a, .inl (cI, 200, .inl (fun k => zI (g_p k)))), (f, .inl (cI, 200, .inl (fun k => zI (g_q k)))), ((q 14), .inl (cI, 159, .inl (fun k => zI (go9 k)))), ((q 15), .inl (cI, 159, .inl (fun k => zI (ga9 k))))] → va_S A s.heap H locs → ∀ ls : Array Slot, lv_has ls 7 [(4, .int (zI v4)), (0, .ref y), (1, .ref a), (2, .ref f), (3, .int (zI x))] → W p l e rm_X9_unlike s m ([.ref y, .ref a, .ref f, .int (zI x)] : List Value).toArray below meth c H locs 0 0 Q (F0 m 3 ls [])) ((256 - 0 : Int).toNat + 1) 0 g_other g_another _ _ (by omega) (by omega) hP hD hS ls hl
  clear hP hD hS hl ls
  intro n9_1
  induction n9_1 with
  | zero =>
    intro v4 go9 ga9 H locs hI hM
    exact absurd hM (by omega)
  | succ n9_1 ih1 =>
    intro v4 go9 ga9 H locs hI1 hM1  hP hD hS ls hl
    refine lv_iload hx hb dX9_unlike_3 (lv_at hl 0 rfl) ?_
    refine lv_iload_n hx hb dX9_unlike_5 rfl (lv_at hl 4 rfl) ?_
    refine r_callSi (As := [.int (zI x)]) (rest := [.int (zI v4)]) (wr := [(y, .inr (9, [.int (zI (i 0)), .ref (q 0), .int (zI (i 1)), .int (zI (i 2)), .int (zI (i 3)), .int (zI (i 4)), .int (zI (i 5)), .int (zI (i 6)), .int (zI (i 7)), .int (zI (i 8)), .int (zI (i 9)), .int (zI (i 10)), .ref (q 1), .int (zI (i 11)), .int (zI (i 12)), .ref (q 2), .ref (q 3), .ref (q 4), .ref (q 5), .ref (q 6), .ref (q 7), .ref (q 8), .ref (q 9), .ref (q 10), .ref (q 11), .ref (q 12), .ref (q 13), .ref (q 14), .ref (q 15), .ref (q 16), .int (zI (i 13)), .int (zI (i 14)), .int (zI (i 15)), .int (zI (i 16)), .int (zI (i 17)), .int (zI (i 18)), .ref (q 17), .ref (q 18), .ref (q 19), .ref (q 20)])), (a, .inl (cI, 200, .inl (fun k => zI (g_p k)))), (f, .inl (cI, 200, .inl (fun k => zI (g_q k)))), ((q 14), .inl (cI, 159, .inl (fun k => zI (go9 k)))), ((q 15), .inl (cI, 159, .inl (fun k => zI (ga9 k))))]) F hK hP hD hS hA hO hE (c_X9_inputs2 hO x (by omega) (by omega)) k_1512 ks_X9_inputs 1 rfl (by decide +kernel) ⟨Nat.le_of_ble_eq_true rfl, Nat.le_of_ble_eq_true rfl⟩ [] [0, 1, 2, 3, 4] rfl rfl (by decide) (by decide) (by decide) hl.1 rfl (Nat.le_of_ble_eq_true rfl) dX9_unlike_6 ⟨Nat.le_of_ble_eq_true rfl, Nat.le_of_ble_eq_true rfl⟩ (w1 := fun u2 => [(y, .inr (9, [.int (zI (i 0)), .ref (q 0), .int (zI (i 1)), .int (zI (i 2)), .int (zI (i 3)), .int (zI (i 4)), .int (zI (i 5)), .int (zI (i 6)), .int (zI (i 7)), .int (zI (i 8)), .int (zI (i 9)), .int (zI (i 10)), .ref (q 1), .int (zI (i 11)), .int (zI (i 12)), .ref (q 2), .ref (q 3), .ref (q 4), .ref (q 5), .ref (q 6), .ref (q 7), .ref (q 8), .ref (q 9), .ref (q 10), .ref (q 11), .ref (q 12), .ref (q 13), .ref (q 14), .ref (q 15), .ref (q 16), .int (zI (i 13)), .int (zI (i 14)), .int (zI (i 15)), .int (zI (i 16)), .int (zI (i 17)), .int (zI (i 18)), .ref (q 17), .ref (q 18), .ref (q 19), .ref (q 20)])), (a, .inl (cI, 200, .inl (fun k => zI (g_p k)))), (f, .inl (cI, 200, .inl (fun k => zI (g_q k)))), ((q 14), .inl (cI, 159, .inl (fun k => zI (go9 k)))), ((q 15), .inl (cI, 159, .inl (fun k => zI (ga9 k))))]) (fun _ => rfl) (fun r3 u2 H locs hp4 hP hD hS => ?_)
    obtain ⟨z5, rfl, h_z5⟩ := hp4
    refine rz_icmp_ge (tgt := 132) F (by omega) (by omega) dX9_unlike_9 (by decide) (fun h9_5 => ?_) (fun h9_5 => ?_)
    · refine lv_bipush (v := zI (-2)) hx hb dX9_unlike_132 (by decide) ?_
      exact ret (zI (-2)) (fun k => [((fun _ => 0), fun _ _ => 0), (fun _ => 0, fun _ => go9), (fun _ => 0, fun _ => ga9)].getD k (fun _ => 0, fun _ _ => 0)) _ _ _ _ _ _ rfl ⟨(-2), rfl, by omega⟩ (bw_subP (isC := [0, 1, 2, 3, 4]) hP rfl) (hD.sub [0, 1, 2, 3, 4] (by decide) rfl) hS (Nat.le_of_ble_eq_true rfl) (Nat.le_of_ble_eq_true rfl) dX9_unlike_134
    · refine lv_aload_n hx hb dX9_unlike_12 rfl (lv_at hl 2 rfl) ?_
      refine lv_aload_n hx hb dX9_unlike_13 rfl (lv_at hl 1 rfl) ?_
      refine r_get F hK hP 0 27 rfl rfl in_X9 (by decide) k_1190 rfl dX9_unlike_14 ?_
      refine lv_iload hx hb dX9_unlike_17 (lv_at hl 0 rfl) ?_
      refine lv_iload_n hx hb dX9_unlike_19 rfl (lv_at hl 4 rfl) ?_
      refine r_callZv (As := [.ref a, .ref (q 14), .int (zI v4), .int (zI x)]) (rest := []) (wr := [(y, .inr (9, [.int (zI (i 0)), .ref (q 0), .int (zI (i 1)), .int (zI (i 2)), .int (zI (i 3)), .int (zI (i 4)), .int (zI (i 5)), .int (zI (i 6)), .int (zI (i 7)), .int (zI (i 8)), .int (zI (i 9)), .int (zI (i 10)), .ref (q 1), .int (zI (i 11)), .int (zI (i 12)), .ref (q 2), .ref (q 3), .ref (q 4), .ref (q 5), .ref (q 6), .ref (q 7), .ref (q 8), .ref (q 9), .ref (q 10), .ref (q 11), .ref (q 12), .ref (q 13), .ref (q 14), .ref (q 15), .ref (q 16), .int (zI (i 13)), .int (zI (i 14)), .int (zI (i 15)), .int (zI (i 16)), .int (zI (i 17)), .int (zI (i 18)), .ref (q 17), .ref (q 18), .ref (q 19), .ref (q 20)])), (f, .inl (cI, 200, .inl (fun k => zI (g_q k)))), ((q 15), .inl (cI, 159, .inl (fun k => zI (ga9 k))))]) F hK hP hD hS hA hO hE (c_X9_beginsBy hO a g_p (q 14) go9 v4 x (by omega) (by omega) hp (by omega) (by omega)) k_1515 ks_X9_beginsBy 4 rfl (by decide +kernel) ⟨Nat.le_of_ble_eq_true rfl, Nat.le_of_ble_eq_true rfl⟩ [1, 3] [0, 2, 4] rfl rfl (by decide) (by decide) (by decide) hl.1 rfl (Nat.le_of_ble_eq_true rfl) dX9_unlike_20 ⟨Nat.le_of_ble_eq_true rfl, Nat.le_of_ble_eq_true rfl⟩ (w1 := fun u7 => [(y, .inr (9, [.int (zI (i 0)), .ref (q 0), .int (zI (i 1)), .int (zI (i 2)), .int (zI (i 3)), .int (zI (i 4)), .int (zI (i 5)), .int (zI (i 6)), .int (zI (i 7)), .int (zI (i 8)), .int (zI (i 9)), .int (zI (i 10)), .ref (q 1), .int (zI (i 11)), .int (zI (i 12)), .ref (q 2), .ref (q 3), .ref (q 4), .ref (q 5), .ref (q 6), .ref (q 7), .ref (q 8), .ref (q 9), .ref (q 10), .ref (q 11), .ref (q 12), .ref (q 13), .ref (q 14), .ref (q 15), .ref (q 16), .int (zI (i 13)), .int (zI (i 14)), .int (zI (i 15)), .int (zI (i 16)), .int (zI (i 17)), .int (zI (i 18)), .ref (q 17), .ref (q 18), .ref (q 19), .ref (q 20)])), (f, .inl (cI, 200, .inl (fun k => zI (g_q k)))), ((q 15), .inl (cI, 159, .inl (fun k => zI (ga9 k)))), (a, .inl (cI, 200, .inl (fun k => zI (g_p k)))), ((q 14), .inl (cI, 159, .inl (fun k => zI (((u7 1).2 0) k))))]) (fun _ => rfl) (fun  u7 H locs hp8 hP hD hS => ?_)
      refine lv_aload_n hx hb dX9_unlike_23 rfl (lv_at hl 3 rfl) ?_
      refine lv_aload_n hx hb dX9_unlike_24 rfl (lv_at hl 1 rfl) ?_
      refine r_get F hK hP 0 28 rfl rfl in_X9 (by decide) k_1191 rfl dX9_unlike_25 ?_
      refine lv_iload hx hb dX9_unlike_28 (lv_at hl 0 rfl) ?_
      refine lv_iload_n hx hb dX9_unlike_30 rfl (lv_at hl 4 rfl) ?_
      refine r_callZv (As := [.ref f, .ref (q 15), .int (zI v4), .int (zI x)]) (rest := []) (wr := [(y, .inr (9, [.int (zI (i 0)), .ref (q 0), .int (zI (i 1)), .int (zI (i 2)), .int (zI (i 3)), .int (zI (i 4)), .int (zI (i 5)), .int (zI (i 6)), .int (zI (i 7)), .int (zI (i 8)), .int (zI (i 9)), .int (zI (i 10)), .ref (q 1), .int (zI (i 11)), .int (zI (i 12)), .ref (q 2), .ref (q 3), .ref (q 4), .ref (q 5), .ref (q 6), .ref (q 7), .ref (q 8), .ref (q 9), .ref (q 10), .ref (q 11), .ref (q 12), .ref (q 13), .ref (q 14), .ref (q 15), .ref (q 16), .int (zI (i 13)), .int (zI (i 14)), .int (zI (i 15)), .int (zI (i 16)), .int (zI (i 17)), .int (zI (i 18)), .ref (q 17), .ref (q 18), .ref (q 19), .ref (q 20)])), (a, .inl (cI, 200, .inl (fun k => zI (g_p k)))), ((q 14), .inl (cI, 159, .inl (fun k => zI (((u7 1).2 0) k))))]) F hK hP hD hS hA hO hE (c_X9_beginsBy hO f g_q (q 15) ga9 v4 x (by omega) (by omega) hq (by omega) (by omega)) k_1515 ks_X9_beginsBy 4 rfl (by decide +kernel) ⟨Nat.le_of_ble_eq_true rfl, Nat.le_of_ble_eq_true rfl⟩ [1, 2] [0, 3, 4] rfl rfl (by decide) (by decide) (by decide) hl.1 rfl (Nat.le_of_ble_eq_true rfl) dX9_unlike_31 ⟨Nat.le_of_ble_eq_true rfl, Nat.le_of_ble_eq_true rfl⟩ (w1 := fun u9 => [(y, .inr (9, [.int (zI (i 0)), .ref (q 0), .int (zI (i 1)), .int (zI (i 2)), .int (zI (i 3)), .int (zI (i 4)), .int (zI (i 5)), .int (zI (i 6)), .int (zI (i 7)), .int (zI (i 8)), .int (zI (i 9)), .int (zI (i 10)), .ref (q 1), .int (zI (i 11)), .int (zI (i 12)), .ref (q 2), .ref (q 3), .ref (q 4), .ref (q 5), .ref (q 6), .ref (q 7), .ref (q 8), .ref (q 9), .ref (q 10), .ref (q 11), .ref (q 12), .ref (q 13), .ref (q 14), .ref (q 15), .ref (q 16), .int (zI (i 13)), .int (zI (i 14)), .int (zI (i 15)), .int (zI (i 16)), .int (zI (i 17)), .int (zI (i 18)), .ref (q 17), .ref (q 18), .ref (q 19), .ref (q 20)])), (a, .inl (cI, 200, .inl (fun k => zI (g_p k)))), ((q 14), .inl (cI, 159, .inl (fun k => zI (((u7 1).2 0) k)))), (f, .inl (cI, 200, .inl (fun k => zI (g_q k)))), ((q 15), .inl (cI, 159, .inl (fun k => zI (((u9 1).2 0) k))))]) (fun _ => rfl) (fun  u9 H locs hp10 hP hD hS => ?_)
      refine lv_aload_n hx hb dX9_unlike_34 rfl (lv_at hl 2 rfl) ?_
      refine lv_aload_n hx hb dX9_unlike_35 rfl (lv_at hl 1 rfl) ?_
      refine r_get F hK hP 0 27 rfl rfl in_X9 (by decide) k_1190 rfl dX9_unlike_36 ?_
      refine r_callZv (As := [.ref a, .ref (q 14)]) (rest := []) (wr := [(y, .inr (9, [.int (zI (i 0)), .ref (q 0), .int (zI (i 1)), .int (zI (i 2)), .int (zI (i 3)), .int (zI (i 4)), .int (zI (i 5)), .int (zI (i 6)), .int (zI (i 7)), .int (zI (i 8)), .int (zI (i 9)), .int (zI (i 10)), .ref (q 1), .int (zI (i 11)), .int (zI (i 12)), .ref (q 2), .ref (q 3), .ref (q 4), .ref (q 5), .ref (q 6), .ref (q 7), .ref (q 8), .ref (q 9), .ref (q 10), .ref (q 11), .ref (q 12), .ref (q 13), .ref (q 14), .ref (q 15), .ref (q 16), .int (zI (i 13)), .int (zI (i 14)), .int (zI (i 15)), .int (zI (i 16)), .int (zI (i 17)), .int (zI (i 18)), .ref (q 17), .ref (q 18), .ref (q 19), .ref (q 20)])), (f, .inl (cI, 200, .inl (fun k => zI (g_q k)))), ((q 15), .inl (cI, 159, .inl (fun k => zI (((u9 1).2 0) k))))]) F hK hP hD hS hA hO hE (c_X9_runs hO a g_p (q 14) ((u7 1).2 0) hp hp8) k_1470 ks_X9_runs 2 rfl (by decide +kernel) ⟨Nat.le_of_ble_eq_true rfl, Nat.le_of_ble_eq_true rfl⟩ [1, 2] [0, 3, 4] rfl rfl (by decide) (by decide) (by decide) hl.1 rfl (Nat.le_of_ble_eq_true rfl) dX9_unlike_39 ⟨Nat.le_of_ble_eq_true rfl, Nat.le_of_ble_eq_true rfl⟩ (w1 := fun u11 => [(y, .inr (9, [.int (zI (i 0)), .ref (q 0), .int (zI (i 1)), .int (zI (i 2)), .int (zI (i 3)), .int (zI (i 4)), .int (zI (i 5)), .int (zI (i 6)), .int (zI (i 7)), .int (zI (i 8)), .int (zI (i 9)), .int (zI (i 10)), .ref (q 1), .int (zI (i 11)), .int (zI (i 12)), .ref (q 2), .ref (q 3), .ref (q 4), .ref (q 5), .ref (q 6), .ref (q 7), .ref (q 8), .ref (q 9), .ref (q 10), .ref (q 11), .ref (q 12), .ref (q 13), .ref (q 14), .ref (q 15), .ref (q 16), .int (zI (i 13)), .int (zI (i 14)), .int (zI (i 15)), .int (zI (i 16)), .int (zI (i 17)), .int (zI (i 18)), .ref (q 17), .ref (q 18), .ref (q 19), .ref (q 20)])), (f, .inl (cI, 200, .inl (fun k => zI (g_q k)))), ((q 15), .inl (cI, 159, .inl (fun k => zI (((u9 1).2 0) k)))), (a, .inl (cI, 200, .inl (fun k => zI (g_p k)))), ((q 14), .inl (cI, 159, .inl (fun k => zI (((u11 1).2 0) k))))]) (fun _ => rfl) (fun  u11 H locs hp12 hP hD hS => ?_)
      refine lv_aload_n hx hb dX9_unlike_42 rfl (lv_at hl 3 rfl) ?_
      refine lv_aload_n hx hb dX9_unlike_43 rfl (lv_at hl 1 rfl) ?_
      refine r_get F hK hP 0 28 rfl rfl in_X9 (by decide) k_1191 rfl dX9_unlike_44 ?_
      refine r_callZv (As := [.ref f, .ref (q 15)]) (rest := []) (wr := [(y, .inr (9, [.int (zI (i 0)), .ref (q 0), .int (zI (i 1)), .int (zI (i 2)), .int (zI (i 3)), .int (zI (i 4)), .int (zI (i 5)), .int (zI (i 6)), .int (zI (i 7)), .int (zI (i 8)), .int (zI (i 9)), .int (zI (i 10)), .ref (q 1), .int (zI (i 11)), .int (zI (i 12)), .ref (q 2), .ref (q 3), .ref (q 4), .ref (q 5), .ref (q 6), .ref (q 7), .ref (q 8), .ref (q 9), .ref (q 10), .ref (q 11), .ref (q 12), .ref (q 13), .ref (q 14), .ref (q 15), .ref (q 16), .int (zI (i 13)), .int (zI (i 14)), .int (zI (i 15)), .int (zI (i 16)), .int (zI (i 17)), .int (zI (i 18)), .ref (q 17), .ref (q 18), .ref (q 19), .ref (q 20)])), (a, .inl (cI, 200, .inl (fun k => zI (g_p k)))), ((q 14), .inl (cI, 159, .inl (fun k => zI (((u11 1).2 0) k))))]) F hK hP hD hS hA hO hE (c_X9_runs hO f g_q (q 15) ((u9 1).2 0) hq hp10) k_1470 ks_X9_runs 2 rfl (by decide +kernel) ⟨Nat.le_of_ble_eq_true rfl, Nat.le_of_ble_eq_true rfl⟩ [1, 2] [0, 3, 4] rfl rfl (by decide) (by decide) (by decide) hl.1 rfl (Nat.le_of_ble_eq_true rfl) dX9_unlike_47 ⟨Nat.le_of_ble_eq_true rfl, Nat.le_of_ble_eq_true rfl⟩ (w1 := fun u13 => [(y, .inr (9, [.int (zI (i 0)), .ref (q 0), .int (zI (i 1)), .int (zI (i 2)), .int (zI (i 3)), .int (zI (i 4)), .int (zI (i 5)), .int (zI (i 6)), .int (zI (i 7)), .int (zI (i 8)), .int (zI (i 9)), .int (zI (i 10)), .ref (q 1), .int (zI (i 11)), .int (zI (i 12)), .ref (q 2), .ref (q 3), .ref (q 4), .ref (q 5), .ref (q 6), .ref (q 7), .ref (q 8), .ref (q 9), .ref (q 10), .ref (q 11), .ref (q 12), .ref (q 13), .ref (q 14), .ref (q 15), .ref (q 16), .int (zI (i 13)), .int (zI (i 14)), .int (zI (i 15)), .int (zI (i 16)), .int (zI (i 17)), .int (zI (i 18)), .ref (q 17), .ref (q 18), .ref (q 19), .ref (q 20)])), (a, .inl (cI, 200, .inl (fun k => zI (g_p k)))), ((q 14), .inl (cI, 159, .inl (fun k => zI (((u11 1).2 0) k)))), (f, .inl (cI, 200, .inl (fun k => zI (g_q k)))), ((q 15), .inl (cI, 159, .inl (fun k => zI (((u13 1).2 0) k))))]) (fun _ => rfl) (fun  u13 H locs hp14 hP hD hS => ?_)
      refine lv_aload_n hx hb dX9_unlike_50 rfl (lv_at hl 1 rfl) ?_
      refine r_get F hK hP 0 27 rfl rfl in_X9 (by decide) k_1190 rfl dX9_unlike_51 ?_
      refine lv_bipush (v := zI 6) hx hb dX9_unlike_54 (by decide) ?_
      refine rz_ialdN F hK hP 2 0 rfl rfl (by omega) (by omega) dX9_unlike_56 6 rfl ?_
      refine rz_top (fun z15 h_z15 => ?_)
      refine lv_aload_n hx hb dX9_unlike_57 rfl (lv_at hl 1 rfl) ?_
      refine r_get F hK hP 0 28 rfl rfl in_X9 (by decide) k_1191 rfl dX9_unlike_58 ?_
      refine lv_bipush (v := zI 6) hx hb dX9_unlike_61 (by decide) ?_
      refine rz_ialdN F hK hP 4 0 rfl rfl (by omega) (by omega) dX9_unlike_63 6 rfl ?_
      refine rz_top (fun z16 h_z16 => ?_)
      refine rz_icmp_ne (tgt := 71) F (by omega) (by omega) dX9_unlike_64 (by decide) (fun h64_16 => ?_) (fun h64_16 => ?_)
      · refine lv_iconst (v := zI 0) hx hb dX9_unlike_71 rfl ?_
        refine lv_istore (lv' := [(5, .int (zI 0)), (4, .int (zI v4)), (0, .ref y), (1, .ref a), (2, .ref f), (3, .int (zI x))]) hx hb dX9_unlike_72 hl (by decide) rfl (fun ls hl => ?_)
        refine lv_iconst (v := zI 0) hx hb dX9_unlike_74 rfl ?_
        refine lv_istore (lv' := [(6, .int (zI 0)), (5, .int (zI 0)), (4, .int (zI v4)), (0, .ref y), (1, .ref a), (2, .ref f), (3, .int (zI x))]) hx hb dX9_unlike_75 hl (by decide) rfl (fun ls hl => ?_)
        refine W.widen (k := 0) (n := 0) (Nat.le_of_ble_eq_true rfl) (Nat.le_of_ble_eq_true rfl) ?_
        refine (?_ : ∀ (n9_2 : Nat) (v5 : Int) (v6 : Int) (H : Heap) (locs : List Loc), (0 ≤ v5 ∧ v5 ≤ 1 ∧ 0 ≤ v6 ∧ v6 ≤ 4) → (4 - v6 : Int).toNat < n9_2 → va_P G vwCl [(y, .inr (9, [.int (zI (i 0)), .ref (q 0), .int (zI (i 1)), .int (zI (i 2)), .int (zI (i 3)), .int (zI (i 4)), .int (zI (i 5)), .int (zI (i 6)), .int (zI (i 7)), .int (zI (i 8)), .int (zI (i 9)), .int (zI (i 10)), .ref (q 1), .int (zI (i 11)), .int (zI (i 12)), .ref (q 2), .ref (q 3), .ref (q 4), .ref (q 5), .ref (q 6), .ref (q 7), .ref (q 8), .ref (q 9), .ref (q 10), .ref (q 11), .ref (q 12), .ref (q 13), .ref (q 14), .ref (q 15), .ref (q 16), .int (zI (i 13)), .int (zI (i 14)), .int (zI (i 15)), .int (zI (i 16)), .int (zI (i 17)), .int (zI (i 18)), .ref (q 17), .ref (q 18), .ref (q 19), .ref (q 20)])), (a, .inl (cI, 200, .inl (fun k => zI (g_p k)))), ((q 14), .inl (cI, 159, .inl (fun k => zI (((u11 1).2 0) k)))), (f, .inl (cI, 200, .inl (fun k => zI (g_q k)))), ((q 15), .inl (cI, 159, .inl (fun k => zI (((u13 1).2 0) k))))] H → va_D A [(y, .inr (9, [.int (zI (i 0)), .ref (q 0), .int (zI (i 1)), .int (zI (i 2)), .int (zI (i 3)), .int (zI (i 4)), .int (zI (i 5)), .int (zI (i 6)), .int (zI (i 7)), .int (zI (i 8)), .int (zI (i 9)), .int (zI (i 10)), .ref (q 1), .int (zI (i 11)), .int (zI (i 12)), .ref (q 2), .ref (q 3), .ref (q 4), .ref (q 5), .ref (q 6), .ref (q 7), .ref (q 8), .ref (q 9), .ref (q 10), .ref (q 11), .ref (q 12), .ref (q 13), .ref (q 14), .ref (q 15), .ref (q 16), .int (zI (i 13)), .int (zI (i 14)), .int (zI (i 15)), .int (zI (i 16)), .int (zI (i 17)), .int (zI (i 18)), .ref (q 17), .ref (q 18), .ref (q 19), .ref (q 20)])), (a, .inl (cI, 200, .inl (fun k => zI (g_p k)))), ((q 14), .inl (cI, 159, .inl (fun k => zI (((u11 1).2 0) k)))), (f, .inl (cI, 200, .inl (fun k => zI (g_q k)))), ((q 15), .inl (cI, 159, .inl (fun k => zI (((u13 1).2 0) k))))] → va_S A s.heap H locs → ∀ ls : Array Slot, lv_has ls 7 [(6, .int (zI v6)), (5, .int (zI v5)), (4, .int (zI v4)), (0, .ref y), (1, .ref a), (2, .ref f), (3, .int (zI x))] → W p l e rm_X9_unlike s m ([.ref y, .ref a, .ref f, .int (zI x)] : List Value).toArray below meth c H locs 0 0 Q (F0 m 77 ls [])) ((4 - 0 : Int).toNat + 1) 0 0 _ _ (by omega) (by omega) hP hD hS ls hl
        clear hP hD hS hl ls
        intro n9_2
        induction n9_2 with
        | zero =>
          intro v5 v6 H locs hI hM
          exact absurd hM (by omega)
        | succ n9_2 ih2 =>
          intro v5 v6 H locs hI2 hM2  hP hD hS ls hl
          refine lv_iload hx hb dX9_unlike_77 (lv_at hl 0 rfl) ?_
          refine lv_iconst (v := zI 4) hx hb dX9_unlike_79 rfl ?_
          refine rz_icmp_ge (tgt := 118) F (by omega) (by omega) dX9_unlike_80 (by decide) (fun h80_17 => ?_) (fun h80_17 => ?_)
          · refine lv_iload hx hb dX9_unlike_118 (lv_at hl 1 rfl) ?_
            refine rz_if_ne (tgt := 126) F (by omega) dX9_unlike_120 (by decide) (fun h120_18 => ?_) (fun h120_18 => ?_)
            · refine lv_iinc (v := zI (v4 + 1)) (lv' := [(4, .int (zI (v4 + 1))), (6, .int (zI v6)), (5, .int (zI v5)), (0, .ref y), (1, .ref a), (2, .ref f), (3, .int (zI x))]) hx hb dX9_unlike_126 hl (k := 2) rfl (zI_add _ _) (by decide) rfl (fun ls hl => ?_)
              refine lv_goto (tgt := 3) hx hb dX9_unlike_129 (by decide) ?_
              have hP := bw_subP (isC := [0, 1, 3, 2, 4]) (wc := [(y, .inr (9, [.int (zI (i 0)), .ref (q 0), .int (zI (i 1)), .int (zI (i 2)), .int (zI (i 3)), .int (zI (i 4)), .int (zI (i 5)), .int (zI (i 6)), .int (zI (i 7)), .int (zI (i 8)), .int (zI (i 9)), .int (zI (i 10)), .ref (q 1), .int (zI (i 11)), .int (zI (i 12)), .ref (q 2), .ref (q 3), .ref (q 4), .ref (q 5), .ref (q 6), .ref (q 7), .ref (q 8), .ref (q 9), .ref (q 10), .ref (q 11), .ref (q 12), .ref (q 13), .ref (q 14), .ref (q 15), .ref (q 16), .int (zI (i 13)), .int (zI (i 14)), .int (zI (i 15)), .int (zI (i 16)), .int (zI (i 17)), .int (zI (i 18)), .ref (q 17), .ref (q 18), .ref (q 19), .ref (q 20)])), (a, .inl (cI, 200, .inl (fun k => zI (g_p k)))), (f, .inl (cI, 200, .inl (fun k => zI (g_q k)))), ((q 14), .inl (cI, 159, .inl (fun k => zI (((u11 1).2 0) k)))), ((q 15), .inl (cI, 159, .inl (fun k => zI (((u13 1).2 0) k))))]) hP rfl
              have hD := hD.sub (ws' := [(y, .inr (9, [.int (zI (i 0)), .ref (q 0), .int (zI (i 1)), .int (zI (i 2)), .int (zI (i 3)), .int (zI (i 4)), .int (zI (i 5)), .int (zI (i 6)), .int (zI (i 7)), .int (zI (i 8)), .int (zI (i 9)), .int (zI (i 10)), .ref (q 1), .int (zI (i 11)), .int (zI (i 12)), .ref (q 2), .ref (q 3), .ref (q 4), .ref (q 5), .ref (q 6), .ref (q 7), .ref (q 8), .ref (q 9), .ref (q 10), .ref (q 11), .ref (q 12), .ref (q 13), .ref (q 14), .ref (q 15), .ref (q 16), .int (zI (i 13)), .int (zI (i 14)), .int (zI (i 15)), .int (zI (i 16)), .int (zI (i 17)), .int (zI (i 18)), .ref (q 17), .ref (q 18), .ref (q 19), .ref (q 20)])), (a, .inl (cI, 200, .inl (fun k => zI (g_p k)))), (f, .inl (cI, 200, .inl (fun k => zI (g_q k)))), ((q 14), .inl (cI, 159, .inl (fun k => zI (((u11 1).2 0) k)))), ((q 15), .inl (cI, 159, .inl (fun k => zI (((u13 1).2 0) k))))]) [0, 1, 3, 2, 4] (by decide) rfl
              exact ih1 (v4 + 1) ((u11 1).2 0) ((u13 1).2 0) _ _ (by omega) (by omega) hP hD hS ls (lv_sub hl [0, 3, 4, 5, 6] rfl)
            · refine lv_iload hx hb dX9_unlike_123 (lv_at hl 2 rfl) ?_
              exact ret (zI v4) (fun k => [((fun _ => 0), fun _ _ => 0), (fun _ => 0, fun _ => ((u11 1).2 0)), (fun _ => 0, fun _ => ((u13 1).2 0))].getD k (fun _ => 0, fun _ _ => 0)) _ _ _ _ _ _ rfl ⟨v4, rfl, by omega⟩ (bw_subP (isC := [0, 1, 3, 2, 4]) hP rfl) (hD.sub [0, 1, 3, 2, 4] (by decide) rfl) hS (Nat.le_of_ble_eq_true rfl) (Nat.le_of_ble_eq_true rfl) dX9_unlike_125
          · refine lv_iload hx hb dX9_unlike_83 (lv_at hl 1 rfl) ?_
            refine rz_if_eq (tgt := 109) F (by omega) dX9_unlike_85 (by decide) (fun h85_19 => ?_) (fun h85_19 => ?_)
            · refine lv_iconst (v := zI 0) hx hb dX9_unlike_109 rfl ?_
              refine lv_istore (lv' := [(5, .int (zI 0)), (6, .int (zI v6)), (4, .int (zI v4)), (0, .ref y), (1, .ref a), (2, .ref f), (3, .int (zI x))]) hx hb dX9_unlike_110 hl (by decide) rfl (fun ls hl => ?_)
              refine lv_iinc (v := zI (v6 + 1)) (lv' := [(6, .int (zI (v6 + 1))), (5, .int (zI 0)), (4, .int (zI v4)), (0, .ref y), (1, .ref a), (2, .ref f), (3, .int (zI x))]) hx hb dX9_unlike_112 hl (k := 1) rfl (zI_add _ _) (by decide) rfl (fun ls hl => ?_)
              refine lv_goto (tgt := 77) hx hb dX9_unlike_115 (by decide) ?_
              exact ih2 0 (v6 + 1) _ _ (by omega) (by omega) hP hD hS ls (lv_sub hl [0, 1, 2, 3, 4, 5, 6] rfl)
            · refine lv_aload_n hx hb dX9_unlike_88 rfl (lv_at hl 3 rfl) ?_
              refine r_get F hK hP 0 27 rfl rfl in_X9 (by decide) k_1190 rfl dX9_unlike_89 ?_
              refine lv_iload hx hb dX9_unlike_92 (lv_at hl 0 rfl) ?_
              refine rz_iald F hK hP 2 0 rfl rfl (by omega) (by omega) dX9_unlike_94 ?_
              refine rz_top (fun z21 h_z21 => ?_)
              refine lv_aload_n hx hb dX9_unlike_95 rfl (lv_at hl 3 rfl) ?_
              refine r_get F hK hP 0 28 rfl rfl in_X9 (by decide) k_1191 rfl dX9_unlike_96 ?_
              refine lv_iload hx hb dX9_unlike_99 (lv_at hl 0 rfl) ?_
              refine rz_iald F hK hP 4 0 rfl rfl (by omega) (by omega) dX9_unlike_101 ?_
              refine rz_top (fun z22 h_z22 => ?_)
              refine rz_icmp_ne (tgt := 109) F (by omega) (by omega) dX9_unlike_102 (by decide) (fun h102_22 => ?_) (fun h102_22 => ?_)
              · refine lv_iconst (v := zI 0) hx hb dX9_unlike_109 rfl ?_
                refine lv_istore (lv' := [(5, .int (zI 0)), (6, .int (zI v6)), (4, .int (zI v4)), (0, .ref y), (1, .ref a), (2, .ref f), (3, .int (zI x))]) hx hb dX9_unlike_110 hl (by decide) rfl (fun ls hl => ?_)
                refine lv_iinc (v := zI (v6 + 1)) (lv' := [(6, .int (zI (v6 + 1))), (5, .int (zI 0)), (4, .int (zI v4)), (0, .ref y), (1, .ref a), (2, .ref f), (3, .int (zI x))]) hx hb dX9_unlike_112 hl (k := 1) rfl (zI_add _ _) (by decide) rfl (fun ls hl => ?_)
                refine lv_goto (tgt := 77) hx hb dX9_unlike_115 (by decide) ?_
                exact ih2 0 (v6 + 1) _ _ (by omega) (by omega) hP hD hS ls (lv_sub hl [0, 1, 2, 3, 4, 5, 6] rfl)
              · refine lv_iconst (v := zI 1) hx hb dX9_unlike_105 rfl ?_
                refine lv_goto (tgt := 110) hx hb dX9_unlike_106 (by decide) ?_
                refine lv_istore (lv' := [(5, .int (zI 1)), (6, .int (zI v6)), (4, .int (zI v4)), (0, .ref y), (1, .ref a), (2, .ref f), (3, .int (zI x))]) hx hb dX9_unlike_110 hl (by decide) rfl (fun ls hl => ?_)
                refine lv_iinc (v := zI (v6 + 1)) (lv' := [(6, .int (zI (v6 + 1))), (5, .int (zI 1)), (4, .int (zI v4)), (0, .ref y), (1, .ref a), (2, .ref f), (3, .int (zI x))]) hx hb dX9_unlike_112 hl (k := 1) rfl (zI_add _ _) (by decide) rfl (fun ls hl => ?_)
                refine lv_goto (tgt := 77) hx hb dX9_unlike_115 (by decide) ?_
                exact ih2 1 (v6 + 1) _ _ (by omega) (by omega) hP hD hS ls (lv_sub hl [0, 1, 2, 3, 4, 5, 6] rfl)
      · refine lv_iconst (v := zI 1) hx hb dX9_unlike_67 rfl ?_
        refine lv_goto (tgt := 72) hx hb dX9_unlike_68 (by decide) ?_
        refine lv_istore (lv' := [(5, .int (zI 1)), (4, .int (zI v4)), (0, .ref y), (1, .ref a), (2, .ref f), (3, .int (zI x))]) hx hb dX9_unlike_72 hl (by decide) rfl (fun ls hl => ?_)
        refine lv_iconst (v := zI 0) hx hb dX9_unlike_74 rfl ?_
        refine lv_istore (lv' := [(6, .int (zI 0)), (5, .int (zI 1)), (4, .int (zI v4)), (0, .ref y), (1, .ref a), (2, .ref f), (3, .int (zI x))]) hx hb dX9_unlike_75 hl (by decide) rfl (fun ls hl => ?_)
        refine W.widen (k := 0) (n := 0) (Nat.le_of_ble_eq_true rfl) (Nat.le_of_ble_eq_true rfl) ?_
        refine (?_ : ∀ (n9_2 : Nat) (v5 : Int) (v6 : Int) (H : Heap) (locs : List Loc), (0 ≤ v5 ∧ v5 ≤ 1 ∧ 0 ≤ v6 ∧ v6 ≤ 4) → (4 - v6 : Int).toNat < n9_2 → va_P G vwCl [(y, .inr (9, [.int (zI (i 0)), .ref (q 0), .int (zI (i 1)), .int (zI (i 2)), .int (zI (i 3)), .int (zI (i 4)), .int (zI (i 5)), .int (zI (i 6)), .int (zI (i 7)), .int (zI (i 8)), .int (zI (i 9)), .int (zI (i 10)), .ref (q 1), .int (zI (i 11)), .int (zI (i 12)), .ref (q 2), .ref (q 3), .ref (q 4), .ref (q 5), .ref (q 6), .ref (q 7), .ref (q 8), .ref (q 9), .ref (q 10), .ref (q 11), .ref (q 12), .ref (q 13), .ref (q 14), .ref (q 15), .ref (q 16), .int (zI (i 13)), .int (zI (i 14)), .int (zI (i 15)), .int (zI (i 16)), .int (zI (i 17)), .int (zI (i 18)), .ref (q 17), .ref (q 18), .ref (q 19), .ref (q 20)])), (a, .inl (cI, 200, .inl (fun k => zI (g_p k)))), ((q 14), .inl (cI, 159, .inl (fun k => zI (((u11 1).2 0) k)))), (f, .inl (cI, 200, .inl (fun k => zI (g_q k)))), ((q 15), .inl (cI, 159, .inl (fun k => zI (((u13 1).2 0) k))))] H → va_D A [(y, .inr (9, [.int (zI (i 0)), .ref (q 0), .int (zI (i 1)), .int (zI (i 2)), .int (zI (i 3)), .int (zI (i 4)), .int (zI (i 5)), .int (zI (i 6)), .int (zI (i 7)), .int (zI (i 8)), .int (zI (i 9)), .int (zI (i 10)), .ref (q 1), .int (zI (i 11)), .int (zI (i 12)), .ref (q 2), .ref (q 3), .ref (q 4), .ref (q 5), .ref (q 6), .ref (q 7), .ref (q 8), .ref (q 9), .ref (q 10), .ref (q 11), .ref (q 12), .ref (q 13), .ref (q 14), .ref (q 15), .ref (q 16), .int (zI (i 13)), .int (zI (i 14)), .int (zI (i 15)), .int (zI (i 16)), .int (zI (i 17)), .int (zI (i 18)), .ref (q 17), .ref (q 18), .ref (q 19), .ref (q 20)])), (a, .inl (cI, 200, .inl (fun k => zI (g_p k)))), ((q 14), .inl (cI, 159, .inl (fun k => zI (((u11 1).2 0) k)))), (f, .inl (cI, 200, .inl (fun k => zI (g_q k)))), ((q 15), .inl (cI, 159, .inl (fun k => zI (((u13 1).2 0) k))))] → va_S A s.heap H locs → ∀ ls : Array Slot, lv_has ls 7 [(6, .int (zI v6)), (5, .int (zI v5)), (4, .int (zI v4)), (0, .ref y), (1, .ref a), (2, .ref f), (3, .int (zI x))] → W p l e rm_X9_unlike s m ([.ref y, .ref a, .ref f, .int (zI x)] : List Value).toArray below meth c H locs 0 0 Q (F0 m 77 ls [])) ((4 - 0 : Int).toNat + 1) 1 0 _ _ (by omega) (by omega) hP hD hS ls hl
        clear hP hD hS hl ls
        intro n9_2
        induction n9_2 with
        | zero =>
          intro v5 v6 H locs hI hM
          exact absurd hM (by omega)
        | succ n9_2 ih2 =>
          intro v5 v6 H locs hI2 hM2  hP hD hS ls hl
          refine lv_iload hx hb dX9_unlike_77 (lv_at hl 0 rfl) ?_
          refine lv_iconst (v := zI 4) hx hb dX9_unlike_79 rfl ?_
          refine rz_icmp_ge (tgt := 118) F (by omega) (by omega) dX9_unlike_80 (by decide) (fun h80_23 => ?_) (fun h80_23 => ?_)
          · refine lv_iload hx hb dX9_unlike_118 (lv_at hl 1 rfl) ?_
            refine rz_if_ne (tgt := 126) F (by omega) dX9_unlike_120 (by decide) (fun h120_24 => ?_) (fun h120_24 => ?_)
            · refine lv_iinc (v := zI (v4 + 1)) (lv' := [(4, .int (zI (v4 + 1))), (6, .int (zI v6)), (5, .int (zI v5)), (0, .ref y), (1, .ref a), (2, .ref f), (3, .int (zI x))]) hx hb dX9_unlike_126 hl (k := 2) rfl (zI_add _ _) (by decide) rfl (fun ls hl => ?_)
              refine lv_goto (tgt := 3) hx hb dX9_unlike_129 (by decide) ?_
              have hP := bw_subP (isC := [0, 1, 3, 2, 4]) (wc := [(y, .inr (9, [.int (zI (i 0)), .ref (q 0), .int (zI (i 1)), .int (zI (i 2)), .int (zI (i 3)), .int (zI (i 4)), .int (zI (i 5)), .int (zI (i 6)), .int (zI (i 7)), .int (zI (i 8)), .int (zI (i 9)), .int (zI (i 10)), .ref (q 1), .int (zI (i 11)), .int (zI (i 12)), .ref (q 2), .ref (q 3), .ref (q 4), .ref (q 5), .ref (q 6), .ref (q 7), .ref (q 8), .ref (q 9), .ref (q 10), .ref (q 11), .ref (q 12), .ref (q 13), .ref (q 14), .ref (q 15), .ref (q 16), .int (zI (i 13)), .int (zI (i 14)), .int (zI (i 15)), .int (zI (i 16)), .int (zI (i 17)), .int (zI (i 18)), .ref (q 17), .ref (q 18), .ref (q 19), .ref (q 20)])), (a, .inl (cI, 200, .inl (fun k => zI (g_p k)))), (f, .inl (cI, 200, .inl (fun k => zI (g_q k)))), ((q 14), .inl (cI, 159, .inl (fun k => zI (((u11 1).2 0) k)))), ((q 15), .inl (cI, 159, .inl (fun k => zI (((u13 1).2 0) k))))]) hP rfl
              have hD := hD.sub (ws' := [(y, .inr (9, [.int (zI (i 0)), .ref (q 0), .int (zI (i 1)), .int (zI (i 2)), .int (zI (i 3)), .int (zI (i 4)), .int (zI (i 5)), .int (zI (i 6)), .int (zI (i 7)), .int (zI (i 8)), .int (zI (i 9)), .int (zI (i 10)), .ref (q 1), .int (zI (i 11)), .int (zI (i 12)), .ref (q 2), .ref (q 3), .ref (q 4), .ref (q 5), .ref (q 6), .ref (q 7), .ref (q 8), .ref (q 9), .ref (q 10), .ref (q 11), .ref (q 12), .ref (q 13), .ref (q 14), .ref (q 15), .ref (q 16), .int (zI (i 13)), .int (zI (i 14)), .int (zI (i 15)), .int (zI (i 16)), .int (zI (i 17)), .int (zI (i 18)), .ref (q 17), .ref (q 18), .ref (q 19), .ref (q 20)])), (a, .inl (cI, 200, .inl (fun k => zI (g_p k)))), (f, .inl (cI, 200, .inl (fun k => zI (g_q k)))), ((q 14), .inl (cI, 159, .inl (fun k => zI (((u11 1).2 0) k)))), ((q 15), .inl (cI, 159, .inl (fun k => zI (((u13 1).2 0) k))))]) [0, 1, 3, 2, 4] (by decide) rfl
              exact ih1 (v4 + 1) ((u11 1).2 0) ((u13 1).2 0) _ _ (by omega) (by omega) hP hD hS ls (lv_sub hl [0, 3, 4, 5, 6] rfl)
            · refine lv_iload hx hb dX9_unlike_123 (lv_at hl 2 rfl) ?_
              exact ret (zI v4) (fun k => [((fun _ => 0), fun _ _ => 0), (fun _ => 0, fun _ => ((u11 1).2 0)), (fun _ => 0, fun _ => ((u13 1).2 0))].getD k (fun _ => 0, fun _ _ => 0)) _ _ _ _ _ _ rfl ⟨v4, rfl, by omega⟩ (bw_subP (isC := [0, 1, 3, 2, 4]) hP rfl) (hD.sub [0, 1, 3, 2, 4] (by decide) rfl) hS (Nat.le_of_ble_eq_true rfl) (Nat.le_of_ble_eq_true rfl) dX9_unlike_125
          · refine lv_iload hx hb dX9_unlike_83 (lv_at hl 1 rfl) ?_
            refine rz_if_eq (tgt := 109) F (by omega) dX9_unlike_85 (by decide) (fun h85_25 => ?_) (fun h85_25 => ?_)
            · refine lv_iconst (v := zI 0) hx hb dX9_unlike_109 rfl ?_
              refine lv_istore (lv' := [(5, .int (zI 0)), (6, .int (zI v6)), (4, .int (zI v4)), (0, .ref y), (1, .ref a), (2, .ref f), (3, .int (zI x))]) hx hb dX9_unlike_110 hl (by decide) rfl (fun ls hl => ?_)
              refine lv_iinc (v := zI (v6 + 1)) (lv' := [(6, .int (zI (v6 + 1))), (5, .int (zI 0)), (4, .int (zI v4)), (0, .ref y), (1, .ref a), (2, .ref f), (3, .int (zI x))]) hx hb dX9_unlike_112 hl (k := 1) rfl (zI_add _ _) (by decide) rfl (fun ls hl => ?_)
              refine lv_goto (tgt := 77) hx hb dX9_unlike_115 (by decide) ?_
              exact ih2 0 (v6 + 1) _ _ (by omega) (by omega) hP hD hS ls (lv_sub hl [0, 1, 2, 3, 4, 5, 6] rfl)
            · refine lv_aload_n hx hb dX9_unlike_88 rfl (lv_at hl 3 rfl) ?_
              refine r_get F hK hP 0 27 rfl rfl in_X9 (by decide) k_1190 rfl dX9_unlike_89 ?_
              refine lv_iload hx hb dX9_unlike_92 (lv_at hl 0 rfl) ?_
              refine rz_iald F hK hP 2 0 rfl rfl (by omega) (by omega) dX9_unlike_94 ?_
              refine rz_top (fun z27 h_z27 => ?_)
              refine lv_aload_n hx hb dX9_unlike_95 rfl (lv_at hl 3 rfl) ?_
              refine r_get F hK hP 0 28 rfl rfl in_X9 (by decide) k_1191 rfl dX9_unlike_96 ?_
              refine lv_iload hx hb dX9_unlike_99 (lv_at hl 0 rfl) ?_
              refine rz_iald F hK hP 4 0 rfl rfl (by omega) (by omega) dX9_unlike_101 ?_
              refine rz_top (fun z28 h_z28 => ?_)
              refine rz_icmp_ne (tgt := 109) F (by omega) (by omega) dX9_unlike_102 (by decide) (fun h102_28 => ?_) (fun h102_28 => ?_)
              · refine lv_iconst (v := zI 0) hx hb dX9_unlike_109 rfl ?_
                refine lv_istore (lv' := [(5, .int (zI 0)), (6, .int (zI v6)), (4, .int (zI v4)), (0, .ref y), (1, .ref a), (2, .ref f), (3, .int (zI x))]) hx hb dX9_unlike_110 hl (by decide) rfl (fun ls hl => ?_)
                refine lv_iinc (v := zI (v6 + 1)) (lv' := [(6, .int (zI (v6 + 1))), (5, .int (zI 0)), (4, .int (zI v4)), (0, .ref y), (1, .ref a), (2, .ref f), (3, .int (zI x))]) hx hb dX9_unlike_112 hl (k := 1) rfl (zI_add _ _) (by decide) rfl (fun ls hl => ?_)
                refine lv_goto (tgt := 77) hx hb dX9_unlike_115 (by decide) ?_
                exact ih2 0 (v6 + 1) _ _ (by omega) (by omega) hP hD hS ls (lv_sub hl [0, 1, 2, 3, 4, 5, 6] rfl)
              · refine lv_iconst (v := zI 1) hx hb dX9_unlike_105 rfl ?_
                refine lv_goto (tgt := 110) hx hb dX9_unlike_106 (by decide) ?_
                refine lv_istore (lv' := [(5, .int (zI 1)), (6, .int (zI v6)), (4, .int (zI v4)), (0, .ref y), (1, .ref a), (2, .ref f), (3, .int (zI x))]) hx hb dX9_unlike_110 hl (by decide) rfl (fun ls hl => ?_)
                refine lv_iinc (v := zI (v6 + 1)) (lv' := [(6, .int (zI (v6 + 1))), (5, .int (zI 1)), (4, .int (zI v4)), (0, .ref y), (1, .ref a), (2, .ref f), (3, .int (zI x))]) hx hb dX9_unlike_112 hl (k := 1) rfl (zI_add _ _) (by decide) rfl (fun ls hl => ?_)
                refine lv_goto (tgt := 77) hx hb dX9_unlike_115 (by decide) ?_
                exact ih2 1 (v6 + 1) _ _ (by omega) (by omega) hP hD hS ls (lv_sub hl [0, 1, 2, 3, 4, 5, 6] rfl)
