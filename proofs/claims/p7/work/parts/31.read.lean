abbrev zV : Type := Nat → zU
theorem uZ_updL (g : Nat → Int) (i : Nat) (v : Int) : vp_updL (fun k => zL (g k)) i (zL v) = fun k => zL (uZ g i v k) := by
  funext k
  by_cases h : k = i
  · subst h; simp [vp_updL, uZ]
  · simp [vp_updL, uZ, h]
section ZL2
variable {p : Program} {l : Launch} {e : Env} {R : Room} {s : State} {m : MethodId} {args : Array Value} {below : List Frame} {meth : Method} {c : Code} {H : Heap} {locs : List Loc} {cells slots : Nat} {Q : State → Prop}
variable {cc : ByteArray} {nL : Nat} {own : String} {G : va_G} {kt : List (ClassId × FieldType)} {w0 : va_W} {A : Nat → Prop} {rest : List Value} {a : Addr} {pc : Nat} {ls : Array Slot}
theorem rz_lastG (F : CallFix p m c cc nL s args bw_T own) (hK : va_K G vwCl kt s) (hP : va_P G vwCl w0 H) (hD : va_D A w0) (hS : va_S A s.heap H locs) (q0 t0 : Nat) {cA : ClassId} {n : Nat} {g : Nat → Int} (ha : w0[q0]? = some (a, .inl (cA, n, .inr (.inl (fun k => zL (g k)))))) (ht : kt[t0]? = some (cA, .long)) {i v : Int} (hi : 0 ≤ i ∧ i < (n : Int)) (hn : n < 2147483648) (hdg : decode cc pc = .ok (.lastore, 1)) {w1 : (Nat → Int) → va_W} (hw : ∀ g', w0.set q0 (a, .inl (cA, n, .inr (.inl (fun k => zL (g' k))))) = w1 g')
    (kk : ∀ (g' : Nat → Int), g' = uZ g i.toNat v → ∀ (H1 : Heap) (locs1 : List Loc), va_P G vwCl (w1 g') H1 → va_D A (w1 g') → va_S A s.heap H1 locs1 → W p l e R s m args below meth c H1 locs1 cells slots Q (F0 m (pc + 1) ls rest)) : W p l e R s m args below meth c H locs cells slots Q (F0 m pc ls (.long (zL v) :: .int (zI i) :: .ref a :: rest)) := by
  refine va_last F.1 F.2.1 hK hP hD hS q0 t0 ha ht (zI_in hi hn) hdg (fun H1 locs1 hP1 hD1 hS1 => ?_)
  rw [zI_clamp ⟨by omega, by omega⟩, uZ_updL, hw] at hP1 hD1
  exact kk _ rfl H1 locs1 hP1 hD1 hS1
end ZL2
theorem NetW.untell2 {n : Int} {g : Nat → Nat → Int} (h : NetW n g) {x : Int} (hx : 0 ≤ x ∧ x < 10) {g0 g1 g2 a6 g6 a7 g7 : Nat → Int} (e0 : g0 = uZ (g 0) x.toNat (-1)) (e1 : g1 = uZ (g 1) x.toNat (-2)) (e2 : g2 = uZ (g 2) x.toNat 0) (e6 : a6 = uZ (g 6) (2 * x).toNat (-2)) (e6b : g6 = uZ a6 (2 * x + 1).toNat (-2)) (e7 : a7 = uZ (g 7) (2 * x).toNat 0) (e7b : g7 = uZ a7 (2 * x + 1).toNat 0) : NetW n (fun k => [g0, g1, g2, g 3, g 4, g 5, g6, g7].getD k (fun _ => 0)) ∧ (g0 x.toNat = -1 ∧ ∀ k, k ≠ x.toNat → g0 k = g 0 k) ∧ (g2 x.toNat = 0 ∧ ∀ k, k ≠ x.toNat → g2 k = g 2 k) := by
  have q := NetW.untell h hx e0 e1 e2 e6 e6b e7 e7b
  refine ⟨q.1, q.2, ?_, fun k hk => ?_⟩
  · rw [e2]; simp [uZ]
  · rw [e2]; simp [uZ, hk]
theorem dX3_readNames_0 : decode cX3_readNames 0 = .ok (.aload_n 0, 1) := by decide +kernel
theorem dX3_readNames_1 : decode cX3_readNames 1 = .ok (.getfield 22, 3) := by decide +kernel
theorem dX3_readNames_4 : decode cX3_readNames 4 = .ok (.getfield 102, 3) := by decide +kernel
theorem dX3_readNames_7 : decode cX3_readNames 7 = .ok (.ifCond .le 9, 3) := by decide +kernel
theorem dX3_readNames_16 : decode cX3_readNames 16 = .ok (.iconst 0, 1) := by decide +kernel
theorem dX3_readNames_17 : decode cX3_readNames 17 = .ok (.istore_n 1, 1) := by decide +kernel
theorem dX3_readNames_18 : decode cX3_readNames 18 = .ok (.iload_n 1, 1) := by decide +kernel
theorem dX3_readNames_19 : decode cX3_readNames 19 = .ok (.bipush 10, 2) := by decide +kernel
theorem dX3_readNames_21 : decode cX3_readNames 21 = .ok (.if_icmp .gt 105, 3) := by decide +kernel
theorem dX3_readNames_126 : decode cX3_readNames 126 = .ok (.iconst 1, 1) := by decide +kernel
theorem dX3_readNames_127 : decode cX3_readNames 127 = .ok (.ireturn, 1) := by decide +kernel
theorem dX3_readNames_24 : decode cX3_readNames 24 = .ok (.aload_n 0, 1) := by decide +kernel
theorem dX3_readNames_25 : decode cX3_readNames 25 = .ok (.invokevirtual 85, 3) := by decide +kernel
theorem dX3_readNames_28 : decode cX3_readNames 28 = .ok (.aload_n 0, 1) := by decide +kernel
theorem dX3_readNames_29 : decode cX3_readNames 29 = .ok (.getfield 49, 3) := by decide +kernel
theorem dX3_readNames_32 : decode cX3_readNames 32 = .ok (.bipush 19, 2) := by decide +kernel
theorem dX3_readNames_34 : decode cX3_readNames 34 = .ok (.if_icmp .eq 9, 3) := by decide +kernel
theorem dX3_readNames_43 : decode cX3_readNames 43 = .ok (.aload_n 0, 1) := by decide +kernel
theorem dX3_readNames_44 : decode cX3_readNames 44 = .ok (.invokevirtual 105, 3) := by decide +kernel
theorem dX3_readNames_47 : decode cX3_readNames 47 = .ok (.iconst (-1), 1) := by decide +kernel
theorem dX3_readNames_48 : decode cX3_readNames 48 = .ok (.if_icmp .eq 9, 3) := by decide +kernel
theorem dX3_readNames_57 : decode cX3_readNames 57 = .ok (.aload_n 0, 1) := by decide +kernel
theorem dX3_readNames_58 : decode cX3_readNames 58 = .ok (.getfield 22, 3) := by decide +kernel
theorem dX3_readNames_61 : decode cX3_readNames 61 = .ok (.getfield 102, 3) := by decide +kernel
theorem dX3_readNames_64 : decode cX3_readNames 64 = .ok (.bipush 10, 2) := by decide +kernel
theorem dX3_readNames_66 : decode cX3_readNames 66 = .ok (.if_icmp .lt 9, 3) := by decide +kernel
theorem dX3_readNames_75 : decode cX3_readNames 75 = .ok (.aload_n 0, 1) := by decide +kernel
theorem dX3_readNames_76 : decode cX3_readNames 76 = .ok (.getfield 43, 3) := by decide +kernel
theorem dX3_readNames_79 : decode cX3_readNames 79 = .ok (.aload_n 0, 1) := by decide +kernel
theorem dX3_readNames_80 : decode cX3_readNames 80 = .ok (.getfield 22, 3) := by decide +kernel
theorem dX3_readNames_83 : decode cX3_readNames 83 = .ok (.getfield 102, 3) := by decide +kernel
theorem dX3_readNames_86 : decode cX3_readNames 86 = .ok (.aload_n 0, 1) := by decide +kernel
theorem dX3_readNames_87 : decode cX3_readNames 87 = .ok (.getfield 58, 3) := by decide +kernel
theorem dX3_readNames_90 : decode cX3_readNames 90 = .ok (.lastore, 1) := by decide +kernel
theorem dX3_readNames_91 : decode cX3_readNames 91 = .ok (.aload_n 0, 1) := by decide +kernel
theorem dX3_readNames_92 : decode cX3_readNames 92 = .ok (.getfield 22, 3) := by decide +kernel
theorem dX3_readNames_95 : decode cX3_readNames 95 = .ok (.dup, 1) := by decide +kernel
theorem dX3_readNames_96 : decode cX3_readNames 96 = .ok (.getfield 102, 3) := by decide +kernel
theorem dX3_readNames_99 : decode cX3_readNames 99 = .ok (.iconst 1, 1) := by decide +kernel
theorem dX3_readNames_100 : decode cX3_readNames 100 = .ok (.iadd, 1) := by decide +kernel
theorem dX3_readNames_101 : decode cX3_readNames 101 = .ok (.putfield 102, 3) := by decide +kernel
theorem dX3_readNames_104 : decode cX3_readNames 104 = .ok (.aload_n 0, 1) := by decide +kernel
theorem dX3_readNames_105 : decode cX3_readNames 105 = .ok (.invokevirtual 85, 3) := by decide +kernel
theorem dX3_readNames_108 : decode cX3_readNames 108 = .ok (.aload_n 0, 1) := by decide +kernel
theorem dX3_readNames_109 : decode cX3_readNames 109 = .ok (.getfield 49, 3) := by decide +kernel
theorem dX3_readNames_112 : decode cX3_readNames 112 = .ok (.bipush 22, 2) := by decide +kernel
theorem dX3_readNames_114 : decode cX3_readNames 114 = .ok (.if_icmp .eq 6, 3) := by decide +kernel
theorem dX3_readNames_120 : decode cX3_readNames 120 = .ok (.iinc 1 1, 3) := by decide +kernel
theorem dX3_readNames_123 : decode cX3_readNames 123 = .ok (.goto (-105), 3) := by decide +kernel
theorem dX3_readNames_117 : decode cX3_readNames 117 = .ok (.goto 9, 3) := by decide +kernel
theorem dX3_readNames_69 : decode cX3_readNames 69 = .ok (.aload_n 0, 1) := by decide +kernel
theorem dX3_readNames_70 : decode cX3_readNames 70 = .ok (.iconst 5, 1) := by decide +kernel
theorem dX3_readNames_71 : decode cX3_readNames 71 = .ok (.invokevirtual 98, 3) := by decide +kernel
theorem dX3_readNames_74 : decode cX3_readNames 74 = .ok (.ireturn, 1) := by decide +kernel
theorem dX3_readNames_51 : decode cX3_readNames 51 = .ok (.aload_n 0, 1) := by decide +kernel
theorem dX3_readNames_52 : decode cX3_readNames 52 = .ok (.iconst 3, 1) := by decide +kernel
theorem dX3_readNames_53 : decode cX3_readNames 53 = .ok (.invokevirtual 98, 3) := by decide +kernel
theorem dX3_readNames_56 : decode cX3_readNames 56 = .ok (.ireturn, 1) := by decide +kernel
theorem dX3_readNames_37 : decode cX3_readNames 37 = .ok (.aload_n 0, 1) := by decide +kernel
theorem dX3_readNames_38 : decode cX3_readNames 38 = .ok (.iconst 1, 1) := by decide +kernel
theorem dX3_readNames_39 : decode cX3_readNames 39 = .ok (.invokevirtual 98, 3) := by decide +kernel
theorem dX3_readNames_42 : decode cX3_readNames 42 = .ok (.ireturn, 1) := by decide +kernel
theorem dX3_readNames_10 : decode cX3_readNames 10 = .ok (.aload_n 0, 1) := by decide +kernel
theorem dX3_readNames_11 : decode cX3_readNames 11 = .ok (.iconst 3, 1) := by decide +kernel
theorem dX3_readNames_12 : decode cX3_readNames 12 = .ok (.invokevirtual 98, 3) := by decide +kernel
theorem dX3_readNames_15 : decode cX3_readNames 15 = .ok (.ireturn, 1) := by decide +kernel
theorem dX3_read_0 : decode cX3_read 0 = .ok (.aload_n 0, 1) := by decide +kernel
theorem dX3_read_1 : decode cX3_read 1 = .ok (.iload_n 1, 1) := by decide +kernel
theorem dX3_read_2 : decode cX3_read 2 = .ok (.putfield 46, 3) := by decide +kernel
theorem dX3_read_5 : decode cX3_read 5 = .ok (.aload_n 0, 1) := by decide +kernel
theorem dX3_read_6 : decode cX3_read 6 = .ok (.iconst 0, 1) := by decide +kernel
theorem dX3_read_7 : decode cX3_read 7 = .ok (.putfield 15, 3) := by decide +kernel
theorem dX3_read_10 : decode cX3_read 10 = .ok (.aload_n 0, 1) := by decide +kernel
theorem dX3_read_11 : decode cX3_read 11 = .ok (.iconst 0, 1) := by decide +kernel
theorem dX3_read_12 : decode cX3_read 12 = .ok (.putfield 33, 3) := by decide +kernel
theorem dX3_read_15 : decode cX3_read 15 = .ok (.aload_n 0, 1) := by decide +kernel
theorem dX3_read_16 : decode cX3_read 16 = .ok (.iconst 0, 1) := by decide +kernel
theorem dX3_read_17 : decode cX3_read 17 = .ok (.putfield 36, 3) := by decide +kernel
theorem dX3_read_20 : decode cX3_read 20 = .ok (.aload_n 0, 1) := by decide +kernel
theorem dX3_read_21 : decode cX3_read 21 = .ok (.iconst 0, 1) := by decide +kernel
theorem dX3_read_22 : decode cX3_read 22 = .ok (.putfield 55, 3) := by decide +kernel
theorem dX3_read_25 : decode cX3_read 25 = .ok (.aload_n 0, 1) := by decide +kernel
theorem dX3_read_26 : decode cX3_read 26 = .ok (.getfield 22, 3) := by decide +kernel
theorem dX3_read_29 : decode cX3_read 29 = .ok (.invokevirtual 79, 3) := by decide +kernel
theorem k_558 : Cond.methodLink RX3 79 yX2_clear ∈ bw_T := bw_m 558 (by decide +kernel) rfl
theorem dX3_read_32 : decode cX3_read 32 = .ok (.aload_n 0, 1) := by decide +kernel
theorem dX3_read_33 : decode cX3_read 33 = .ok (.getfield 29, 3) := by decide +kernel
theorem dX3_read_36 : decode cX3_read 36 = .ok (.iconst 0, 1) := by decide +kernel
theorem dX3_read_37 : decode cX3_read 37 = .ok (.putfield 82, 3) := by decide +kernel
theorem dX3_read_40 : decode cX3_read 40 = .ok (.iconst 0, 1) := by decide +kernel
theorem dX3_read_41 : decode cX3_read 41 = .ok (.istore_n 2, 1) := by decide +kernel
theorem dX3_read_42 : decode cX3_read 42 = .ok (.iload_n 2, 1) := by decide +kernel
theorem dX3_read_43 : decode cX3_read 43 = .ok (.sipush 900, 3) := by decide +kernel
theorem dX3_read_46 : decode cX3_read 46 = .ok (.if_icmp .gt 81, 3) := by decide +kernel
theorem dX3_read_127 : decode cX3_read 127 = .ok (.aload_n 0, 1) := by decide +kernel
theorem dX3_read_128 : decode cX3_read 128 = .ok (.getfield 49, 3) := by decide +kernel
theorem dX3_read_131 : decode cX3_read 131 = .ok (.bipush 24, 2) := by decide +kernel
theorem dX3_read_133 : decode cX3_read 133 = .ok (.if_icmp .eq 9, 3) := by decide +kernel
theorem dX3_read_142 : decode cX3_read 142 = .ok (.aload_n 0, 1) := by decide +kernel
theorem dX3_read_143 : decode cX3_read 143 = .ok (.getfield 22, 3) := by decide +kernel
theorem dX3_read_146 : decode cX3_read 146 = .ok (.getfield 102, 3) := by decide +kernel
theorem dX3_read_149 : decode cX3_read 149 = .ok (.ifCond .gt 12, 3) := by decide +kernel
theorem dX3_read_161 : decode cX3_read 161 = .ok (.iconst 1, 1) := by decide +kernel
theorem dX3_read_162 : decode cX3_read 162 = .ok (.goto 4, 3) := by decide +kernel
theorem dX3_read_166 : decode cX3_read 166 = .ok (.ireturn, 1) := by decide +kernel
theorem dX3_read_152 : decode cX3_read 152 = .ok (.aload_n 0, 1) := by decide +kernel
theorem dX3_read_153 : decode cX3_read 153 = .ok (.bipush 6, 2) := by decide +kernel
theorem dX3_read_155 : decode cX3_read 155 = .ok (.invokevirtual 98, 3) := by decide +kernel
theorem dX3_read_158 : decode cX3_read 158 = .ok (.ifCond .eq 7, 3) := by decide +kernel
theorem dX3_read_165 : decode cX3_read 165 = .ok (.iconst 0, 1) := by decide +kernel
theorem dX3_read_136 : decode cX3_read 136 = .ok (.aload_n 0, 1) := by decide +kernel
theorem dX3_read_137 : decode cX3_read 137 = .ok (.iconst 1, 1) := by decide +kernel
theorem dX3_read_138 : decode cX3_read 138 = .ok (.invokevirtual 98, 3) := by decide +kernel
theorem dX3_read_141 : decode cX3_read 141 = .ok (.ireturn, 1) := by decide +kernel
theorem dX3_read_49 : decode cX3_read 49 = .ok (.aload_n 0, 1) := by decide +kernel
theorem dX3_read_50 : decode cX3_read 50 = .ok (.invokevirtual 85, 3) := by decide +kernel
theorem dX3_read_53 : decode cX3_read 53 = .ok (.aload_n 0, 1) := by decide +kernel
theorem dX3_read_54 : decode cX3_read 54 = .ok (.getfield 49, 3) := by decide +kernel
theorem dX3_read_57 : decode cX3_read 57 = .ok (.ifCond .ne 10, 3) := by decide +kernel
theorem dX3_read_67 : decode cX3_read 67 = .ok (.aload_n 0, 1) := by decide +kernel
theorem dX3_read_68 : decode cX3_read 68 = .ok (.getfield 49, 3) := by decide +kernel
theorem dX3_read_71 : decode cX3_read 71 = .ok (.iconst 1, 1) := by decide +kernel
theorem dX3_read_72 : decode cX3_read 72 = .ok (.if_icmp .ne 10, 3) := by decide +kernel
theorem dX3_read_82 : decode cX3_read 82 = .ok (.aload_n 0, 1) := by decide +kernel
theorem dX3_read_83 : decode cX3_read 83 = .ok (.getfield 49, 3) := by decide +kernel
theorem dX3_read_86 : decode cX3_read 86 = .ok (.iconst 2, 1) := by decide +kernel
theorem dX3_read_87 : decode cX3_read 87 = .ok (.if_icmp .ne 10, 3) := by decide +kernel
theorem dX3_read_97 : decode cX3_read 97 = .ok (.aload_n 0, 1) := by decide +kernel
theorem dX3_read_98 : decode cX3_read 98 = .ok (.iconst 1, 1) := by decide +kernel
theorem dX3_read_99 : decode cX3_read 99 = .ok (.invokevirtual 98, 3) := by decide +kernel
theorem dX3_read_102 : decode cX3_read 102 = .ok (.istore_n 3, 1) := by decide +kernel
theorem dX3_read_103 : decode cX3_read 103 = .ok (.iload_n 3, 1) := by decide +kernel
theorem dX3_read_104 : decode cX3_read 104 = .ok (.ifCond .ne 5, 3) := by decide +kernel
theorem dX3_read_109 : decode cX3_read 109 = .ok (.aload_n 0, 1) := by decide +kernel
theorem dX3_read_110 : decode cX3_read 110 = .ok (.getfield 49, 3) := by decide +kernel
theorem dX3_read_113 : decode cX3_read 113 = .ok (.bipush 21, 2) := by decide +kernel
theorem dX3_read_115 : decode cX3_read 115 = .ok (.if_icmp .eq 6, 3) := by decide +kernel
theorem dX3_read_121 : decode cX3_read 121 = .ok (.iinc 2 1, 3) := by decide +kernel
theorem dX3_read_124 : decode cX3_read 124 = .ok (.goto (-82), 3) := by decide +kernel
theorem dX3_read_118 : decode cX3_read 118 = .ok (.goto 9, 3) := by decide +kernel
theorem dX3_read_107 : decode cX3_read 107 = .ok (.iconst 0, 1) := by decide +kernel
theorem dX3_read_108 : decode cX3_read 108 = .ok (.ireturn, 1) := by decide +kernel
theorem dX3_read_90 : decode cX3_read 90 = .ok (.aload_n 0, 1) := by decide +kernel
theorem dX3_read_91 : decode cX3_read 91 = .ok (.invokevirtual 95, 3) := by decide +kernel
theorem k_627 : Cond.methodLink RX3 95 yX3_readWant ∈ bw_T := bw_m 627 (by decide +kernel) rfl
theorem kv_X3_readWant : bw_KV RX3 yX3_readWant (Cond.code yX3_readWant cX3_readWant 2 (some .boolean)) := ⟨bw_m 629 (by decide +kernel) rfl, bw_m 18 (by decide +kernel) rfl, bw_m 95 (by decide +kernel) rfl, bw_m 630 (by decide +kernel) rfl⟩
theorem dX3_read_94 : decode cX3_read 94 = .ok (.goto 8, 3) := by decide +kernel
theorem dX3_read_75 : decode cX3_read 75 = .ok (.aload_n 0, 1) := by decide +kernel
theorem dX3_read_76 : decode cX3_read 76 = .ok (.invokevirtual 92, 3) := by decide +kernel
theorem k_583 : Cond.methodLink RX3 92 yX3_readLine ∈ bw_T := bw_m 583 (by decide +kernel) rfl
theorem kv_X3_readLine : bw_KV RX3 yX3_readLine (Cond.code yX3_readLine cX3_readLine 2 (some .boolean)) := ⟨bw_m 585 (by decide +kernel) rfl, bw_m 8 (by decide +kernel) rfl, bw_m 95 (by decide +kernel) rfl, bw_m 586 (by decide +kernel) rfl⟩
theorem dX3_read_79 : decode cX3_read 79 = .ok (.goto 23, 3) := by decide +kernel
theorem dX3_read_60 : decode cX3_read 60 = .ok (.aload_n 0, 1) := by decide +kernel
theorem dX3_read_61 : decode cX3_read 61 = .ok (.invokevirtual 88, 3) := by decide +kernel
theorem k_571 : Cond.methodLink RX3 88 yX3_readNames ∈ bw_T := bw_m 571 (by decide +kernel) rfl
theorem kv_X3_readNames : bw_KV RX3 yX3_readNames (Cond.code yX3_readNames cX3_readNames 2 (some .boolean)) := ⟨bw_m 573 (by decide +kernel) rfl, bw_m 5 (by decide +kernel) rfl, bw_m 95 (by decide +kernel) rfl, bw_m 574 (by decide +kernel) rfl⟩
theorem dX3_read_64 : decode cX3_read 64 = .ok (.goto 38, 3) := by decide +kernel