theorem NetW.set5 {n : Int} {g : Nat → Nat → Int} (h : NetW n g) {f : Nat → Int} {i v : Int} (e : f = uZ (g 5) i.toNat v) (hv : 0 ≤ v ∧ v ≤ 9) : NetW n (nSet g 5 f) := by
  obtain ⟨h0, h1, h2, h3, h4, h5, h6, h7, h8⟩ := h
  subst e
  exact ⟨h0, h1, h2, h3, h4, h5, uZ_all (P := fun _ y => 0 ≤ y ∧ y ≤ 9) h6 (fun _ => hv), h7, h8⟩
theorem NetW.set2 {n : Int} {g : Nat → Nat → Int} (h : NetW n g) {f : Nat → Int} {i v : Int} (e : f = uZ (g 2) i.toNat v) (hv : 0 ≤ v ∧ v ≤ 4) : NetW n (nSet g 2 f) := by
  obtain ⟨h0, h1, h2, h3, h4, h5, h6, h7, h8⟩ := h
  subst e
  exact ⟨h0, h1, h2, uZ_all (P := fun _ y => 0 ≤ y ∧ y ≤ 4) h3 (fun _ => hv), h4, h5, h6, h7, h8⟩
theorem NetW.set0 {n : Int} {g : Nat → Nat → Int} (h : NetW n g) {f : Nat → Int} {i v : Int} (e : f = uZ (g 0) i.toNat v) (hv : -1 ≤ v ∧ v ≤ 2) : NetW n (nSet g 0 f) := by
  obtain ⟨h0, h1, h2, h3, h4, h5, h6, h7, h8⟩ := h
  subst e
  exact ⟨h0, uZ_all (P := fun _ y => -1 ≤ y ∧ y ≤ 2) h1 (fun _ => hv), h2, h3, h4, h5, h6, h7, h8⟩
theorem NetW.set34 {n : Int} {g : Nat → Nat → Int} (h : NetW n g) {f3 f4 : Nat → Int} {i w v : Int} (e3 : f3 = uZ (g 3) i.toNat w) (e4 : f4 = uZ (g 4) i.toNat v) (hw : 0 ≤ w ∧ w ≤ 3) (hv : 0 ≤ v ∧ v ≤ 9 ∧ (w ≠ 3 → v ≤ 3)) : NetW n (nSet (nSet g 3 f3) 4 f4) := by
  obtain ⟨h0, h1, h2, h3, h4, h5, h6, h7, h8⟩ := h
  subst e3 e4
  refine ⟨h0, h1, h2, h3, uZ_all (P := fun _ y => 0 ≤ y ∧ y ≤ 3) h4 (fun _ => hw), ?_, h6, h7, h8⟩
  intro k hk
  have z := h5 k hk
  show 0 ≤ uZ (g 4) i.toNat v k ∧ uZ (g 4) i.toNat v k ≤ 9 ∧ (uZ (g 3) i.toNat w k ≠ 3 → uZ (g 4) i.toNat v k ≤ 3)
  by_cases e : k = i.toNat
  · simp only [uZ, if_pos e]; exact hv
  · simp only [uZ, if_neg e]; exact z
theorem dX3_readAct_0 : decode cX3_readAct 0 = .ok (.aload_n 0, 1) := bo_42 (by decide +kernel)
theorem dX3_readAct_1 : decode cX3_readAct 1 = .ok (.getfield 49, 3) := bo_180 0 49 (by decide +kernel)
theorem dX3_readAct_4 : decode cX3_readAct 4 = .ok (.iconst 4, 1) := bo_7 (by decide +kernel)
theorem dX3_readAct_5 : decode cX3_readAct 5 = .ok (.isub, 1) := bo_100 (by decide +kernel)
theorem dX3_readAct_6 : decode cX3_readAct 6 = .ok (.iconst 0, 1) := bo_3 (by decide +kernel)
theorem dX3_readAct_7 : decode cX3_readAct 7 = .ok (.iadd, 1) := bo_96 (by decide +kernel)
theorem dX3_readAct_8 : decode cX3_readAct 8 = .ok (.istore_n 2, 1) := bo_61 (by decide +kernel)
theorem dX3_readAct_9 : decode cX3_readAct 9 = .ok (.aload_n 0, 1) := bo_42 (by decide +kernel)
theorem dX3_readAct_10 : decode cX3_readAct 10 = .ok (.invokevirtual 85, 3) := bo_182 0 85 (by decide +kernel)
theorem dX3_readAct_13 : decode cX3_readAct 13 = .ok (.iload_n 2, 1) := bo_28 (by decide +kernel)
theorem dX3_readAct_14 : decode cX3_readAct 14 = .ok (.iconst 3, 1) := bo_6 (by decide +kernel)
theorem dX3_readAct_15 : decode cX3_readAct 15 = .ok (.if_icmp .ne 13, 3) := bo_160 0 13 (by decide +kernel)
theorem dX3_readAct_28 : decode cX3_readAct 28 = .ok (.aload_n 0, 1) := bo_42 (by decide +kernel)
theorem dX3_readAct_29 : decode cX3_readAct 29 = .ok (.invokevirtual 130, 3) := bo_182 0 130 (by decide +kernel)
theorem dX3_readAct_32 : decode cX3_readAct 32 = .ok (.ifCond .ne 5, 3) := bo_154 0 5 (by decide +kernel)
theorem dX3_readAct_37 : decode cX3_readAct 37 = .ok (.aload_n 0, 1) := bo_42 (by decide +kernel)
theorem dX3_readAct_38 : decode cX3_readAct 38 = .ok (.getfield 22, 3) := bo_180 0 22 (by decide +kernel)
theorem dX3_readAct_41 : decode cX3_readAct 41 = .ok (.getfield 133, 3) := bo_180 0 133 (by decide +kernel)
theorem k_158 : Cond.fieldLink RX3 133 "BurntWays$Net" "actKinds" "[I" ∈ bw_T := bw_m 158 (by decide +kernel) rfl
theorem dX3_readAct_44 : decode cX3_readAct 44 = .ok (.iload_n 1, 1) := bo_27 (by decide +kernel)
theorem dX3_readAct_45 : decode cX3_readAct 45 = .ok (.iload_n 2, 1) := bo_28 (by decide +kernel)
theorem dX3_readAct_46 : decode cX3_readAct 46 = .ok (.iastore, 1) := bo_79 (by decide +kernel)
theorem dX3_readAct_47 : decode cX3_readAct 47 = .ok (.aload_n 0, 1) := bo_42 (by decide +kernel)
theorem dX3_readAct_48 : decode cX3_readAct 48 = .ok (.getfield 22, 3) := bo_180 0 22 (by decide +kernel)
theorem dX3_readAct_51 : decode cX3_readAct 51 = .ok (.getfield 136, 3) := bo_180 0 136 (by decide +kernel)
theorem k_161 : Cond.fieldLink RX3 136 "BurntWays$Net" "actTargets" "[I" ∈ bw_T := bw_m 161 (by decide +kernel) rfl
theorem dX3_readAct_54 : decode cX3_readAct 54 = .ok (.iload_n 1, 1) := bo_27 (by decide +kernel)
theorem dX3_readAct_55 : decode cX3_readAct 55 = .ok (.iload_n 2, 1) := bo_28 (by decide +kernel)
theorem dX3_readAct_56 : decode cX3_readAct 56 = .ok (.iconst 3, 1) := bo_6 (by decide +kernel)
theorem dX3_readAct_57 : decode cX3_readAct 57 = .ok (.if_icmp .ne 10, 3) := bo_160 0 10 (by decide +kernel)
theorem dX3_readAct_67 : decode cX3_readAct 67 = .ok (.aload_n 0, 1) := bo_42 (by decide +kernel)
theorem dX3_readAct_68 : decode cX3_readAct 68 = .ok (.getfield 49, 3) := bo_180 0 49 (by decide +kernel)
theorem dX3_readAct_71 : decode cX3_readAct 71 = .ok (.bipush 15, 2) := bo_16 15 (by decide +kernel)
theorem dX3_readAct_73 : decode cX3_readAct 73 = .ok (.isub, 1) := bo_100 (by decide +kernel)
theorem dX3_readAct_74 : decode cX3_readAct 74 = .ok (.iastore, 1) := bo_79 (by decide +kernel)
theorem dX3_readAct_75 : decode cX3_readAct 75 = .ok (.aload_n 0, 1) := bo_42 (by decide +kernel)
theorem dX3_readAct_76 : decode cX3_readAct 76 = .ok (.getfield 22, 3) := bo_180 0 22 (by decide +kernel)
theorem dX3_readAct_79 : decode cX3_readAct 79 = .ok (.getfield 139, 3) := bo_180 0 139 (by decide +kernel)
theorem k_164 : Cond.fieldLink RX3 139 "BurntWays$Net" "actValues" "[I" ∈ bw_T := bw_m 164 (by decide +kernel) rfl
theorem dX3_readAct_82 : decode cX3_readAct 82 = .ok (.iload_n 1, 1) := bo_27 (by decide +kernel)
theorem dX3_readAct_83 : decode cX3_readAct 83 = .ok (.iconst 0, 1) := bo_3 (by decide +kernel)
theorem dX3_readAct_84 : decode cX3_readAct 84 = .ok (.iastore, 1) := bo_79 (by decide +kernel)
theorem dX3_readAct_85 : decode cX3_readAct 85 = .ok (.aload_n 0, 1) := bo_42 (by decide +kernel)
theorem dX3_readAct_86 : decode cX3_readAct 86 = .ok (.invokevirtual 85, 3) := bo_182 0 85 (by decide +kernel)
theorem dX3_readAct_89 : decode cX3_readAct 89 = .ok (.iload_n 2, 1) := bo_28 (by decide +kernel)
theorem dX3_readAct_90 : decode cX3_readAct 90 = .ok (.iconst 2, 1) := bo_5 (by decide +kernel)
theorem dX3_readAct_91 : decode cX3_readAct 91 = .ok (.if_icmp .eq 5, 3) := bo_159 0 5 (by decide +kernel)
theorem dX3_readAct_96 : decode cX3_readAct 96 = .ok (.aload_n 0, 1) := bo_42 (by decide +kernel)
theorem dX3_readAct_97 : decode cX3_readAct 97 = .ok (.iconst 0, 1) := bo_3 (by decide +kernel)
theorem dX3_readAct_98 : decode cX3_readAct 98 = .ok (.bipush 9, 2) := bo_16 9 (by decide +kernel)
theorem dX3_readAct_100 : decode cX3_readAct 100 = .ok (.invokevirtual 142, 3) := bo_182 0 142 (by decide +kernel)
theorem dX3_readAct_103 : decode cX3_readAct 103 = .ok (.ifCond .ne 5, 3) := bo_154 0 5 (by decide +kernel)
theorem dX3_readAct_108 : decode cX3_readAct 108 = .ok (.aload_n 0, 1) := bo_42 (by decide +kernel)
theorem dX3_readAct_109 : decode cX3_readAct 109 = .ok (.getfield 22, 3) := bo_180 0 22 (by decide +kernel)
theorem dX3_readAct_112 : decode cX3_readAct 112 = .ok (.getfield 139, 3) := bo_180 0 139 (by decide +kernel)
theorem dX3_readAct_115 : decode cX3_readAct 115 = .ok (.iload_n 1, 1) := bo_27 (by decide +kernel)
theorem dX3_readAct_116 : decode cX3_readAct 116 = .ok (.aload_n 0, 1) := bo_42 (by decide +kernel)
theorem dX3_readAct_117 : decode cX3_readAct 117 = .ok (.getfield 62, 3) := bo_180 0 62 (by decide +kernel)
theorem dX3_readAct_120 : decode cX3_readAct 120 = .ok (.iastore, 1) := bo_79 (by decide +kernel)
theorem dX3_readAct_121 : decode cX3_readAct 121 = .ok (.aload_n 0, 1) := bo_42 (by decide +kernel)
theorem dX3_readAct_122 : decode cX3_readAct 122 = .ok (.invokevirtual 85, 3) := bo_182 0 85 (by decide +kernel)
theorem dX3_readAct_125 : decode cX3_readAct 125 = .ok (.iconst 1, 1) := bo_4 (by decide +kernel)
theorem dX3_readAct_126 : decode cX3_readAct 126 = .ok (.ireturn, 1) := bo_172 (by decide +kernel)
theorem dX3_readAct_106 : decode cX3_readAct 106 = .ok (.iconst 0, 1) := bo_3 (by decide +kernel)
theorem dX3_readAct_107 : decode cX3_readAct 107 = .ok (.ireturn, 1) := bo_172 (by decide +kernel)
theorem dX3_readAct_94 : decode cX3_readAct 94 = .ok (.iconst 1, 1) := bo_4 (by decide +kernel)
theorem dX3_readAct_95 : decode cX3_readAct 95 = .ok (.ireturn, 1) := bo_172 (by decide +kernel)
theorem dX3_readAct_35 : decode cX3_readAct 35 = .ok (.iconst 0, 1) := bo_3 (by decide +kernel)
theorem dX3_readAct_36 : decode cX3_readAct 36 = .ok (.ireturn, 1) := bo_172 (by decide +kernel)
theorem dX3_readAct_18 : decode cX3_readAct 18 = .ok (.aload_n 0, 1) := bo_42 (by decide +kernel)
theorem dX3_readAct_19 : decode cX3_readAct 19 = .ok (.invokevirtual 108, 3) := bo_182 0 108 (by decide +kernel)
theorem dX3_readAct_22 : decode cX3_readAct 22 = .ok (.ifCond .ne 15, 3) := bo_154 0 15 (by decide +kernel)
theorem dX3_readAct_60 : decode cX3_readAct 60 = .ok (.aload_n 0, 1) := bo_42 (by decide +kernel)
theorem dX3_readAct_61 : decode cX3_readAct 61 = .ok (.invokevirtual 105, 3) := bo_182 0 105 (by decide +kernel)
theorem dX3_readAct_64 : decode cX3_readAct 64 = .ok (.goto 10, 3) := bo_167 0 10 (by decide +kernel)
theorem dX3_readAct_25 : decode cX3_readAct 25 = .ok (.goto 10, 3) := bo_167 0 10 (by decide +kernel)