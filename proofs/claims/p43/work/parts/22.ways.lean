theorem NetW.set7 {n : Int} {g : Nat → Nat → Int} (h : NetW n g) {f : Nat → Int} {i v : Int} (e : f = uZ (g 7) i.toNat v) (hv : 0 ≤ v ∧ v ≤ 9 ∧ (0 < v → 0 ≤ g 6 i.toNat)) : NetW n (nSet g 7 f) := by
  obtain ⟨h0, h1, h2, h3, h4, h5, h6, h7, h8⟩ := h
  subst e
  refine ⟨h0, h1, h2, h3, h4, h5, h6, ?_, ?_⟩
  · intro k hk
    have z := h7 k hk
    show -2 ≤ g 6 k ∧ g 6 k ≤ 9 ∧ (0 < uZ (g 7) i.toNat v k → 0 ≤ g 6 k)
    by_cases e : k = i.toNat
    · subst e; simp only [uZ, if_true]; exact ⟨z.1, z.2.1, hv.2.2⟩
    · simp only [uZ, if_neg e]; exact z
  · exact uZ_all (P := fun _ y => 0 ≤ y ∧ y ≤ 9) h8 (fun _ => ⟨hv.1, hv.2.1⟩)
theorem NetW.set6 {n : Int} {g : Nat → Nat → Int} (h : NetW n g) {f : Nat → Int} {i v : Int} (e : f = uZ (g 6) i.toNat v) (hv : 0 ≤ v ∧ v ≤ 9) : NetW n (nSet g 6 f) := by
  obtain ⟨h0, h1, h2, h3, h4, h5, h6, h7, h8⟩ := h
  subst e
  refine ⟨h0, h1, h2, h3, h4, h5, h6, ?_, h8⟩
  intro k hk
  have z := h7 k hk
  show -2 ≤ uZ (g 6) i.toNat v k ∧ uZ (g 6) i.toNat v k ≤ 9 ∧ (0 < g 7 k → 0 ≤ uZ (g 6) i.toNat v k)
  by_cases e : k = i.toNat
  · subst e; simp only [uZ, if_true]; exact ⟨by omega, hv.2, fun _ => hv.1⟩
  · simp only [uZ, if_neg e]; exact z
theorem NetW.set1 {n : Int} {g : Nat → Nat → Int} (h : NetW n g) {f : Nat → Int} {i v : Int} (e : f = uZ (g 1) i.toNat v) (hv : -2 ≤ v ∧ v ≤ 3) : NetW n (nSet g 1 f) := by
  obtain ⟨h0, h1, h2, h3, h4, h5, h6, h7, h8⟩ := h
  subst e
  exact ⟨h0, h1, uZ_all (P := fun _ y => -2 ≤ y ∧ y ≤ 3) h2 (fun _ => hv), h3, h4, h5, h6, h7, h8⟩
theorem dX3_readWay_0 : decode cX3_readWay 0 = .ok (.aload_n 0, 1) := bo_42 (by decide +kernel)
theorem dX3_readWay_1 : decode cX3_readWay 1 = .ok (.invokevirtual 85, 3) := bo_182 0 85 (by decide +kernel)
theorem k_559 : Cond.methodLink RX3 85 yX3_advance ∈ bw_T := bw_m 559 (by decide +kernel) rfl
theorem kv_X3_advance : bw_KV RX3 yX3_advance (Cond.code yX3_advance cX3_advance 2 none) := ⟨bw_m 561 (by decide +kernel) rfl, bw_m 2 (by decide +kernel) rfl, bw_m 95 (by decide +kernel) rfl, bw_m 562 (by decide +kernel) rfl⟩
theorem dX3_readWay_4 : decode cX3_readWay 4 = .ok (.aload_n 0, 1) := bo_42 (by decide +kernel)
theorem dX3_readWay_5 : decode cX3_readWay 5 = .ok (.invokevirtual 108, 3) := bo_182 0 108 (by decide +kernel)
theorem k_587 : Cond.methodLink RX3 108 yX3_isKnownName ∈ bw_T := bw_m 587 (by decide +kernel) rfl
theorem kv_X3_isKnownName : bw_KV RX3 yX3_isKnownName (Cond.code yX3_isKnownName cX3_isKnownName 1 (some .boolean)) := ⟨bw_m 589 (by decide +kernel) rfl, bw_m 9 (by decide +kernel) rfl, bw_m 95 (by decide +kernel) rfl, bw_m 590 (by decide +kernel) rfl⟩
theorem dX3_readWay_8 : decode cX3_readWay 8 = .ok (.ifCond .ne 5, 3) := bo_154 0 5 (by decide +kernel)
theorem dX3_readWay_13 : decode cX3_readWay 13 = .ok (.aload_n 0, 1) := bo_42 (by decide +kernel)
theorem dX3_readWay_14 : decode cX3_readWay 14 = .ok (.getfield 22, 3) := bo_180 0 22 (by decide +kernel)
theorem dX3_readWay_17 : decode cX3_readWay 17 = .ok (.getfield 158, 3) := bo_180 0 158 (by decide +kernel)
theorem k_168 : Cond.fieldLink RX3 158 "BurntWays$Net" "leads" "[I" ∈ bw_T := bw_m 168 (by decide +kernel) rfl
theorem dX3_readWay_20 : decode cX3_readWay 20 = .ok (.iload_n 1, 1) := bo_27 (by decide +kernel)
theorem dX3_readWay_21 : decode cX3_readWay 21 = .ok (.aload_n 0, 1) := bo_42 (by decide +kernel)
theorem dX3_readWay_22 : decode cX3_readWay 22 = .ok (.invokevirtual 105, 3) := bo_182 0 105 (by decide +kernel)
theorem dX3_readWay_25 : decode cX3_readWay 25 = .ok (.iastore, 1) := bo_79 (by decide +kernel)
theorem dX3_readWay_26 : decode cX3_readWay 26 = .ok (.aload_n 0, 1) := bo_42 (by decide +kernel)
theorem dX3_readWay_27 : decode cX3_readWay 27 = .ok (.invokevirtual 85, 3) := bo_182 0 85 (by decide +kernel)
theorem dX3_readWay_30 : decode cX3_readWay 30 = .ok (.aload_n 0, 1) := bo_42 (by decide +kernel)
theorem dX3_readWay_31 : decode cX3_readWay 31 = .ok (.bipush 12, 2) := bo_16 12 (by decide +kernel)
theorem dX3_readWay_33 : decode cX3_readWay 33 = .ok (.invokevirtual 117, 3) := bo_182 0 117 (by decide +kernel)
theorem k_611 : Cond.methodLink RX3 117 yX3_isWord ∈ bw_T := bw_m 611 (by decide +kernel) rfl
theorem kv_X3_isWord : bw_KV RX3 yX3_isWord (Cond.code yX3_isWord cX3_isWord 2 (some .boolean)) := ⟨bw_m 613 (by decide +kernel) rfl, bw_m 14 (by decide +kernel) rfl, bw_m 95 (by decide +kernel) rfl, bw_m 614 (by decide +kernel) rfl⟩
theorem dX3_readWay_36 : decode cX3_readWay 36 = .ok (.ifCond .ne 5, 3) := bo_154 0 5 (by decide +kernel)
theorem dX3_readWay_41 : decode cX3_readWay 41 = .ok (.aload_n 0, 1) := bo_42 (by decide +kernel)
theorem dX3_readWay_42 : decode cX3_readWay 42 = .ok (.invokevirtual 85, 3) := bo_182 0 85 (by decide +kernel)
theorem dX3_readWay_45 : decode cX3_readWay 45 = .ok (.aload_n 0, 1) := bo_42 (by decide +kernel)
theorem dX3_readWay_46 : decode cX3_readWay 46 = .ok (.iconst 1, 1) := bo_4 (by decide +kernel)
theorem dX3_readWay_47 : decode cX3_readWay 47 = .ok (.bipush 9, 2) := bo_16 9 (by decide +kernel)
theorem dX3_readWay_49 : decode cX3_readWay 49 = .ok (.invokevirtual 142, 3) := bo_182 0 142 (by decide +kernel)
theorem k_607 : Cond.methodLink RX3 142 yX3_isWhole ∈ bw_T := bw_m 607 (by decide +kernel) rfl
theorem kv_X3_isWhole : bw_KV RX3 yX3_isWhole (Cond.code yX3_isWhole cX3_isWhole 3 (some .boolean)) := ⟨bw_m 609 (by decide +kernel) rfl, bw_m 13 (by decide +kernel) rfl, bw_m 95 (by decide +kernel) rfl, bw_m 610 (by decide +kernel) rfl⟩
theorem dX3_readWay_52 : decode cX3_readWay 52 = .ok (.ifCond .ne 5, 3) := bo_154 0 5 (by decide +kernel)
theorem dX3_readWay_57 : decode cX3_readWay 57 = .ok (.aload_n 0, 1) := bo_42 (by decide +kernel)
theorem dX3_readWay_58 : decode cX3_readWay 58 = .ok (.getfield 22, 3) := bo_180 0 22 (by decide +kernel)
theorem dX3_readWay_61 : decode cX3_readWay 61 = .ok (.getfield 161, 3) := bo_180 0 161 (by decide +kernel)
theorem k_172 : Cond.fieldLink RX3 161 "BurntWays$Net" "laid" "[I" ∈ bw_T := bw_m 172 (by decide +kernel) rfl
theorem dX3_readWay_64 : decode cX3_readWay 64 = .ok (.iload_n 1, 1) := bo_27 (by decide +kernel)
theorem dX3_readWay_65 : decode cX3_readWay 65 = .ok (.aload_n 0, 1) := bo_42 (by decide +kernel)
theorem dX3_readWay_66 : decode cX3_readWay 66 = .ok (.getfield 62, 3) := bo_180 0 62 (by decide +kernel)
theorem dX3_readWay_69 : decode cX3_readWay 69 = .ok (.iastore, 1) := bo_79 (by decide +kernel)
theorem dX3_readWay_70 : decode cX3_readWay 70 = .ok (.aload_n 0, 1) := bo_42 (by decide +kernel)
theorem dX3_readWay_71 : decode cX3_readWay 71 = .ok (.invokevirtual 85, 3) := bo_182 0 85 (by decide +kernel)
theorem dX3_readWay_74 : decode cX3_readWay 74 = .ok (.iconst 1, 1) := bo_4 (by decide +kernel)
theorem dX3_readWay_75 : decode cX3_readWay 75 = .ok (.ireturn, 1) := bo_172 (by decide +kernel)
theorem dX3_readWay_55 : decode cX3_readWay 55 = .ok (.iconst 0, 1) := bo_3 (by decide +kernel)
theorem dX3_readWay_56 : decode cX3_readWay 56 = .ok (.ireturn, 1) := bo_172 (by decide +kernel)
theorem dX3_readWay_39 : decode cX3_readWay 39 = .ok (.iconst 0, 1) := bo_3 (by decide +kernel)
theorem dX3_readWay_40 : decode cX3_readWay 40 = .ok (.ireturn, 1) := bo_172 (by decide +kernel)
theorem dX3_readWay_11 : decode cX3_readWay 11 = .ok (.iconst 0, 1) := bo_3 (by decide +kernel)
theorem dX3_readWay_12 : decode cX3_readWay 12 = .ok (.ireturn, 1) := bo_172 (by decide +kernel)
theorem dX3_readAsked_0 : decode cX3_readAsked 0 = .ok (.aload_n 0, 1) := bo_42 (by decide +kernel)
theorem dX3_readAsked_1 : decode cX3_readAsked 1 = .ok (.invokevirtual 85, 3) := bo_182 0 85 (by decide +kernel)
theorem dX3_readAsked_4 : decode cX3_readAsked 4 = .ok (.aload_n 0, 1) := bo_42 (by decide +kernel)
theorem dX3_readAsked_5 : decode cX3_readAsked 5 = .ok (.invokevirtual 130, 3) := bo_182 0 130 (by decide +kernel)
theorem k_603 : Cond.methodLink RX3 130 yX3_isCounter ∈ bw_T := bw_m 603 (by decide +kernel) rfl
theorem kv_X3_isCounter : bw_KV RX3 yX3_isCounter (Cond.code yX3_isCounter cX3_isCounter 1 (some .boolean)) := ⟨bw_m 605 (by decide +kernel) rfl, bw_m 12 (by decide +kernel) rfl, bw_m 95 (by decide +kernel) rfl, bw_m 606 (by decide +kernel) rfl⟩
theorem dX3_readAsked_8 : decode cX3_readAsked 8 = .ok (.ifCond .ne 5, 3) := bo_154 0 5 (by decide +kernel)
theorem dX3_readAsked_13 : decode cX3_readAsked 13 = .ok (.aload_n 0, 1) := bo_42 (by decide +kernel)
theorem dX3_readAsked_14 : decode cX3_readAsked 14 = .ok (.getfield 22, 3) := bo_180 0 22 (by decide +kernel)
theorem dX3_readAsked_17 : decode cX3_readAsked 17 = .ok (.getfield 155, 3) := bo_180 0 155 (by decide +kernel)
theorem k_152 : Cond.fieldLink RX3 155 "BurntWays$Net" "asked" "[I" ∈ bw_T := bw_m 152 (by decide +kernel) rfl
theorem dX3_readAsked_20 : decode cX3_readAsked 20 = .ok (.iload_n 1, 1) := bo_27 (by decide +kernel)
theorem dX3_readAsked_21 : decode cX3_readAsked 21 = .ok (.aload_n 0, 1) := bo_42 (by decide +kernel)
theorem dX3_readAsked_22 : decode cX3_readAsked 22 = .ok (.getfield 49, 3) := bo_180 0 49 (by decide +kernel)
theorem dX3_readAsked_25 : decode cX3_readAsked 25 = .ok (.bipush 15, 2) := bo_16 15 (by decide +kernel)
theorem dX3_readAsked_27 : decode cX3_readAsked 27 = .ok (.isub, 1) := bo_100 (by decide +kernel)
theorem dX3_readAsked_28 : decode cX3_readAsked 28 = .ok (.iastore, 1) := bo_79 (by decide +kernel)
theorem dX3_readAsked_29 : decode cX3_readAsked 29 = .ok (.aload_n 0, 1) := bo_42 (by decide +kernel)
theorem dX3_readAsked_30 : decode cX3_readAsked 30 = .ok (.invokevirtual 85, 3) := bo_182 0 85 (by decide +kernel)
theorem dX3_readAsked_33 : decode cX3_readAsked 33 = .ok (.iconst 1, 1) := bo_4 (by decide +kernel)
theorem dX3_readAsked_34 : decode cX3_readAsked 34 = .ok (.ireturn, 1) := bo_172 (by decide +kernel)
theorem dX3_readAsked_11 : decode cX3_readAsked 11 = .ok (.iconst 0, 1) := bo_3 (by decide +kernel)
theorem dX3_readAsked_12 : decode cX3_readAsked 12 = .ok (.ireturn, 1) := bo_172 (by decide +kernel)