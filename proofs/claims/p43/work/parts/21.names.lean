section ZE
variable {p : Program} {l : Launch} {e : Env} {R : Room} {s : State} {m : MethodId} {args : Array Value} {below : List Frame} {meth : Method} {c : Code} {H : Heap} {locs : List Loc} {cells slots : Nat} {Q : State → Prop}
variable {cc : ByteArray} {nL : Nat} {own : String} {rest : List Value} {pc : Nat} {ls : Array Slot}
theorem rz_lcmpE (F : CallFix p m c cc nL s args bw_T own) {x y : Int64} (hdg : decode cc pc = .ok (.lcmp, 1)) (kk : ∀ z : Int, (z = 1 ∨ z = 0 ∨ z = -1) → (z = 0 ↔ x = y) → W p l e R s m args below meth c H locs cells slots Q (F0 m (pc + 1) ls (.int (zI z) :: rest))) : W p l e R s m args below meth c H locs cells slots Q (F0 m pc ls (.long y :: .long x :: rest)) := by
  have hexec := F.1
  have hb := F.2.1
  intro T hT X
  by_cases h1 : x > y
  · have n1 : ¬ x = y := fun q => by subst q; exact absurd h1 (Int64.lt_irrefl)
    obtain ⟨t, a, b⟩ := kk 1 (Or.inl rfl) ⟨fun q => absurd q (by decide), fun q => absurd q n1⟩ T hT X
    refine ⟨t, ?_, b⟩
    jvm_step X.here [X.here.top, hexec, hb, hdg, h1]
    exact a
  · by_cases h2 : x = y
    · obtain ⟨t, a, b⟩ := kk 0 (Or.inr (Or.inl rfl)) ⟨fun _ => h2, fun _ => rfl⟩ T hT X
      refine ⟨t, ?_, b⟩
      jvm_step X.here [X.here.top, hexec, hb, hdg, h1, h2]
      exact a
    · obtain ⟨t, a, b⟩ := kk (-1) (Or.inr (Or.inr rfl)) ⟨fun q => absurd q (by decide), fun q => absurd q h2⟩ T hT X
      refine ⟨t, ?_, b⟩
      jvm_step X.here [X.here.top, hexec, hb, hdg, h1, h2]
      exact a
end ZE
theorem dX3_findName_0 : decode cX3_findName 0 = .ok (.iconst 0, 1) := bo_3 (by decide +kernel)
theorem dX3_findName_1 : decode cX3_findName 1 = .ok (.istore_n 1, 1) := bo_60 (by decide +kernel)
theorem dX3_findName_2 : decode cX3_findName 2 = .ok (.iload_n 1, 1) := bo_27 (by decide +kernel)
theorem dX3_findName_3 : decode cX3_findName 3 = .ok (.aload_n 0, 1) := bo_42 (by decide +kernel)
theorem dX3_findName_4 : decode cX3_findName 4 = .ok (.getfield 22, 3) := bo_180 0 22 (by decide +kernel)
theorem k_264 : Cond.fieldLink RX3 22 "BurntWays$Reader" "net" "LBurntWays$Net;" ∈ bw_T := bw_m 264 (by decide +kernel) rfl
theorem dX3_findName_7 : decode cX3_findName 7 = .ok (.getfield 102, 3) := bo_180 0 102 (by decide +kernel)
theorem k_146 : Cond.fieldLink RX3 102 "BurntWays$Net" "lines" "I" ∈ bw_T := bw_m 146 (by decide +kernel) rfl
theorem dX3_findName_10 : decode cX3_findName 10 = .ok (.if_icmp .ge 25, 3) := bo_162 0 25 (by decide +kernel)
theorem dX3_findName_35 : decode cX3_findName 35 = .ok (.iconst (-1), 1) := bo_2 (by decide +kernel)
theorem dX3_findName_36 : decode cX3_findName 36 = .ok (.ireturn, 1) := bo_172 (by decide +kernel)
theorem dX3_findName_13 : decode cX3_findName 13 = .ok (.aload_n 0, 1) := bo_42 (by decide +kernel)
theorem dX3_findName_14 : decode cX3_findName 14 = .ok (.getfield 43, 3) := bo_180 0 43 (by decide +kernel)
theorem k_273 : Cond.fieldLink RX3 43 "BurntWays$Reader" "names" "[J" ∈ bw_T := bw_m 273 (by decide +kernel) rfl
theorem dX3_findName_17 : decode cX3_findName 17 = .ok (.iload_n 1, 1) := bo_27 (by decide +kernel)
theorem dX3_findName_18 : decode cX3_findName 18 = .ok (.laload, 1) := bo_47 (by decide +kernel)
theorem dX3_findName_19 : decode cX3_findName 19 = .ok (.aload_n 0, 1) := bo_42 (by decide +kernel)
theorem dX3_findName_20 : decode cX3_findName 20 = .ok (.getfield 58, 3) := bo_180 0 58 (by decide +kernel)
theorem dX3_findName_23 : decode cX3_findName 23 = .ok (.lcmp, 1) := bo_148 (by decide +kernel)
theorem dX3_findName_24 : decode cX3_findName 24 = .ok (.ifCond .ne 5, 3) := bo_154 0 5 (by decide +kernel)
theorem dX3_findName_29 : decode cX3_findName 29 = .ok (.iinc 1 1, 3) := bo_132 1 1 (by decide +kernel)
theorem dX3_findName_32 : decode cX3_findName 32 = .ok (.goto (-30), 3) := bo_167 255 226 (by decide +kernel)
theorem dX3_findName_27 : decode cX3_findName 27 = .ok (.iload_n 1, 1) := bo_27 (by decide +kernel)
theorem dX3_findName_28 : decode cX3_findName 28 = .ok (.ireturn, 1) := bo_172 (by decide +kernel)
theorem dX3_isKnownName_0 : decode cX3_isKnownName 0 = .ok (.aload_n 0, 1) := bo_42 (by decide +kernel)
theorem dX3_isKnownName_1 : decode cX3_isKnownName 1 = .ok (.getfield 49, 3) := bo_180 0 49 (by decide +kernel)
theorem dX3_isKnownName_4 : decode cX3_isKnownName 4 = .ok (.bipush 19, 2) := bo_16 19 (by decide +kernel)
theorem dX3_isKnownName_6 : decode cX3_isKnownName 6 = .ok (.if_icmp .eq 9, 3) := bo_159 0 9 (by decide +kernel)
theorem dX3_isKnownName_15 : decode cX3_isKnownName 15 = .ok (.aload_n 0, 1) := bo_42 (by decide +kernel)
theorem dX3_isKnownName_16 : decode cX3_isKnownName 16 = .ok (.invokevirtual 105, 3) := bo_182 0 105 (by decide +kernel)
theorem k_579 : Cond.methodLink RX3 105 yX3_findName ∈ bw_T := bw_m 579 (by decide +kernel) rfl
theorem kv_X3_findName : bw_KV RX3 yX3_findName (Cond.code yX3_findName cX3_findName 2 (some .int)) := ⟨bw_m 581 (by decide +kernel) rfl, bw_m 7 (by decide +kernel) rfl, bw_m 95 (by decide +kernel) rfl, bw_m 582 (by decide +kernel) rfl⟩
theorem dX3_isKnownName_19 : decode cX3_isKnownName 19 = .ok (.iconst (-1), 1) := bo_2 (by decide +kernel)
theorem dX3_isKnownName_20 : decode cX3_isKnownName 20 = .ok (.if_icmp .ne 11, 3) := bo_160 0 11 (by decide +kernel)
theorem dX3_isKnownName_31 : decode cX3_isKnownName 31 = .ok (.iconst 1, 1) := bo_4 (by decide +kernel)
theorem dX3_isKnownName_32 : decode cX3_isKnownName 32 = .ok (.goto 4, 3) := bo_167 0 4 (by decide +kernel)
theorem dX3_isKnownName_36 : decode cX3_isKnownName 36 = .ok (.ireturn, 1) := bo_172 (by decide +kernel)
theorem dX3_isKnownName_23 : decode cX3_isKnownName 23 = .ok (.aload_n 0, 1) := bo_42 (by decide +kernel)
theorem dX3_isKnownName_24 : decode cX3_isKnownName 24 = .ok (.iconst 2, 1) := bo_5 (by decide +kernel)
theorem dX3_isKnownName_25 : decode cX3_isKnownName 25 = .ok (.invokevirtual 98, 3) := bo_182 0 98 (by decide +kernel)
theorem dX3_isKnownName_28 : decode cX3_isKnownName 28 = .ok (.ifCond .eq 7, 3) := bo_153 0 7 (by decide +kernel)
theorem dX3_isKnownName_35 : decode cX3_isKnownName 35 = .ok (.iconst 0, 1) := bo_3 (by decide +kernel)
theorem dX3_isKnownName_9 : decode cX3_isKnownName 9 = .ok (.aload_n 0, 1) := bo_42 (by decide +kernel)
theorem dX3_isKnownName_10 : decode cX3_isKnownName 10 = .ok (.iconst 1, 1) := bo_4 (by decide +kernel)
theorem dX3_isKnownName_11 : decode cX3_isKnownName 11 = .ok (.invokevirtual 98, 3) := bo_182 0 98 (by decide +kernel)
theorem dX3_isKnownName_14 : decode cX3_isKnownName 14 = .ok (.ireturn, 1) := bo_172 (by decide +kernel)