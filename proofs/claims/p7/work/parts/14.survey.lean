abbrev SurveyOk (i : Nat → Int) : Prop := (-1 ≤ i 0 ∧ i 0 ≤ 3) ∧ (0 ≤ i 1 ∧ i 1 ≤ 256)
theorem dX4_noteRun_0 : decode cX4_noteRun 0 = .ok (.aload_n 0, 1) := by decide +kernel
theorem dX4_noteRun_1 : decode cX4_noteRun 1 = .ok (.getfield 46, 3) := by decide +kernel
theorem k_391 : Cond.fieldLink RX4 46 "BurntWays$Survey" "endingOf" "[I" ∈ bw_T := bw_m 391 (by decide +kernel) rfl
theorem in_X4 : ∀ w ∈ wsX40, w ∈ bw_T := bw_ms _ [393, 395, 397, 399, 401, 403, 405, 407, 409, 411, 413, 415, 417] (by decide +kernel) (by decide +kernel)
theorem dX4_noteRun_4 : decode cX4_noteRun 4 = .ok (.iload_n 2, 1) := by decide +kernel
theorem dX4_noteRun_5 : decode cX4_noteRun 5 = .ok (.aload_n 0, 1) := by decide +kernel
theorem dX4_noteRun_6 : decode cX4_noteRun 6 = .ok (.getfield 52, 3) := by decide +kernel
theorem k_392 : Cond.fieldLink RX4 52 "BurntWays$Survey" "walk" "LBurntWays$Walk;" ∈ bw_T := bw_m 392 (by decide +kernel) rfl
theorem dX4_noteRun_9 : decode cX4_noteRun 9 = .ok (.invokevirtual 87, 3) := by decide +kernel
theorem k_809 : Cond.methodLink RX4 87 yX6_ending ∈ bw_T := bw_m 809 (by decide +kernel) rfl
theorem kv_X6_ending : bw_KV RX6 yX6_ending (Cond.code yX6_ending cX6_ending 3 (some .int)) := ⟨bw_m 810 (by decide +kernel) rfl, bw_m 811 (by decide +kernel) rfl, bw_m 102 (by decide +kernel) rfl, bw_m 812 (by decide +kernel) rfl⟩
theorem dX4_noteRun_12 : decode cX4_noteRun 12 = .ok (.iastore, 1) := by decide +kernel
theorem dX4_noteRun_13 : decode cX4_noteRun 13 = .ok (.aload_n 0, 1) := by decide +kernel
theorem dX4_noteRun_14 : decode cX4_noteRun 14 = .ok (.getfield 36, 3) := by decide +kernel
theorem k_385 : Cond.fieldLink RX4 36 "BurntWays$Survey" "endings" "[I" ∈ bw_T := bw_m 385 (by decide +kernel) rfl
theorem dX4_noteRun_17 : decode cX4_noteRun 17 = .ok (.aload_n 0, 1) := by decide +kernel
theorem dX4_noteRun_18 : decode cX4_noteRun 18 = .ok (.getfield 52, 3) := by decide +kernel
theorem dX4_noteRun_21 : decode cX4_noteRun 21 = .ok (.getfield 90, 3) := by decide +kernel
theorem k_326 : Cond.fieldLink RX4 90 "BurntWays$Walk" "ended" "I" ∈ bw_T := bw_m 326 (by decide +kernel) rfl
theorem dX4_noteRun_24 : decode cX4_noteRun 24 = .ok (.dup2, 1) := by decide +kernel
theorem dX4_noteRun_25 : decode cX4_noteRun 25 = .ok (.iaload, 1) := by decide +kernel
theorem dX4_noteRun_26 : decode cX4_noteRun 26 = .ok (.iconst 1, 1) := by decide +kernel
theorem dX4_noteRun_27 : decode cX4_noteRun 27 = .ok (.iadd, 1) := by decide +kernel
theorem dX4_noteRun_28 : decode cX4_noteRun 28 = .ok (.iastore, 1) := by decide +kernel
theorem dX4_noteRun_29 : decode cX4_noteRun 29 = .ok (.aload_n 0, 1) := by decide +kernel
theorem dX4_noteRun_30 : decode cX4_noteRun 30 = .ok (.getfield 52, 3) := by decide +kernel
theorem dX4_noteRun_33 : decode cX4_noteRun 33 = .ok (.getfield 93, 3) := by decide +kernel
theorem k_323 : Cond.fieldLink RX4 93 "BurntWays$Walk" "stepCount" "I" ∈ bw_T := bw_m 323 (by decide +kernel) rfl
theorem dX4_noteRun_36 : decode cX4_noteRun 36 = .ok (.aload_n 0, 1) := by decide +kernel
theorem dX4_noteRun_37 : decode cX4_noteRun 37 = .ok (.getfield 27, 3) := by decide +kernel
theorem k_379 : Cond.fieldLink RX4 27 "BurntWays$Survey" "longestSteps" "I" ∈ bw_T := bw_m 379 (by decide +kernel) rfl
theorem dX4_noteRun_40 : decode cX4_noteRun 40 = .ok (.if_icmp .le 19, 3) := by decide +kernel
theorem dX4_noteRun_59 : decode cX4_noteRun 59 = .ok (.aload_n 0, 1) := by decide +kernel
theorem dX4_noteRun_60 : decode cX4_noteRun 60 = .ok (.getfield 24, 3) := by decide +kernel
theorem k_377 : Cond.fieldLink RX4 24 "BurntWays$Survey" "wholeInput" "I" ∈ bw_T := bw_m 377 (by decide +kernel) rfl
theorem dX4_noteRun_63 : decode cX4_noteRun 63 = .ok (.bipush (-2), 2) := by decide +kernel
theorem dX4_noteRun_65 : decode cX4_noteRun 65 = .ok (.if_icmp .ne 23, 3) := by decide +kernel
theorem dX4_noteRun_88 : decode cX4_noteRun 88 = .ok (.return_, 1) := by decide +kernel
theorem dX4_noteRun_68 : decode cX4_noteRun 68 = .ok (.aload_n 0, 1) := by decide +kernel
theorem dX4_noteRun_69 : decode cX4_noteRun 69 = .ok (.getfield 52, 3) := by decide +kernel
theorem dX4_noteRun_72 : decode cX4_noteRun 72 = .ok (.aload_n 1, 1) := by decide +kernel
theorem dX4_noteRun_73 : decode cX4_noteRun 73 = .ok (.invokevirtual 96, 3) := by decide +kernel
theorem k_813 : Cond.methodLink RX4 96 yX6_burntWays ∈ bw_T := bw_m 813 (by decide +kernel) rfl
theorem kv_X6_burntWays : bw_KV RX6 yX6_burntWays (Cond.code yX6_burntWays cX6_burntWays 4 (some .int)) := ⟨bw_m 735 (by decide +kernel) rfl, bw_m 736 (by decide +kernel) rfl, bw_m 102 (by decide +kernel) rfl, bw_m 737 (by decide +kernel) rfl⟩
theorem dX4_noteRun_76 : decode cX4_noteRun 76 = .ok (.aload_n 1, 1) := by decide +kernel
theorem dX4_noteRun_77 : decode cX4_noteRun 77 = .ok (.invokevirtual 56, 3) := by decide +kernel
theorem k_797 : Cond.methodLink RX4 56 yX2_wayBits ∈ bw_T := bw_m 797 (by decide +kernel) rfl
theorem dX4_noteRun_80 : decode cX4_noteRun 80 = .ok (.if_icmp .ne 8, 3) := by decide +kernel
theorem dX4_noteRun_83 : decode cX4_noteRun 83 = .ok (.aload_n 0, 1) := by decide +kernel
theorem dX4_noteRun_84 : decode cX4_noteRun 84 = .ok (.iload_n 2, 1) := by decide +kernel
theorem dX4_noteRun_85 : decode cX4_noteRun 85 = .ok (.putfield 24, 3) := by decide +kernel
theorem dX4_noteRun_43 : decode cX4_noteRun 43 = .ok (.aload_n 0, 1) := by decide +kernel
theorem dX4_noteRun_44 : decode cX4_noteRun 44 = .ok (.aload_n 0, 1) := by decide +kernel
theorem dX4_noteRun_45 : decode cX4_noteRun 45 = .ok (.getfield 52, 3) := by decide +kernel
theorem dX4_noteRun_48 : decode cX4_noteRun 48 = .ok (.getfield 93, 3) := by decide +kernel
theorem dX4_noteRun_51 : decode cX4_noteRun 51 = .ok (.putfield 27, 3) := by decide +kernel
theorem dX4_noteRun_54 : decode cX4_noteRun 54 = .ok (.aload_n 0, 1) := by decide +kernel
theorem dX4_noteRun_55 : decode cX4_noteRun 55 = .ok (.iload_n 2, 1) := by decide +kernel
theorem dX4_noteRun_56 : decode cX4_noteRun 56 = .ok (.putfield 30, 3) := by decide +kernel
theorem k_381 : Cond.fieldLink RX4 30 "BurntWays$Survey" "longestInput" "I" ∈ bw_T := bw_m 381 (by decide +kernel) rfl
theorem dX4_noteLines_0 : decode cX4_noteLines 0 = .ok (.aload_n 0, 1) := by decide +kernel
theorem dX4_noteLines_1 : decode cX4_noteLines 1 = .ok (.getfield 52, 3) := by decide +kernel
theorem dX4_noteLines_4 : decode cX4_noteLines 4 = .ok (.getfield 100, 3) := by decide +kernel
theorem k_331 : Cond.fieldLink RX4 100 "BurntWays$Walk" "seenLines" "I" ∈ bw_T := bw_m 331 (by decide +kernel) rfl
theorem dX4_noteLines_7 : decode cX4_noteLines 7 = .ok (.aload_n 0, 1) := by decide +kernel
theorem dX4_noteLines_8 : decode cX4_noteLines 8 = .ok (.getfield 33, 3) := by decide +kernel
theorem k_383 : Cond.fieldLink RX4 33 "BurntWays$Survey" "seenLines" "I" ∈ bw_T := bw_m 383 (by decide +kernel) rfl
theorem dX4_noteLines_11 : decode cX4_noteLines 11 = .ok (.iconst (-1), 1) := by decide +kernel
theorem dX4_noteLines_12 : decode cX4_noteLines 12 = .ok (.ixor, 1) := by decide +kernel
theorem dX4_noteLines_13 : decode cX4_noteLines 13 = .ok (.iand, 1) := by decide +kernel
theorem dX4_noteLines_14 : decode cX4_noteLines 14 = .ok (.istore_n 2, 1) := by decide +kernel
theorem dX4_noteLines_15 : decode cX4_noteLines 15 = .ok (.iconst 0, 1) := by decide +kernel
theorem dX4_noteLines_16 : decode cX4_noteLines 16 = .ok (.istore_n 3, 1) := by decide +kernel
theorem dX4_noteLines_17 : decode cX4_noteLines 17 = .ok (.iload_n 2, 1) := by decide +kernel
theorem dX4_noteLines_18 : decode cX4_noteLines 18 = .ok (.ifCond .eq 31, 3) := by decide +kernel
theorem dX4_noteLines_49 : decode cX4_noteLines 49 = .ok (.aload_n 0, 1) := by decide +kernel
theorem dX4_noteLines_50 : decode cX4_noteLines 50 = .ok (.dup, 1) := by decide +kernel
theorem dX4_noteLines_51 : decode cX4_noteLines 51 = .ok (.getfield 33, 3) := by decide +kernel
theorem dX4_noteLines_54 : decode cX4_noteLines 54 = .ok (.iload_n 2, 1) := by decide +kernel
theorem dX4_noteLines_55 : decode cX4_noteLines 55 = .ok (.ior, 1) := by decide +kernel
theorem dX4_noteLines_56 : decode cX4_noteLines 56 = .ok (.putfield 33, 3) := by decide +kernel
theorem dX4_noteLines_59 : decode cX4_noteLines 59 = .ok (.return_, 1) := by decide +kernel
theorem dX4_noteLines_21 : decode cX4_noteLines 21 = .ok (.iload_n 3, 1) := by decide +kernel
theorem dX4_noteLines_22 : decode cX4_noteLines 22 = .ok (.bipush 10, 2) := by decide +kernel
theorem dX4_noteLines_24 : decode cX4_noteLines 24 = .ok (.if_icmp .ge 25, 3) := by decide +kernel
theorem dX4_noteLines_27 : decode cX4_noteLines 27 = .ok (.iload_n 2, 1) := by decide +kernel
theorem dX4_noteLines_28 : decode cX4_noteLines 28 = .ok (.iload_n 3, 1) := by decide +kernel
theorem dX4_noteLines_29 : decode cX4_noteLines 29 = .ok (.ishr, 1) := by decide +kernel
theorem dX4_noteLines_30 : decode cX4_noteLines 30 = .ok (.iconst 1, 1) := by decide +kernel
theorem dX4_noteLines_31 : decode cX4_noteLines 31 = .ok (.iand, 1) := by decide +kernel
theorem dX4_noteLines_32 : decode cX4_noteLines 32 = .ok (.iconst 1, 1) := by decide +kernel
theorem dX4_noteLines_33 : decode cX4_noteLines 33 = .ok (.if_icmp .ne 10, 3) := by decide +kernel
theorem dX4_noteLines_43 : decode cX4_noteLines 43 = .ok (.iinc 3 1, 3) := by decide +kernel
theorem dX4_noteLines_46 : decode cX4_noteLines 46 = .ok (.goto (-29), 3) := by decide +kernel
theorem dX4_noteLines_36 : decode cX4_noteLines 36 = .ok (.aload_n 0, 1) := by decide +kernel
theorem dX4_noteLines_37 : decode cX4_noteLines 37 = .ok (.getfield 40, 3) := by decide +kernel
theorem k_387 : Cond.fieldLink RX4 40 "BurntWays$Survey" "firstInputs" "[I" ∈ bw_T := bw_m 387 (by decide +kernel) rfl
theorem dX4_noteLines_40 : decode cX4_noteLines 40 = .ok (.iload_n 3, 1) := by decide +kernel
theorem dX4_noteLines_41 : decode cX4_noteLines 41 = .ok (.iload_n 1, 1) := by decide +kernel
theorem dX4_noteLines_42 : decode cX4_noteLines 42 = .ok (.iastore, 1) := by decide +kernel
theorem dX4_noteWays_0 : decode cX4_noteWays 0 = .ok (.iconst 0, 1) := by decide +kernel
theorem dX4_noteWays_1 : decode cX4_noteWays 1 = .ok (.istore_n 1, 1) := by decide +kernel
theorem dX4_noteWays_2 : decode cX4_noteWays 2 = .ok (.iload_n 1, 1) := by decide +kernel
theorem dX4_noteWays_3 : decode cX4_noteWays 3 = .ok (.bipush 20, 2) := by decide +kernel
theorem dX4_noteWays_5 : decode cX4_noteWays 5 = .ok (.if_icmp .ge 70, 3) := by decide +kernel
theorem dX4_noteWays_75 : decode cX4_noteWays 75 = .ok (.return_, 1) := by decide +kernel
theorem dX4_noteWays_8 : decode cX4_noteWays 8 = .ok (.aload_n 0, 1) := by decide +kernel
theorem dX4_noteWays_9 : decode cX4_noteWays 9 = .ok (.getfield 52, 3) := by decide +kernel
theorem dX4_noteWays_12 : decode cX4_noteWays 12 = .ok (.getfield 101, 3) := by decide +kernel
theorem k_337 : Cond.fieldLink RX4 101 "BurntWays$Walk" "everTaken" "[I" ∈ bw_T := bw_m 337 (by decide +kernel) rfl
theorem dX4_noteWays_15 : decode cX4_noteWays 15 = .ok (.iload_n 1, 1) := by decide +kernel
theorem dX4_noteWays_16 : decode cX4_noteWays 16 = .ok (.iaload, 1) := by decide +kernel
theorem dX4_noteWays_17 : decode cX4_noteWays 17 = .ok (.istore_n 2, 1) := by decide +kernel
theorem dX4_noteWays_18 : decode cX4_noteWays 18 = .ok (.iload_n 2, 1) := by decide +kernel
theorem dX4_noteWays_19 : decode cX4_noteWays 19 = .ok (.ifCond .ne 20, 3) := by decide +kernel
theorem dX4_noteWays_39 : decode cX4_noteWays 39 = .ok (.aload_n 0, 1) := by decide +kernel
theorem dX4_noteWays_40 : decode cX4_noteWays 40 = .ok (.dup, 1) := by decide +kernel
theorem dX4_noteWays_41 : decode cX4_noteWays 41 = .ok (.getfield 21, 3) := by decide +kernel
theorem k_375 : Cond.fieldLink RX4 21 "BurntWays$Survey" "untakenWays" "I" ∈ bw_T := bw_m 375 (by decide +kernel) rfl
theorem dX4_noteWays_44 : decode cX4_noteWays 44 = .ok (.iconst 1, 1) := by decide +kernel
theorem dX4_noteWays_45 : decode cX4_noteWays 45 = .ok (.iload_n 1, 1) := by decide +kernel
theorem dX4_noteWays_46 : decode cX4_noteWays 46 = .ok (.ishl, 1) := by decide +kernel
theorem dX4_noteWays_47 : decode cX4_noteWays 47 = .ok (.iconst (-1), 1) := by decide +kernel
theorem dX4_noteWays_48 : decode cX4_noteWays 48 = .ok (.ixor, 1) := by decide +kernel
theorem dX4_noteWays_49 : decode cX4_noteWays 49 = .ok (.iand, 1) := by decide +kernel
theorem dX4_noteWays_50 : decode cX4_noteWays 50 = .ok (.putfield 21, 3) := by decide +kernel
theorem dX4_noteWays_53 : decode cX4_noteWays 53 = .ok (.aload_n 0, 1) := by decide +kernel
theorem dX4_noteWays_54 : decode cX4_noteWays 54 = .ok (.getfield 43, 3) := by decide +kernel
theorem k_389 : Cond.fieldLink RX4 43 "BurntWays$Survey" "mostTaken" "[I" ∈ bw_T := bw_m 389 (by decide +kernel) rfl
theorem dX4_noteWays_57 : decode cX4_noteWays 57 = .ok (.iload_n 1, 1) := by decide +kernel
theorem dX4_noteWays_58 : decode cX4_noteWays 58 = .ok (.aload_n 0, 1) := by decide +kernel
theorem dX4_noteWays_59 : decode cX4_noteWays 59 = .ok (.getfield 43, 3) := by decide +kernel
theorem dX4_noteWays_62 : decode cX4_noteWays 62 = .ok (.iload_n 1, 1) := by decide +kernel
theorem dX4_noteWays_63 : decode cX4_noteWays 63 = .ok (.iaload, 1) := by decide +kernel
theorem dX4_noteWays_64 : decode cX4_noteWays 64 = .ok (.iload_n 2, 1) := by decide +kernel
theorem dX4_noteWays_65 : decode cX4_noteWays 65 = .ok (.invokestatic 104, 3) := by decide +kernel
theorem k_822 : Cond.methodLink RX4 104 Lib.Math.max.name ∈ bw_T := bw_m 822 (by decide +kernel) rfl
theorem dX4_noteWays_68 : decode cX4_noteWays 68 = .ok (.iastore, 1) := by decide +kernel
theorem dX4_noteWays_69 : decode cX4_noteWays 69 = .ok (.iinc 1 1, 3) := by decide +kernel
theorem dX4_noteWays_72 : decode cX4_noteWays 72 = .ok (.goto (-70), 3) := by decide +kernel
theorem dX4_noteWays_22 : decode cX4_noteWays 22 = .ok (.aload_n 0, 1) := by decide +kernel
theorem dX4_noteWays_23 : decode cX4_noteWays 23 = .ok (.dup, 1) := by decide +kernel
theorem dX4_noteWays_24 : decode cX4_noteWays 24 = .ok (.getfield 18, 3) := by decide +kernel
theorem k_373 : Cond.fieldLink RX4 18 "BurntWays$Survey" "mustWays" "I" ∈ bw_T := bw_m 373 (by decide +kernel) rfl
theorem dX4_noteWays_27 : decode cX4_noteWays 27 = .ok (.iconst 1, 1) := by decide +kernel
theorem dX4_noteWays_28 : decode cX4_noteWays 28 = .ok (.iload_n 1, 1) := by decide +kernel
theorem dX4_noteWays_29 : decode cX4_noteWays 29 = .ok (.ishl, 1) := by decide +kernel
theorem dX4_noteWays_30 : decode cX4_noteWays 30 = .ok (.iconst (-1), 1) := by decide +kernel
theorem dX4_noteWays_31 : decode cX4_noteWays 31 = .ok (.ixor, 1) := by decide +kernel
theorem dX4_noteWays_32 : decode cX4_noteWays 32 = .ok (.iand, 1) := by decide +kernel
theorem dX4_noteWays_33 : decode cX4_noteWays 33 = .ok (.putfield 18, 3) := by decide +kernel
theorem dX4_noteWays_36 : decode cX4_noteWays 36 = .ok (.goto 33, 3) := by decide +kernel