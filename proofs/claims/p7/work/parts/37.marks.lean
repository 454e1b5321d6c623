theorem dX1_keep_0 : decode cX1_keep 0 = .ok (.aload_n 0, 1) := by decide +kernel
theorem dX1_keep_1 : decode cX1_keep 1 = .ok (.getfield 17, 3) := by decide +kernel
theorem k_484 : Cond.fieldLink RX1 17 "BurntWays$Marks" "nets" "[LBurntWays$Net;" ∈ bw_T := bw_m 484 (by decide +kernel) rfl
theorem dX1_keep_4 : decode cX1_keep 4 = .ok (.aload_n 0, 1) := by decide +kernel
theorem dX1_keep_5 : decode cX1_keep 5 = .ok (.getfield 9, 3) := by decide +kernel
theorem k_482 : Cond.fieldLink RX1 9 "BurntWays$Marks" "count" "I" ∈ bw_T := bw_m 482 (by decide +kernel) rfl
theorem dX1_keep_8 : decode cX1_keep 8 = .ok (.aaload, 1) := by decide +kernel
theorem dX1_keep_9 : decode cX1_keep 9 = .ok (.aload_n 1, 1) := by decide +kernel
theorem dX1_keep_10 : decode cX1_keep 10 = .ok (.invokevirtual 29, 3) := by decide +kernel
theorem k_774 : Cond.methodLink RX1 29 yX2_copyFrom ∈ bw_T := bw_m 774 (by decide +kernel) rfl
theorem dX1_keep_13 : decode cX1_keep 13 = .ok (.aload_n 0, 1) := by decide +kernel
theorem dX1_keep_14 : decode cX1_keep 14 = .ok (.getfield 23, 3) := by decide +kernel
theorem k_486 : Cond.fieldLink RX1 23 "BurntWays$Marks" "walks" "[LBurntWays$Walk;" ∈ bw_T := bw_m 486 (by decide +kernel) rfl
theorem dX1_keep_17 : decode cX1_keep 17 = .ok (.aload_n 0, 1) := by decide +kernel
theorem dX1_keep_18 : decode cX1_keep 18 = .ok (.getfield 9, 3) := by decide +kernel
theorem dX1_keep_21 : decode cX1_keep 21 = .ok (.aaload, 1) := by decide +kernel
theorem dX1_keep_22 : decode cX1_keep 22 = .ok (.aload_n 2, 1) := by decide +kernel
theorem dX1_keep_23 : decode cX1_keep 23 = .ok (.invokevirtual 33, 3) := by decide +kernel
theorem k_775 : Cond.methodLink RX1 33 yX6_copyFrom ∈ bw_T := bw_m 775 (by decide +kernel) rfl
theorem kv_X6_copyFrom : bw_KV RX6 yX6_copyFrom (Cond.code yX6_copyFrom cX6_copyFrom 2 none) := ⟨bw_m 776 (by decide +kernel) rfl, bw_m 777 (by decide +kernel) rfl, bw_m 102 (by decide +kernel) rfl, bw_m 778 (by decide +kernel) rfl⟩
theorem dX1_keep_26 : decode cX1_keep 26 = .ok (.aload_n 0, 1) := by decide +kernel
theorem dX1_keep_27 : decode cX1_keep 27 = .ok (.dup, 1) := by decide +kernel
theorem dX1_keep_28 : decode cX1_keep 28 = .ok (.getfield 9, 3) := by decide +kernel
theorem dX1_keep_31 : decode cX1_keep 31 = .ok (.iconst 1, 1) := by decide +kernel
theorem dX1_keep_32 : decode cX1_keep 32 = .ok (.iadd, 1) := by decide +kernel
theorem dX1_keep_33 : decode cX1_keep 33 = .ok (.putfield 9, 3) := by decide +kernel
theorem dX1_keep_36 : decode cX1_keep 36 = .ok (.aload_n 0, 1) := by decide +kernel
theorem dX1_keep_37 : decode cX1_keep 37 = .ok (.getfield 9, 3) := by decide +kernel
theorem dX1_keep_40 : decode cX1_keep 40 = .ok (.iconst 1, 1) := by decide +kernel
theorem dX1_keep_41 : decode cX1_keep 41 = .ok (.isub, 1) := by decide +kernel
theorem dX1_keep_42 : decode cX1_keep 42 = .ok (.ireturn, 1) := by decide +kernel
theorem dX8_mark_0 : decode cX8_mark 0 = .ok (.aload_n 0, 1) := by decide +kernel
theorem dX8_mark_1 : decode cX8_mark 1 = .ok (.getfield 13, 3) := by decide +kernel
theorem dX8_mark_4 : decode cX8_mark 4 = .ok (.ifCond .ne 9, 3) := by decide +kernel
theorem dX8_mark_13 : decode cX8_mark 13 = .ok (.aload_n 0, 1) := by decide +kernel
theorem dX8_mark_14 : decode cX8_mark 14 = .ok (.getfield 81, 3) := by decide +kernel
theorem dX8_mark_17 : decode cX8_mark 17 = .ok (.getfield 109, 3) := by decide +kernel
theorem dX8_mark_20 : decode cX8_mark 20 = .ok (.iconst 4, 1) := by decide +kernel
theorem dX8_mark_21 : decode cX8_mark 21 = .ok (.if_icmp .lt 9, 3) := by decide +kernel
theorem dX8_mark_30 : decode cX8_mark 30 = .ok (.aload_n 0, 1) := by decide +kernel
theorem dX8_mark_31 : decode cX8_mark 31 = .ok (.aload_n 0, 1) := by decide +kernel
theorem dX8_mark_32 : decode cX8_mark 32 = .ok (.getfield 81, 3) := by decide +kernel
theorem dX8_mark_35 : decode cX8_mark 35 = .ok (.aload_n 0, 1) := by decide +kernel
theorem dX8_mark_36 : decode cX8_mark 36 = .ok (.getfield 31, 3) := by decide +kernel
theorem dX8_mark_39 : decode cX8_mark 39 = .ok (.aload_n 0, 1) := by decide +kernel
theorem dX8_mark_40 : decode cX8_mark 40 = .ok (.getfield 47, 3) := by decide +kernel
theorem dX8_mark_43 : decode cX8_mark 43 = .ok (.invokevirtual 189, 3) := by decide +kernel
theorem k_770 : Cond.methodLink RX8 189 yX1_keep ∈ bw_T := bw_m 770 (by decide +kernel) rfl
theorem kv_X1_keep : bw_KV RX1 yX1_keep (Cond.code yX1_keep cX1_keep 3 (some .int)) := ⟨bw_m 771 (by decide +kernel) rfl, bw_m 772 (by decide +kernel) rfl, bw_m 106 (by decide +kernel) rfl, bw_m 773 (by decide +kernel) rfl⟩
theorem dX8_mark_46 : decode cX8_mark 46 = .ok (.invokevirtual 125, 3) := by decide +kernel
theorem dX8_mark_49 : decode cX8_mark 49 = .ok (.ireturn, 1) := by decide +kernel
theorem dX8_mark_24 : decode cX8_mark 24 = .ok (.aload_n 0, 1) := by decide +kernel
theorem dX8_mark_25 : decode cX8_mark 25 = .ok (.iconst 3, 1) := by decide +kernel
theorem dX8_mark_26 : decode cX8_mark 26 = .ok (.invokevirtual 92, 3) := by decide +kernel
theorem dX8_mark_29 : decode cX8_mark 29 = .ok (.ireturn, 1) := by decide +kernel
theorem dX8_mark_7 : decode cX8_mark 7 = .ok (.aload_n 0, 1) := by decide +kernel
theorem dX8_mark_8 : decode cX8_mark 8 = .ok (.iconst 1, 1) := by decide +kernel
theorem dX8_mark_9 : decode cX8_mark 9 = .ok (.invokevirtual 92, 3) := by decide +kernel
theorem dX8_mark_12 : decode cX8_mark 12 = .ok (.ireturn, 1) := by decide +kernel
theorem dX8_back_0 : decode cX8_back 0 = .ok (.iload_n 1, 1) := by decide +kernel
theorem dX8_back_1 : decode cX8_back 1 = .ok (.ifCond .lt 14, 3) := by decide +kernel
theorem dX8_back_15 : decode cX8_back 15 = .ok (.aload_n 0, 1) := by decide +kernel
theorem dX8_back_16 : decode cX8_back 16 = .ok (.iconst 1, 1) := by decide +kernel
theorem dX8_back_17 : decode cX8_back 17 = .ok (.invokevirtual 92, 3) := by decide +kernel
theorem dX8_back_20 : decode cX8_back 20 = .ok (.pop, 1) := by decide +kernel
theorem dX8_back_21 : decode cX8_back 21 = .ok (.iconst 0, 1) := by decide +kernel
theorem dX8_back_22 : decode cX8_back 22 = .ok (.ireturn, 1) := by decide +kernel
theorem dX8_back_4 : decode cX8_back 4 = .ok (.iload_n 1, 1) := by decide +kernel
theorem dX8_back_5 : decode cX8_back 5 = .ok (.aload_n 0, 1) := by decide +kernel
theorem dX8_back_6 : decode cX8_back 6 = .ok (.getfield 81, 3) := by decide +kernel
theorem dX8_back_9 : decode cX8_back 9 = .ok (.getfield 109, 3) := by decide +kernel
theorem dX8_back_12 : decode cX8_back 12 = .ok (.if_icmp .lt 11, 3) := by decide +kernel
theorem dX8_back_23 : decode cX8_back 23 = .ok (.aload_n 0, 1) := by decide +kernel
theorem dX8_back_24 : decode cX8_back 24 = .ok (.getfield 31, 3) := by decide +kernel
theorem dX8_back_27 : decode cX8_back 27 = .ok (.aload_n 0, 1) := by decide +kernel
theorem dX8_back_28 : decode cX8_back 28 = .ok (.getfield 81, 3) := by decide +kernel
theorem dX8_back_31 : decode cX8_back 31 = .ok (.getfield 193, 3) := by decide +kernel
theorem k_485 : Cond.fieldLink RX8 193 "BurntWays$Marks" "nets" "[LBurntWays$Net;" ∈ bw_T := bw_m 485 (by decide +kernel) rfl
theorem dX8_back_34 : decode cX8_back 34 = .ok (.iload_n 1, 1) := by decide +kernel
theorem dX8_back_35 : decode cX8_back 35 = .ok (.aaload, 1) := by decide +kernel
theorem dX8_back_36 : decode cX8_back 36 = .ok (.invokevirtual 101, 3) := by decide +kernel
theorem dX8_back_39 : decode cX8_back 39 = .ok (.aload_n 0, 1) := by decide +kernel
theorem dX8_back_40 : decode cX8_back 40 = .ok (.getfield 47, 3) := by decide +kernel
theorem dX8_back_43 : decode cX8_back 43 = .ok (.aload_n 0, 1) := by decide +kernel
theorem dX8_back_44 : decode cX8_back 44 = .ok (.getfield 81, 3) := by decide +kernel
theorem dX8_back_47 : decode cX8_back 47 = .ok (.getfield 197, 3) := by decide +kernel
theorem k_487 : Cond.fieldLink RX8 197 "BurntWays$Marks" "walks" "[LBurntWays$Walk;" ∈ bw_T := bw_m 487 (by decide +kernel) rfl
theorem dX8_back_50 : decode cX8_back 50 = .ok (.iload_n 1, 1) := by decide +kernel
theorem dX8_back_51 : decode cX8_back 51 = .ok (.aaload, 1) := by decide +kernel
theorem dX8_back_52 : decode cX8_back 52 = .ok (.invokevirtual 201, 3) := by decide +kernel
theorem k_784 : Cond.methodLink RX8 201 yX6_copyFrom ∈ bw_T := bw_m 784 (by decide +kernel) rfl
theorem dX8_back_55 : decode cX8_back 55 = .ok (.aload_n 0, 1) := by decide +kernel
theorem dX8_back_56 : decode cX8_back 56 = .ok (.invokevirtual 115, 3) := by decide +kernel
theorem dX8_back_59 : decode cX8_back 59 = .ok (.aload_n 0, 1) := by decide +kernel
theorem dX8_back_60 : decode cX8_back 60 = .ok (.iload_n 1, 1) := by decide +kernel
theorem dX8_back_61 : decode cX8_back 61 = .ok (.invokevirtual 125, 3) := by decide +kernel
theorem dX8_back_64 : decode cX8_back 64 = .ok (.pop, 1) := by decide +kernel
theorem dX8_back_65 : decode cX8_back 65 = .ok (.iconst 1, 1) := by decide +kernel
theorem dX8_back_66 : decode cX8_back 66 = .ok (.ireturn, 1) := by decide +kernel