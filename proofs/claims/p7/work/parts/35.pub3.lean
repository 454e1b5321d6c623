theorem dX8_greatestSpare_0 : decode cX8_greatestSpare 0 = .ok (.aload_n 0, 1) := by decide +kernel
theorem dX8_greatestSpare_1 : decode cX8_greatestSpare 1 = .ok (.getfield 34, 3) := by decide +kernel
theorem k_500 : Cond.fieldLink RX8 34 "BurntWays" "trialNet" "LBurntWays$Net;" ∈ bw_T := bw_m 500 (by decide +kernel) rfl
theorem dX8_greatestSpare_4 : decode cX8_greatestSpare 4 = .ok (.aload_n 0, 1) := by decide +kernel
theorem dX8_greatestSpare_5 : decode cX8_greatestSpare 5 = .ok (.getfield 31, 3) := by decide +kernel
theorem dX8_greatestSpare_8 : decode cX8_greatestSpare 8 = .ok (.invokevirtual 101, 3) := by decide +kernel
theorem k_635 : Cond.methodLink RX8 101 yX2_copyFrom ∈ bw_T := bw_m 635 (by decide +kernel) rfl
theorem dX8_greatestSpare_11 : decode cX8_greatestSpare 11 = .ok (.iconst 1, 1) := by decide +kernel
theorem dX8_greatestSpare_12 : decode cX8_greatestSpare 12 = .ok (.istore_n 2, 1) := by decide +kernel
theorem dX8_greatestSpare_13 : decode cX8_greatestSpare 13 = .ok (.iload_n 2, 1) := by decide +kernel
theorem dX8_greatestSpare_14 : decode cX8_greatestSpare 14 = .ok (.aload_n 0, 1) := by decide +kernel
theorem dX8_greatestSpare_15 : decode cX8_greatestSpare 15 = .ok (.getfield 31, 3) := by decide +kernel
theorem dX8_greatestSpare_18 : decode cX8_greatestSpare 18 = .ok (.getfield 165, 3) := by decide +kernel
theorem dX8_greatestSpare_21 : decode cX8_greatestSpare 21 = .ok (.iload_n 1, 1) := by decide +kernel
theorem dX8_greatestSpare_22 : decode cX8_greatestSpare 22 = .ok (.iaload, 1) := by decide +kernel
theorem dX8_greatestSpare_23 : decode cX8_greatestSpare 23 = .ok (.if_icmp .ge 47, 3) := by decide +kernel
theorem dX8_greatestSpare_70 : decode cX8_greatestSpare 70 = .ok (.iconst 0, 1) := by decide +kernel
theorem dX8_greatestSpare_71 : decode cX8_greatestSpare 71 = .ok (.ireturn, 1) := by decide +kernel
theorem dX8_greatestSpare_26 : decode cX8_greatestSpare 26 = .ok (.aload_n 0, 1) := by decide +kernel
theorem dX8_greatestSpare_27 : decode cX8_greatestSpare 27 = .ok (.getfield 34, 3) := by decide +kernel
theorem dX8_greatestSpare_30 : decode cX8_greatestSpare 30 = .ok (.getfield 165, 3) := by decide +kernel
theorem dX8_greatestSpare_33 : decode cX8_greatestSpare 33 = .ok (.iload_n 1, 1) := by decide +kernel
theorem dX8_greatestSpare_34 : decode cX8_greatestSpare 34 = .ok (.iload_n 2, 1) := by decide +kernel
theorem dX8_greatestSpare_35 : decode cX8_greatestSpare 35 = .ok (.iastore, 1) := by decide +kernel
theorem dX8_greatestSpare_36 : decode cX8_greatestSpare 36 = .ok (.aload_n 0, 1) := by decide +kernel
theorem dX8_greatestSpare_37 : decode cX8_greatestSpare 37 = .ok (.getfield 60, 3) := by decide +kernel
theorem dX8_greatestSpare_40 : decode cX8_greatestSpare 40 = .ok (.aload_n 0, 1) := by decide +kernel
theorem dX8_greatestSpare_41 : decode cX8_greatestSpare 41 = .ok (.getfield 34, 3) := by decide +kernel
theorem dX8_greatestSpare_44 : decode cX8_greatestSpare 44 = .ok (.invokevirtual 267, 3) := by decide +kernel
theorem k_945 : Cond.methodLink RX8 267 yX4_firstUnlike ∈ bw_T := bw_m 945 (by decide +kernel) rfl
theorem kv_X4_firstUnlike : bw_KV RX4 yX4_firstUnlike (Cond.code yX4_firstUnlike cX4_firstUnlike 3 (some .int)) := ⟨bw_m 946 (by decide +kernel) rfl, bw_m 947 (by decide +kernel) rfl, bw_m 103 (by decide +kernel) rfl, bw_m 948 (by decide +kernel) rfl⟩
theorem dX8_greatestSpare_47 : decode cX8_greatestSpare 47 = .ok (.bipush (-2), 2) := by decide +kernel
theorem dX8_greatestSpare_49 : decode cX8_greatestSpare 49 = .ok (.if_icmp .ne 15, 3) := by decide +kernel
theorem dX8_greatestSpare_64 : decode cX8_greatestSpare 64 = .ok (.iinc 2 1, 3) := by decide +kernel
theorem dX8_greatestSpare_67 : decode cX8_greatestSpare 67 = .ok (.goto (-54), 3) := by decide +kernel
theorem dX8_greatestSpare_52 : decode cX8_greatestSpare 52 = .ok (.aload_n 0, 1) := by decide +kernel
theorem dX8_greatestSpare_53 : decode cX8_greatestSpare 53 = .ok (.getfield 31, 3) := by decide +kernel
theorem dX8_greatestSpare_56 : decode cX8_greatestSpare 56 = .ok (.getfield 165, 3) := by decide +kernel
theorem dX8_greatestSpare_59 : decode cX8_greatestSpare 59 = .ok (.iload_n 1, 1) := by decide +kernel
theorem dX8_greatestSpare_60 : decode cX8_greatestSpare 60 = .ok (.iaload, 1) := by decide +kernel
theorem dX8_greatestSpare_61 : decode cX8_greatestSpare 61 = .ok (.iload_n 2, 1) := by decide +kernel
theorem dX8_greatestSpare_62 : decode cX8_greatestSpare 62 = .ok (.isub, 1) := by decide +kernel
theorem dX8_greatestSpare_63 : decode cX8_greatestSpare 63 = .ok (.ireturn, 1) := by decide +kernel
theorem dX8_spare_0 : decode cX8_spare 0 = .ok (.aload_n 0, 1) := by decide +kernel
theorem dX8_spare_1 : decode cX8_spare 1 = .ok (.getfield 31, 3) := by decide +kernel
theorem dX8_spare_4 : decode cX8_spare 4 = .ok (.iload_n 2, 1) := by decide +kernel
theorem dX8_spare_5 : decode cX8_spare 5 = .ok (.invokevirtual 162, 3) := by decide +kernel
theorem dX8_spare_8 : decode cX8_spare 8 = .ok (.ifCond .ne 9, 3) := by decide +kernel
theorem dX8_spare_17 : decode cX8_spare 17 = .ok (.aload_n 0, 1) := by decide +kernel
theorem dX8_spare_18 : decode cX8_spare 18 = .ok (.iload_n 1, 1) := by decide +kernel
theorem dX8_spare_19 : decode cX8_spare 19 = .ok (.invokevirtual 204, 3) := by decide +kernel
theorem dX8_spare_22 : decode cX8_spare 22 = .ok (.ifCond .eq 11, 3) := by decide +kernel
theorem dX8_spare_33 : decode cX8_spare 33 = .ok (.iconst (-1), 1) := by decide +kernel
theorem dX8_spare_34 : decode cX8_spare 34 = .ok (.ireturn, 1) := by decide +kernel
theorem dX8_spare_25 : decode cX8_spare 25 = .ok (.aload_n 0, 1) := by decide +kernel
theorem dX8_spare_26 : decode cX8_spare 26 = .ok (.iload_n 2, 1) := by decide +kernel
theorem dX8_spare_27 : decode cX8_spare 27 = .ok (.invokevirtual 264, 3) := by decide +kernel
theorem k_941 : Cond.methodLink RX8 264 yX8_greatestSpare ∈ bw_T := bw_m 941 (by decide +kernel) rfl
theorem kv_X8_greatestSpare : bw_KV RX8 yX8_greatestSpare (Cond.code yX8_greatestSpare cX8_greatestSpare 3 (some .int)) := ⟨bw_m 943 (by decide +kernel) rfl, bw_m 33 (by decide +kernel) rfl, bw_m 94 (by decide +kernel) rfl, bw_m 944 (by decide +kernel) rfl⟩
theorem dX8_spare_30 : decode cX8_spare 30 = .ok (.goto 4, 3) := by decide +kernel
theorem dX8_spare_11 : decode cX8_spare 11 = .ok (.aload_n 0, 1) := by decide +kernel
theorem dX8_spare_12 : decode cX8_spare 12 = .ok (.iconst 1, 1) := by decide +kernel
theorem dX8_spare_13 : decode cX8_spare 13 = .ok (.invokevirtual 92, 3) := by decide +kernel
theorem dX8_spare_16 : decode cX8_spare 16 = .ok (.ireturn, 1) := by decide +kernel
theorem dX8_unfair_0 : decode cX8_unfair 0 = .ok (.aload_n 0, 1) := by decide +kernel
theorem dX8_unfair_1 : decode cX8_unfair 1 = .ok (.iload_n 1, 1) := by decide +kernel
theorem dX8_unfair_2 : decode cX8_unfair 2 = .ok (.iload_n 2, 1) := by decide +kernel
theorem dX8_unfair_3 : decode cX8_unfair 3 = .ok (.invokevirtual 270, 3) := by decide +kernel
theorem dX8_unfair_6 : decode cX8_unfair 6 = .ok (.ifCond .ne 9, 3) := by decide +kernel
theorem dX8_unfair_15 : decode cX8_unfair 15 = .ok (.aload_n 0, 1) := by decide +kernel
theorem dX8_unfair_16 : decode cX8_unfair 16 = .ok (.iload_n 3, 1) := by decide +kernel
theorem dX8_unfair_17 : decode cX8_unfair 17 = .ok (.invokevirtual 204, 3) := by decide +kernel
theorem dX8_unfair_20 : decode cX8_unfair 20 = .ok (.ifCond .ne 5, 3) := by decide +kernel
theorem dX8_unfair_25 : decode cX8_unfair 25 = .ok (.aload_n 0, 1) := by decide +kernel
theorem dX8_unfair_26 : decode cX8_unfair 26 = .ok (.getfield 31, 3) := by decide +kernel
theorem dX8_unfair_29 : decode cX8_unfair 29 = .ok (.iload_n 1, 1) := by decide +kernel
theorem dX8_unfair_30 : decode cX8_unfair 30 = .ok (.iload_n 2, 1) := by decide +kernel
theorem dX8_unfair_31 : decode cX8_unfair 31 = .ok (.invokevirtual 274, 3) := by decide +kernel
theorem dX8_unfair_34 : decode cX8_unfair 34 = .ok (.ifCond .ne 9, 3) := by decide +kernel
theorem dX8_unfair_43 : decode cX8_unfair 43 = .ok (.aload_n 0, 1) := by decide +kernel
theorem dX8_unfair_44 : decode cX8_unfair 44 = .ok (.getfield 34, 3) := by decide +kernel
theorem dX8_unfair_47 : decode cX8_unfair 47 = .ok (.aload_n 0, 1) := by decide +kernel
theorem dX8_unfair_48 : decode cX8_unfair 48 = .ok (.getfield 31, 3) := by decide +kernel
theorem dX8_unfair_51 : decode cX8_unfair 51 = .ok (.iload_n 1, 1) := by decide +kernel
theorem dX8_unfair_52 : decode cX8_unfair 52 = .ok (.iload_n 2, 1) := by decide +kernel
theorem dX8_unfair_53 : decode cX8_unfair 53 = .ok (.invokevirtual 277, 3) := by decide +kernel
theorem k_978 : Cond.methodLink RX8 277 yX2_copyMerged ∈ bw_T := bw_m 978 (by decide +kernel) rfl
theorem kv_X2_copyMerged : bw_KV RX2 yX2_copyMerged (Cond.code yX2_copyMerged cX2_copyMerged 6 none) := ⟨bw_m 979 (by decide +kernel) rfl, bw_m 980 (by decide +kernel) rfl, bw_m 96 (by decide +kernel) rfl, bw_m 981 (by decide +kernel) rfl⟩
theorem dX8_unfair_56 : decode cX8_unfair 56 = .ok (.aload_n 0, 1) := by decide +kernel
theorem dX8_unfair_57 : decode cX8_unfair 57 = .ok (.aload_n 0, 1) := by decide +kernel
theorem dX8_unfair_58 : decode cX8_unfair 58 = .ok (.getfield 60, 3) := by decide +kernel
theorem dX8_unfair_61 : decode cX8_unfair 61 = .ok (.aload_n 0, 1) := by decide +kernel
theorem dX8_unfair_62 : decode cX8_unfair 62 = .ok (.getfield 34, 3) := by decide +kernel
theorem dX8_unfair_65 : decode cX8_unfair 65 = .ok (.invokevirtual 267, 3) := by decide +kernel
theorem dX8_unfair_68 : decode cX8_unfair 68 = .ok (.invokevirtual 125, 3) := by decide +kernel
theorem dX8_unfair_71 : decode cX8_unfair 71 = .ok (.ireturn, 1) := by decide +kernel
theorem dX8_unfair_37 : decode cX8_unfair 37 = .ok (.aload_n 0, 1) := by decide +kernel
theorem dX8_unfair_38 : decode cX8_unfair 38 = .ok (.iconst 5, 1) := by decide +kernel
theorem dX8_unfair_39 : decode cX8_unfair 39 = .ok (.invokevirtual 92, 3) := by decide +kernel
theorem dX8_unfair_42 : decode cX8_unfair 42 = .ok (.ireturn, 1) := by decide +kernel
theorem dX8_unfair_23 : decode cX8_unfair 23 = .ok (.iconst (-1), 1) := by decide +kernel
theorem dX8_unfair_24 : decode cX8_unfair 24 = .ok (.ireturn, 1) := by decide +kernel
theorem dX8_unfair_9 : decode cX8_unfair 9 = .ok (.aload_n 0, 1) := by decide +kernel
theorem dX8_unfair_10 : decode cX8_unfair 10 = .ok (.iconst 1, 1) := by decide +kernel
theorem dX8_unfair_11 : decode cX8_unfair 11 = .ok (.invokevirtual 92, 3) := by decide +kernel
theorem dX8_unfair_14 : decode cX8_unfair 14 = .ok (.ireturn, 1) := by decide +kernel
theorem dX8_mergeFirstFair_0 : decode cX8_mergeFirstFair 0 = .ok (.iconst 0, 1) := by decide +kernel
theorem dX8_mergeFirstFair_1 : decode cX8_mergeFirstFair 1 = .ok (.istore_n 1, 1) := by decide +kernel
theorem dX8_mergeFirstFair_2 : decode cX8_mergeFirstFair 2 = .ok (.iload_n 1, 1) := by decide +kernel
theorem dX8_mergeFirstFair_3 : decode cX8_mergeFirstFair 3 = .ok (.aload_n 0, 1) := by decide +kernel
theorem dX8_mergeFirstFair_4 : decode cX8_mergeFirstFair 4 = .ok (.getfield 31, 3) := by decide +kernel
theorem dX8_mergeFirstFair_7 : decode cX8_mergeFirstFair 7 = .ok (.getfield 122, 3) := by decide +kernel
theorem dX8_mergeFirstFair_10 : decode cX8_mergeFirstFair 10 = .ok (.if_icmp .ge 87, 3) := by decide +kernel
theorem dX8_mergeFirstFair_97 : decode cX8_mergeFirstFair 97 = .ok (.iconst 0, 1) := by decide +kernel
theorem dX8_mergeFirstFair_98 : decode cX8_mergeFirstFair 98 = .ok (.ireturn, 1) := by decide +kernel
theorem dX8_mergeFirstFair_13 : decode cX8_mergeFirstFair 13 = .ok (.iload_n 1, 1) := by decide +kernel
theorem dX8_mergeFirstFair_14 : decode cX8_mergeFirstFair 14 = .ok (.iconst 1, 1) := by decide +kernel
theorem dX8_mergeFirstFair_15 : decode cX8_mergeFirstFair 15 = .ok (.iadd, 1) := by decide +kernel
theorem dX8_mergeFirstFair_16 : decode cX8_mergeFirstFair 16 = .ok (.istore_n 2, 1) := by decide +kernel
theorem dX8_mergeFirstFair_17 : decode cX8_mergeFirstFair 17 = .ok (.iload_n 2, 1) := by decide +kernel
theorem dX8_mergeFirstFair_18 : decode cX8_mergeFirstFair 18 = .ok (.aload_n 0, 1) := by decide +kernel
theorem dX8_mergeFirstFair_19 : decode cX8_mergeFirstFair 19 = .ok (.getfield 31, 3) := by decide +kernel
theorem dX8_mergeFirstFair_22 : decode cX8_mergeFirstFair 22 = .ok (.getfield 122, 3) := by decide +kernel
theorem dX8_mergeFirstFair_25 : decode cX8_mergeFirstFair 25 = .ok (.if_icmp .ge 66, 3) := by decide +kernel
theorem dX8_mergeFirstFair_91 : decode cX8_mergeFirstFair 91 = .ok (.iinc 1 1, 3) := by decide +kernel
theorem dX8_mergeFirstFair_94 : decode cX8_mergeFirstFair 94 = .ok (.goto (-92), 3) := by decide +kernel
theorem dX8_mergeFirstFair_28 : decode cX8_mergeFirstFair 28 = .ok (.aload_n 0, 1) := by decide +kernel
theorem dX8_mergeFirstFair_29 : decode cX8_mergeFirstFair 29 = .ok (.getfield 31, 3) := by decide +kernel
theorem dX8_mergeFirstFair_32 : decode cX8_mergeFirstFair 32 = .ok (.iload_n 1, 1) := by decide +kernel
theorem dX8_mergeFirstFair_33 : decode cX8_mergeFirstFair 33 = .ok (.iload_n 2, 1) := by decide +kernel
theorem dX8_mergeFirstFair_34 : decode cX8_mergeFirstFair 34 = .ok (.invokevirtual 274, 3) := by decide +kernel
theorem dX8_mergeFirstFair_37 : decode cX8_mergeFirstFair 37 = .ok (.ifCond .ne 6, 3) := by decide +kernel
theorem dX8_mergeFirstFair_43 : decode cX8_mergeFirstFair 43 = .ok (.aload_n 0, 1) := by decide +kernel
theorem dX8_mergeFirstFair_44 : decode cX8_mergeFirstFair 44 = .ok (.getfield 34, 3) := by decide +kernel
theorem dX8_mergeFirstFair_47 : decode cX8_mergeFirstFair 47 = .ok (.aload_n 0, 1) := by decide +kernel
theorem dX8_mergeFirstFair_48 : decode cX8_mergeFirstFair 48 = .ok (.getfield 31, 3) := by decide +kernel
theorem dX8_mergeFirstFair_51 : decode cX8_mergeFirstFair 51 = .ok (.iload_n 1, 1) := by decide +kernel
theorem dX8_mergeFirstFair_52 : decode cX8_mergeFirstFair 52 = .ok (.iload_n 2, 1) := by decide +kernel
theorem dX8_mergeFirstFair_53 : decode cX8_mergeFirstFair 53 = .ok (.invokevirtual 277, 3) := by decide +kernel
theorem dX8_mergeFirstFair_56 : decode cX8_mergeFirstFair 56 = .ok (.aload_n 0, 1) := by decide +kernel
theorem dX8_mergeFirstFair_57 : decode cX8_mergeFirstFair 57 = .ok (.getfield 60, 3) := by decide +kernel
theorem dX8_mergeFirstFair_60 : decode cX8_mergeFirstFair 60 = .ok (.aload_n 0, 1) := by decide +kernel
theorem dX8_mergeFirstFair_61 : decode cX8_mergeFirstFair 61 = .ok (.getfield 34, 3) := by decide +kernel
theorem dX8_mergeFirstFair_64 : decode cX8_mergeFirstFair 64 = .ok (.invokevirtual 267, 3) := by decide +kernel
theorem dX8_mergeFirstFair_67 : decode cX8_mergeFirstFair 67 = .ok (.bipush (-2), 2) := by decide +kernel
theorem dX8_mergeFirstFair_69 : decode cX8_mergeFirstFair 69 = .ok (.if_icmp .ne 16, 3) := by decide +kernel
theorem dX8_mergeFirstFair_85 : decode cX8_mergeFirstFair 85 = .ok (.iinc 2 1, 3) := by decide +kernel
theorem dX8_mergeFirstFair_88 : decode cX8_mergeFirstFair 88 = .ok (.goto (-71), 3) := by decide +kernel
theorem dX8_mergeFirstFair_72 : decode cX8_mergeFirstFair 72 = .ok (.aload_n 0, 1) := by decide +kernel
theorem dX8_mergeFirstFair_73 : decode cX8_mergeFirstFair 73 = .ok (.getfield 31, 3) := by decide +kernel
theorem dX8_mergeFirstFair_76 : decode cX8_mergeFirstFair 76 = .ok (.aload_n 0, 1) := by decide +kernel
theorem dX8_mergeFirstFair_77 : decode cX8_mergeFirstFair 77 = .ok (.getfield 34, 3) := by decide +kernel
theorem dX8_mergeFirstFair_80 : decode cX8_mergeFirstFair 80 = .ok (.invokevirtual 101, 3) := by decide +kernel
theorem dX8_mergeFirstFair_83 : decode cX8_mergeFirstFair 83 = .ok (.iconst 1, 1) := by decide +kernel
theorem dX8_mergeFirstFair_84 : decode cX8_mergeFirstFair 84 = .ok (.ireturn, 1) := by decide +kernel
theorem dX8_mergeFirstFair_40 : decode cX8_mergeFirstFair 40 = .ok (.goto 45, 3) := by decide +kernel
theorem dX8_fold_0 : decode cX8_fold 0 = .ok (.aload_n 0, 1) := by decide +kernel
theorem dX8_fold_1 : decode cX8_fold 1 = .ok (.iload_n 1, 1) := by decide +kernel
theorem dX8_fold_2 : decode cX8_fold 2 = .ok (.invokevirtual 204, 3) := by decide +kernel
theorem dX8_fold_5 : decode cX8_fold 5 = .ok (.ifCond .ne 5, 3) := by decide +kernel
theorem dX8_fold_10 : decode cX8_fold 10 = .ok (.iconst 0, 1) := by decide +kernel
theorem dX8_fold_11 : decode cX8_fold 11 = .ok (.istore_n 2, 1) := by decide +kernel
theorem dX8_fold_12 : decode cX8_fold 12 = .ok (.iconst 0, 1) := by decide +kernel
theorem dX8_fold_13 : decode cX8_fold 13 = .ok (.istore_n 3, 1) := by decide +kernel
theorem dX8_fold_14 : decode cX8_fold 14 = .ok (.iload_n 3, 1) := by decide +kernel
theorem dX8_fold_15 : decode cX8_fold 15 = .ok (.bipush 10, 2) := by decide +kernel
theorem dX8_fold_17 : decode cX8_fold 17 = .ok (.if_icmp .ge 19, 3) := by decide +kernel
theorem dX8_fold_36 : decode cX8_fold 36 = .ok (.aload_n 0, 1) := by decide +kernel
theorem dX8_fold_37 : decode cX8_fold 37 = .ok (.invokevirtual 115, 3) := by decide +kernel
theorem k_654 : Cond.methodLink RX8 115 yX8_forgetWhatWasFound ∈ bw_T := bw_m 654 (by decide +kernel) rfl
theorem kv_X8_forgetWhatWasFound : bw_KV RX8 yX8_forgetWhatWasFound (Cond.code yX8_forgetWhatWasFound cX8_forgetWhatWasFound 1 none) := ⟨bw_m 656 (by decide +kernel) rfl, bw_m 19 (by decide +kernel) rfl, bw_m 94 (by decide +kernel) rfl, bw_m 657 (by decide +kernel) rfl⟩
theorem dX8_fold_40 : decode cX8_fold 40 = .ok (.aload_n 0, 1) := by decide +kernel
theorem dX8_fold_41 : decode cX8_fold 41 = .ok (.getfield 47, 3) := by decide +kernel
theorem dX8_fold_44 : decode cX8_fold 44 = .ok (.aload_n 0, 1) := by decide +kernel
theorem dX8_fold_45 : decode cX8_fold 45 = .ok (.getfield 31, 3) := by decide +kernel
theorem dX8_fold_48 : decode cX8_fold 48 = .ok (.iconst 0, 1) := by decide +kernel
theorem dX8_fold_49 : decode cX8_fold 49 = .ok (.iconst 0, 1) := by decide +kernel
theorem dX8_fold_50 : decode cX8_fold 50 = .ok (.iconst 0, 1) := by decide +kernel
theorem dX8_fold_51 : decode cX8_fold 51 = .ok (.iconst 0, 1) := by decide +kernel
theorem dX8_fold_52 : decode cX8_fold 52 = .ok (.invokevirtual 118, 3) := by decide +kernel
theorem dX8_fold_55 : decode cX8_fold 55 = .ok (.iload_n 2, 1) := by decide +kernel
theorem dX8_fold_56 : decode cX8_fold 56 = .ok (.ireturn, 1) := by decide +kernel
theorem dX8_fold_20 : decode cX8_fold 20 = .ok (.aload_n 0, 1) := by decide +kernel
theorem dX8_fold_21 : decode cX8_fold 21 = .ok (.invokevirtual 280, 3) := by decide +kernel
theorem k_990 : Cond.methodLink RX8 280 yX8_mergeFirstFair ∈ bw_T := bw_m 990 (by decide +kernel) rfl
theorem kv_X8_mergeFirstFair : bw_KV RX8 yX8_mergeFirstFair (Cond.code yX8_mergeFirstFair cX8_mergeFirstFair 3 (some .boolean)) := ⟨bw_m 992 (by decide +kernel) rfl, bw_m 37 (by decide +kernel) rfl, bw_m 94 (by decide +kernel) rfl, bw_m 993 (by decide +kernel) rfl⟩
theorem dX8_fold_24 : decode cX8_fold 24 = .ok (.ifCond .eq 12, 3) := by decide +kernel
theorem dX8_fold_27 : decode cX8_fold 27 = .ok (.iinc 2 1, 3) := by decide +kernel
theorem dX8_fold_30 : decode cX8_fold 30 = .ok (.iinc 3 1, 3) := by decide +kernel
theorem dX8_fold_33 : decode cX8_fold 33 = .ok (.goto (-19), 3) := by decide +kernel
theorem dX8_fold_8 : decode cX8_fold 8 = .ok (.iconst (-1), 1) := by decide +kernel
theorem dX8_fold_9 : decode cX8_fold 9 = .ok (.ireturn, 1) := by decide +kernel