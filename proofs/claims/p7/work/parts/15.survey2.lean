theorem dX4_endsAlike_0 : decode cX4_endsAlike 0 = .ok (.aload_n 0, 1) := by decide +kernel
theorem dX4_endsAlike_1 : decode cX4_endsAlike 1 = .ok (.getfield 52, 3) := by decide +kernel
theorem dX4_endsAlike_4 : decode cX4_endsAlike 4 = .ok (.aload_n 1, 1) := by decide +kernel
theorem dX4_endsAlike_5 : decode cX4_endsAlike 5 = .ok (.aload_n 0, 1) := by decide +kernel
theorem dX4_endsAlike_6 : decode cX4_endsAlike 6 = .ok (.getfield 9, 3) := by decide +kernel
theorem k_370 : Cond.fieldLink RX4 9 "BurntWays$Survey" "bound" "I" ∈ bw_T := bw_m 370 (by decide +kernel) rfl
theorem dX4_endsAlike_9 : decode cX4_endsAlike 9 = .ok (.iload_n 2, 1) := by decide +kernel
theorem dX4_endsAlike_10 : decode cX4_endsAlike 10 = .ok (.invokevirtual 68, 3) := by decide +kernel
theorem k_803 : Cond.methodLink RX4 68 yX6_beginInput ∈ bw_T := bw_m 803 (by decide +kernel) rfl
theorem kv_X6_beginInput : bw_KV RX6 yX6_beginInput (Cond.code yX6_beginInput cX6_beginInput 9 none) := ⟨bw_m 755 (by decide +kernel) rfl, bw_m 756 (by decide +kernel) rfl, bw_m 102 (by decide +kernel) rfl, bw_m 757 (by decide +kernel) rfl⟩
theorem dX4_endsAlike_13 : decode cX4_endsAlike 13 = .ok (.aload_n 0, 1) := by decide +kernel
theorem dX4_endsAlike_14 : decode cX4_endsAlike 14 = .ok (.getfield 52, 3) := by decide +kernel
theorem dX4_endsAlike_17 : decode cX4_endsAlike 17 = .ok (.aload_n 1, 1) := by decide +kernel
theorem dX4_endsAlike_18 : decode cX4_endsAlike 18 = .ok (.sipush 1000, 3) := by decide +kernel
theorem dX4_endsAlike_21 : decode cX4_endsAlike 21 = .ok (.invokevirtual 72, 3) := by decide +kernel
theorem k_804 : Cond.methodLink RX4 72 yX6_goOn ∈ bw_T := bw_m 804 (by decide +kernel) rfl
theorem kv_X6_goOn : bw_KV RX6 yX6_goOn (Cond.code yX6_goOn cX6_goOn 5 (some .int)) := ⟨bw_m 695 (by decide +kernel) rfl, bw_m 696 (by decide +kernel) rfl, bw_m 102 (by decide +kernel) rfl, bw_m 697 (by decide +kernel) rfl⟩
theorem dX4_endsAlike_24 : decode cX4_endsAlike 24 = .ok (.pop, 1) := by decide +kernel
theorem dX4_endsAlike_25 : decode cX4_endsAlike 25 = .ok (.aload_n 0, 1) := by decide +kernel
theorem dX4_endsAlike_26 : decode cX4_endsAlike 26 = .ok (.getfield 52, 3) := by decide +kernel
theorem dX4_endsAlike_29 : decode cX4_endsAlike 29 = .ok (.invokevirtual 87, 3) := by decide +kernel
theorem dX4_endsAlike_32 : decode cX4_endsAlike 32 = .ok (.aload_n 0, 1) := by decide +kernel
theorem dX4_endsAlike_33 : decode cX4_endsAlike 33 = .ok (.getfield 46, 3) := by decide +kernel
theorem dX4_endsAlike_36 : decode cX4_endsAlike 36 = .ok (.iload_n 2, 1) := by decide +kernel
theorem dX4_endsAlike_37 : decode cX4_endsAlike 37 = .ok (.iaload, 1) := by decide +kernel
theorem dX4_endsAlike_38 : decode cX4_endsAlike 38 = .ok (.if_icmp .ne 7, 3) := by decide +kernel
theorem dX4_endsAlike_45 : decode cX4_endsAlike 45 = .ok (.iconst 0, 1) := by decide +kernel
theorem dX4_endsAlike_46 : decode cX4_endsAlike 46 = .ok (.ireturn, 1) := by decide +kernel
theorem dX4_endsAlike_41 : decode cX4_endsAlike 41 = .ok (.iconst 1, 1) := by decide +kernel
theorem dX4_endsAlike_42 : decode cX4_endsAlike 42 = .ok (.goto 4, 3) := by decide +kernel
theorem dX4_firstUnlike_0 : decode cX4_firstUnlike 0 = .ok (.iconst 0, 1) := by decide +kernel
theorem dX4_firstUnlike_1 : decode cX4_firstUnlike 1 = .ok (.istore_n 2, 1) := by decide +kernel
theorem dX4_firstUnlike_2 : decode cX4_firstUnlike 2 = .ok (.iload_n 2, 1) := by decide +kernel
theorem dX4_firstUnlike_3 : decode cX4_firstUnlike 3 = .ok (.aload_n 0, 1) := by decide +kernel
theorem dX4_firstUnlike_4 : decode cX4_firstUnlike 4 = .ok (.getfield 15, 3) := by decide +kernel
theorem k_372 : Cond.fieldLink RX4 15 "BurntWays$Survey" "inputs" "I" ∈ bw_T := bw_m 372 (by decide +kernel) rfl
theorem dX4_firstUnlike_7 : decode cX4_firstUnlike 7 = .ok (.if_icmp .ge 20, 3) := by decide +kernel
theorem dX4_firstUnlike_27 : decode cX4_firstUnlike 27 = .ok (.bipush (-2), 2) := by decide +kernel
theorem dX4_firstUnlike_29 : decode cX4_firstUnlike 29 = .ok (.ireturn, 1) := by decide +kernel
theorem dX4_firstUnlike_10 : decode cX4_firstUnlike 10 = .ok (.aload_n 0, 1) := by decide +kernel
theorem dX4_firstUnlike_11 : decode cX4_firstUnlike 11 = .ok (.aload_n 1, 1) := by decide +kernel
theorem dX4_firstUnlike_12 : decode cX4_firstUnlike 12 = .ok (.iload_n 2, 1) := by decide +kernel
theorem dX4_firstUnlike_13 : decode cX4_firstUnlike 13 = .ok (.invokevirtual 110, 3) := by decide +kernel
theorem k_949 : Cond.methodLink RX4 110 yX4_endsAlike ∈ bw_T := bw_m 949 (by decide +kernel) rfl
theorem kv_X4_endsAlike : bw_KV RX4 yX4_endsAlike (Cond.code yX4_endsAlike cX4_endsAlike 3 (some .boolean)) := ⟨bw_m 951 (by decide +kernel) rfl, bw_m 34 (by decide +kernel) rfl, bw_m 103 (by decide +kernel) rfl, bw_m 952 (by decide +kernel) rfl⟩
theorem dX4_firstUnlike_16 : decode cX4_firstUnlike 16 = .ok (.ifCond .ne 5, 3) := by decide +kernel
theorem dX4_firstUnlike_21 : decode cX4_firstUnlike 21 = .ok (.iinc 2 1, 3) := by decide +kernel
theorem dX4_firstUnlike_24 : decode cX4_firstUnlike 24 = .ok (.goto (-22), 3) := by decide +kernel
theorem dX4_firstUnlike_19 : decode cX4_firstUnlike 19 = .ok (.iload_n 2, 1) := by decide +kernel
theorem dX4_firstUnlike_20 : decode cX4_firstUnlike 20 = .ok (.ireturn, 1) := by decide +kernel
theorem dX4_countAlike_0 : decode cX4_countAlike 0 = .ok (.iconst 0, 1) := by decide +kernel
theorem dX4_countAlike_1 : decode cX4_countAlike 1 = .ok (.istore_n 2, 1) := by decide +kernel
theorem dX4_countAlike_2 : decode cX4_countAlike 2 = .ok (.iconst 0, 1) := by decide +kernel
theorem dX4_countAlike_3 : decode cX4_countAlike 3 = .ok (.istore_n 3, 1) := by decide +kernel
theorem dX4_countAlike_4 : decode cX4_countAlike 4 = .ok (.iload_n 3, 1) := by decide +kernel
theorem dX4_countAlike_5 : decode cX4_countAlike 5 = .ok (.aload_n 0, 1) := by decide +kernel
theorem dX4_countAlike_6 : decode cX4_countAlike 6 = .ok (.getfield 15, 3) := by decide +kernel
theorem dX4_countAlike_9 : decode cX4_countAlike 9 = .ok (.if_icmp .ge 26, 3) := by decide +kernel
theorem dX4_countAlike_35 : decode cX4_countAlike 35 = .ok (.iload_n 2, 1) := by decide +kernel
theorem dX4_countAlike_36 : decode cX4_countAlike 36 = .ok (.ireturn, 1) := by decide +kernel
theorem dX4_countAlike_12 : decode cX4_countAlike 12 = .ok (.iload_n 2, 1) := by decide +kernel
theorem dX4_countAlike_13 : decode cX4_countAlike 13 = .ok (.aload_n 0, 1) := by decide +kernel
theorem dX4_countAlike_14 : decode cX4_countAlike 14 = .ok (.aload_n 1, 1) := by decide +kernel
theorem dX4_countAlike_15 : decode cX4_countAlike 15 = .ok (.iload_n 3, 1) := by decide +kernel
theorem dX4_countAlike_16 : decode cX4_countAlike 16 = .ok (.invokevirtual 110, 3) := by decide +kernel
theorem dX4_countAlike_19 : decode cX4_countAlike 19 = .ok (.ifCond .eq 7, 3) := by decide +kernel
theorem dX4_countAlike_26 : decode cX4_countAlike 26 = .ok (.iconst 0, 1) := by decide +kernel
theorem dX4_countAlike_27 : decode cX4_countAlike 27 = .ok (.iadd, 1) := by decide +kernel
theorem dX4_countAlike_28 : decode cX4_countAlike 28 = .ok (.istore_n 2, 1) := by decide +kernel
theorem dX4_countAlike_29 : decode cX4_countAlike 29 = .ok (.iinc 3 1, 3) := by decide +kernel
theorem dX4_countAlike_32 : decode cX4_countAlike 32 = .ok (.goto (-28), 3) := by decide +kernel
theorem dX4_countAlike_22 : decode cX4_countAlike 22 = .ok (.iconst 1, 1) := by decide +kernel
theorem dX4_countAlike_23 : decode cX4_countAlike 23 = .ok (.goto 4, 3) := by decide +kernel
theorem dX4_look_0 : decode cX4_look 0 = .ok (.aload_n 0, 1) := by decide +kernel
theorem dX4_look_1 : decode cX4_look 1 = .ok (.getfield 9, 3) := by decide +kernel
theorem dX4_look_4 : decode cX4_look 4 = .ok (.iload_n 2, 1) := by decide +kernel
theorem dX4_look_5 : decode cX4_look 5 = .ok (.if_icmp .ne 4, 3) := by decide +kernel
theorem dX4_look_9 : decode cX4_look 9 = .ok (.aload_n 0, 1) := by decide +kernel
theorem dX4_look_10 : decode cX4_look 10 = .ok (.iload_n 2, 1) := by decide +kernel
theorem dX4_look_11 : decode cX4_look 11 = .ok (.putfield 9, 3) := by decide +kernel
theorem dX4_look_14 : decode cX4_look 14 = .ok (.aload_n 0, 1) := by decide +kernel
theorem dX4_look_15 : decode cX4_look 15 = .ok (.iload_n 2, 1) := by decide +kernel
theorem dX4_look_16 : decode cX4_look 16 = .ok (.iconst 1, 1) := by decide +kernel
theorem dX4_look_17 : decode cX4_look 17 = .ok (.iadd, 1) := by decide +kernel
theorem dX4_look_18 : decode cX4_look 18 = .ok (.iload_n 2, 1) := by decide +kernel
theorem dX4_look_19 : decode cX4_look 19 = .ok (.iconst 1, 1) := by decide +kernel
theorem dX4_look_20 : decode cX4_look 20 = .ok (.iadd, 1) := by decide +kernel
theorem dX4_look_21 : decode cX4_look 21 = .ok (.imul, 1) := by decide +kernel
theorem dX4_look_22 : decode cX4_look 22 = .ok (.iload_n 2, 1) := by decide +kernel
theorem dX4_look_23 : decode cX4_look 23 = .ok (.iconst 1, 1) := by decide +kernel
theorem dX4_look_24 : decode cX4_look 24 = .ok (.iadd, 1) := by decide +kernel
theorem dX4_look_25 : decode cX4_look 25 = .ok (.imul, 1) := by decide +kernel
theorem dX4_look_26 : decode cX4_look 26 = .ok (.iload_n 2, 1) := by decide +kernel
theorem dX4_look_27 : decode cX4_look 27 = .ok (.iconst 1, 1) := by decide +kernel
theorem dX4_look_28 : decode cX4_look 28 = .ok (.iadd, 1) := by decide +kernel
theorem dX4_look_29 : decode cX4_look 29 = .ok (.imul, 1) := by decide +kernel
theorem dX4_look_30 : decode cX4_look 30 = .ok (.putfield 15, 3) := by decide +kernel
theorem dX4_look_33 : decode cX4_look 33 = .ok (.aload_n 0, 1) := by decide +kernel
theorem dX4_look_34 : decode cX4_look 34 = .ok (.aload_n 1, 1) := by decide +kernel
theorem dX4_look_35 : decode cX4_look 35 = .ok (.invokevirtual 56, 3) := by decide +kernel
theorem dX4_look_38 : decode cX4_look 38 = .ok (.putfield 18, 3) := by decide +kernel
theorem dX4_look_41 : decode cX4_look 41 = .ok (.aload_n 0, 1) := by decide +kernel
theorem dX4_look_42 : decode cX4_look 42 = .ok (.aload_n 0, 1) := by decide +kernel
theorem dX4_look_43 : decode cX4_look 43 = .ok (.getfield 18, 3) := by decide +kernel
theorem dX4_look_46 : decode cX4_look 46 = .ok (.putfield 21, 3) := by decide +kernel
theorem dX4_look_49 : decode cX4_look 49 = .ok (.aload_n 0, 1) := by decide +kernel
theorem dX4_look_50 : decode cX4_look 50 = .ok (.bipush (-2), 2) := by decide +kernel
theorem dX4_look_52 : decode cX4_look 52 = .ok (.putfield 24, 3) := by decide +kernel
theorem dX4_look_55 : decode cX4_look 55 = .ok (.aload_n 0, 1) := by decide +kernel
theorem dX4_look_56 : decode cX4_look 56 = .ok (.iconst (-1), 1) := by decide +kernel
theorem dX4_look_57 : decode cX4_look 57 = .ok (.putfield 27, 3) := by decide +kernel
theorem dX4_look_60 : decode cX4_look 60 = .ok (.aload_n 0, 1) := by decide +kernel
theorem dX4_look_61 : decode cX4_look 61 = .ok (.iconst 0, 1) := by decide +kernel
theorem dX4_look_62 : decode cX4_look 62 = .ok (.putfield 33, 3) := by decide +kernel
theorem dX4_look_65 : decode cX4_look 65 = .ok (.aload_n 0, 1) := by decide +kernel
theorem dX4_look_66 : decode cX4_look 66 = .ok (.getfield 36, 3) := by decide +kernel
theorem dX4_look_69 : decode cX4_look 69 = .ok (.iconst 0, 1) := by decide +kernel
theorem dX4_look_70 : decode cX4_look 70 = .ok (.invokestatic 62, 3) := by decide +kernel
theorem k_802 : Cond.methodLink RX4 62 yJ7_fill_53178 ∈ bw_T := bw_m 802 (by decide +kernel) rfl
theorem dX4_look_73 : decode cX4_look 73 = .ok (.aload_n 0, 1) := by decide +kernel
theorem dX4_look_74 : decode cX4_look 74 = .ok (.getfield 40, 3) := by decide +kernel
theorem dX4_look_77 : decode cX4_look 77 = .ok (.bipush (-2), 2) := by decide +kernel
theorem dX4_look_79 : decode cX4_look 79 = .ok (.invokestatic 62, 3) := by decide +kernel
theorem dX4_look_82 : decode cX4_look 82 = .ok (.aload_n 0, 1) := by decide +kernel
theorem dX4_look_83 : decode cX4_look 83 = .ok (.getfield 43, 3) := by decide +kernel
theorem dX4_look_86 : decode cX4_look 86 = .ok (.iconst 0, 1) := by decide +kernel
theorem dX4_look_87 : decode cX4_look 87 = .ok (.invokestatic 62, 3) := by decide +kernel
theorem dX4_look_90 : decode cX4_look 90 = .ok (.iconst 0, 1) := by decide +kernel
theorem dX4_look_91 : decode cX4_look 91 = .ok (.istore_n 3, 1) := by decide +kernel
theorem dX4_look_92 : decode cX4_look 92 = .ok (.iload_n 3, 1) := by decide +kernel
theorem dX4_look_93 : decode cX4_look 93 = .ok (.aload_n 0, 1) := by decide +kernel
theorem dX4_look_94 : decode cX4_look 94 = .ok (.getfield 15, 3) := by decide +kernel
theorem dX4_look_97 : decode cX4_look 97 = .ok (.if_icmp .ge 46, 3) := by decide +kernel
theorem dX4_look_143 : decode cX4_look 143 = .ok (.return_, 1) := by decide +kernel
theorem dX4_look_100 : decode cX4_look 100 = .ok (.aload_n 0, 1) := by decide +kernel
theorem dX4_look_101 : decode cX4_look 101 = .ok (.getfield 52, 3) := by decide +kernel
theorem dX4_look_104 : decode cX4_look 104 = .ok (.aload_n 1, 1) := by decide +kernel
theorem dX4_look_105 : decode cX4_look 105 = .ok (.iload_n 2, 1) := by decide +kernel
theorem dX4_look_106 : decode cX4_look 106 = .ok (.iload_n 3, 1) := by decide +kernel
theorem dX4_look_107 : decode cX4_look 107 = .ok (.invokevirtual 68, 3) := by decide +kernel
theorem dX4_look_110 : decode cX4_look 110 = .ok (.aload_n 0, 1) := by decide +kernel
theorem dX4_look_111 : decode cX4_look 111 = .ok (.getfield 52, 3) := by decide +kernel
theorem dX4_look_114 : decode cX4_look 114 = .ok (.aload_n 1, 1) := by decide +kernel
theorem dX4_look_115 : decode cX4_look 115 = .ok (.sipush 1000, 3) := by decide +kernel
theorem dX4_look_118 : decode cX4_look 118 = .ok (.invokevirtual 72, 3) := by decide +kernel
theorem dX4_look_121 : decode cX4_look 121 = .ok (.pop, 1) := by decide +kernel
theorem dX4_look_122 : decode cX4_look 122 = .ok (.aload_n 0, 1) := by decide +kernel
theorem dX4_look_123 : decode cX4_look 123 = .ok (.aload_n 1, 1) := by decide +kernel
theorem dX4_look_124 : decode cX4_look 124 = .ok (.iload_n 3, 1) := by decide +kernel
theorem dX4_look_125 : decode cX4_look 125 = .ok (.invokevirtual 76, 3) := by decide +kernel
theorem k_805 : Cond.methodLink RX4 76 yX4_noteRun ∈ bw_T := bw_m 805 (by decide +kernel) rfl
theorem kv_X4_noteRun : bw_KV RX4 yX4_noteRun (Cond.code yX4_noteRun cX4_noteRun 3 none) := ⟨bw_m 807 (by decide +kernel) rfl, bw_m 27 (by decide +kernel) rfl, bw_m 103 (by decide +kernel) rfl, bw_m 808 (by decide +kernel) rfl⟩
theorem dX4_look_128 : decode cX4_look 128 = .ok (.aload_n 0, 1) := by decide +kernel
theorem dX4_look_129 : decode cX4_look 129 = .ok (.iload_n 3, 1) := by decide +kernel
theorem dX4_look_130 : decode cX4_look 130 = .ok (.invokevirtual 80, 3) := by decide +kernel
theorem k_814 : Cond.methodLink RX4 80 yX4_noteLines ∈ bw_T := bw_m 814 (by decide +kernel) rfl
theorem kv_X4_noteLines : bw_KV RX4 yX4_noteLines (Cond.code yX4_noteLines cX4_noteLines 4 none) := ⟨bw_m 816 (by decide +kernel) rfl, bw_m 28 (by decide +kernel) rfl, bw_m 103 (by decide +kernel) rfl, bw_m 817 (by decide +kernel) rfl⟩
theorem dX4_look_133 : decode cX4_look 133 = .ok (.aload_n 0, 1) := by decide +kernel
theorem dX4_look_134 : decode cX4_look 134 = .ok (.invokevirtual 84, 3) := by decide +kernel
theorem k_818 : Cond.methodLink RX4 84 yX4_noteWays ∈ bw_T := bw_m 818 (by decide +kernel) rfl
theorem kv_X4_noteWays : bw_KV RX4 yX4_noteWays (Cond.code yX4_noteWays cX4_noteWays 3 none) := ⟨bw_m 820 (by decide +kernel) rfl, bw_m 29 (by decide +kernel) rfl, bw_m 103 (by decide +kernel) rfl, bw_m 821 (by decide +kernel) rfl⟩
theorem dX4_look_137 : decode cX4_look 137 = .ok (.iinc 3 1, 3) := by decide +kernel
theorem dX4_look_140 : decode cX4_look 140 = .ok (.goto (-48), 3) := by decide +kernel
theorem dX4_look_8 : decode cX4_look 8 = .ok (.return_, 1) := by decide +kernel