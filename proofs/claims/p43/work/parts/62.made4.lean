theorem dX8_init_0 : decode cX8_init 0 = .ok (.aload_n 0, 1) := bo_42 (by decide +kernel)
theorem dX8_init_1 : decode cX8_init 1 = .ok (.invokespecial 3, 3) := bo_183 0 3 (by decide +kernel)
theorem k_121 : Cond.methodLink RX8 3 Lib.objectInit ∈ bw_T := bw_m 121 (by decide +kernel) rfl
theorem dX8_init_4 : decode cX8_init 4 = .ok (.aload_n 0, 1) := bo_42 (by decide +kernel)
theorem dX8_init_5 : decode cX8_init 5 = .ok (.iconst 0, 1) := bo_3 (by decide +kernel)
theorem dX8_init_6 : decode cX8_init 6 = .ok (.putfield 9, 3) := bo_181 0 9 (by decide +kernel)
theorem dX8_init_9 : decode cX8_init 9 = .ok (.aload_n 0, 1) := bo_42 (by decide +kernel)
theorem dX8_init_10 : decode cX8_init 10 = .ok (.iconst 0, 1) := bo_3 (by decide +kernel)
theorem dX8_init_11 : decode cX8_init 11 = .ok (.putfield 13, 3) := bo_181 0 13 (by decide +kernel)
theorem dX8_init_14 : decode cX8_init 14 = .ok (.aload_n 0, 1) := bo_42 (by decide +kernel)
theorem dX8_init_15 : decode cX8_init 15 = .ok (.new 17, 3) := bo_187 0 17 (by decide +kernel)
theorem k_124 : Cond.classLink RX8 17 RX3 ∈ bw_T := bw_m 124 (by decide +kernel) rfl
theorem k_125 : Cond.instantiable RX3 14 ∈ bw_T := bw_m 125 (by decide +kernel) rfl
theorem k_95 : Cond.initialized RX3 ∈ bw_T := bw_m 95 (by decide +kernel) rfl
theorem dX8_init_18 : decode cX8_init 18 = .ok (.dup, 1) := bo_89 (by decide +kernel)
theorem dX8_init_19 : decode cX8_init 19 = .ok (.invokespecial 19, 3) := bo_183 0 19 (by decide +kernel)
theorem k_126 : Cond.methodLink RX8 19 yX3_init ∈ bw_T := bw_m 126 (by decide +kernel) rfl
theorem ki_X3_init : bw_KI RX3 yX3_init (Cond.code yX3_init cX3_init 4 none) := ⟨bw_m 127 (by decide +kernel) rfl, bw_m 95 (by decide +kernel) rfl, bw_m 128 (by decide +kernel) rfl⟩
theorem dX8_init_22 : decode cX8_init 22 = .ok (.putfield 20, 3) := bo_181 0 20 (by decide +kernel)
theorem dX8_init_25 : decode cX8_init 25 = .ok (.aload_n 0, 1) := bo_42 (by decide +kernel)
theorem dX8_init_26 : decode cX8_init 26 = .ok (.new 24, 3) := bo_187 0 24 (by decide +kernel)
theorem k_310 : Cond.classLink RX8 24 RX2 ∈ bw_T := bw_m 310 (by decide +kernel) rfl
theorem dX8_init_29 : decode cX8_init 29 = .ok (.dup, 1) := bo_89 (by decide +kernel)
theorem dX8_init_30 : decode cX8_init 30 = .ok (.invokespecial 26, 3) := bo_183 0 26 (by decide +kernel)
theorem k_311 : Cond.methodLink RX8 26 yX2_init ∈ bw_T := bw_m 311 (by decide +kernel) rfl
theorem dX8_init_33 : decode cX8_init 33 = .ok (.putfield 27, 3) := bo_181 0 27 (by decide +kernel)
theorem dX8_init_36 : decode cX8_init 36 = .ok (.aload_n 0, 1) := bo_42 (by decide +kernel)
theorem dX8_init_37 : decode cX8_init 37 = .ok (.new 24, 3) := bo_187 0 24 (by decide +kernel)
theorem dX8_init_40 : decode cX8_init 40 = .ok (.dup, 1) := bo_89 (by decide +kernel)
theorem dX8_init_41 : decode cX8_init 41 = .ok (.invokespecial 26, 3) := bo_183 0 26 (by decide +kernel)
theorem dX8_init_44 : decode cX8_init 44 = .ok (.putfield 31, 3) := bo_181 0 31 (by decide +kernel)
theorem dX8_init_47 : decode cX8_init 47 = .ok (.aload_n 0, 1) := bo_42 (by decide +kernel)
theorem dX8_init_48 : decode cX8_init 48 = .ok (.new 24, 3) := bo_187 0 24 (by decide +kernel)
theorem dX8_init_51 : decode cX8_init 51 = .ok (.dup, 1) := bo_89 (by decide +kernel)
theorem dX8_init_52 : decode cX8_init 52 = .ok (.invokespecial 26, 3) := bo_183 0 26 (by decide +kernel)
theorem dX8_init_55 : decode cX8_init 55 = .ok (.putfield 34, 3) := bo_181 0 34 (by decide +kernel)
theorem dX8_init_58 : decode cX8_init 58 = .ok (.aload_n 0, 1) := bo_42 (by decide +kernel)
theorem dX8_init_59 : decode cX8_init 59 = .ok (.new 37, 3) := bo_187 0 37 (by decide +kernel)
theorem k_312 : Cond.classLink RX8 37 RX7 ∈ bw_T := bw_m 312 (by decide +kernel) rfl
theorem dX8_init_62 : decode cX8_init 62 = .ok (.dup, 1) := bo_89 (by decide +kernel)
theorem dX8_init_63 : decode cX8_init 63 = .ok (.invokespecial 39, 3) := bo_183 0 39 (by decide +kernel)
theorem dX8_init_66 : decode cX8_init 66 = .ok (.putfield 40, 3) := bo_181 0 40 (by decide +kernel)
theorem dX8_init_69 : decode cX8_init 69 = .ok (.aload_n 0, 1) := bo_42 (by decide +kernel)
theorem dX8_init_70 : decode cX8_init 70 = .ok (.new 44, 3) := bo_187 0 44 (by decide +kernel)
theorem k_314 : Cond.classLink RX8 44 RX6 ∈ bw_T := bw_m 314 (by decide +kernel) rfl
theorem dX8_init_73 : decode cX8_init 73 = .ok (.dup, 1) := bo_89 (by decide +kernel)
theorem dX8_init_74 : decode cX8_init 74 = .ok (.invokespecial 46, 3) := bo_183 0 46 (by decide +kernel)
theorem dX8_init_77 : decode cX8_init 77 = .ok (.putfield 47, 3) := bo_181 0 47 (by decide +kernel)
theorem dX8_init_80 : decode cX8_init 80 = .ok (.aload_n 0, 1) := bo_42 (by decide +kernel)
theorem dX8_init_81 : decode cX8_init 81 = .ok (.new 44, 3) := bo_187 0 44 (by decide +kernel)
theorem dX8_init_84 : decode cX8_init 84 = .ok (.dup, 1) := bo_89 (by decide +kernel)
theorem dX8_init_85 : decode cX8_init 85 = .ok (.invokespecial 46, 3) := bo_183 0 46 (by decide +kernel)
theorem dX8_init_88 : decode cX8_init 88 = .ok (.putfield 51, 3) := bo_181 0 51 (by decide +kernel)
theorem dX8_init_91 : decode cX8_init 91 = .ok (.aload_n 0, 1) := bo_42 (by decide +kernel)
theorem dX8_init_92 : decode cX8_init 92 = .ok (.new 44, 3) := bo_187 0 44 (by decide +kernel)
theorem dX8_init_95 : decode cX8_init 95 = .ok (.dup, 1) := bo_89 (by decide +kernel)
theorem dX8_init_96 : decode cX8_init 96 = .ok (.invokespecial 46, 3) := bo_183 0 46 (by decide +kernel)
theorem dX8_init_99 : decode cX8_init 99 = .ok (.putfield 54, 3) := bo_181 0 54 (by decide +kernel)
theorem dX8_init_102 : decode cX8_init 102 = .ok (.aload_n 0, 1) := bo_42 (by decide +kernel)
theorem dX8_init_103 : decode cX8_init 103 = .ok (.new 57, 3) := bo_187 0 57 (by decide +kernel)
theorem k_362 : Cond.classLink RX8 57 RX4 ∈ bw_T := bw_m 362 (by decide +kernel) rfl
theorem k_363 : Cond.instantiable RX4 13 ∈ bw_T := bw_m 363 (by decide +kernel) rfl
theorem k_103 : Cond.initialized RX4 ∈ bw_T := bw_m 103 (by decide +kernel) rfl
theorem dX8_init_106 : decode cX8_init 106 = .ok (.dup, 1) := bo_89 (by decide +kernel)
theorem dX8_init_107 : decode cX8_init 107 = .ok (.invokespecial 59, 3) := bo_183 0 59 (by decide +kernel)
theorem ki_X4_init : bw_KI RX4 yX4_init (Cond.code yX4_init cX4_init 1 none) := ⟨bw_m 365 (by decide +kernel) rfl, bw_m 103 (by decide +kernel) rfl, bw_m 366 (by decide +kernel) rfl⟩
theorem dX8_init_110 : decode cX8_init 110 = .ok (.putfield 60, 3) := bo_181 0 60 (by decide +kernel)
theorem dX8_init_113 : decode cX8_init 113 = .ok (.aload_n 0, 1) := bo_42 (by decide +kernel)
theorem dX8_init_114 : decode cX8_init 114 = .ok (.new 64, 3) := bo_187 0 64 (by decide +kernel)
theorem k_420 : Cond.classLink RX8 64 RX5 ∈ bw_T := bw_m 420 (by decide +kernel) rfl
theorem k_421 : Cond.instantiable RX5 4 ∈ bw_T := bw_m 421 (by decide +kernel) rfl
theorem k_104 : Cond.initialized RX5 ∈ bw_T := bw_m 104 (by decide +kernel) rfl
theorem dX8_init_117 : decode cX8_init 117 = .ok (.dup, 1) := bo_89 (by decide +kernel)
theorem dX8_init_118 : decode cX8_init 118 = .ok (.invokespecial 66, 3) := bo_183 0 66 (by decide +kernel)
theorem ki_X5_init : bw_KI RX5 yX5_init (Cond.code yX5_init cX5_init 1 none) := ⟨bw_m 423 (by decide +kernel) rfl, bw_m 104 (by decide +kernel) rfl, bw_m 424 (by decide +kernel) rfl⟩
theorem dX8_init_121 : decode cX8_init 121 = .ok (.putfield 67, 3) := bo_181 0 67 (by decide +kernel)
theorem dX8_init_124 : decode cX8_init 124 = .ok (.aload_n 0, 1) := bo_42 (by decide +kernel)
theorem dX8_init_125 : decode cX8_init 125 = .ok (.new 71, 3) := bo_187 0 71 (by decide +kernel)
theorem k_442 : Cond.classLink RX8 71 RX0 ∈ bw_T := bw_m 442 (by decide +kernel) rfl
theorem k_443 : Cond.instantiable RX0 7 ∈ bw_T := bw_m 443 (by decide +kernel) rfl
theorem k_105 : Cond.initialized RX0 ∈ bw_T := bw_m 105 (by decide +kernel) rfl
theorem dX8_init_128 : decode cX8_init 128 = .ok (.dup, 1) := bo_89 (by decide +kernel)
theorem dX8_init_129 : decode cX8_init 129 = .ok (.invokespecial 73, 3) := bo_183 0 73 (by decide +kernel)
theorem ki_X0_init : bw_KI RX0 yX0_init (Cond.code yX0_init cX0_init 1 none) := ⟨bw_m 445 (by decide +kernel) rfl, bw_m 105 (by decide +kernel) rfl, bw_m 446 (by decide +kernel) rfl⟩
theorem dX8_init_132 : decode cX8_init 132 = .ok (.putfield 74, 3) := bo_181 0 74 (by decide +kernel)
theorem dX8_init_135 : decode cX8_init 135 = .ok (.aload_n 0, 1) := bo_42 (by decide +kernel)
theorem dX8_init_136 : decode cX8_init 136 = .ok (.new 78, 3) := bo_187 0 78 (by decide +kernel)
theorem k_470 : Cond.classLink RX8 78 RX1 ∈ bw_T := bw_m 470 (by decide +kernel) rfl
theorem k_471 : Cond.instantiable RX1 3 ∈ bw_T := bw_m 471 (by decide +kernel) rfl
theorem k_106 : Cond.initialized RX1 ∈ bw_T := bw_m 106 (by decide +kernel) rfl
theorem dX8_init_139 : decode cX8_init 139 = .ok (.dup, 1) := bo_89 (by decide +kernel)
theorem dX8_init_140 : decode cX8_init 140 = .ok (.invokespecial 80, 3) := bo_183 0 80 (by decide +kernel)
theorem k_472 : Cond.methodLink RX8 80 yX1_init ∈ bw_T := bw_m 472 (by decide +kernel) rfl
theorem ki_X1_init : bw_KI RX1 yX1_init (Cond.code yX1_init cX1_init 2 none) := ⟨bw_m 473 (by decide +kernel) rfl, bw_m 106 (by decide +kernel) rfl, bw_m 474 (by decide +kernel) rfl⟩
theorem dX8_init_143 : decode cX8_init 143 = .ok (.putfield 81, 3) := bo_181 0 81 (by decide +kernel)
theorem dX8_init_146 : decode cX8_init 146 = .ok (.return_, 1) := bo_177 (by decide +kernel)