theorem dX9_lineHere_0 : decode cX9_lineHere 0 = .ok (.aload_n 0, 1) := by decide +kernel
theorem dX9_lineHere_1 : decode cX9_lineHere 1 = .ok (.getfield 115, 3) := by decide +kernel
theorem dX9_lineHere_4 : decode cX9_lineHere 4 = .ok (.ifCond .eq 5, 3) := by decide +kernel
theorem dX9_lineHere_9 : decode cX9_lineHere 9 = .ok (.aload_n 0, 1) := by decide +kernel
theorem dX9_lineHere_10 : decode cX9_lineHere 10 = .ok (.invokevirtual 185, 3) := by decide +kernel
theorem k_1336 : Cond.methodLink RX9 185 yX9_mustName ∈ bw_T := bw_m 1336 (by decide +kernel) rfl
theorem kv_X9_mustName : bw_KV RX9 yX9_mustName (Cond.code yX9_mustName cX9_mustName 2 none) := ⟨bw_m 1338 (by decide +kernel) rfl, bw_m 52 (by decide +kernel) rfl, bw_m 107 (by decide +kernel) rfl, bw_m 1339 (by decide +kernel) rfl⟩
theorem dX9_lineHere_13 : decode cX9_lineHere 13 = .ok (.aload_n 0, 1) := by decide +kernel
theorem dX9_lineHere_14 : decode cX9_lineHere 14 = .ok (.getfield 115, 3) := by decide +kernel
theorem dX9_lineHere_17 : decode cX9_lineHere 17 = .ok (.ifCond .eq 5, 3) := by decide +kernel
theorem dX9_lineHere_22 : decode cX9_lineHere 22 = .ok (.aload_n 0, 1) := by decide +kernel
theorem dX9_lineHere_23 : decode cX9_lineHere 23 = .ok (.invokevirtual 188, 3) := by decide +kernel
theorem k_1358 : Cond.methodLink RX9 188 yX9_find ∈ bw_T := bw_m 1358 (by decide +kernel) rfl
theorem kv_X9_find : bw_KV RX9 yX9_find (Cond.code yX9_find cX9_find 4 (some .int)) := ⟨bw_m 1360 (by decide +kernel) rfl, bw_m 54 (by decide +kernel) rfl, bw_m 107 (by decide +kernel) rfl, bw_m 1361 (by decide +kernel) rfl⟩
theorem dX9_lineHere_26 : decode cX9_lineHere 26 = .ok (.istore_n 1, 1) := by decide +kernel
theorem dX9_lineHere_27 : decode cX9_lineHere 27 = .ok (.iload_n 1, 1) := by decide +kernel
theorem dX9_lineHere_28 : decode cX9_lineHere 28 = .ok (.ifCond .ge 12, 3) := by decide +kernel
theorem dX9_lineHere_40 : decode cX9_lineHere 40 = .ok (.iload_n 1, 1) := by decide +kernel
theorem dX9_lineHere_41 : decode cX9_lineHere 41 = .ok (.ifCond .ge 7, 3) := by decide +kernel
theorem dX9_lineHere_48 : decode cX9_lineHere 48 = .ok (.iload_n 1, 1) := by decide +kernel
theorem dX9_lineHere_49 : decode cX9_lineHere 49 = .ok (.ireturn, 1) := by decide +kernel
theorem dX9_lineHere_44 : decode cX9_lineHere 44 = .ok (.iconst 0, 1) := by decide +kernel
theorem dX9_lineHere_45 : decode cX9_lineHere 45 = .ok (.goto 4, 3) := by decide +kernel
theorem dX9_lineHere_31 : decode cX9_lineHere 31 = .ok (.aload_n 0, 1) := by decide +kernel
theorem dX9_lineHere_32 : decode cX9_lineHere 32 = .ok (.iconst 2, 1) := by decide +kernel
theorem dX9_lineHere_33 : decode cX9_lineHere 33 = .ok (.aload_n 0, 1) := by decide +kernel
theorem dX9_lineHere_34 : decode cX9_lineHere 34 = .ok (.getfield 96, 3) := by decide +kernel
theorem dX9_lineHere_37 : decode cX9_lineHere 37 = .ok (.invokevirtual 142, 3) := by decide +kernel
theorem dX9_lineHere_20 : decode cX9_lineHere 20 = .ok (.iconst 0, 1) := by decide +kernel
theorem dX9_lineHere_21 : decode cX9_lineHere 21 = .ok (.ireturn, 1) := by decide +kernel
theorem dX9_lineHere_7 : decode cX9_lineHere 7 = .ok (.iconst 0, 1) := by decide +kernel
theorem dX9_lineHere_8 : decode cX9_lineHere 8 = .ok (.ireturn, 1) := by decide +kernel
theorem dX9_lineName_0 : decode cX9_lineName 0 = .ok (.aload_n 0, 1) := by decide +kernel
theorem dX9_lineName_1 : decode cX9_lineName 1 = .ok (.invokevirtual 191, 3) := by decide +kernel
theorem k_1370 : Cond.methodLink RX9 191 yX9_lineHere ∈ bw_T := bw_m 1370 (by decide +kernel) rfl
theorem kv_X9_lineHere : bw_KV RX9 yX9_lineHere (Cond.code yX9_lineHere cX9_lineHere 2 (some .int)) := ⟨bw_m 1372 (by decide +kernel) rfl, bw_m 57 (by decide +kernel) rfl, bw_m 107 (by decide +kernel) rfl, bw_m 1373 (by decide +kernel) rfl⟩
theorem dX9_lineName_4 : decode cX9_lineName 4 = .ok (.istore_n 1, 1) := by decide +kernel
theorem dX9_lineName_5 : decode cX9_lineName 5 = .ok (.aload_n 0, 1) := by decide +kernel
theorem dX9_lineName_6 : decode cX9_lineName 6 = .ok (.getfield 115, 3) := by decide +kernel
theorem dX9_lineName_9 : decode cX9_lineName 9 = .ok (.ifCond .ne 7, 3) := by decide +kernel
theorem dX9_lineName_16 : decode cX9_lineName 16 = .ok (.iload_n 1, 1) := by decide +kernel
theorem dX9_lineName_17 : decode cX9_lineName 17 = .ok (.ireturn, 1) := by decide +kernel
theorem dX9_lineName_12 : decode cX9_lineName 12 = .ok (.aload_n 0, 1) := by decide +kernel
theorem dX9_lineName_13 : decode cX9_lineName 13 = .ok (.invokevirtual 136, 3) := by decide +kernel
theorem dX9_number_0 : decode cX9_number 0 = .ok (.aload_n 0, 1) := by decide +kernel
theorem dX9_number_1 : decode cX9_number 1 = .ok (.getfield 115, 3) := by decide +kernel
theorem dX9_number_4 : decode cX9_number 4 = .ok (.ifCond .eq 5, 3) := by decide +kernel
theorem dX9_number_9 : decode cX9_number 9 = .ok (.aload_n 0, 1) := by decide +kernel
theorem dX9_number_10 : decode cX9_number 10 = .ok (.getfield 105, 3) := by decide +kernel
theorem dX9_number_13 : decode cX9_number 13 = .ok (.iconst 3, 1) := by decide +kernel
theorem dX9_number_14 : decode cX9_number 14 = .ok (.if_icmp .eq 14, 3) := by decide +kernel
theorem dX9_number_28 : decode cX9_number 28 = .ok (.aload_n 0, 1) := by decide +kernel
theorem dX9_number_29 : decode cX9_number 29 = .ok (.getfield 102, 3) := by decide +kernel
theorem dX9_number_32 : decode cX9_number 32 = .ok (.istore_n 3, 1) := by decide +kernel
theorem dX9_number_33 : decode cX9_number 33 = .ok (.iload_n 3, 1) := by decide +kernel
theorem dX9_number_34 : decode cX9_number 34 = .ok (.iload_n 1, 1) := by decide +kernel
theorem dX9_number_35 : decode cX9_number 35 = .ok (.iload_n 2, 1) := by decide +kernel
theorem dX9_number_36 : decode cX9_number 36 = .ok (.invokestatic 146, 3) := by decide +kernel
theorem dX9_number_39 : decode cX9_number 39 = .ok (.ifCond .ne 14, 3) := by decide +kernel
theorem dX9_number_53 : decode cX9_number 53 = .ok (.aload_n 0, 1) := by decide +kernel
theorem dX9_number_54 : decode cX9_number 54 = .ok (.invokevirtual 136, 3) := by decide +kernel
theorem dX9_number_57 : decode cX9_number 57 = .ok (.iload_n 3, 1) := by decide +kernel
theorem dX9_number_58 : decode cX9_number 58 = .ok (.ireturn, 1) := by decide +kernel
theorem dX9_number_42 : decode cX9_number 42 = .ok (.aload_n 0, 1) := by decide +kernel
theorem dX9_number_43 : decode cX9_number 43 = .ok (.iconst 4, 1) := by decide +kernel
theorem dX9_number_44 : decode cX9_number 44 = .ok (.aload_n 0, 1) := by decide +kernel
theorem dX9_number_45 : decode cX9_number 45 = .ok (.getfield 96, 3) := by decide +kernel
theorem dX9_number_48 : decode cX9_number 48 = .ok (.invokevirtual 142, 3) := by decide +kernel
theorem dX9_number_51 : decode cX9_number 51 = .ok (.iload_n 1, 1) := by decide +kernel
theorem dX9_number_52 : decode cX9_number 52 = .ok (.ireturn, 1) := by decide +kernel
theorem dX9_number_17 : decode cX9_number 17 = .ok (.aload_n 0, 1) := by decide +kernel
theorem dX9_number_18 : decode cX9_number 18 = .ok (.iconst 1, 1) := by decide +kernel
theorem dX9_number_19 : decode cX9_number 19 = .ok (.aload_n 0, 1) := by decide +kernel
theorem dX9_number_20 : decode cX9_number 20 = .ok (.getfield 96, 3) := by decide +kernel
theorem dX9_number_23 : decode cX9_number 23 = .ok (.invokevirtual 142, 3) := by decide +kernel
theorem dX9_number_26 : decode cX9_number 26 = .ok (.iload_n 1, 1) := by decide +kernel
theorem dX9_number_27 : decode cX9_number 27 = .ok (.ireturn, 1) := by decide +kernel
theorem dX9_number_7 : decode cX9_number 7 = .ok (.iload_n 1, 1) := by decide +kernel
theorem dX9_number_8 : decode cX9_number 8 = .ok (.ireturn, 1) := by decide +kernel
theorem dX9_counterName_0 : decode cX9_counterName 0 = .ok (.aload_n 0, 1) := by decide +kernel
theorem dX9_counterName_1 : decode cX9_counterName 1 = .ok (.getfield 115, 3) := by decide +kernel
theorem dX9_counterName_4 : decode cX9_counterName 4 = .ok (.ifCond .eq 5, 3) := by decide +kernel
theorem dX9_counterName_9 : decode cX9_counterName 9 = .ok (.aload_n 0, 1) := by decide +kernel
theorem dX9_counterName_10 : decode cX9_counterName 10 = .ok (.invokevirtual 150, 3) := by decide +kernel
theorem dX9_counterName_13 : decode cX9_counterName 13 = .ok (.ifCond .ne 12, 3) := by decide +kernel
theorem dX9_counterName_25 : decode cX9_counterName 25 = .ok (.aload_n 0, 1) := by decide +kernel
theorem dX9_counterName_26 : decode cX9_counterName 26 = .ok (.getfield 17, 3) := by decide +kernel
theorem dX9_counterName_29 : decode cX9_counterName 29 = .ok (.iconst 0, 1) := by decide +kernel
theorem dX9_counterName_30 : decode cX9_counterName 30 = .ok (.iaload, 1) := by decide +kernel
theorem dX9_counterName_31 : decode cX9_counterName 31 = .ok (.bipush 97, 2) := by decide +kernel
theorem dX9_counterName_33 : decode cX9_counterName 33 = .ok (.isub, 1) := by decide +kernel
theorem dX9_counterName_34 : decode cX9_counterName 34 = .ok (.istore_n 1, 1) := by decide +kernel
theorem dX9_counterName_35 : decode cX9_counterName 35 = .ok (.aload_n 0, 1) := by decide +kernel
theorem dX9_counterName_36 : decode cX9_counterName 36 = .ok (.getfield 115, 3) := by decide +kernel
theorem dX9_counterName_39 : decode cX9_counterName 39 = .ok (.ifCond .ne 7, 3) := by decide +kernel
theorem dX9_counterName_42 : decode cX9_counterName 42 = .ok (.aload_n 0, 1) := by decide +kernel
theorem dX9_counterName_43 : decode cX9_counterName 43 = .ok (.invokevirtual 136, 3) := by decide +kernel
theorem dX9_counterName_46 : decode cX9_counterName 46 = .ok (.iload_n 1, 1) := by decide +kernel
theorem dX9_counterName_47 : decode cX9_counterName 47 = .ok (.ireturn, 1) := by decide +kernel
theorem dX9_counterName_16 : decode cX9_counterName 16 = .ok (.aload_n 0, 1) := by decide +kernel
theorem dX9_counterName_17 : decode cX9_counterName 17 = .ok (.iconst 1, 1) := by decide +kernel
theorem dX9_counterName_18 : decode cX9_counterName 18 = .ok (.aload_n 0, 1) := by decide +kernel
theorem dX9_counterName_19 : decode cX9_counterName 19 = .ok (.getfield 96, 3) := by decide +kernel
theorem dX9_counterName_22 : decode cX9_counterName 22 = .ok (.invokevirtual 142, 3) := by decide +kernel
theorem dX9_counterName_7 : decode cX9_counterName 7 = .ok (.iconst 0, 1) := by decide +kernel
theorem dX9_counterName_8 : decode cX9_counterName 8 = .ok (.ireturn, 1) := by decide +kernel
theorem dX9_comma_0 : decode cX9_comma 0 = .ok (.aload_n 0, 1) := by decide +kernel
theorem dX9_comma_1 : decode cX9_comma 1 = .ok (.getfield 115, 3) := by decide +kernel
theorem dX9_comma_4 : decode cX9_comma 4 = .ok (.ifCond .ne 12, 3) := by decide +kernel
theorem dX9_comma_16 : decode cX9_comma 16 = .ok (.iconst 0, 1) := by decide +kernel
theorem dX9_comma_17 : decode cX9_comma 17 = .ok (.ireturn, 1) := by decide +kernel
theorem dX9_comma_7 : decode cX9_comma 7 = .ok (.aload_n 0, 1) := by decide +kernel
theorem dX9_comma_8 : decode cX9_comma 8 = .ok (.getfield 105, 3) := by decide +kernel
theorem dX9_comma_11 : decode cX9_comma 11 = .ok (.bipush 44, 2) := by decide +kernel
theorem dX9_comma_13 : decode cX9_comma 13 = .ok (.if_icmp .eq 5, 3) := by decide +kernel
theorem dX9_comma_18 : decode cX9_comma 18 = .ok (.aload_n 0, 1) := by decide +kernel
theorem dX9_comma_19 : decode cX9_comma 19 = .ok (.invokevirtual 136, 3) := by decide +kernel
theorem dX9_comma_22 : decode cX9_comma 22 = .ok (.iconst 1, 1) := by decide +kernel
theorem dX9_comma_23 : decode cX9_comma 23 = .ok (.ireturn, 1) := by decide +kernel
theorem dX9_mustComma_0 : decode cX9_mustComma 0 = .ok (.aload_n 0, 1) := by decide +kernel
theorem dX9_mustComma_1 : decode cX9_mustComma 1 = .ok (.getfield 115, 3) := by decide +kernel
theorem dX9_mustComma_4 : decode cX9_mustComma 4 = .ok (.ifCond .ne 19, 3) := by decide +kernel
theorem dX9_mustComma_23 : decode cX9_mustComma 23 = .ok (.return_, 1) := by decide +kernel
theorem dX9_mustComma_7 : decode cX9_mustComma 7 = .ok (.aload_n 0, 1) := by decide +kernel
theorem dX9_mustComma_8 : decode cX9_mustComma 8 = .ok (.invokevirtual 194, 3) := by decide +kernel
theorem k_1362 : Cond.methodLink RX9 194 yX9_comma ∈ bw_T := bw_m 1362 (by decide +kernel) rfl
theorem kv_X9_comma : bw_KV RX9 yX9_comma (Cond.code yX9_comma cX9_comma 1 (some .boolean)) := ⟨bw_m 1364 (by decide +kernel) rfl, bw_m 55 (by decide +kernel) rfl, bw_m 107 (by decide +kernel) rfl, bw_m 1365 (by decide +kernel) rfl⟩
theorem dX9_mustComma_11 : decode cX9_mustComma 11 = .ok (.ifCond .ne 12, 3) := by decide +kernel
theorem dX9_mustComma_14 : decode cX9_mustComma 14 = .ok (.aload_n 0, 1) := by decide +kernel
theorem dX9_mustComma_15 : decode cX9_mustComma 15 = .ok (.iconst 1, 1) := by decide +kernel
theorem dX9_mustComma_16 : decode cX9_mustComma 16 = .ok (.aload_n 0, 1) := by decide +kernel
theorem dX9_mustComma_17 : decode cX9_mustComma 17 = .ok (.getfield 96, 3) := by decide +kernel
theorem dX9_mustComma_20 : decode cX9_mustComma 20 = .ok (.invokevirtual 142, 3) := by decide +kernel