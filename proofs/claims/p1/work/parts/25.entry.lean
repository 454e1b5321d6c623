theorem dL_law_0 : decode cL_law 0 = .ok (.new 8, 3) := by decide +kernel
theorem k_116 : Cond.classLink RL 8 RX8 ∈ bw_T := bw_m 116 (by decide +kernel) rfl
theorem k_94 : Cond.initialized RX8 ∈ bw_T := bw_m 94 (by decide +kernel) rfl
theorem dL_law_3 : decode cL_law 3 = .ok (.dup, 1) := by decide +kernel
theorem dL_law_4 : decode cL_law 4 = .ok (.invokespecial 15, 3) := by decide +kernel
theorem k_118 : Cond.methodLink RL 15 yX8_init ∈ bw_T := bw_m 118 (by decide +kernel) rfl
theorem ki_X8_init : bw_KI RX8 yX8_init (Cond.code yX8_init cX8_init 1 none) := ⟨bw_m 119 (by decide +kernel) rfl, bw_m 94 (by decide +kernel) rfl, bw_m 120 (by decide +kernel) rfl⟩
theorem dL_law_7 : decode cL_law 7 = .ok (.astore_n 1, 1) := by decide +kernel
theorem dL_law_8 : decode cL_law 8 = .ok (.new 16, 3) := by decide +kernel
theorem k_1157 : Cond.classLink RL 16 RX9 ∈ bw_T := bw_m 1157 (by decide +kernel) rfl
theorem k_107 : Cond.initialized RX9 ∈ bw_T := bw_m 107 (by decide +kernel) rfl
theorem dL_law_11 : decode cL_law 11 = .ok (.dup, 1) := by decide +kernel
theorem dL_law_12 : decode cL_law 12 = .ok (.invokespecial 18, 3) := by decide +kernel
theorem k_1159 : Cond.methodLink RL 18 yX9_init ∈ bw_T := bw_m 1159 (by decide +kernel) rfl
theorem ki_X9_init : bw_KI RX9 yX9_init (Cond.code yX9_init cX9_init 1 none) := ⟨bw_m 1160 (by decide +kernel) rfl, bw_m 107 (by decide +kernel) rfl, bw_m 1161 (by decide +kernel) rfl⟩
theorem dL_law_15 : decode cL_law 15 = .ok (.astore_n 2, 1) := by decide +kernel
theorem dL_law_16 : decode cL_law 16 = .ok (.iconst 1, 1) := by decide +kernel
theorem dL_law_17 : decode cL_law 17 = .ok (.newarray .long, 2) := by decide +kernel
theorem dL_law_19 : decode cL_law 19 = .ok (.astore_n 3, 1) := by decide +kernel
theorem dL_law_20 : decode cL_law 20 = .ok (.iconst 0, 1) := by decide +kernel
theorem dL_law_21 : decode cL_law 21 = .ok (.istore 4, 2) := by decide +kernel
theorem dL_law_33 : decode cL_law 33 = .ok (.aload_n 0, 1) := by decide +kernel
theorem dL_law_34 : decode cL_law 34 = .ok (.iload 4, 2) := by decide +kernel
theorem dL_law_36 : decode cL_law 36 = .ok (.iaload, 1) := by decide +kernel
theorem dL_law_37 : decode cL_law 37 = .ok (.bipush 63, 2) := by decide +kernel
theorem dL_law_39 : decode cL_law 39 = .ok (.iand, 1) := by decide +kernel
theorem dL_law_40 : decode cL_law 40 = .ok (.tableswitch 1443 0 43 #[192, 265, 290, 303, 316, 377, 402, 415, 440, 465, 490, 503, 528, 589, 626, 639, 664, 689, 714, 739, 764, 789, 826, 839, 852, 865, 890, 903, 928, 941, 966, 1003, 1040, 1077, 1114, 1151, 1200, 1225, 1250, 1275, 1312, 1349, 1405, 1430], 192) := by decide +kernel
theorem lc_neg {L : Nat} (h : L < 6) : Int32.ofNat L - 6 < 0 := by
  have z : ∀ L, L < 6 → Int32.ofNat L - 6 < 0 := by decide
  exact z L h
set_option maxRecDepth 100000 in
set_option maxHeartbeats 4000000 in
/-- THE LAW, from its entry -/
theorem whole_start {p : Program} {e : Env} {s : State} {m : MethodId} {below : List Frame} {meth : Method} {c : Code} (l : Launch) (hst : l.stackTraces = false) {b L : Nat} {xs : Nat → Int32} (hL : L ≤ 6) (C0 : lw_At p s m meth c b L xs) : W p l e room_1 s m #[Value.ref b] below meth c s.heap [] 0 0 (lw_Z below #[Value.ref b] s) (entryFrame m ([Value.ref b] : List Value).toArray 7) := by
  have C1 := C0
  obtain ⟨hx, hb, hr, hml, hown, hts, hX, hbl, hlocks, hgv⟩ := C0
  have hA : ∀ q : Nat, s.heap.size ≤ q → (fun q : Nat => s.heap.size ≤ q) q := fun _ h => h
  have hbA : ¬ (fun q : Nat => s.heap.size ≤ q) b := Nat.not_le.mpr hbl
  have F : CallFix p m c cL_law 7 s #[Value.ref b] bw_T RL := ⟨hx, hb, hml, hown, fun w h => hts w (List.mem_filter.mp h).1⟩
  obtain ⟨sa, va, st, w1, w2, w3, fb, hE⟩ := bw_start hts hgv
  obtain ⟨G, cI, cB, cJ, cN, cW, hK⟩ := bw_known hts
  have hO := bw_EE_ok sa va 72 st w1 w2 w3 fb
  have hN := bw_EE_nests sa va 72 st w1 w2 w3 fb
  have hT := bw_EE_text sa va 72 st w1 w2 w3 fb (by decide)
  have hW := bw_EE_words sa va 72 st w1 w2 w3 fb
  have hTh := bw_EE_thr sa va 72 st w1 w2 w3 fb
  generalize bw_EE sa va 72 st w1 w2 w3 fb = E at hE hO hN hT hW hTh
  have hS : va_S (fun q : Nat => s.heap.size ≤ q) s.heap s.heap [] := va_S.rf
  have hP : va_P G vwCl [] s.heap := fun k q h => by simp at h
  have hD : va_D (fun q : Nat => s.heap.size ≤ q) [] := ⟨fun i j p q h => by simp at h, fun k q h => by simp at h⟩
  have hl := lv_entry ([.ref b]) (n := 7) (Nat.le_of_ble_eq_true rfl)
  rw [lg_entry_eq]
  generalize (lg_sl ([.ref b]) ++ List.replicate (7 - (lg_sl ([.ref b])).length) Slot.unset).toArray = ls at hl ⊢
  have hl : lv_has ls 7 [(0, .ref b)] := hl
  refine r_new (ci := 8) (fs := [.int 0, .int 0, .null, .null, .null, .null, .null, .null, .null, .null, .null, .null, .null, .null]) F hK hP hD hS hA rfl in_X8 tyX8 tyX8_ok k_116 k_117 k_94 (bw_dflt rfl) (Nat.le_of_ble_eq_true rfl) (Nat.le_of_ble_eq_true rfl) dL_law_0 (w1 := fun q1 => [(q1, .inr (8, [.int 0, .int 0, .null, .null, .null, .null, .null, .null, .null, .null, .null, .null, .null, .null]))]) (fun _ => rfl) (fun q1 H hP hD hS => ?_)
  refine lv_dup hx hb dL_law_3 rfl ?_
  refine r_callIv (As := []) (rest := [.ref q1]) (wr := []) F hK hP hD hS hA hO hE (c_X8_init hO hN hT q1) k_118 ki_X8_init rfl 0 rfl (by decide +kernel) ⟨Nat.le_of_ble_eq_true rfl, Nat.le_of_ble_eq_true rfl⟩ [0] [] rfl rfl (by decide) (by decide) (by decide) hl.1 rfl (Nat.le_of_ble_eq_true rfl) dL_law_4 ⟨Nat.le_of_ble_eq_true rfl, Nat.le_of_ble_eq_true rfl⟩ (w1 := fun u2 => [(q1, .inr (8, [.int 0, .int 0, .ref (u2.1 0), .ref (u2.1 1), .ref (u2.1 2), .ref (u2.1 3), .ref (u2.1 4), .ref (u2.1 5), .ref (u2.1 6), .ref (u2.1 7), .ref (u2.1 8), .ref (u2.1 9), .ref (u2.1 10), .ref (u2.1 11)])), ((u2.1 0), .inr (3, [.ref (u2.1 20), .int 0, .ref (u2.1 21), .ref (u2.1 22), .int 0, .int 0, .ref (u2.1 23), .ref (u2.1 24), .int 0, .int 24, .int 0, .int 0, .long 0, .int 0])), ((u2.1 20), .inl (cB, 900, .inl (fun _ => 0))), ((u2.1 21), .inr (2, [.int 0, .ref (u2.1 25), .ref (u2.1 26), .ref (u2.1 27), .ref (u2.1 28), .ref (u2.1 29), .ref (u2.1 30), .ref (u2.1 31), .ref (u2.1 32)])), ((u2.1 25), .inl (cI, 10, .inl (u2.2 0))), ((u2.1 26), .inl (cI, 10, .inl (u2.2 1))), ((u2.1 27), .inl (cI, 10, .inl (u2.2 2))), ((u2.1 31), .inl (cI, 20, .inl (u2.2 3))), ((u2.1 32), .inl (cI, 20, .inl (fun _ => 0))), ((u2.1 22), .inr (7, [.int 0, .ref (u2.1 33)])), ((u2.1 2), .inr (2, [.int 0, .ref (u2.1 40), .ref (u2.1 41), .ref (u2.1 42), .ref (u2.1 43), .ref (u2.1 44), .ref (u2.1 45), .ref (u2.1 46), .ref (u2.1 47)])), ((u2.1 47), .inl (cI, 20, .inl (fun _ => 0))), ((u2.1 4), .inr (7, [.int 0, .ref (u2.1 50)])), ((u2.1 11), .inr (1, [.int 0, .ref (u2.1 51), .ref (u2.1 52)]))]) (fun _ => rfl) (fun  u2 H locs hp hP hD hS => ?_)
  refine lv_astore_n (lv' := [(1, .ref q1), (0, .ref b)]) hx hb dL_law_7 rfl hl (by decide) rfl (fun ls hl => ?_)
  refine r_new (ci := 9) (fs := [.int 0, .null, .int 0, .int 0, .int 0, .int 0, .int 0, .int 0, .int 0, .int 0, .int 0, .int 0, .null, .int 0, .int 0, .null, .null, .null, .null, .null, .null, .null, .null, .null, .null, .null, .null, .null, .null, .null, .int 0, .int 0, .int 0, .int 0, .int 0, .int 0, .null, .null, .null, .null]) F hK hP hD hS hA rfl in_X9 tyX9 tyX9_ok k_1157 k_1158 k_107 (bw_dflt rfl) (Nat.le_of_ble_eq_true rfl) (Nat.le_of_ble_eq_true rfl) dL_law_8 (w1 := fun q3 => [(q1, .inr (8, [.int 0, .int 0, .ref (u2.1 0), .ref (u2.1 1), .ref (u2.1 2), .ref (u2.1 3), .ref (u2.1 4), .ref (u2.1 5), .ref (u2.1 6), .ref (u2.1 7), .ref (u2.1 8), .ref (u2.1 9), .ref (u2.1 10), .ref (u2.1 11)])), ((u2.1 0), .inr (3, [.ref (u2.1 20), .int 0, .ref (u2.1 21), .ref (u2.1 22), .int 0, .int 0, .ref (u2.1 23), .ref (u2.1 24), .int 0, .int 24, .int 0, .int 0, .long 0, .int 0])), ((u2.1 20), .inl (cB, 900, .inl (fun _ => 0))), ((u2.1 21), .inr (2, [.int 0, .ref (u2.1 25), .ref (u2.1 26), .ref (u2.1 27), .ref (u2.1 28), .ref (u2.1 29), .ref (u2.1 30), .ref (u2.1 31), .ref (u2.1 32)])), ((u2.1 25), .inl (cI, 10, .inl (u2.2 0))), ((u2.1 26), .inl (cI, 10, .inl (u2.2 1))), ((u2.1 27), .inl (cI, 10, .inl (u2.2 2))), ((u2.1 31), .inl (cI, 20, .inl (u2.2 3))), ((u2.1 32), .inl (cI, 20, .inl (fun _ => 0))), ((u2.1 22), .inr (7, [.int 0, .ref (u2.1 33)])), ((u2.1 2), .inr (2, [.int 0, .ref (u2.1 40), .ref (u2.1 41), .ref (u2.1 42), .ref (u2.1 43), .ref (u2.1 44), .ref (u2.1 45), .ref (u2.1 46), .ref (u2.1 47)])), ((u2.1 47), .inl (cI, 20, .inl (fun _ => 0))), ((u2.1 4), .inr (7, [.int 0, .ref (u2.1 50)])), ((u2.1 11), .inr (1, [.int 0, .ref (u2.1 51), .ref (u2.1 52)])), (q3, .inr (9, [.int 0, .null, .int 0, .int 0, .int 0, .int 0, .int 0, .int 0, .int 0, .int 0, .int 0, .int 0, .null, .int 0, .int 0, .null, .null, .null, .null, .null, .null, .null, .null, .null, .null, .null, .null, .null, .null, .null, .int 0, .int 0, .int 0, .int 0, .int 0, .int 0, .null, .null, .null, .null]))]) (fun _ => rfl) (fun q3 H hP hD hS => ?_)
  refine lv_dup hx hb dL_law_11 rfl ?_
  refine r_callIv (As := []) (rest := [.ref q3]) (wr := [(q1, .inr (8, [.int 0, .int 0, .ref (u2.1 0), .ref (u2.1 1), .ref (u2.1 2), .ref (u2.1 3), .ref (u2.1 4), .ref (u2.1 5), .ref (u2.1 6), .ref (u2.1 7), .ref (u2.1 8), .ref (u2.1 9), .ref (u2.1 10), .ref (u2.1 11)])), ((u2.1 0), .inr (3, [.ref (u2.1 20), .int 0, .ref (u2.1 21), .ref (u2.1 22), .int 0, .int 0, .ref (u2.1 23), .ref (u2.1 24), .int 0, .int 24, .int 0, .int 0, .long 0, .int 0])), ((u2.1 20), .inl (cB, 900, .inl (fun _ => 0))), ((u2.1 21), .inr (2, [.int 0, .ref (u2.1 25), .ref (u2.1 26), .ref (u2.1 27), .ref (u2.1 28), .ref (u2.1 29), .ref (u2.1 30), .ref (u2.1 31), .ref (u2.1 32)])), ((u2.1 25), .inl (cI, 10, .inl (u2.2 0))), ((u2.1 26), .inl (cI, 10, .inl (u2.2 1))), ((u2.1 27), .inl (cI, 10, .inl (u2.2 2))), ((u2.1 31), .inl (cI, 20, .inl (u2.2 3))), ((u2.1 32), .inl (cI, 20, .inl (fun _ => 0))), ((u2.1 22), .inr (7, [.int 0, .ref (u2.1 33)])), ((u2.1 2), .inr (2, [.int 0, .ref (u2.1 40), .ref (u2.1 41), .ref (u2.1 42), .ref (u2.1 43), .ref (u2.1 44), .ref (u2.1 45), .ref (u2.1 46), .ref (u2.1 47)])), ((u2.1 47), .inl (cI, 20, .inl (fun _ => 0))), ((u2.1 4), .inr (7, [.int 0, .ref (u2.1 50)])), ((u2.1 11), .inr (1, [.int 0, .ref (u2.1 51), .ref (u2.1 52)]))]) F hK hP hD hS hA hO hE (c_X9_init hO q3) k_1159 ki_X9_init rfl 0 rfl (by decide +kernel) ⟨Nat.le_of_ble_eq_true rfl, Nat.le_of_ble_eq_true rfl⟩ [14] [0, 1, 2, 3, 4, 5, 6, 7, 8, 9, 10, 11, 12, 13] rfl rfl (by decide) (by decide) (by decide) hl.1 rfl (Nat.le_of_ble_eq_true rfl) dL_law_12 ⟨Nat.le_of_ble_eq_true rfl, Nat.le_of_ble_eq_true rfl⟩ (w1 := fun u4 => [(q1, .inr (8, [.int 0, .int 0, .ref (u2.1 0), .ref (u2.1 1), .ref (u2.1 2), .ref (u2.1 3), .ref (u2.1 4), .ref (u2.1 5), .ref (u2.1 6), .ref (u2.1 7), .ref (u2.1 8), .ref (u2.1 9), .ref (u2.1 10), .ref (u2.1 11)])), ((u2.1 0), .inr (3, [.ref (u2.1 20), .int 0, .ref (u2.1 21), .ref (u2.1 22), .int 0, .int 0, .ref (u2.1 23), .ref (u2.1 24), .int 0, .int 24, .int 0, .int 0, .long 0, .int 0])), ((u2.1 20), .inl (cB, 900, .inl (fun _ => 0))), ((u2.1 21), .inr (2, [.int 0, .ref (u2.1 25), .ref (u2.1 26), .ref (u2.1 27), .ref (u2.1 28), .ref (u2.1 29), .ref (u2.1 30), .ref (u2.1 31), .ref (u2.1 32)])), ((u2.1 25), .inl (cI, 10, .inl (u2.2 0))), ((u2.1 26), .inl (cI, 10, .inl (u2.2 1))), ((u2.1 27), .inl (cI, 10, .inl (u2.2 2))), ((u2.1 31), .inl (cI, 20, .inl (u2.2 3))), ((u2.1 32), .inl (cI, 20, .inl (fun _ => 0))), ((u2.1 22), .inr (7, [.int 0, .ref (u2.1 33)])), ((u2.1 2), .inr (2, [.int 0, .ref (u2.1 40), .ref (u2.1 41), .ref (u2.1 42), .ref (u2.1 43), .ref (u2.1 44), .ref (u2.1 45), .ref (u2.1 46), .ref (u2.1 47)])), ((u2.1 47), .inl (cI, 20, .inl (fun _ => 0))), ((u2.1 4), .inr (7, [.int 0, .ref (u2.1 50)])), ((u2.1 11), .inr (1, [.int 0, .ref (u2.1 51), .ref (u2.1 52)])), (q3, .inr (9, [.int 0, .ref (u4.1 0), .int 0, .int 0, .int 0, .int 0, .int 0, .int 0, .int 0, .int 0, .int (-1), .int 0, .ref (u4.1 1), .int 0, .int 0, .ref (u4.1 2), .ref (u4.1 3), .ref (u4.1 4), .ref (u4.1 5), .ref (u4.1 6), .ref (u4.1 7), .ref (u4.1 8), .ref (u4.1 9), .ref (u4.1 10), .ref (u4.1 11), .ref (u4.1 12), .ref (u4.1 13), .ref (u4.1 14), .ref (u4.1 15), .ref (u4.1 16), .int 0, .int 0, .int 0, .int 0, .int 0, .int 0, .ref (u4.1 17), .ref (u4.1 18), .ref (u4.1 19), .ref (u4.1 20)])), ((u4.1 0), .inl (cI, 900, .inl (fun _ => 0))), ((u4.1 2), .inl (cI, 200, .inl (fun _ => 0)))]) (fun _ => rfl) (fun  u4 H locs hp hP hD hS => ?_)
  refine lv_astore_n (lv' := [(2, .ref q3), (1, .ref q1), (0, .ref b)]) hx hb dL_law_15 rfl hl (by decide) rfl (fun ls hl => ?_)
  refine lv_iconst (v := 1) hx hb dL_law_16 (by decide) ?_
  refine r_newa (atype := .long) (ty := .long) F rfl k_309 hK hP hD hS hA 2 rfl 1 (1, .inr (.inl (fun _ => 0))) (bw_cJ 1) (by decide) (by decide) (bw_by (k := 8) rfl (by omega)) (Nat.le_of_ble_eq_true rfl) (Nat.le_of_ble_eq_true rfl) dL_law_17 (w1 := fun q5 => [(q1, .inr (8, [.int 0, .int 0, .ref (u2.1 0), .ref (u2.1 1), .ref (u2.1 2), .ref (u2.1 3), .ref (u2.1 4), .ref (u2.1 5), .ref (u2.1 6), .ref (u2.1 7), .ref (u2.1 8), .ref (u2.1 9), .ref (u2.1 10), .ref (u2.1 11)])), ((u2.1 0), .inr (3, [.ref (u2.1 20), .int 0, .ref (u2.1 21), .ref (u2.1 22), .int 0, .int 0, .ref (u2.1 23), .ref (u2.1 24), .int 0, .int 24, .int 0, .int 0, .long 0, .int 0])), ((u2.1 20), .inl (cB, 900, .inl (fun _ => 0))), ((u2.1 21), .inr (2, [.int 0, .ref (u2.1 25), .ref (u2.1 26), .ref (u2.1 27), .ref (u2.1 28), .ref (u2.1 29), .ref (u2.1 30), .ref (u2.1 31), .ref (u2.1 32)])), ((u2.1 25), .inl (cI, 10, .inl (u2.2 0))), ((u2.1 26), .inl (cI, 10, .inl (u2.2 1))), ((u2.1 27), .inl (cI, 10, .inl (u2.2 2))), ((u2.1 31), .inl (cI, 20, .inl (u2.2 3))), ((u2.1 32), .inl (cI, 20, .inl (fun _ => 0))), ((u2.1 22), .inr (7, [.int 0, .ref (u2.1 33)])), ((u2.1 2), .inr (2, [.int 0, .ref (u2.1 40), .ref (u2.1 41), .ref (u2.1 42), .ref (u2.1 43), .ref (u2.1 44), .ref (u2.1 45), .ref (u2.1 46), .ref (u2.1 47)])), ((u2.1 47), .inl (cI, 20, .inl (fun _ => 0))), ((u2.1 4), .inr (7, [.int 0, .ref (u2.1 50)])), ((u2.1 11), .inr (1, [.int 0, .ref (u2.1 51), .ref (u2.1 52)])), (q3, .inr (9, [.int 0, .ref (u4.1 0), .int 0, .int 0, .int 0, .int 0, .int 0, .int 0, .int 0, .int 0, .int (-1), .int 0, .ref (u4.1 1), .int 0, .int 0, .ref (u4.1 2), .ref (u4.1 3), .ref (u4.1 4), .ref (u4.1 5), .ref (u4.1 6), .ref (u4.1 7), .ref (u4.1 8), .ref (u4.1 9), .ref (u4.1 10), .ref (u4.1 11), .ref (u4.1 12), .ref (u4.1 13), .ref (u4.1 14), .ref (u4.1 15), .ref (u4.1 16), .int 0, .int 0, .int 0, .int 0, .int 0, .int 0, .ref (u4.1 17), .ref (u4.1 18), .ref (u4.1 19), .ref (u4.1 20)])), ((u4.1 0), .inl (cI, 900, .inl (fun _ => 0))), ((u4.1 2), .inl (cI, 200, .inl (fun _ => 0))), (q5, .inl (cJ, 1, .inr (.inl (fun _ => 0))))]) (fun _ => rfl) (fun q5 H hP hD hS => ?_)
  refine lv_astore_n (lv' := [(3, .ref q5), (2, .ref q3), (1, .ref q1), (0, .ref b)]) hx hb dL_law_19 rfl hl (by decide) rfl (fun ls hl => ?_)
  refine lv_iconst (v := 0) hx hb dL_law_20 (by decide) ?_
  refine lv_istore (lv' := [(4, .int 0), (3, .ref q5), (2, .ref q3), (1, .ref q1), (0, .ref b)]) hx hb dL_law_21 hl (by decide) rfl (fun ls hl => ?_)
  refine W.widen (k := 163) (n := 8733) (Nat.le_of_ble_eq_true rfl) (Nat.le_of_ble_eq_true rfl) ?_
  have hl := lv_sub (l' := [(4, .int 0), (3, .ref q5), (2, .ref q3), (1, .ref q1), (0, .ref b)]) hl [0, 1, 2, 3, 4] rfl
  rcases Nat.lt_or_ge L 6 with h6 | h6
  · refine lv_iload hx hb dL_law_23 (lv_at hl 0 rfl) ?_
    refine lv_aload_n hx hb dL_law_25 rfl (lv_at hl 4 rfl) ?_
    refine va_slen hx hb hX hbl hbA hS dL_law_26 ?_
    refine lv_bipush (v := 6) hx hb dL_law_27 (by decide) ?_
    refine r_isub (v := Int32.ofNat L - 6) F dL_law_29 rfl ?_
    refine lv_icmp_gt (tgt := 1489) hx hb dL_law_30 (by decide) (fun _ => ?_) (fun h9 => absurd (lc_neg h6) h9)
    exact lc_exit C1 hS (Nat.le_of_ble_eq_true rfl) (Nat.le_of_ble_eq_true rfl)
  · obtain rfl : L = 6 := by omega
    refine lv_iload hx hb dL_law_23 (lv_at hl 0 rfl) ?_
    refine lv_aload_n hx hb dL_law_25 rfl (lv_at hl 4 rfl) ?_
    refine va_slen hx hb hX hbl hbA hS dL_law_26 ?_
    refine lv_bipush (v := 6) hx hb dL_law_27 (by decide) ?_
    refine r_isub (v := 0) F dL_law_29 (by decide) ?_
    refine lv_icmp_gt (tgt := 1489) hx hb dL_law_30 (by decide) (fun h9 => absurd h9 (by decide)) (fun _ => ?_)
    refine lv_aload_n hx hb dL_law_33 rfl (lv_at hl 4 rfl) ?_
    refine lv_iload hx hb dL_law_34 (lv_at hl 0 rfl) ?_
    refine va_sld hx hb hX hbl hbA hS (bw_vin (by decide)) dL_law_36 ?_
    refine lv_bipush (v := 63) hx hb dL_law_37 (by decide) ?_
    obtain ⟨j, hj, ej⟩ := pk_andE (xs (Int32.toNatClampNeg 0)) (m := 63) 6 (by decide)
    refine r_iand (v := nI j) F dL_law_39 ej ?_
    clear ej
    by_cases h44 : 44 ≤ j
    · refine lv_tableOut (tgt := 1483) hx hb dL_law_40 (Or.inr (by rw [nI_toInt (by omega)]; omega)) (by decide) ?_
      exact lc_end C1 hS (Nat.le_of_ble_eq_true rfl) (Nat.le_of_ble_eq_true rfl) (lv_sub hl [0, 4] rfl)
    · have h43 : j < 44 := by omega
      clear hj h44
      match j, h43 with
      | 0, _ =>
        refine lv_tableIn (off := 192) (tgt := 232) hx hb dL_law_40 (by decide) (by decide) (by decide) (by decide) ?_
        exact lc_0 C1 hO hK hE q1 q3 q5 u2.1 u4.1 u2.2 hP hD hS hl
      | 1, _ =>
        refine lv_tableIn (off := 265) (tgt := 305) hx hb dL_law_40 (by decide) (by decide) (by decide) (by decide) ?_
        exact lc_1 C1 hO hW hK hE q1 q3 q5 u2.1 u4.1 u2.2 hP hD hS hl
      | 2, _ =>
        refine lv_tableIn (off := 290) (tgt := 330) hx hb dL_law_40 (by decide) (by decide) (by decide) (by decide) ?_
        exact lc_2 C1 hO hK hE q1 q3 q5 u2.1 u4.1 u2.2 hP hD hS hl
      | 3, _ =>
        refine lv_tableIn (off := 303) (tgt := 343) hx hb dL_law_40 (by decide) (by decide) (by decide) (by decide) ?_
        exact lc_3 C1 hO hK hE q1 q3 q5 u2.1 u4.1 u2.2 hP hD hS hl
      | 4, _ =>
        refine lv_tableIn (off := 316) (tgt := 356) hx hb dL_law_40 (by decide) (by decide) (by decide) (by decide) ?_
        exact lc_4 C1 hO hK hE q1 q3 q5 u2.1 u4.1 u2.2 hP hD hS hl
      | 5, _ =>
        refine lv_tableIn (off := 377) (tgt := 417) hx hb dL_law_40 (by decide) (by decide) (by decide) (by decide) ?_
        exact lc_5 C1 hO hK hE q1 q3 q5 u2.1 u4.1 u2.2 hP hD hS hl
      | 6, _ =>
        refine lv_tableIn (off := 402) (tgt := 442) hx hb dL_law_40 (by decide) (by decide) (by decide) (by decide) ?_
        exact lc_6 C1 hO hK hE q1 q3 q5 u2.1 u4.1 u2.2 hP hD hS hl
      | 7, _ =>
        refine lv_tableIn (off := 415) (tgt := 455) hx hb dL_law_40 (by decide) (by decide) (by decide) (by decide) ?_
        exact lc_7 C1 hO hK hE q1 q3 q5 u2.1 u4.1 u2.2 hP hD hS hl
      | 8, _ =>
        refine lv_tableIn (off := 440) (tgt := 480) hx hb dL_law_40 (by decide) (by decide) (by decide) (by decide) ?_
        exact lc_8 C1 hO hK hE q1 q3 q5 u2.1 u4.1 u2.2 hP hD hS hl
      | 9, _ =>
        refine lv_tableIn (off := 465) (tgt := 505) hx hb dL_law_40 (by decide) (by decide) (by decide) (by decide) ?_
        exact lc_9 C1 hO hK hE q1 q3 q5 u2.1 u4.1 u2.2 hP hD hS hl
      | 10, _ =>
        refine lv_tableIn (off := 490) (tgt := 530) hx hb dL_law_40 (by decide) (by decide) (by decide) (by decide) ?_
        exact lc_10 C1 hO hK hE q1 q3 q5 u2.1 u4.1 u2.2 hP hD hS hl
      | 11, _ =>
        refine lv_tableIn (off := 503) (tgt := 543) hx hb dL_law_40 (by decide) (by decide) (by decide) (by decide) ?_
        exact lc_11 C1 hO hK hE q1 q3 q5 u2.1 u4.1 u2.2 hP hD hS hl
      | 12, _ =>
        refine lv_tableIn (off := 528) (tgt := 568) hx hb dL_law_40 (by decide) (by decide) (by decide) (by decide) ?_
        exact lc_12 C1 hO hK hE q1 q3 q5 u2.1 u4.1 u2.2 hP hD hS hl
      | 13, _ =>
        refine lv_tableIn (off := 589) (tgt := 629) hx hb dL_law_40 (by decide) (by decide) (by decide) (by decide) ?_
        exact lc_13 C1 hO hK hE q1 q3 q5 u2.1 u4.1 u2.2 hP hD hS hl
      | 14, _ =>
        refine lv_tableIn (off := 626) (tgt := 666) hx hb dL_law_40 (by decide) (by decide) (by decide) (by decide) ?_
        exact lc_14 C1 hO hK hE q1 q3 q5 u2.1 u4.1 u2.2 hP hD hS hl
      | 15, _ =>
        refine lv_tableIn (off := 639) (tgt := 679) hx hb dL_law_40 (by decide) (by decide) (by decide) (by decide) ?_
        exact lc_15 C1 hO hK hE q1 q3 q5 u2.1 u4.1 u2.2 hP hD hS hl
      | 16, _ =>
        refine lv_tableIn (off := 664) (tgt := 704) hx hb dL_law_40 (by decide) (by decide) (by decide) (by decide) ?_
        exact lc_16 C1 hO hK hE q1 q3 q5 u2.1 u4.1 u2.2 hP hD hS hl
      | 17, _ =>
        refine lv_tableIn (off := 689) (tgt := 729) hx hb dL_law_40 (by decide) (by decide) (by decide) (by decide) ?_
        exact lc_17 C1 hO hK hE q1 q3 q5 u2.1 u4.1 u2.2 hP hD hS hl
      | 18, _ =>
        refine lv_tableIn (off := 714) (tgt := 754) hx hb dL_law_40 (by decide) (by decide) (by decide) (by decide) ?_
        exact lc_18 C1 hO hK hE q1 q3 q5 u2.1 u4.1 u2.2 hP hD hS hl
      | 19, _ =>
        refine lv_tableIn (off := 739) (tgt := 779) hx hb dL_law_40 (by decide) (by decide) (by decide) (by decide) ?_
        exact lc_19 C1 hO hK hE q1 q3 q5 u2.1 u4.1 u2.2 hP hD hS hl
      | 20, _ =>
        refine lv_tableIn (off := 764) (tgt := 804) hx hb dL_law_40 (by decide) (by decide) (by decide) (by decide) ?_
        exact lc_20 C1 hO hK hE q1 q3 q5 u2.1 u4.1 u2.2 hP hD hS hl
      | 21, _ =>
        refine lv_tableIn (off := 789) (tgt := 829) hx hb dL_law_40 (by decide) (by decide) (by decide) (by decide) ?_
        exact lc_21 C1 hO hK hE q1 q3 q5 u2.1 u4.1 u2.2 hP hD hS hl
      | 22, _ =>
        refine lv_tableIn (off := 826) (tgt := 866) hx hb dL_law_40 (by decide) (by decide) (by decide) (by decide) ?_
        exact lc_22 C1 hO hK hE q1 q3 q5 u2.1 u4.1 u2.2 hP hD hS hl
      | 23, _ =>
        refine lv_tableIn (off := 839) (tgt := 879) hx hb dL_law_40 (by decide) (by decide) (by decide) (by decide) ?_
        exact lc_23 C1 hO hK hE q1 q3 q5 u2.1 u4.1 u2.2 hP hD hS hl
      | 24, _ =>
        refine lv_tableIn (off := 852) (tgt := 892) hx hb dL_law_40 (by decide) (by decide) (by decide) (by decide) ?_
        exact lc_24 C1 hO hK hE q1 q3 q5 u2.1 u4.1 u2.2 hP hD hS hl
      | 25, _ =>
        refine lv_tableIn (off := 865) (tgt := 905) hx hb dL_law_40 (by decide) (by decide) (by decide) (by decide) ?_
        exact lc_25 C1 hO hK hE q1 q3 q5 u2.1 u4.1 u2.2 hP hD hS hl
      | 26, _ =>
        refine lv_tableIn (off := 890) (tgt := 930) hx hb dL_law_40 (by decide) (by decide) (by decide) (by decide) ?_
        exact lc_26 C1 hO hK hE q1 q3 q5 u2.1 u4.1 u2.2 hP hD hS hl
      | 27, _ =>
        refine lv_tableIn (off := 903) (tgt := 943) hx hb dL_law_40 (by decide) (by decide) (by decide) (by decide) ?_
        exact lc_27 C1 hO hK hE q1 q3 q5 u2.1 u4.1 u2.2 hP hD hS hl
      | 28, _ =>
        refine lv_tableIn (off := 928) (tgt := 968) hx hb dL_law_40 (by decide) (by decide) (by decide) (by decide) ?_
        exact lc_28 C1 hO hK hE q1 q3 q5 u2.1 u4.1 u2.2 hP hD hS hl
      | 29, _ =>
        refine lv_tableIn (off := 941) (tgt := 981) hx hb dL_law_40 (by decide) (by decide) (by decide) (by decide) ?_
        exact lc_29 C1 hO hK hE q1 q3 q5 u2.1 u4.1 u2.2 hP hD hS hl
      | 30, _ =>
        refine lv_tableIn (off := 966) (tgt := 1006) hx hb dL_law_40 (by decide) (by decide) (by decide) (by decide) ?_
        exact lc_30 C1 hO hK hE q1 q3 q5 u2.1 u4.1 u2.2 hP hD hS hl
      | 31, _ =>
        refine lv_tableIn (off := 1003) (tgt := 1043) hx hb dL_law_40 (by decide) (by decide) (by decide) (by decide) ?_
        exact lc_31 C1 hO hK hE q1 q3 q5 u2.1 u4.1 u2.2 hP hD hS hl
      | 32, _ =>
        refine lv_tableIn (off := 1040) (tgt := 1080) hx hb dL_law_40 (by decide) (by decide) (by decide) (by decide) ?_
        exact lc_32 C1 hO hK hE q1 q3 q5 u2.1 u4.1 u2.2 hP hD hS hl
      | 33, _ =>
        refine lv_tableIn (off := 1077) (tgt := 1117) hx hb dL_law_40 (by decide) (by decide) (by decide) (by decide) ?_
        exact lc_33 C1 hO hK hE q1 q3 q5 u2.1 u4.1 u2.2 hP hD hS hl
      | 34, _ =>
        refine lv_tableIn (off := 1114) (tgt := 1154) hx hb dL_law_40 (by decide) (by decide) (by decide) (by decide) ?_
        exact lc_34 C1 hO hK hE q1 q3 q5 u2.1 u4.1 u2.2 hP hD hS hl
      | 35, _ =>
        refine lv_tableIn (off := 1151) (tgt := 1191) hx hb dL_law_40 (by decide) (by decide) (by decide) (by decide) ?_
        exact lc_35 C1 hO hK hE q1 q3 q5 u2.1 u4.1 u2.2 hP hD hS hl
      | 36, _ =>
        refine lv_tableIn (off := 1200) (tgt := 1240) hx hb dL_law_40 (by decide) (by decide) (by decide) (by decide) ?_
        exact lc_36 C1 hO hK hE q1 q3 q5 u2.1 u4.1 u2.2 hP hD hS hl
      | 37, _ =>
        refine lv_tableIn (off := 1225) (tgt := 1265) hx hb dL_law_40 (by decide) (by decide) (by decide) (by decide) ?_
        exact lc_37 C1 hO hK hE q1 q3 q5 u2.1 u4.1 u2.2 hP hD hS hl
      | 38, _ =>
        refine lv_tableIn (off := 1250) (tgt := 1290) hx hb dL_law_40 (by decide) (by decide) (by decide) (by decide) ?_
        exact lc_38 C1 hO hK hE q1 q3 q5 u2.1 u4.1 u2.2 hP hD hS hl
      | 39, _ =>
        refine lv_tableIn (off := 1275) (tgt := 1315) hx hb dL_law_40 (by decide) (by decide) (by decide) (by decide) ?_
        exact lc_39 C1 hO hK hE q1 q3 q5 u2.1 u4.1 u2.2 hP hD hS hl
      | 40, _ =>
        refine lv_tableIn (off := 1312) (tgt := 1352) hx hb dL_law_40 (by decide) (by decide) (by decide) (by decide) ?_
        exact lc_40 C1 hO hK hE q1 q3 q5 u2.1 u4.1 u2.2 hP hD hS hl
      | 41, _ =>
        refine lv_tableIn (off := 1349) (tgt := 1389) hx hb dL_law_40 (by decide) (by decide) (by decide) (by decide) ?_
        exact lc_41 C1 hO hst hTh hK hE q1 q3 q5 u2.1 u4.1 u2.2 hP hD hS hl
      | 42, _ =>
        refine lv_tableIn (off := 1405) (tgt := 1445) hx hb dL_law_40 (by decide) (by decide) (by decide) (by decide) ?_
        exact lc_42 C1 hO hK hE q1 q3 q5 u2.1 u4.1 u2.2 hP hD hS hl
      | 43, _ =>
        refine lv_tableIn (off := 1430) (tgt := 1470) hx hb dL_law_40 (by decide) (by decide) (by decide) (by decide) ?_
        exact lc_43 C1 hO hK hE q1 q3 q5 u2.1 u4.1 u2.2 hP hD hS hl
      | n + 44, h => exact absurd h (by omega)
