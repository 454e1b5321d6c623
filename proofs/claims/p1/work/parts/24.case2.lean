theorem dL_law_1006 : decode cL_law 1006 = .ok (.aload_n 1, 1) := by decide +kernel
theorem dL_law_1007 : decode cL_law 1007 = .ok (.aload_n 0, 1) := by decide +kernel
theorem dL_law_1008 : decode cL_law 1008 = .ok (.iload 4, 2) := by decide +kernel
theorem dL_law_1010 : decode cL_law 1010 = .ok (.iconst 1, 1) := by decide +kernel
theorem dL_law_1011 : decode cL_law 1011 = .ok (.iadd, 1) := by decide +kernel
theorem dL_law_1012 : decode cL_law 1012 = .ok (.iaload, 1) := by decide +kernel
theorem dL_law_1013 : decode cL_law 1013 = .ok (.aload_n 0, 1) := by decide +kernel
theorem dL_law_1014 : decode cL_law 1014 = .ok (.iload 4, 2) := by decide +kernel
theorem dL_law_1016 : decode cL_law 1016 = .ok (.iconst 2, 1) := by decide +kernel
theorem dL_law_1017 : decode cL_law 1017 = .ok (.iadd, 1) := by decide +kernel
theorem dL_law_1018 : decode cL_law 1018 = .ok (.iaload, 1) := by decide +kernel
theorem dL_law_1019 : decode cL_law 1019 = .ok (.invokevirtual 145, 3) := by decide +kernel
theorem k_929 : Cond.methodLink RL 145 yX8_first ∈ bw_T := bw_m 929 (by decide +kernel) rfl
theorem kv_X8_first : bw_KV RX8 yX8_first (Cond.code yX8_first cX8_first 3 (some .int)) := ⟨bw_m 930 (by decide +kernel) rfl, bw_m 931 (by decide +kernel) rfl, bw_m 94 (by decide +kernel) rfl, bw_m 932 (by decide +kernel) rfl⟩
theorem dL_law_1022 : decode cL_law 1022 = .ok (.aload_n 2, 1) := by decide +kernel
theorem dL_law_1023 : decode cL_law 1023 = .ok (.aload_n 0, 1) := by decide +kernel
theorem dL_law_1024 : decode cL_law 1024 = .ok (.iload 4, 2) := by decide +kernel
theorem dL_law_1026 : decode cL_law 1026 = .ok (.iconst 1, 1) := by decide +kernel
theorem dL_law_1027 : decode cL_law 1027 = .ok (.iadd, 1) := by decide +kernel
theorem dL_law_1028 : decode cL_law 1028 = .ok (.iaload, 1) := by decide +kernel
theorem dL_law_1029 : decode cL_law 1029 = .ok (.aload_n 0, 1) := by decide +kernel
theorem dL_law_1030 : decode cL_law 1030 = .ok (.iload 4, 2) := by decide +kernel
theorem dL_law_1032 : decode cL_law 1032 = .ok (.iconst 2, 1) := by decide +kernel
theorem dL_law_1033 : decode cL_law 1033 = .ok (.iadd, 1) := by decide +kernel
theorem dL_law_1034 : decode cL_law 1034 = .ok (.iaload, 1) := by decide +kernel
theorem dL_law_1035 : decode cL_law 1035 = .ok (.invokevirtual 148, 3) := by decide +kernel
theorem k_1625 : Cond.methodLink RL 148 yX9_first ∈ bw_T := bw_m 1625 (by decide +kernel) rfl
theorem kv_X9_first : bw_KV RX9 yX9_first (Cond.code yX9_first cX9_first 4 (some .int)) := ⟨bw_m 1626 (by decide +kernel) rfl, bw_m 1627 (by decide +kernel) rfl, bw_m 107 (by decide +kernel) rfl, bw_m 1628 (by decide +kernel) rfl⟩
theorem dL_law_1038 : decode cL_law 1038 = .ok (.if_icmp .eq 445, 3) := by decide +kernel
set_option maxRecDepth 100000 in
set_option maxHeartbeats 4000000 in
theorem lc_30 {p : Program} {l : Launch} {e : Env} {s : State} {m : MethodId} {below : List Frame} {meth : Method} {c : Code} {b : Nat} {xs : Nat → Int32} (C0 : lw_At p s m meth c b 6 xs) {E : (Nat → Prop) → State → Prop} (hO : bw_Ok E) {G : va_G} {cI cB cJ cN cW : ClassId} (hK : va_K G vwCl (bw_kt cI cB cJ cN cW) s) (hE : E (fun q : Nat => s.heap.size ≤ q) s) (x y o : Nat) (q qm : Nat → Nat) (f : Nat → Nat → Int32) {H : Heap} {locs : List Loc} (hP : va_P G vwCl (lc_W cI cB cJ x y o q qm f) H) (hD : va_D (fun q : Nat => s.heap.size ≤ q) (lc_W cI cB cJ x y o q qm f)) (hS : va_S (fun q : Nat => s.heap.size ≤ q) s.heap H locs) {ls : Array Slot} (hl : lv_has ls 7 [(4, .int 0), (3, .ref o), (2, .ref y), (1, .ref x), (0, .ref b)]) : W p l e room_1 s m #[Value.ref b] below meth c H locs 163 8733 (lw_Z below #[Value.ref b] s) (F0 m 1006 ls []) := by
  have C1 := C0
  obtain ⟨hx, hb, hr, hml, hown, hts, hX, hbl, hlocks, hgv⟩ := C0
  have hA : ∀ q : Nat, s.heap.size ≤ q → (fun q : Nat => s.heap.size ≤ q) q := fun _ h => h
  have hbA : ¬ (fun q : Nat => s.heap.size ≤ q) b := Nat.not_le.mpr hbl
  have F : CallFix p m c cL_law 7 s #[Value.ref b] bw_T RL := ⟨hx, hb, hml, hown, fun w h => hts w (List.mem_filter.mp h).1⟩
  have hP := bw_subP (isC := [0, 10, 14]) (wc := [(x, .inr (8, [.int 0, .int 0, .ref (q 0), .ref (q 1), .ref (q 2), .ref (q 3), .ref (q 4), .ref (q 5), .ref (q 6), .ref (q 7), .ref (q 8), .ref (q 9), .ref (q 10), .ref (q 11)])), ((q 2), .inr (2, [.int 0, .ref (q 40), .ref (q 41), .ref (q 42), .ref (q 43), .ref (q 44), .ref (q 45), .ref (q 46), .ref (q 47)])), (y, .inr (9, [.int 0, .ref (qm 0), .int 0, .int 0, .int 0, .int 0, .int 0, .int 0, .int 0, .int 0, .int (-1), .int 0, .ref (qm 1), .int 0, .int 0, .ref (qm 2), .ref (qm 3), .ref (qm 4), .ref (qm 5), .ref (qm 6), .ref (qm 7), .ref (qm 8), .ref (qm 9), .ref (qm 10), .ref (qm 11), .ref (qm 12), .ref (qm 13), .ref (qm 14), .ref (qm 15), .ref (qm 16), .int 0, .int 0, .int 0, .int 0, .int 0, .int 0, .ref (qm 17), .ref (qm 18), .ref (qm 19), .ref (qm 20)]))]) hP rfl
  have hD := hD.sub (ws' := [(x, .inr (8, [.int 0, .int 0, .ref (q 0), .ref (q 1), .ref (q 2), .ref (q 3), .ref (q 4), .ref (q 5), .ref (q 6), .ref (q 7), .ref (q 8), .ref (q 9), .ref (q 10), .ref (q 11)])), ((q 2), .inr (2, [.int 0, .ref (q 40), .ref (q 41), .ref (q 42), .ref (q 43), .ref (q 44), .ref (q 45), .ref (q 46), .ref (q 47)])), (y, .inr (9, [.int 0, .ref (qm 0), .int 0, .int 0, .int 0, .int 0, .int 0, .int 0, .int 0, .int 0, .int (-1), .int 0, .ref (qm 1), .int 0, .int 0, .ref (qm 2), .ref (qm 3), .ref (qm 4), .ref (qm 5), .ref (qm 6), .ref (qm 7), .ref (qm 8), .ref (qm 9), .ref (qm 10), .ref (qm 11), .ref (qm 12), .ref (qm 13), .ref (qm 14), .ref (qm 15), .ref (qm 16), .int 0, .int 0, .int 0, .int 0, .int 0, .int 0, .ref (qm 17), .ref (qm 18), .ref (qm 19), .ref (qm 20)]))]) [0, 10, 14] (by decide) rfl
  refine lv_aload_n hx hb dL_law_1006 rfl (lv_at hl 3 rfl) ?_
  refine lv_aload_n hx hb dL_law_1007 rfl (lv_at hl 4 rfl) ?_
  refine lv_iload hx hb dL_law_1008 (lv_at hl 0 rfl) ?_
  refine lv_iconst (v := 1) hx hb dL_law_1010 (by decide) ?_
  refine r_iadd (v := 1) F dL_law_1011 (by decide) ?_
  refine va_sld hx hb hX hbl hbA hS (bw_vin (by decide)) dL_law_1012 ?_
  refine lv_aload_n hx hb dL_law_1013 rfl (lv_at hl 4 rfl) ?_
  refine lv_iload hx hb dL_law_1014 (lv_at hl 0 rfl) ?_
  refine lv_iconst (v := 2) hx hb dL_law_1016 (by decide) ?_
  refine r_iadd (v := 2) F dL_law_1017 (by decide) ?_
  refine va_sld hx hb hX hbl hbA hS (bw_vin (by decide)) dL_law_1018 ?_
  refine r_callVi (As := [.int (xs (Int32.toNatClampNeg 1)), .int (xs (Int32.toNatClampNeg 2))]) (rest := []) (wr := [(y, .inr (9, [.int 0, .ref (qm 0), .int 0, .int 0, .int 0, .int 0, .int 0, .int 0, .int 0, .int 0, .int (-1), .int 0, .ref (qm 1), .int 0, .int 0, .ref (qm 2), .ref (qm 3), .ref (qm 4), .ref (qm 5), .ref (qm 6), .ref (qm 7), .ref (qm 8), .ref (qm 9), .ref (qm 10), .ref (qm 11), .ref (qm 12), .ref (qm 13), .ref (qm 14), .ref (qm 15), .ref (qm 16), .int 0, .int 0, .int 0, .int 0, .int 0, .int 0, .ref (qm 17), .ref (qm 18), .ref (qm 19), .ref (qm 20)]))]) F hK hP hD hS hA hO hE (c_X8_first hO x q (xs (Int32.toNatClampNeg 1)) (xs (Int32.toNatClampNeg 2))) k_929 kv_X8_first 2 rfl (by decide +kernel) ⟨Nat.le_of_ble_eq_true rfl, Nat.le_of_ble_eq_true rfl⟩ [0, 1] [2] rfl rfl (by decide) (by decide) (by decide) 0 8 rfl rfl rfl hl.1 rfl (Nat.le_of_ble_eq_true rfl) dL_law_1019 ⟨Nat.le_of_ble_eq_true rfl, Nat.le_of_ble_eq_true rfl⟩ (w1 := fun u1 => [(y, .inr (9, [.int 0, .ref (qm 0), .int 0, .int 0, .int 0, .int 0, .int 0, .int 0, .int 0, .int 0, .int (-1), .int 0, .ref (qm 1), .int 0, .int 0, .ref (qm 2), .ref (qm 3), .ref (qm 4), .ref (qm 5), .ref (qm 6), .ref (qm 7), .ref (qm 8), .ref (qm 9), .ref (qm 10), .ref (qm 11), .ref (qm 12), .ref (qm 13), .ref (qm 14), .ref (qm 15), .ref (qm 16), .int 0, .int 0, .int 0, .int 0, .int 0, .int 0, .ref (qm 17), .ref (qm 18), .ref (qm 19), .ref (qm 20)]))]) (fun _ => rfl) (fun r2 u1 H locs hp hP hD hS => ?_)
  subst hp
  refine lv_aload_n hx hb dL_law_1022 rfl (lv_at hl 2 rfl) ?_
  refine lv_aload_n hx hb dL_law_1023 rfl (lv_at hl 4 rfl) ?_
  refine lv_iload hx hb dL_law_1024 (lv_at hl 0 rfl) ?_
  refine lv_iconst (v := 1) hx hb dL_law_1026 (by decide) ?_
  refine r_iadd (v := 1) F dL_law_1027 (by decide) ?_
  refine va_sld hx hb hX hbl hbA hS (bw_vin (by decide)) dL_law_1028 ?_
  refine lv_aload_n hx hb dL_law_1029 rfl (lv_at hl 4 rfl) ?_
  refine lv_iload hx hb dL_law_1030 (lv_at hl 0 rfl) ?_
  refine lv_iconst (v := 2) hx hb dL_law_1032 (by decide) ?_
  refine r_iadd (v := 2) F dL_law_1033 (by decide) ?_
  refine va_sld hx hb hX hbl hbA hS (bw_vin (by decide)) dL_law_1034 ?_
  refine r_callVi (As := [.int (xs (Int32.toNatClampNeg 1)), .int (xs (Int32.toNatClampNeg 2))]) (rest := [.int (-1)]) (wr := []) F hK hP hD hS hA hO hE (c_X9_first hO y qm (xs (Int32.toNatClampNeg 1)) (xs (Int32.toNatClampNeg 2))) k_1625 kv_X9_first 2 rfl (by decide +kernel) ⟨Nat.le_of_ble_eq_true rfl, Nat.le_of_ble_eq_true rfl⟩ [0] [] rfl rfl (by decide) (by decide) (by decide) 0 9 rfl rfl rfl hl.1 rfl (Nat.le_of_ble_eq_true rfl) dL_law_1035 ⟨Nat.le_of_ble_eq_true rfl, Nat.le_of_ble_eq_true rfl⟩ (w1 := fun u3 => []) (fun _ => rfl) (fun r4 u3 H locs hp hP hD hS => ?_)
  subst hp
  refine lv_icmp_eq (tgt := 1483) hx hb dL_law_1038 (by decide) (fun _ => ?_) (fun h9 => absurd rfl h9)
  exact lc_end C1 hS (Nat.le_of_ble_eq_true rfl) (Nat.le_of_ble_eq_true rfl) (lv_sub hl [0, 4] rfl)
theorem dL_law_1043 : decode cL_law 1043 = .ok (.aload_n 1, 1) := by decide +kernel
theorem dL_law_1044 : decode cL_law 1044 = .ok (.aload_n 0, 1) := by decide +kernel
theorem dL_law_1045 : decode cL_law 1045 = .ok (.iload 4, 2) := by decide +kernel
theorem dL_law_1047 : decode cL_law 1047 = .ok (.iconst 1, 1) := by decide +kernel
theorem dL_law_1048 : decode cL_law 1048 = .ok (.iadd, 1) := by decide +kernel
theorem dL_law_1049 : decode cL_law 1049 = .ok (.iaload, 1) := by decide +kernel
theorem dL_law_1050 : decode cL_law 1050 = .ok (.aload_n 0, 1) := by decide +kernel
theorem dL_law_1051 : decode cL_law 1051 = .ok (.iload 4, 2) := by decide +kernel
theorem dL_law_1053 : decode cL_law 1053 = .ok (.iconst 2, 1) := by decide +kernel
theorem dL_law_1054 : decode cL_law 1054 = .ok (.iadd, 1) := by decide +kernel
theorem dL_law_1055 : decode cL_law 1055 = .ok (.iaload, 1) := by decide +kernel
theorem dL_law_1056 : decode cL_law 1056 = .ok (.invokevirtual 149, 3) := by decide +kernel
theorem k_933 : Cond.methodLink RL 149 yX8_most ∈ bw_T := bw_m 933 (by decide +kernel) rfl
theorem kv_X8_most : bw_KV RX8 yX8_most (Cond.code yX8_most cX8_most 3 (some .int)) := ⟨bw_m 934 (by decide +kernel) rfl, bw_m 935 (by decide +kernel) rfl, bw_m 94 (by decide +kernel) rfl, bw_m 936 (by decide +kernel) rfl⟩
theorem dL_law_1059 : decode cL_law 1059 = .ok (.aload_n 2, 1) := by decide +kernel
theorem dL_law_1060 : decode cL_law 1060 = .ok (.aload_n 0, 1) := by decide +kernel
theorem dL_law_1061 : decode cL_law 1061 = .ok (.iload 4, 2) := by decide +kernel
theorem dL_law_1063 : decode cL_law 1063 = .ok (.iconst 1, 1) := by decide +kernel
theorem dL_law_1064 : decode cL_law 1064 = .ok (.iadd, 1) := by decide +kernel
theorem dL_law_1065 : decode cL_law 1065 = .ok (.iaload, 1) := by decide +kernel
theorem dL_law_1066 : decode cL_law 1066 = .ok (.aload_n 0, 1) := by decide +kernel
theorem dL_law_1067 : decode cL_law 1067 = .ok (.iload 4, 2) := by decide +kernel
theorem dL_law_1069 : decode cL_law 1069 = .ok (.iconst 2, 1) := by decide +kernel
theorem dL_law_1070 : decode cL_law 1070 = .ok (.iadd, 1) := by decide +kernel
theorem dL_law_1071 : decode cL_law 1071 = .ok (.iaload, 1) := by decide +kernel
theorem dL_law_1072 : decode cL_law 1072 = .ok (.invokevirtual 152, 3) := by decide +kernel
theorem k_1629 : Cond.methodLink RL 152 yX9_most ∈ bw_T := bw_m 1629 (by decide +kernel) rfl
theorem kv_X9_most : bw_KV RX9 yX9_most (Cond.code yX9_most cX9_most 6 (some .int)) := ⟨bw_m 1630 (by decide +kernel) rfl, bw_m 1631 (by decide +kernel) rfl, bw_m 107 (by decide +kernel) rfl, bw_m 1632 (by decide +kernel) rfl⟩
theorem dL_law_1075 : decode cL_law 1075 = .ok (.if_icmp .eq 408, 3) := by decide +kernel
set_option maxRecDepth 100000 in
set_option maxHeartbeats 4000000 in
theorem lc_31 {p : Program} {l : Launch} {e : Env} {s : State} {m : MethodId} {below : List Frame} {meth : Method} {c : Code} {b : Nat} {xs : Nat → Int32} (C0 : lw_At p s m meth c b 6 xs) {E : (Nat → Prop) → State → Prop} (hO : bw_Ok E) {G : va_G} {cI cB cJ cN cW : ClassId} (hK : va_K G vwCl (bw_kt cI cB cJ cN cW) s) (hE : E (fun q : Nat => s.heap.size ≤ q) s) (x y o : Nat) (q qm : Nat → Nat) (f : Nat → Nat → Int32) {H : Heap} {locs : List Loc} (hP : va_P G vwCl (lc_W cI cB cJ x y o q qm f) H) (hD : va_D (fun q : Nat => s.heap.size ≤ q) (lc_W cI cB cJ x y o q qm f)) (hS : va_S (fun q : Nat => s.heap.size ≤ q) s.heap H locs) {ls : Array Slot} (hl : lv_has ls 7 [(4, .int 0), (3, .ref o), (2, .ref y), (1, .ref x), (0, .ref b)]) : W p l e room_1 s m #[Value.ref b] below meth c H locs 163 8733 (lw_Z below #[Value.ref b] s) (F0 m 1043 ls []) := by
  have C1 := C0
  obtain ⟨hx, hb, hr, hml, hown, hts, hX, hbl, hlocks, hgv⟩ := C0
  have hA : ∀ q : Nat, s.heap.size ≤ q → (fun q : Nat => s.heap.size ≤ q) q := fun _ h => h
  have hbA : ¬ (fun q : Nat => s.heap.size ≤ q) b := Nat.not_le.mpr hbl
  have F : CallFix p m c cL_law 7 s #[Value.ref b] bw_T RL := ⟨hx, hb, hml, hown, fun w h => hts w (List.mem_filter.mp h).1⟩
  have hP := bw_subP (isC := [0, 10, 11, 14]) (wc := [(x, .inr (8, [.int 0, .int 0, .ref (q 0), .ref (q 1), .ref (q 2), .ref (q 3), .ref (q 4), .ref (q 5), .ref (q 6), .ref (q 7), .ref (q 8), .ref (q 9), .ref (q 10), .ref (q 11)])), ((q 2), .inr (2, [.int 0, .ref (q 40), .ref (q 41), .ref (q 42), .ref (q 43), .ref (q 44), .ref (q 45), .ref (q 46), .ref (q 47)])), ((q 47), .inl (cI, 20, .inl (fun _ => 0))), (y, .inr (9, [.int 0, .ref (qm 0), .int 0, .int 0, .int 0, .int 0, .int 0, .int 0, .int 0, .int 0, .int (-1), .int 0, .ref (qm 1), .int 0, .int 0, .ref (qm 2), .ref (qm 3), .ref (qm 4), .ref (qm 5), .ref (qm 6), .ref (qm 7), .ref (qm 8), .ref (qm 9), .ref (qm 10), .ref (qm 11), .ref (qm 12), .ref (qm 13), .ref (qm 14), .ref (qm 15), .ref (qm 16), .int 0, .int 0, .int 0, .int 0, .int 0, .int 0, .ref (qm 17), .ref (qm 18), .ref (qm 19), .ref (qm 20)]))]) hP rfl
  have hD := hD.sub (ws' := [(x, .inr (8, [.int 0, .int 0, .ref (q 0), .ref (q 1), .ref (q 2), .ref (q 3), .ref (q 4), .ref (q 5), .ref (q 6), .ref (q 7), .ref (q 8), .ref (q 9), .ref (q 10), .ref (q 11)])), ((q 2), .inr (2, [.int 0, .ref (q 40), .ref (q 41), .ref (q 42), .ref (q 43), .ref (q 44), .ref (q 45), .ref (q 46), .ref (q 47)])), ((q 47), .inl (cI, 20, .inl (fun _ => 0))), (y, .inr (9, [.int 0, .ref (qm 0), .int 0, .int 0, .int 0, .int 0, .int 0, .int 0, .int 0, .int 0, .int (-1), .int 0, .ref (qm 1), .int 0, .int 0, .ref (qm 2), .ref (qm 3), .ref (qm 4), .ref (qm 5), .ref (qm 6), .ref (qm 7), .ref (qm 8), .ref (qm 9), .ref (qm 10), .ref (qm 11), .ref (qm 12), .ref (qm 13), .ref (qm 14), .ref (qm 15), .ref (qm 16), .int 0, .int 0, .int 0, .int 0, .int 0, .int 0, .ref (qm 17), .ref (qm 18), .ref (qm 19), .ref (qm 20)]))]) [0, 10, 11, 14] (by decide) rfl
  refine lv_aload_n hx hb dL_law_1043 rfl (lv_at hl 3 rfl) ?_
  refine lv_aload_n hx hb dL_law_1044 rfl (lv_at hl 4 rfl) ?_
  refine lv_iload hx hb dL_law_1045 (lv_at hl 0 rfl) ?_
  refine lv_iconst (v := 1) hx hb dL_law_1047 (by decide) ?_
  refine r_iadd (v := 1) F dL_law_1048 (by decide) ?_
  refine va_sld hx hb hX hbl hbA hS (bw_vin (by decide)) dL_law_1049 ?_
  refine lv_aload_n hx hb dL_law_1050 rfl (lv_at hl 4 rfl) ?_
  refine lv_iload hx hb dL_law_1051 (lv_at hl 0 rfl) ?_
  refine lv_iconst (v := 2) hx hb dL_law_1053 (by decide) ?_
  refine r_iadd (v := 2) F dL_law_1054 (by decide) ?_
  refine va_sld hx hb hX hbl hbA hS (bw_vin (by decide)) dL_law_1055 ?_
  refine r_callVi (As := [.int (xs (Int32.toNatClampNeg 1)), .int (xs (Int32.toNatClampNeg 2))]) (rest := []) (wr := [(y, .inr (9, [.int 0, .ref (qm 0), .int 0, .int 0, .int 0, .int 0, .int 0, .int 0, .int 0, .int 0, .int (-1), .int 0, .ref (qm 1), .int 0, .int 0, .ref (qm 2), .ref (qm 3), .ref (qm 4), .ref (qm 5), .ref (qm 6), .ref (qm 7), .ref (qm 8), .ref (qm 9), .ref (qm 10), .ref (qm 11), .ref (qm 12), .ref (qm 13), .ref (qm 14), .ref (qm 15), .ref (qm 16), .int 0, .int 0, .int 0, .int 0, .int 0, .int 0, .ref (qm 17), .ref (qm 18), .ref (qm 19), .ref (qm 20)]))]) F hK hP hD hS hA hO hE (c_X8_most hO x q (xs (Int32.toNatClampNeg 1)) (xs (Int32.toNatClampNeg 2))) k_933 kv_X8_most 2 rfl (by decide +kernel) ⟨Nat.le_of_ble_eq_true rfl, Nat.le_of_ble_eq_true rfl⟩ [0, 1, 2] [3] rfl rfl (by decide) (by decide) (by decide) 0 8 rfl rfl rfl hl.1 rfl (Nat.le_of_ble_eq_true rfl) dL_law_1056 ⟨Nat.le_of_ble_eq_true rfl, Nat.le_of_ble_eq_true rfl⟩ (w1 := fun u1 => [(y, .inr (9, [.int 0, .ref (qm 0), .int 0, .int 0, .int 0, .int 0, .int 0, .int 0, .int 0, .int 0, .int (-1), .int 0, .ref (qm 1), .int 0, .int 0, .ref (qm 2), .ref (qm 3), .ref (qm 4), .ref (qm 5), .ref (qm 6), .ref (qm 7), .ref (qm 8), .ref (qm 9), .ref (qm 10), .ref (qm 11), .ref (qm 12), .ref (qm 13), .ref (qm 14), .ref (qm 15), .ref (qm 16), .int 0, .int 0, .int 0, .int 0, .int 0, .int 0, .ref (qm 17), .ref (qm 18), .ref (qm 19), .ref (qm 20)]))]) (fun _ => rfl) (fun r2 u1 H locs hp hP hD hS => ?_)
  subst hp
  refine lv_aload_n hx hb dL_law_1059 rfl (lv_at hl 2 rfl) ?_
  refine lv_aload_n hx hb dL_law_1060 rfl (lv_at hl 4 rfl) ?_
  refine lv_iload hx hb dL_law_1061 (lv_at hl 0 rfl) ?_
  refine lv_iconst (v := 1) hx hb dL_law_1063 (by decide) ?_
  refine r_iadd (v := 1) F dL_law_1064 (by decide) ?_
  refine va_sld hx hb hX hbl hbA hS (bw_vin (by decide)) dL_law_1065 ?_
  refine lv_aload_n hx hb dL_law_1066 rfl (lv_at hl 4 rfl) ?_
  refine lv_iload hx hb dL_law_1067 (lv_at hl 0 rfl) ?_
  refine lv_iconst (v := 2) hx hb dL_law_1069 (by decide) ?_
  refine r_iadd (v := 2) F dL_law_1070 (by decide) ?_
  refine va_sld hx hb hX hbl hbA hS (bw_vin (by decide)) dL_law_1071 ?_
  refine r_callVi (As := [.int (xs (Int32.toNatClampNeg 1)), .int (xs (Int32.toNatClampNeg 2))]) (rest := [.int (-1)]) (wr := []) F hK hP hD hS hA hO hE (c_X9_most hO y qm (xs (Int32.toNatClampNeg 1)) (xs (Int32.toNatClampNeg 2))) k_1629 kv_X9_most 2 rfl (by decide +kernel) ⟨Nat.le_of_ble_eq_true rfl, Nat.le_of_ble_eq_true rfl⟩ [0] [] rfl rfl (by decide) (by decide) (by decide) 0 9 rfl rfl rfl hl.1 rfl (Nat.le_of_ble_eq_true rfl) dL_law_1072 ⟨Nat.le_of_ble_eq_true rfl, Nat.le_of_ble_eq_true rfl⟩ (w1 := fun u3 => []) (fun _ => rfl) (fun r4 u3 H locs hp hP hD hS => ?_)
  subst hp
  refine lv_icmp_eq (tgt := 1483) hx hb dL_law_1075 (by decide) (fun _ => ?_) (fun h9 => absurd rfl h9)
  exact lc_end C1 hS (Nat.le_of_ble_eq_true rfl) (Nat.le_of_ble_eq_true rfl) (lv_sub hl [0, 4] rfl)
theorem dL_law_1080 : decode cL_law 1080 = .ok (.aload_n 1, 1) := by decide +kernel
theorem dL_law_1081 : decode cL_law 1081 = .ok (.aload_n 0, 1) := by decide +kernel
theorem dL_law_1082 : decode cL_law 1082 = .ok (.iload 4, 2) := by decide +kernel
theorem dL_law_1084 : decode cL_law 1084 = .ok (.iconst 1, 1) := by decide +kernel
theorem dL_law_1085 : decode cL_law 1085 = .ok (.iadd, 1) := by decide +kernel
theorem dL_law_1086 : decode cL_law 1086 = .ok (.iaload, 1) := by decide +kernel
theorem dL_law_1087 : decode cL_law 1087 = .ok (.aload_n 0, 1) := by decide +kernel
theorem dL_law_1088 : decode cL_law 1088 = .ok (.iload 4, 2) := by decide +kernel
theorem dL_law_1090 : decode cL_law 1090 = .ok (.iconst 2, 1) := by decide +kernel
theorem dL_law_1091 : decode cL_law 1091 = .ok (.iadd, 1) := by decide +kernel
theorem dL_law_1092 : decode cL_law 1092 = .ok (.iaload, 1) := by decide +kernel
theorem dL_law_1093 : decode cL_law 1093 = .ok (.invokevirtual 153, 3) := by decide +kernel
theorem k_937 : Cond.methodLink RL 153 yX8_spare ∈ bw_T := bw_m 937 (by decide +kernel) rfl
theorem kv_X8_spare : bw_KV RX8 yX8_spare (Cond.code yX8_spare cX8_spare 3 (some .int)) := ⟨bw_m 938 (by decide +kernel) rfl, bw_m 939 (by decide +kernel) rfl, bw_m 94 (by decide +kernel) rfl, bw_m 940 (by decide +kernel) rfl⟩
theorem dL_law_1096 : decode cL_law 1096 = .ok (.aload_n 2, 1) := by decide +kernel
theorem dL_law_1097 : decode cL_law 1097 = .ok (.aload_n 0, 1) := by decide +kernel
theorem dL_law_1098 : decode cL_law 1098 = .ok (.iload 4, 2) := by decide +kernel
theorem dL_law_1100 : decode cL_law 1100 = .ok (.iconst 1, 1) := by decide +kernel
theorem dL_law_1101 : decode cL_law 1101 = .ok (.iadd, 1) := by decide +kernel
theorem dL_law_1102 : decode cL_law 1102 = .ok (.iaload, 1) := by decide +kernel
theorem dL_law_1103 : decode cL_law 1103 = .ok (.aload_n 0, 1) := by decide +kernel
theorem dL_law_1104 : decode cL_law 1104 = .ok (.iload 4, 2) := by decide +kernel
theorem dL_law_1106 : decode cL_law 1106 = .ok (.iconst 2, 1) := by decide +kernel
theorem dL_law_1107 : decode cL_law 1107 = .ok (.iadd, 1) := by decide +kernel
theorem dL_law_1108 : decode cL_law 1108 = .ok (.iaload, 1) := by decide +kernel
theorem dL_law_1109 : decode cL_law 1109 = .ok (.invokevirtual 156, 3) := by decide +kernel
theorem k_1637 : Cond.methodLink RL 156 yX9_spare ∈ bw_T := bw_m 1637 (by decide +kernel) rfl
theorem kv_X9_spare : bw_KV RX9 yX9_spare (Cond.code yX9_spare cX9_spare 7 (some .int)) := ⟨bw_m 1638 (by decide +kernel) rfl, bw_m 1639 (by decide +kernel) rfl, bw_m 107 (by decide +kernel) rfl, bw_m 1640 (by decide +kernel) rfl⟩
theorem dL_law_1112 : decode cL_law 1112 = .ok (.if_icmp .eq 371, 3) := by decide +kernel
set_option maxRecDepth 100000 in
set_option maxHeartbeats 4000000 in
theorem lc_32 {p : Program} {l : Launch} {e : Env} {s : State} {m : MethodId} {below : List Frame} {meth : Method} {c : Code} {b : Nat} {xs : Nat → Int32} (C0 : lw_At p s m meth c b 6 xs) {E : (Nat → Prop) → State → Prop} (hO : bw_Ok E) {G : va_G} {cI cB cJ cN cW : ClassId} (hK : va_K G vwCl (bw_kt cI cB cJ cN cW) s) (hE : E (fun q : Nat => s.heap.size ≤ q) s) (x y o : Nat) (q qm : Nat → Nat) (f : Nat → Nat → Int32) {H : Heap} {locs : List Loc} (hP : va_P G vwCl (lc_W cI cB cJ x y o q qm f) H) (hD : va_D (fun q : Nat => s.heap.size ≤ q) (lc_W cI cB cJ x y o q qm f)) (hS : va_S (fun q : Nat => s.heap.size ≤ q) s.heap H locs) {ls : Array Slot} (hl : lv_has ls 7 [(4, .int 0), (3, .ref o), (2, .ref y), (1, .ref x), (0, .ref b)]) : W p l e room_1 s m #[Value.ref b] below meth c H locs 163 8733 (lw_Z below #[Value.ref b] s) (F0 m 1080 ls []) := by
  have C1 := C0
  obtain ⟨hx, hb, hr, hml, hown, hts, hX, hbl, hlocks, hgv⟩ := C0
  have hA : ∀ q : Nat, s.heap.size ≤ q → (fun q : Nat => s.heap.size ≤ q) q := fun _ h => h
  have hbA : ¬ (fun q : Nat => s.heap.size ≤ q) b := Nat.not_le.mpr hbl
  have F : CallFix p m c cL_law 7 s #[Value.ref b] bw_T RL := ⟨hx, hb, hml, hown, fun w h => hts w (List.mem_filter.mp h).1⟩
  have hP := bw_subP (isC := [0, 10, 11, 14]) (wc := [(x, .inr (8, [.int 0, .int 0, .ref (q 0), .ref (q 1), .ref (q 2), .ref (q 3), .ref (q 4), .ref (q 5), .ref (q 6), .ref (q 7), .ref (q 8), .ref (q 9), .ref (q 10), .ref (q 11)])), ((q 2), .inr (2, [.int 0, .ref (q 40), .ref (q 41), .ref (q 42), .ref (q 43), .ref (q 44), .ref (q 45), .ref (q 46), .ref (q 47)])), ((q 47), .inl (cI, 20, .inl (fun _ => 0))), (y, .inr (9, [.int 0, .ref (qm 0), .int 0, .int 0, .int 0, .int 0, .int 0, .int 0, .int 0, .int 0, .int (-1), .int 0, .ref (qm 1), .int 0, .int 0, .ref (qm 2), .ref (qm 3), .ref (qm 4), .ref (qm 5), .ref (qm 6), .ref (qm 7), .ref (qm 8), .ref (qm 9), .ref (qm 10), .ref (qm 11), .ref (qm 12), .ref (qm 13), .ref (qm 14), .ref (qm 15), .ref (qm 16), .int 0, .int 0, .int 0, .int 0, .int 0, .int 0, .ref (qm 17), .ref (qm 18), .ref (qm 19), .ref (qm 20)]))]) hP rfl
  have hD := hD.sub (ws' := [(x, .inr (8, [.int 0, .int 0, .ref (q 0), .ref (q 1), .ref (q 2), .ref (q 3), .ref (q 4), .ref (q 5), .ref (q 6), .ref (q 7), .ref (q 8), .ref (q 9), .ref (q 10), .ref (q 11)])), ((q 2), .inr (2, [.int 0, .ref (q 40), .ref (q 41), .ref (q 42), .ref (q 43), .ref (q 44), .ref (q 45), .ref (q 46), .ref (q 47)])), ((q 47), .inl (cI, 20, .inl (fun _ => 0))), (y, .inr (9, [.int 0, .ref (qm 0), .int 0, .int 0, .int 0, .int 0, .int 0, .int 0, .int 0, .int 0, .int (-1), .int 0, .ref (qm 1), .int 0, .int 0, .ref (qm 2), .ref (qm 3), .ref (qm 4), .ref (qm 5), .ref (qm 6), .ref (qm 7), .ref (qm 8), .ref (qm 9), .ref (qm 10), .ref (qm 11), .ref (qm 12), .ref (qm 13), .ref (qm 14), .ref (qm 15), .ref (qm 16), .int 0, .int 0, .int 0, .int 0, .int 0, .int 0, .ref (qm 17), .ref (qm 18), .ref (qm 19), .ref (qm 20)]))]) [0, 10, 11, 14] (by decide) rfl
  refine lv_aload_n hx hb dL_law_1080 rfl (lv_at hl 3 rfl) ?_
  refine lv_aload_n hx hb dL_law_1081 rfl (lv_at hl 4 rfl) ?_
  refine lv_iload hx hb dL_law_1082 (lv_at hl 0 rfl) ?_
  refine lv_iconst (v := 1) hx hb dL_law_1084 (by decide) ?_
  refine r_iadd (v := 1) F dL_law_1085 (by decide) ?_
  refine va_sld hx hb hX hbl hbA hS (bw_vin (by decide)) dL_law_1086 ?_
  refine lv_aload_n hx hb dL_law_1087 rfl (lv_at hl 4 rfl) ?_
  refine lv_iload hx hb dL_law_1088 (lv_at hl 0 rfl) ?_
  refine lv_iconst (v := 2) hx hb dL_law_1090 (by decide) ?_
  refine r_iadd (v := 2) F dL_law_1091 (by decide) ?_
  refine va_sld hx hb hX hbl hbA hS (bw_vin (by decide)) dL_law_1092 ?_
  refine r_callVi (As := [.int (xs (Int32.toNatClampNeg 1)), .int (xs (Int32.toNatClampNeg 2))]) (rest := []) (wr := [(y, .inr (9, [.int 0, .ref (qm 0), .int 0, .int 0, .int 0, .int 0, .int 0, .int 0, .int 0, .int 0, .int (-1), .int 0, .ref (qm 1), .int 0, .int 0, .ref (qm 2), .ref (qm 3), .ref (qm 4), .ref (qm 5), .ref (qm 6), .ref (qm 7), .ref (qm 8), .ref (qm 9), .ref (qm 10), .ref (qm 11), .ref (qm 12), .ref (qm 13), .ref (qm 14), .ref (qm 15), .ref (qm 16), .int 0, .int 0, .int 0, .int 0, .int 0, .int 0, .ref (qm 17), .ref (qm 18), .ref (qm 19), .ref (qm 20)]))]) F hK hP hD hS hA hO hE (c_X8_spare hO x q (xs (Int32.toNatClampNeg 1)) (xs (Int32.toNatClampNeg 2))) k_937 kv_X8_spare 2 rfl (by decide +kernel) ⟨Nat.le_of_ble_eq_true rfl, Nat.le_of_ble_eq_true rfl⟩ [0, 1, 2] [3] rfl rfl (by decide) (by decide) (by decide) 0 8 rfl rfl rfl hl.1 rfl (Nat.le_of_ble_eq_true rfl) dL_law_1093 ⟨Nat.le_of_ble_eq_true rfl, Nat.le_of_ble_eq_true rfl⟩ (w1 := fun u1 => [(y, .inr (9, [.int 0, .ref (qm 0), .int 0, .int 0, .int 0, .int 0, .int 0, .int 0, .int 0, .int 0, .int (-1), .int 0, .ref (qm 1), .int 0, .int 0, .ref (qm 2), .ref (qm 3), .ref (qm 4), .ref (qm 5), .ref (qm 6), .ref (qm 7), .ref (qm 8), .ref (qm 9), .ref (qm 10), .ref (qm 11), .ref (qm 12), .ref (qm 13), .ref (qm 14), .ref (qm 15), .ref (qm 16), .int 0, .int 0, .int 0, .int 0, .int 0, .int 0, .ref (qm 17), .ref (qm 18), .ref (qm 19), .ref (qm 20)]))]) (fun _ => rfl) (fun r2 u1 H locs hp hP hD hS => ?_)
  subst hp
  refine lv_aload_n hx hb dL_law_1096 rfl (lv_at hl 2 rfl) ?_
  refine lv_aload_n hx hb dL_law_1097 rfl (lv_at hl 4 rfl) ?_
  refine lv_iload hx hb dL_law_1098 (lv_at hl 0 rfl) ?_
  refine lv_iconst (v := 1) hx hb dL_law_1100 (by decide) ?_
  refine r_iadd (v := 1) F dL_law_1101 (by decide) ?_
  refine va_sld hx hb hX hbl hbA hS (bw_vin (by decide)) dL_law_1102 ?_
  refine lv_aload_n hx hb dL_law_1103 rfl (lv_at hl 4 rfl) ?_
  refine lv_iload hx hb dL_law_1104 (lv_at hl 0 rfl) ?_
  refine lv_iconst (v := 2) hx hb dL_law_1106 (by decide) ?_
  refine r_iadd (v := 2) F dL_law_1107 (by decide) ?_
  refine va_sld hx hb hX hbl hbA hS (bw_vin (by decide)) dL_law_1108 ?_
  refine r_callVi (As := [.int (xs (Int32.toNatClampNeg 1)), .int (xs (Int32.toNatClampNeg 2))]) (rest := [.int (-1)]) (wr := []) F hK hP hD hS hA hO hE (c_X9_spare hO y qm (xs (Int32.toNatClampNeg 1)) (xs (Int32.toNatClampNeg 2))) k_1637 kv_X9_spare 2 rfl (by decide +kernel) ⟨Nat.le_of_ble_eq_true rfl, Nat.le_of_ble_eq_true rfl⟩ [0] [] rfl rfl (by decide) (by decide) (by decide) 0 9 rfl rfl rfl hl.1 rfl (Nat.le_of_ble_eq_true rfl) dL_law_1109 ⟨Nat.le_of_ble_eq_true rfl, Nat.le_of_ble_eq_true rfl⟩ (w1 := fun u3 => []) (fun _ => rfl) (fun r4 u3 H locs hp hP hD hS => ?_)
  subst hp
  refine lv_icmp_eq (tgt := 1483) hx hb dL_law_1112 (by decide) (fun _ => ?_) (fun h9 => absurd rfl h9)
  exact lc_end C1 hS (Nat.le_of_ble_eq_true rfl) (Nat.le_of_ble_eq_true rfl) (lv_sub hl [0, 4] rfl)
theorem dL_law_1117 : decode cL_law 1117 = .ok (.aload_n 1, 1) := by decide +kernel
theorem dL_law_1118 : decode cL_law 1118 = .ok (.aload_n 0, 1) := by decide +kernel
theorem dL_law_1119 : decode cL_law 1119 = .ok (.iload 4, 2) := by decide +kernel
theorem dL_law_1121 : decode cL_law 1121 = .ok (.iconst 1, 1) := by decide +kernel
theorem dL_law_1122 : decode cL_law 1122 = .ok (.iadd, 1) := by decide +kernel
theorem dL_law_1123 : decode cL_law 1123 = .ok (.iaload, 1) := by decide +kernel
theorem dL_law_1124 : decode cL_law 1124 = .ok (.aload_n 0, 1) := by decide +kernel
theorem dL_law_1125 : decode cL_law 1125 = .ok (.iload 4, 2) := by decide +kernel
theorem dL_law_1127 : decode cL_law 1127 = .ok (.iconst 2, 1) := by decide +kernel
theorem dL_law_1128 : decode cL_law 1128 = .ok (.iadd, 1) := by decide +kernel
theorem dL_law_1129 : decode cL_law 1129 = .ok (.iaload, 1) := by decide +kernel
theorem dL_law_1130 : decode cL_law 1130 = .ok (.invokevirtual 157, 3) := by decide +kernel
theorem k_953 : Cond.methodLink RL 157 yX8_loop ∈ bw_T := bw_m 953 (by decide +kernel) rfl
theorem kv_X8_loop : bw_KV RX8 yX8_loop (Cond.code yX8_loop cX8_loop 5 (some .int)) := ⟨bw_m 954 (by decide +kernel) rfl, bw_m 955 (by decide +kernel) rfl, bw_m 94 (by decide +kernel) rfl, bw_m 956 (by decide +kernel) rfl⟩
theorem dL_law_1133 : decode cL_law 1133 = .ok (.aload_n 2, 1) := by decide +kernel
theorem dL_law_1134 : decode cL_law 1134 = .ok (.aload_n 0, 1) := by decide +kernel
theorem dL_law_1135 : decode cL_law 1135 = .ok (.iload 4, 2) := by decide +kernel
theorem dL_law_1137 : decode cL_law 1137 = .ok (.iconst 1, 1) := by decide +kernel
theorem dL_law_1138 : decode cL_law 1138 = .ok (.iadd, 1) := by decide +kernel
theorem dL_law_1139 : decode cL_law 1139 = .ok (.iaload, 1) := by decide +kernel
theorem dL_law_1140 : decode cL_law 1140 = .ok (.aload_n 0, 1) := by decide +kernel
theorem dL_law_1141 : decode cL_law 1141 = .ok (.iload 4, 2) := by decide +kernel
theorem dL_law_1143 : decode cL_law 1143 = .ok (.iconst 2, 1) := by decide +kernel
theorem dL_law_1144 : decode cL_law 1144 = .ok (.iadd, 1) := by decide +kernel
theorem dL_law_1145 : decode cL_law 1145 = .ok (.iaload, 1) := by decide +kernel
theorem dL_law_1146 : decode cL_law 1146 = .ok (.invokevirtual 160, 3) := by decide +kernel
theorem k_1645 : Cond.methodLink RL 160 yX9_loop ∈ bw_T := bw_m 1645 (by decide +kernel) rfl
theorem kv_X9_loop : bw_KV RX9 yX9_loop (Cond.code yX9_loop cX9_loop 4 (some .int)) := ⟨bw_m 1646 (by decide +kernel) rfl, bw_m 1647 (by decide +kernel) rfl, bw_m 107 (by decide +kernel) rfl, bw_m 1648 (by decide +kernel) rfl⟩
theorem dL_law_1149 : decode cL_law 1149 = .ok (.if_icmp .eq 334, 3) := by decide +kernel
set_option maxRecDepth 100000 in
set_option maxHeartbeats 4000000 in
theorem lc_33 {p : Program} {l : Launch} {e : Env} {s : State} {m : MethodId} {below : List Frame} {meth : Method} {c : Code} {b : Nat} {xs : Nat → Int32} (C0 : lw_At p s m meth c b 6 xs) {E : (Nat → Prop) → State → Prop} (hO : bw_Ok E) {G : va_G} {cI cB cJ cN cW : ClassId} (hK : va_K G vwCl (bw_kt cI cB cJ cN cW) s) (hE : E (fun q : Nat => s.heap.size ≤ q) s) (x y o : Nat) (q qm : Nat → Nat) (f : Nat → Nat → Int32) {H : Heap} {locs : List Loc} (hP : va_P G vwCl (lc_W cI cB cJ x y o q qm f) H) (hD : va_D (fun q : Nat => s.heap.size ≤ q) (lc_W cI cB cJ x y o q qm f)) (hS : va_S (fun q : Nat => s.heap.size ≤ q) s.heap H locs) {ls : Array Slot} (hl : lv_has ls 7 [(4, .int 0), (3, .ref o), (2, .ref y), (1, .ref x), (0, .ref b)]) : W p l e room_1 s m #[Value.ref b] below meth c H locs 163 8733 (lw_Z below #[Value.ref b] s) (F0 m 1117 ls []) := by
  have C1 := C0
  obtain ⟨hx, hb, hr, hml, hown, hts, hX, hbl, hlocks, hgv⟩ := C0
  have hA : ∀ q : Nat, s.heap.size ≤ q → (fun q : Nat => s.heap.size ≤ q) q := fun _ h => h
  have hbA : ¬ (fun q : Nat => s.heap.size ≤ q) b := Nat.not_le.mpr hbl
  have F : CallFix p m c cL_law 7 s #[Value.ref b] bw_T RL := ⟨hx, hb, hml, hown, fun w h => hts w (List.mem_filter.mp h).1⟩
  have hP := bw_subP (isC := [0, 14]) (wc := [(x, .inr (8, [.int 0, .int 0, .ref (q 0), .ref (q 1), .ref (q 2), .ref (q 3), .ref (q 4), .ref (q 5), .ref (q 6), .ref (q 7), .ref (q 8), .ref (q 9), .ref (q 10), .ref (q 11)])), (y, .inr (9, [.int 0, .ref (qm 0), .int 0, .int 0, .int 0, .int 0, .int 0, .int 0, .int 0, .int 0, .int (-1), .int 0, .ref (qm 1), .int 0, .int 0, .ref (qm 2), .ref (qm 3), .ref (qm 4), .ref (qm 5), .ref (qm 6), .ref (qm 7), .ref (qm 8), .ref (qm 9), .ref (qm 10), .ref (qm 11), .ref (qm 12), .ref (qm 13), .ref (qm 14), .ref (qm 15), .ref (qm 16), .int 0, .int 0, .int 0, .int 0, .int 0, .int 0, .ref (qm 17), .ref (qm 18), .ref (qm 19), .ref (qm 20)]))]) hP rfl
  have hD := hD.sub (ws' := [(x, .inr (8, [.int 0, .int 0, .ref (q 0), .ref (q 1), .ref (q 2), .ref (q 3), .ref (q 4), .ref (q 5), .ref (q 6), .ref (q 7), .ref (q 8), .ref (q 9), .ref (q 10), .ref (q 11)])), (y, .inr (9, [.int 0, .ref (qm 0), .int 0, .int 0, .int 0, .int 0, .int 0, .int 0, .int 0, .int 0, .int (-1), .int 0, .ref (qm 1), .int 0, .int 0, .ref (qm 2), .ref (qm 3), .ref (qm 4), .ref (qm 5), .ref (qm 6), .ref (qm 7), .ref (qm 8), .ref (qm 9), .ref (qm 10), .ref (qm 11), .ref (qm 12), .ref (qm 13), .ref (qm 14), .ref (qm 15), .ref (qm 16), .int 0, .int 0, .int 0, .int 0, .int 0, .int 0, .ref (qm 17), .ref (qm 18), .ref (qm 19), .ref (qm 20)]))]) [0, 14] (by decide) rfl
  refine lv_aload_n hx hb dL_law_1117 rfl (lv_at hl 3 rfl) ?_
  refine lv_aload_n hx hb dL_law_1118 rfl (lv_at hl 4 rfl) ?_
  refine lv_iload hx hb dL_law_1119 (lv_at hl 0 rfl) ?_
  refine lv_iconst (v := 1) hx hb dL_law_1121 (by decide) ?_
  refine r_iadd (v := 1) F dL_law_1122 (by decide) ?_
  refine va_sld hx hb hX hbl hbA hS (bw_vin (by decide)) dL_law_1123 ?_
  refine lv_aload_n hx hb dL_law_1124 rfl (lv_at hl 4 rfl) ?_
  refine lv_iload hx hb dL_law_1125 (lv_at hl 0 rfl) ?_
  refine lv_iconst (v := 2) hx hb dL_law_1127 (by decide) ?_
  refine r_iadd (v := 2) F dL_law_1128 (by decide) ?_
  refine va_sld hx hb hX hbl hbA hS (bw_vin (by decide)) dL_law_1129 ?_
  refine r_callVi (As := [.int (xs (Int32.toNatClampNeg 1)), .int (xs (Int32.toNatClampNeg 2))]) (rest := []) (wr := [(y, .inr (9, [.int 0, .ref (qm 0), .int 0, .int 0, .int 0, .int 0, .int 0, .int 0, .int 0, .int 0, .int (-1), .int 0, .ref (qm 1), .int 0, .int 0, .ref (qm 2), .ref (qm 3), .ref (qm 4), .ref (qm 5), .ref (qm 6), .ref (qm 7), .ref (qm 8), .ref (qm 9), .ref (qm 10), .ref (qm 11), .ref (qm 12), .ref (qm 13), .ref (qm 14), .ref (qm 15), .ref (qm 16), .int 0, .int 0, .int 0, .int 0, .int 0, .int 0, .ref (qm 17), .ref (qm 18), .ref (qm 19), .ref (qm 20)]))]) F hK hP hD hS hA hO hE (c_X8_loop hO x q (xs (Int32.toNatClampNeg 1)) (xs (Int32.toNatClampNeg 2))) k_953 kv_X8_loop 2 rfl (by decide +kernel) ⟨Nat.le_of_ble_eq_true rfl, Nat.le_of_ble_eq_true rfl⟩ [0] [1] rfl rfl (by decide) (by decide) (by decide) 0 8 rfl rfl rfl hl.1 rfl (Nat.le_of_ble_eq_true rfl) dL_law_1130 ⟨Nat.le_of_ble_eq_true rfl, Nat.le_of_ble_eq_true rfl⟩ (w1 := fun u1 => [(y, .inr (9, [.int 0, .ref (qm 0), .int 0, .int 0, .int 0, .int 0, .int 0, .int 0, .int 0, .int 0, .int (-1), .int 0, .ref (qm 1), .int 0, .int 0, .ref (qm 2), .ref (qm 3), .ref (qm 4), .ref (qm 5), .ref (qm 6), .ref (qm 7), .ref (qm 8), .ref (qm 9), .ref (qm 10), .ref (qm 11), .ref (qm 12), .ref (qm 13), .ref (qm 14), .ref (qm 15), .ref (qm 16), .int 0, .int 0, .int 0, .int 0, .int 0, .int 0, .ref (qm 17), .ref (qm 18), .ref (qm 19), .ref (qm 20)]))]) (fun _ => rfl) (fun r2 u1 H locs hp hP hD hS => ?_)
  subst hp
  refine lv_aload_n hx hb dL_law_1133 rfl (lv_at hl 2 rfl) ?_
  refine lv_aload_n hx hb dL_law_1134 rfl (lv_at hl 4 rfl) ?_
  refine lv_iload hx hb dL_law_1135 (lv_at hl 0 rfl) ?_
  refine lv_iconst (v := 1) hx hb dL_law_1137 (by decide) ?_
  refine r_iadd (v := 1) F dL_law_1138 (by decide) ?_
  refine va_sld hx hb hX hbl hbA hS (bw_vin (by decide)) dL_law_1139 ?_
  refine lv_aload_n hx hb dL_law_1140 rfl (lv_at hl 4 rfl) ?_
  refine lv_iload hx hb dL_law_1141 (lv_at hl 0 rfl) ?_
  refine lv_iconst (v := 2) hx hb dL_law_1143 (by decide) ?_
  refine r_iadd (v := 2) F dL_law_1144 (by decide) ?_
  refine va_sld hx hb hX hbl hbA hS (bw_vin (by decide)) dL_law_1145 ?_
  refine r_callVi (As := [.int (xs (Int32.toNatClampNeg 1)), .int (xs (Int32.toNatClampNeg 2))]) (rest := [.int (bw_loop (xs (Int32.toNatClampNeg 1)) (xs (Int32.toNatClampNeg 2)))]) (wr := []) F hK hP hD hS hA hO hE (c_X9_loop hO y qm (xs (Int32.toNatClampNeg 1)) (xs (Int32.toNatClampNeg 2))) k_1645 kv_X9_loop 2 rfl (by decide +kernel) ⟨Nat.le_of_ble_eq_true rfl, Nat.le_of_ble_eq_true rfl⟩ [0] [] rfl rfl (by decide) (by decide) (by decide) 0 9 rfl rfl rfl hl.1 rfl (Nat.le_of_ble_eq_true rfl) dL_law_1146 ⟨Nat.le_of_ble_eq_true rfl, Nat.le_of_ble_eq_true rfl⟩ (w1 := fun u3 => []) (fun _ => rfl) (fun r4 u3 H locs hp hP hD hS => ?_)
  subst hp
  refine lv_icmp_eq (tgt := 1483) hx hb dL_law_1149 (by decide) (fun _ => ?_) (fun h9 => absurd rfl h9)
  exact lc_end C1 hS (Nat.le_of_ble_eq_true rfl) (Nat.le_of_ble_eq_true rfl) (lv_sub hl [0, 4] rfl)
theorem dL_law_1154 : decode cL_law 1154 = .ok (.aload_n 1, 1) := by decide +kernel
theorem dL_law_1155 : decode cL_law 1155 = .ok (.aload_n 0, 1) := by decide +kernel
theorem dL_law_1156 : decode cL_law 1156 = .ok (.iload 4, 2) := by decide +kernel
theorem dL_law_1158 : decode cL_law 1158 = .ok (.iconst 1, 1) := by decide +kernel
theorem dL_law_1159 : decode cL_law 1159 = .ok (.iadd, 1) := by decide +kernel
theorem dL_law_1160 : decode cL_law 1160 = .ok (.iaload, 1) := by decide +kernel
theorem dL_law_1161 : decode cL_law 1161 = .ok (.aload_n 0, 1) := by decide +kernel
theorem dL_law_1162 : decode cL_law 1162 = .ok (.iload 4, 2) := by decide +kernel
theorem dL_law_1164 : decode cL_law 1164 = .ok (.iconst 2, 1) := by decide +kernel
theorem dL_law_1165 : decode cL_law 1165 = .ok (.iadd, 1) := by decide +kernel
theorem dL_law_1166 : decode cL_law 1166 = .ok (.iaload, 1) := by decide +kernel
theorem dL_law_1167 : decode cL_law 1167 = .ok (.invokevirtual 161, 3) := by decide +kernel
theorem k_957 : Cond.methodLink RL 161 yX8_alike ∈ bw_T := bw_m 957 (by decide +kernel) rfl
theorem kv_X8_alike : bw_KV RX8 yX8_alike (Cond.code yX8_alike cX8_alike 3 (some .int)) := ⟨bw_m 958 (by decide +kernel) rfl, bw_m 959 (by decide +kernel) rfl, bw_m 94 (by decide +kernel) rfl, bw_m 960 (by decide +kernel) rfl⟩
theorem dL_law_1170 : decode cL_law 1170 = .ok (.aload_n 2, 1) := by decide +kernel
theorem dL_law_1171 : decode cL_law 1171 = .ok (.aload_n 0, 1) := by decide +kernel
theorem dL_law_1172 : decode cL_law 1172 = .ok (.iload 4, 2) := by decide +kernel
theorem dL_law_1174 : decode cL_law 1174 = .ok (.iconst 1, 1) := by decide +kernel
theorem dL_law_1175 : decode cL_law 1175 = .ok (.iadd, 1) := by decide +kernel
theorem dL_law_1176 : decode cL_law 1176 = .ok (.iaload, 1) := by decide +kernel
theorem dL_law_1177 : decode cL_law 1177 = .ok (.aload_n 0, 1) := by decide +kernel
theorem dL_law_1178 : decode cL_law 1178 = .ok (.iload 4, 2) := by decide +kernel
theorem dL_law_1180 : decode cL_law 1180 = .ok (.iconst 2, 1) := by decide +kernel
theorem dL_law_1181 : decode cL_law 1181 = .ok (.iadd, 1) := by decide +kernel
theorem dL_law_1182 : decode cL_law 1182 = .ok (.iaload, 1) := by decide +kernel
theorem dL_law_1183 : decode cL_law 1183 = .ok (.invokevirtual 164, 3) := by decide +kernel
theorem k_1649 : Cond.methodLink RL 164 yX9_alike ∈ bw_T := bw_m 1649 (by decide +kernel) rfl
theorem kv_X9_alike : bw_KV RX9 yX9_alike (Cond.code yX9_alike cX9_alike 3 (some .int)) := ⟨bw_m 1650 (by decide +kernel) rfl, bw_m 1651 (by decide +kernel) rfl, bw_m 107 (by decide +kernel) rfl, bw_m 1652 (by decide +kernel) rfl⟩
theorem dL_law_1186 : decode cL_law 1186 = .ok (.if_icmp .eq 297, 3) := by decide +kernel
set_option maxRecDepth 100000 in
set_option maxHeartbeats 4000000 in
theorem lc_34 {p : Program} {l : Launch} {e : Env} {s : State} {m : MethodId} {below : List Frame} {meth : Method} {c : Code} {b : Nat} {xs : Nat → Int32} (C0 : lw_At p s m meth c b 6 xs) {E : (Nat → Prop) → State → Prop} (hO : bw_Ok E) {G : va_G} {cI cB cJ cN cW : ClassId} (hK : va_K G vwCl (bw_kt cI cB cJ cN cW) s) (hE : E (fun q : Nat => s.heap.size ≤ q) s) (x y o : Nat) (q qm : Nat → Nat) (f : Nat → Nat → Int32) {H : Heap} {locs : List Loc} (hP : va_P G vwCl (lc_W cI cB cJ x y o q qm f) H) (hD : va_D (fun q : Nat => s.heap.size ≤ q) (lc_W cI cB cJ x y o q qm f)) (hS : va_S (fun q : Nat => s.heap.size ≤ q) s.heap H locs) {ls : Array Slot} (hl : lv_has ls 7 [(4, .int 0), (3, .ref o), (2, .ref y), (1, .ref x), (0, .ref b)]) : W p l e room_1 s m #[Value.ref b] below meth c H locs 163 8733 (lw_Z below #[Value.ref b] s) (F0 m 1154 ls []) := by
  have C1 := C0
  obtain ⟨hx, hb, hr, hml, hown, hts, hX, hbl, hlocks, hgv⟩ := C0
  have hA : ∀ q : Nat, s.heap.size ≤ q → (fun q : Nat => s.heap.size ≤ q) q := fun _ h => h
  have hbA : ¬ (fun q : Nat => s.heap.size ≤ q) b := Nat.not_le.mpr hbl
  have F : CallFix p m c cL_law 7 s #[Value.ref b] bw_T RL := ⟨hx, hb, hml, hown, fun w h => hts w (List.mem_filter.mp h).1⟩
  have hP := bw_subP (isC := [0, 10, 14]) (wc := [(x, .inr (8, [.int 0, .int 0, .ref (q 0), .ref (q 1), .ref (q 2), .ref (q 3), .ref (q 4), .ref (q 5), .ref (q 6), .ref (q 7), .ref (q 8), .ref (q 9), .ref (q 10), .ref (q 11)])), ((q 2), .inr (2, [.int 0, .ref (q 40), .ref (q 41), .ref (q 42), .ref (q 43), .ref (q 44), .ref (q 45), .ref (q 46), .ref (q 47)])), (y, .inr (9, [.int 0, .ref (qm 0), .int 0, .int 0, .int 0, .int 0, .int 0, .int 0, .int 0, .int 0, .int (-1), .int 0, .ref (qm 1), .int 0, .int 0, .ref (qm 2), .ref (qm 3), .ref (qm 4), .ref (qm 5), .ref (qm 6), .ref (qm 7), .ref (qm 8), .ref (qm 9), .ref (qm 10), .ref (qm 11), .ref (qm 12), .ref (qm 13), .ref (qm 14), .ref (qm 15), .ref (qm 16), .int 0, .int 0, .int 0, .int 0, .int 0, .int 0, .ref (qm 17), .ref (qm 18), .ref (qm 19), .ref (qm 20)]))]) hP rfl
  have hD := hD.sub (ws' := [(x, .inr (8, [.int 0, .int 0, .ref (q 0), .ref (q 1), .ref (q 2), .ref (q 3), .ref (q 4), .ref (q 5), .ref (q 6), .ref (q 7), .ref (q 8), .ref (q 9), .ref (q 10), .ref (q 11)])), ((q 2), .inr (2, [.int 0, .ref (q 40), .ref (q 41), .ref (q 42), .ref (q 43), .ref (q 44), .ref (q 45), .ref (q 46), .ref (q 47)])), (y, .inr (9, [.int 0, .ref (qm 0), .int 0, .int 0, .int 0, .int 0, .int 0, .int 0, .int 0, .int 0, .int (-1), .int 0, .ref (qm 1), .int 0, .int 0, .ref (qm 2), .ref (qm 3), .ref (qm 4), .ref (qm 5), .ref (qm 6), .ref (qm 7), .ref (qm 8), .ref (qm 9), .ref (qm 10), .ref (qm 11), .ref (qm 12), .ref (qm 13), .ref (qm 14), .ref (qm 15), .ref (qm 16), .int 0, .int 0, .int 0, .int 0, .int 0, .int 0, .ref (qm 17), .ref (qm 18), .ref (qm 19), .ref (qm 20)]))]) [0, 10, 14] (by decide) rfl
  refine lv_aload_n hx hb dL_law_1154 rfl (lv_at hl 3 rfl) ?_
  refine lv_aload_n hx hb dL_law_1155 rfl (lv_at hl 4 rfl) ?_
  refine lv_iload hx hb dL_law_1156 (lv_at hl 0 rfl) ?_
  refine lv_iconst (v := 1) hx hb dL_law_1158 (by decide) ?_
  refine r_iadd (v := 1) F dL_law_1159 (by decide) ?_
  refine va_sld hx hb hX hbl hbA hS (bw_vin (by decide)) dL_law_1160 ?_
  refine lv_aload_n hx hb dL_law_1161 rfl (lv_at hl 4 rfl) ?_
  refine lv_iload hx hb dL_law_1162 (lv_at hl 0 rfl) ?_
  refine lv_iconst (v := 2) hx hb dL_law_1164 (by decide) ?_
  refine r_iadd (v := 2) F dL_law_1165 (by decide) ?_
  refine va_sld hx hb hX hbl hbA hS (bw_vin (by decide)) dL_law_1166 ?_
  refine r_callVi (As := [.int (xs (Int32.toNatClampNeg 1)), .int (xs (Int32.toNatClampNeg 2))]) (rest := []) (wr := [(y, .inr (9, [.int 0, .ref (qm 0), .int 0, .int 0, .int 0, .int 0, .int 0, .int 0, .int 0, .int 0, .int (-1), .int 0, .ref (qm 1), .int 0, .int 0, .ref (qm 2), .ref (qm 3), .ref (qm 4), .ref (qm 5), .ref (qm 6), .ref (qm 7), .ref (qm 8), .ref (qm 9), .ref (qm 10), .ref (qm 11), .ref (qm 12), .ref (qm 13), .ref (qm 14), .ref (qm 15), .ref (qm 16), .int 0, .int 0, .int 0, .int 0, .int 0, .int 0, .ref (qm 17), .ref (qm 18), .ref (qm 19), .ref (qm 20)]))]) F hK hP hD hS hA hO hE (c_X8_alike hO x q (xs (Int32.toNatClampNeg 1)) (xs (Int32.toNatClampNeg 2))) k_957 kv_X8_alike 2 rfl (by decide +kernel) ⟨Nat.le_of_ble_eq_true rfl, Nat.le_of_ble_eq_true rfl⟩ [0, 1] [2] rfl rfl (by decide) (by decide) (by decide) 0 8 rfl rfl rfl hl.1 rfl (Nat.le_of_ble_eq_true rfl) dL_law_1167 ⟨Nat.le_of_ble_eq_true rfl, Nat.le_of_ble_eq_true rfl⟩ (w1 := fun u1 => [(y, .inr (9, [.int 0, .ref (qm 0), .int 0, .int 0, .int 0, .int 0, .int 0, .int 0, .int 0, .int 0, .int (-1), .int 0, .ref (qm 1), .int 0, .int 0, .ref (qm 2), .ref (qm 3), .ref (qm 4), .ref (qm 5), .ref (qm 6), .ref (qm 7), .ref (qm 8), .ref (qm 9), .ref (qm 10), .ref (qm 11), .ref (qm 12), .ref (qm 13), .ref (qm 14), .ref (qm 15), .ref (qm 16), .int 0, .int 0, .int 0, .int 0, .int 0, .int 0, .ref (qm 17), .ref (qm 18), .ref (qm 19), .ref (qm 20)]))]) (fun _ => rfl) (fun r2 u1 H locs hp hP hD hS => ?_)
  subst hp
  refine lv_aload_n hx hb dL_law_1170 rfl (lv_at hl 2 rfl) ?_
  refine lv_aload_n hx hb dL_law_1171 rfl (lv_at hl 4 rfl) ?_
  refine lv_iload hx hb dL_law_1172 (lv_at hl 0 rfl) ?_
  refine lv_iconst (v := 1) hx hb dL_law_1174 (by decide) ?_
  refine r_iadd (v := 1) F dL_law_1175 (by decide) ?_
  refine va_sld hx hb hX hbl hbA hS (bw_vin (by decide)) dL_law_1176 ?_
  refine lv_aload_n hx hb dL_law_1177 rfl (lv_at hl 4 rfl) ?_
  refine lv_iload hx hb dL_law_1178 (lv_at hl 0 rfl) ?_
  refine lv_iconst (v := 2) hx hb dL_law_1180 (by decide) ?_
  refine r_iadd (v := 2) F dL_law_1181 (by decide) ?_
  refine va_sld hx hb hX hbl hbA hS (bw_vin (by decide)) dL_law_1182 ?_
  refine r_callVi (As := [.int (xs (Int32.toNatClampNeg 1)), .int (xs (Int32.toNatClampNeg 2))]) (rest := [.int (-1)]) (wr := []) F hK hP hD hS hA hO hE (c_X9_alike hO y qm (xs (Int32.toNatClampNeg 1)) (xs (Int32.toNatClampNeg 2))) k_1649 kv_X9_alike 2 rfl (by decide +kernel) ⟨Nat.le_of_ble_eq_true rfl, Nat.le_of_ble_eq_true rfl⟩ [0] [] rfl rfl (by decide) (by decide) (by decide) 0 9 rfl rfl rfl hl.1 rfl (Nat.le_of_ble_eq_true rfl) dL_law_1183 ⟨Nat.le_of_ble_eq_true rfl, Nat.le_of_ble_eq_true rfl⟩ (w1 := fun u3 => []) (fun _ => rfl) (fun r4 u3 H locs hp hP hD hS => ?_)
  subst hp
  refine lv_icmp_eq (tgt := 1483) hx hb dL_law_1186 (by decide) (fun _ => ?_) (fun h9 => absurd rfl h9)
  exact lc_end C1 hS (Nat.le_of_ble_eq_true rfl) (Nat.le_of_ble_eq_true rfl) (lv_sub hl [0, 4] rfl)
theorem dL_law_1191 : decode cL_law 1191 = .ok (.aload_n 1, 1) := by decide +kernel
theorem dL_law_1192 : decode cL_law 1192 = .ok (.aload_n 0, 1) := by decide +kernel
theorem dL_law_1193 : decode cL_law 1193 = .ok (.iload 4, 2) := by decide +kernel
theorem dL_law_1195 : decode cL_law 1195 = .ok (.iconst 1, 1) := by decide +kernel
theorem dL_law_1196 : decode cL_law 1196 = .ok (.iadd, 1) := by decide +kernel
theorem dL_law_1197 : decode cL_law 1197 = .ok (.iaload, 1) := by decide +kernel
theorem dL_law_1198 : decode cL_law 1198 = .ok (.aload_n 0, 1) := by decide +kernel
theorem dL_law_1199 : decode cL_law 1199 = .ok (.iload 4, 2) := by decide +kernel
theorem dL_law_1201 : decode cL_law 1201 = .ok (.iconst 2, 1) := by decide +kernel
theorem dL_law_1202 : decode cL_law 1202 = .ok (.iadd, 1) := by decide +kernel
theorem dL_law_1203 : decode cL_law 1203 = .ok (.iaload, 1) := by decide +kernel
theorem dL_law_1204 : decode cL_law 1204 = .ok (.aload_n 0, 1) := by decide +kernel
theorem dL_law_1205 : decode cL_law 1205 = .ok (.iload 4, 2) := by decide +kernel
theorem dL_law_1207 : decode cL_law 1207 = .ok (.iconst 3, 1) := by decide +kernel
theorem dL_law_1208 : decode cL_law 1208 = .ok (.iadd, 1) := by decide +kernel
theorem dL_law_1209 : decode cL_law 1209 = .ok (.iaload, 1) := by decide +kernel
theorem dL_law_1210 : decode cL_law 1210 = .ok (.invokevirtual 165, 3) := by decide +kernel
theorem k_974 : Cond.methodLink RL 165 yX8_unfair ∈ bw_T := bw_m 974 (by decide +kernel) rfl
theorem kv_X8_unfair : bw_KV RX8 yX8_unfair (Cond.code yX8_unfair cX8_unfair 4 (some .int)) := ⟨bw_m 975 (by decide +kernel) rfl, bw_m 976 (by decide +kernel) rfl, bw_m 94 (by decide +kernel) rfl, bw_m 977 (by decide +kernel) rfl⟩
theorem dL_law_1213 : decode cL_law 1213 = .ok (.aload_n 2, 1) := by decide +kernel
theorem dL_law_1214 : decode cL_law 1214 = .ok (.aload_n 0, 1) := by decide +kernel
theorem dL_law_1215 : decode cL_law 1215 = .ok (.iload 4, 2) := by decide +kernel
theorem dL_law_1217 : decode cL_law 1217 = .ok (.iconst 1, 1) := by decide +kernel
theorem dL_law_1218 : decode cL_law 1218 = .ok (.iadd, 1) := by decide +kernel
theorem dL_law_1219 : decode cL_law 1219 = .ok (.iaload, 1) := by decide +kernel
theorem dL_law_1220 : decode cL_law 1220 = .ok (.aload_n 0, 1) := by decide +kernel
theorem dL_law_1221 : decode cL_law 1221 = .ok (.iload 4, 2) := by decide +kernel
theorem dL_law_1223 : decode cL_law 1223 = .ok (.iconst 2, 1) := by decide +kernel
theorem dL_law_1224 : decode cL_law 1224 = .ok (.iadd, 1) := by decide +kernel
theorem dL_law_1225 : decode cL_law 1225 = .ok (.iaload, 1) := by decide +kernel
theorem dL_law_1226 : decode cL_law 1226 = .ok (.aload_n 0, 1) := by decide +kernel
theorem dL_law_1227 : decode cL_law 1227 = .ok (.iload 4, 2) := by decide +kernel
theorem dL_law_1229 : decode cL_law 1229 = .ok (.iconst 3, 1) := by decide +kernel
theorem dL_law_1230 : decode cL_law 1230 = .ok (.iadd, 1) := by decide +kernel
theorem dL_law_1231 : decode cL_law 1231 = .ok (.iaload, 1) := by decide +kernel
theorem dL_law_1232 : decode cL_law 1232 = .ok (.invokevirtual 169, 3) := by decide +kernel
theorem k_1661 : Cond.methodLink RL 169 yX9_unfair ∈ bw_T := bw_m 1661 (by decide +kernel) rfl
theorem kv_X9_unfair : bw_KV RX9 yX9_unfair (Cond.code yX9_unfair cX9_unfair 4 (some .int)) := ⟨bw_m 1662 (by decide +kernel) rfl, bw_m 1663 (by decide +kernel) rfl, bw_m 107 (by decide +kernel) rfl, bw_m 1664 (by decide +kernel) rfl⟩
theorem dL_law_1235 : decode cL_law 1235 = .ok (.if_icmp .eq 248, 3) := by decide +kernel
set_option maxRecDepth 100000 in
set_option maxHeartbeats 4000000 in
theorem lc_35 {p : Program} {l : Launch} {e : Env} {s : State} {m : MethodId} {below : List Frame} {meth : Method} {c : Code} {b : Nat} {xs : Nat → Int32} (C0 : lw_At p s m meth c b 6 xs) {E : (Nat → Prop) → State → Prop} (hO : bw_Ok E) {G : va_G} {cI cB cJ cN cW : ClassId} (hK : va_K G vwCl (bw_kt cI cB cJ cN cW) s) (hE : E (fun q : Nat => s.heap.size ≤ q) s) (x y o : Nat) (q qm : Nat → Nat) (f : Nat → Nat → Int32) {H : Heap} {locs : List Loc} (hP : va_P G vwCl (lc_W cI cB cJ x y o q qm f) H) (hD : va_D (fun q : Nat => s.heap.size ≤ q) (lc_W cI cB cJ x y o q qm f)) (hS : va_S (fun q : Nat => s.heap.size ≤ q) s.heap H locs) {ls : Array Slot} (hl : lv_has ls 7 [(4, .int 0), (3, .ref o), (2, .ref y), (1, .ref x), (0, .ref b)]) : W p l e room_1 s m #[Value.ref b] below meth c H locs 163 8733 (lw_Z below #[Value.ref b] s) (F0 m 1191 ls []) := by
  have C1 := C0
  obtain ⟨hx, hb, hr, hml, hown, hts, hX, hbl, hlocks, hgv⟩ := C0
  have hA : ∀ q : Nat, s.heap.size ≤ q → (fun q : Nat => s.heap.size ≤ q) q := fun _ h => h
  have hbA : ¬ (fun q : Nat => s.heap.size ≤ q) b := Nat.not_le.mpr hbl
  have F : CallFix p m c cL_law 7 s #[Value.ref b] bw_T RL := ⟨hx, hb, hml, hown, fun w h => hts w (List.mem_filter.mp h).1⟩
  have hP := bw_subP (isC := [0, 10, 14]) (wc := [(x, .inr (8, [.int 0, .int 0, .ref (q 0), .ref (q 1), .ref (q 2), .ref (q 3), .ref (q 4), .ref (q 5), .ref (q 6), .ref (q 7), .ref (q 8), .ref (q 9), .ref (q 10), .ref (q 11)])), ((q 2), .inr (2, [.int 0, .ref (q 40), .ref (q 41), .ref (q 42), .ref (q 43), .ref (q 44), .ref (q 45), .ref (q 46), .ref (q 47)])), (y, .inr (9, [.int 0, .ref (qm 0), .int 0, .int 0, .int 0, .int 0, .int 0, .int 0, .int 0, .int 0, .int (-1), .int 0, .ref (qm 1), .int 0, .int 0, .ref (qm 2), .ref (qm 3), .ref (qm 4), .ref (qm 5), .ref (qm 6), .ref (qm 7), .ref (qm 8), .ref (qm 9), .ref (qm 10), .ref (qm 11), .ref (qm 12), .ref (qm 13), .ref (qm 14), .ref (qm 15), .ref (qm 16), .int 0, .int 0, .int 0, .int 0, .int 0, .int 0, .ref (qm 17), .ref (qm 18), .ref (qm 19), .ref (qm 20)]))]) hP rfl
  have hD := hD.sub (ws' := [(x, .inr (8, [.int 0, .int 0, .ref (q 0), .ref (q 1), .ref (q 2), .ref (q 3), .ref (q 4), .ref (q 5), .ref (q 6), .ref (q 7), .ref (q 8), .ref (q 9), .ref (q 10), .ref (q 11)])), ((q 2), .inr (2, [.int 0, .ref (q 40), .ref (q 41), .ref (q 42), .ref (q 43), .ref (q 44), .ref (q 45), .ref (q 46), .ref (q 47)])), (y, .inr (9, [.int 0, .ref (qm 0), .int 0, .int 0, .int 0, .int 0, .int 0, .int 0, .int 0, .int 0, .int (-1), .int 0, .ref (qm 1), .int 0, .int 0, .ref (qm 2), .ref (qm 3), .ref (qm 4), .ref (qm 5), .ref (qm 6), .ref (qm 7), .ref (qm 8), .ref (qm 9), .ref (qm 10), .ref (qm 11), .ref (qm 12), .ref (qm 13), .ref (qm 14), .ref (qm 15), .ref (qm 16), .int 0, .int 0, .int 0, .int 0, .int 0, .int 0, .ref (qm 17), .ref (qm 18), .ref (qm 19), .ref (qm 20)]))]) [0, 10, 14] (by decide) rfl
  refine lv_aload_n hx hb dL_law_1191 rfl (lv_at hl 3 rfl) ?_
  refine lv_aload_n hx hb dL_law_1192 rfl (lv_at hl 4 rfl) ?_
  refine lv_iload hx hb dL_law_1193 (lv_at hl 0 rfl) ?_
  refine lv_iconst (v := 1) hx hb dL_law_1195 (by decide) ?_
  refine r_iadd (v := 1) F dL_law_1196 (by decide) ?_
  refine va_sld hx hb hX hbl hbA hS (bw_vin (by decide)) dL_law_1197 ?_
  refine lv_aload_n hx hb dL_law_1198 rfl (lv_at hl 4 rfl) ?_
  refine lv_iload hx hb dL_law_1199 (lv_at hl 0 rfl) ?_
  refine lv_iconst (v := 2) hx hb dL_law_1201 (by decide) ?_
  refine r_iadd (v := 2) F dL_law_1202 (by decide) ?_
  refine va_sld hx hb hX hbl hbA hS (bw_vin (by decide)) dL_law_1203 ?_
  refine lv_aload_n hx hb dL_law_1204 rfl (lv_at hl 4 rfl) ?_
  refine lv_iload hx hb dL_law_1205 (lv_at hl 0 rfl) ?_
  refine lv_iconst (v := 3) hx hb dL_law_1207 (by decide) ?_
  refine r_iadd (v := 3) F dL_law_1208 (by decide) ?_
  refine va_sld hx hb hX hbl hbA hS (bw_vin (by decide)) dL_law_1209 ?_
  refine r_callVi (As := [.int (xs (Int32.toNatClampNeg 1)), .int (xs (Int32.toNatClampNeg 2)), .int (xs (Int32.toNatClampNeg 3))]) (rest := []) (wr := [(y, .inr (9, [.int 0, .ref (qm 0), .int 0, .int 0, .int 0, .int 0, .int 0, .int 0, .int 0, .int 0, .int (-1), .int 0, .ref (qm 1), .int 0, .int 0, .ref (qm 2), .ref (qm 3), .ref (qm 4), .ref (qm 5), .ref (qm 6), .ref (qm 7), .ref (qm 8), .ref (qm 9), .ref (qm 10), .ref (qm 11), .ref (qm 12), .ref (qm 13), .ref (qm 14), .ref (qm 15), .ref (qm 16), .int 0, .int 0, .int 0, .int 0, .int 0, .int 0, .ref (qm 17), .ref (qm 18), .ref (qm 19), .ref (qm 20)]))]) F hK hP hD hS hA hO hE (c_X8_unfair hO x q (xs (Int32.toNatClampNeg 1)) (xs (Int32.toNatClampNeg 2)) (xs (Int32.toNatClampNeg 3))) k_974 kv_X8_unfair 3 rfl (by decide +kernel) ⟨Nat.le_of_ble_eq_true rfl, Nat.le_of_ble_eq_true rfl⟩ [0, 1] [2] rfl rfl (by decide) (by decide) (by decide) 0 8 rfl rfl rfl hl.1 rfl (Nat.le_of_ble_eq_true rfl) dL_law_1210 ⟨Nat.le_of_ble_eq_true rfl, Nat.le_of_ble_eq_true rfl⟩ (w1 := fun u1 => [(y, .inr (9, [.int 0, .ref (qm 0), .int 0, .int 0, .int 0, .int 0, .int 0, .int 0, .int 0, .int 0, .int (-1), .int 0, .ref (qm 1), .int 0, .int 0, .ref (qm 2), .ref (qm 3), .ref (qm 4), .ref (qm 5), .ref (qm 6), .ref (qm 7), .ref (qm 8), .ref (qm 9), .ref (qm 10), .ref (qm 11), .ref (qm 12), .ref (qm 13), .ref (qm 14), .ref (qm 15), .ref (qm 16), .int 0, .int 0, .int 0, .int 0, .int 0, .int 0, .ref (qm 17), .ref (qm 18), .ref (qm 19), .ref (qm 20)]))]) (fun _ => rfl) (fun r2 u1 H locs hp hP hD hS => ?_)
  subst hp
  refine lv_aload_n hx hb dL_law_1213 rfl (lv_at hl 2 rfl) ?_
  refine lv_aload_n hx hb dL_law_1214 rfl (lv_at hl 4 rfl) ?_
  refine lv_iload hx hb dL_law_1215 (lv_at hl 0 rfl) ?_
  refine lv_iconst (v := 1) hx hb dL_law_1217 (by decide) ?_
  refine r_iadd (v := 1) F dL_law_1218 (by decide) ?_
  refine va_sld hx hb hX hbl hbA hS (bw_vin (by decide)) dL_law_1219 ?_
  refine lv_aload_n hx hb dL_law_1220 rfl (lv_at hl 4 rfl) ?_
  refine lv_iload hx hb dL_law_1221 (lv_at hl 0 rfl) ?_
  refine lv_iconst (v := 2) hx hb dL_law_1223 (by decide) ?_
  refine r_iadd (v := 2) F dL_law_1224 (by decide) ?_
  refine va_sld hx hb hX hbl hbA hS (bw_vin (by decide)) dL_law_1225 ?_
  refine lv_aload_n hx hb dL_law_1226 rfl (lv_at hl 4 rfl) ?_
  refine lv_iload hx hb dL_law_1227 (lv_at hl 0 rfl) ?_
  refine lv_iconst (v := 3) hx hb dL_law_1229 (by decide) ?_
  refine r_iadd (v := 3) F dL_law_1230 (by decide) ?_
  refine va_sld hx hb hX hbl hbA hS (bw_vin (by decide)) dL_law_1231 ?_
  refine r_callVi (As := [.int (xs (Int32.toNatClampNeg 1)), .int (xs (Int32.toNatClampNeg 2)), .int (xs (Int32.toNatClampNeg 3))]) (rest := [.int (-1)]) (wr := []) F hK hP hD hS hA hO hE (c_X9_unfair hO y qm (xs (Int32.toNatClampNeg 1)) (xs (Int32.toNatClampNeg 2)) (xs (Int32.toNatClampNeg 3))) k_1661 kv_X9_unfair 3 rfl (by decide +kernel) ⟨Nat.le_of_ble_eq_true rfl, Nat.le_of_ble_eq_true rfl⟩ [0] [] rfl rfl (by decide) (by decide) (by decide) 0 9 rfl rfl rfl hl.1 rfl (Nat.le_of_ble_eq_true rfl) dL_law_1232 ⟨Nat.le_of_ble_eq_true rfl, Nat.le_of_ble_eq_true rfl⟩ (w1 := fun u3 => []) (fun _ => rfl) (fun r4 u3 H locs hp hP hD hS => ?_)
  subst hp
  refine lv_icmp_eq (tgt := 1483) hx hb dL_law_1235 (by decide) (fun _ => ?_) (fun h9 => absurd rfl h9)
  exact lc_end C1 hS (Nat.le_of_ble_eq_true rfl) (Nat.le_of_ble_eq_true rfl) (lv_sub hl [0, 4] rfl)
theorem dL_law_1240 : decode cL_law 1240 = .ok (.aload_n 1, 1) := by decide +kernel
theorem dL_law_1241 : decode cL_law 1241 = .ok (.aload_n 0, 1) := by decide +kernel
theorem dL_law_1242 : decode cL_law 1242 = .ok (.iload 4, 2) := by decide +kernel
theorem dL_law_1244 : decode cL_law 1244 = .ok (.iconst 1, 1) := by decide +kernel
theorem dL_law_1245 : decode cL_law 1245 = .ok (.iadd, 1) := by decide +kernel
theorem dL_law_1246 : decode cL_law 1246 = .ok (.iaload, 1) := by decide +kernel
theorem dL_law_1247 : decode cL_law 1247 = .ok (.invokevirtual 170, 3) := by decide +kernel
theorem k_986 : Cond.methodLink RL 170 yX8_fold ∈ bw_T := bw_m 986 (by decide +kernel) rfl
theorem kv_X8_fold : bw_KV RX8 yX8_fold (Cond.code yX8_fold cX8_fold 4 (some .int)) := ⟨bw_m 987 (by decide +kernel) rfl, bw_m 988 (by decide +kernel) rfl, bw_m 94 (by decide +kernel) rfl, bw_m 989 (by decide +kernel) rfl⟩
theorem dL_law_1250 : decode cL_law 1250 = .ok (.aload_n 2, 1) := by decide +kernel
theorem dL_law_1251 : decode cL_law 1251 = .ok (.aload_n 0, 1) := by decide +kernel
theorem dL_law_1252 : decode cL_law 1252 = .ok (.iload 4, 2) := by decide +kernel
theorem dL_law_1254 : decode cL_law 1254 = .ok (.iconst 1, 1) := by decide +kernel
theorem dL_law_1255 : decode cL_law 1255 = .ok (.iadd, 1) := by decide +kernel
theorem dL_law_1256 : decode cL_law 1256 = .ok (.iaload, 1) := by decide +kernel
theorem dL_law_1257 : decode cL_law 1257 = .ok (.invokevirtual 173, 3) := by decide +kernel
theorem k_1669 : Cond.methodLink RL 173 yX9_fold ∈ bw_T := bw_m 1669 (by decide +kernel) rfl
theorem kv_X9_fold : bw_KV RX9 yX9_fold (Cond.code yX9_fold cX9_fold 4 (some .int)) := ⟨bw_m 1670 (by decide +kernel) rfl, bw_m 1671 (by decide +kernel) rfl, bw_m 107 (by decide +kernel) rfl, bw_m 1672 (by decide +kernel) rfl⟩
theorem dL_law_1260 : decode cL_law 1260 = .ok (.if_icmp .eq 223, 3) := by decide +kernel
set_option maxRecDepth 100000 in
set_option maxHeartbeats 4000000 in
theorem lc_36 {p : Program} {l : Launch} {e : Env} {s : State} {m : MethodId} {below : List Frame} {meth : Method} {c : Code} {b : Nat} {xs : Nat → Int32} (C0 : lw_At p s m meth c b 6 xs) {E : (Nat → Prop) → State → Prop} (hO : bw_Ok E) {G : va_G} {cI cB cJ cN cW : ClassId} (hK : va_K G vwCl (bw_kt cI cB cJ cN cW) s) (hE : E (fun q : Nat => s.heap.size ≤ q) s) (x y o : Nat) (q qm : Nat → Nat) (f : Nat → Nat → Int32) {H : Heap} {locs : List Loc} (hP : va_P G vwCl (lc_W cI cB cJ x y o q qm f) H) (hD : va_D (fun q : Nat => s.heap.size ≤ q) (lc_W cI cB cJ x y o q qm f)) (hS : va_S (fun q : Nat => s.heap.size ≤ q) s.heap H locs) {ls : Array Slot} (hl : lv_has ls 7 [(4, .int 0), (3, .ref o), (2, .ref y), (1, .ref x), (0, .ref b)]) : W p l e room_1 s m #[Value.ref b] below meth c H locs 163 8733 (lw_Z below #[Value.ref b] s) (F0 m 1240 ls []) := by
  have C1 := C0
  obtain ⟨hx, hb, hr, hml, hown, hts, hX, hbl, hlocks, hgv⟩ := C0
  have hA : ∀ q : Nat, s.heap.size ≤ q → (fun q : Nat => s.heap.size ≤ q) q := fun _ h => h
  have hbA : ¬ (fun q : Nat => s.heap.size ≤ q) b := Nat.not_le.mpr hbl
  have F : CallFix p m c cL_law 7 s #[Value.ref b] bw_T RL := ⟨hx, hb, hml, hown, fun w h => hts w (List.mem_filter.mp h).1⟩
  have hP := bw_subP (isC := [0, 14]) (wc := [(x, .inr (8, [.int 0, .int 0, .ref (q 0), .ref (q 1), .ref (q 2), .ref (q 3), .ref (q 4), .ref (q 5), .ref (q 6), .ref (q 7), .ref (q 8), .ref (q 9), .ref (q 10), .ref (q 11)])), (y, .inr (9, [.int 0, .ref (qm 0), .int 0, .int 0, .int 0, .int 0, .int 0, .int 0, .int 0, .int 0, .int (-1), .int 0, .ref (qm 1), .int 0, .int 0, .ref (qm 2), .ref (qm 3), .ref (qm 4), .ref (qm 5), .ref (qm 6), .ref (qm 7), .ref (qm 8), .ref (qm 9), .ref (qm 10), .ref (qm 11), .ref (qm 12), .ref (qm 13), .ref (qm 14), .ref (qm 15), .ref (qm 16), .int 0, .int 0, .int 0, .int 0, .int 0, .int 0, .ref (qm 17), .ref (qm 18), .ref (qm 19), .ref (qm 20)]))]) hP rfl
  have hD := hD.sub (ws' := [(x, .inr (8, [.int 0, .int 0, .ref (q 0), .ref (q 1), .ref (q 2), .ref (q 3), .ref (q 4), .ref (q 5), .ref (q 6), .ref (q 7), .ref (q 8), .ref (q 9), .ref (q 10), .ref (q 11)])), (y, .inr (9, [.int 0, .ref (qm 0), .int 0, .int 0, .int 0, .int 0, .int 0, .int 0, .int 0, .int 0, .int (-1), .int 0, .ref (qm 1), .int 0, .int 0, .ref (qm 2), .ref (qm 3), .ref (qm 4), .ref (qm 5), .ref (qm 6), .ref (qm 7), .ref (qm 8), .ref (qm 9), .ref (qm 10), .ref (qm 11), .ref (qm 12), .ref (qm 13), .ref (qm 14), .ref (qm 15), .ref (qm 16), .int 0, .int 0, .int 0, .int 0, .int 0, .int 0, .ref (qm 17), .ref (qm 18), .ref (qm 19), .ref (qm 20)]))]) [0, 14] (by decide) rfl
  refine lv_aload_n hx hb dL_law_1240 rfl (lv_at hl 3 rfl) ?_
  refine lv_aload_n hx hb dL_law_1241 rfl (lv_at hl 4 rfl) ?_
  refine lv_iload hx hb dL_law_1242 (lv_at hl 0 rfl) ?_
  refine lv_iconst (v := 1) hx hb dL_law_1244 (by decide) ?_
  refine r_iadd (v := 1) F dL_law_1245 (by decide) ?_
  refine va_sld hx hb hX hbl hbA hS (bw_vin (by decide)) dL_law_1246 ?_
  refine r_callVi (As := [.int (xs (Int32.toNatClampNeg 1))]) (rest := []) (wr := [(y, .inr (9, [.int 0, .ref (qm 0), .int 0, .int 0, .int 0, .int 0, .int 0, .int 0, .int 0, .int 0, .int (-1), .int 0, .ref (qm 1), .int 0, .int 0, .ref (qm 2), .ref (qm 3), .ref (qm 4), .ref (qm 5), .ref (qm 6), .ref (qm 7), .ref (qm 8), .ref (qm 9), .ref (qm 10), .ref (qm 11), .ref (qm 12), .ref (qm 13), .ref (qm 14), .ref (qm 15), .ref (qm 16), .int 0, .int 0, .int 0, .int 0, .int 0, .int 0, .ref (qm 17), .ref (qm 18), .ref (qm 19), .ref (qm 20)]))]) F hK hP hD hS hA hO hE (c_X8_fold hO x q (xs (Int32.toNatClampNeg 1))) k_986 kv_X8_fold 1 rfl (by decide +kernel) ⟨Nat.le_of_ble_eq_true rfl, Nat.le_of_ble_eq_true rfl⟩ [0] [1] rfl rfl (by decide) (by decide) (by decide) 0 8 rfl rfl rfl hl.1 rfl (Nat.le_of_ble_eq_true rfl) dL_law_1247 ⟨Nat.le_of_ble_eq_true rfl, Nat.le_of_ble_eq_true rfl⟩ (w1 := fun u1 => [(y, .inr (9, [.int 0, .ref (qm 0), .int 0, .int 0, .int 0, .int 0, .int 0, .int 0, .int 0, .int 0, .int (-1), .int 0, .ref (qm 1), .int 0, .int 0, .ref (qm 2), .ref (qm 3), .ref (qm 4), .ref (qm 5), .ref (qm 6), .ref (qm 7), .ref (qm 8), .ref (qm 9), .ref (qm 10), .ref (qm 11), .ref (qm 12), .ref (qm 13), .ref (qm 14), .ref (qm 15), .ref (qm 16), .int 0, .int 0, .int 0, .int 0, .int 0, .int 0, .ref (qm 17), .ref (qm 18), .ref (qm 19), .ref (qm 20)]))]) (fun _ => rfl) (fun r2 u1 H locs hp hP hD hS => ?_)
  subst hp
  refine lv_aload_n hx hb dL_law_1250 rfl (lv_at hl 2 rfl) ?_
  refine lv_aload_n hx hb dL_law_1251 rfl (lv_at hl 4 rfl) ?_
  refine lv_iload hx hb dL_law_1252 (lv_at hl 0 rfl) ?_
  refine lv_iconst (v := 1) hx hb dL_law_1254 (by decide) ?_
  refine r_iadd (v := 1) F dL_law_1255 (by decide) ?_
  refine va_sld hx hb hX hbl hbA hS (bw_vin (by decide)) dL_law_1256 ?_
  refine r_callVi (As := [.int (xs (Int32.toNatClampNeg 1))]) (rest := [.int (-1)]) (wr := []) F hK hP hD hS hA hO hE (c_X9_fold hO y qm (xs (Int32.toNatClampNeg 1))) k_1669 kv_X9_fold 1 rfl (by decide +kernel) ⟨Nat.le_of_ble_eq_true rfl, Nat.le_of_ble_eq_true rfl⟩ [0] [] rfl rfl (by decide) (by decide) (by decide) 0 9 rfl rfl rfl hl.1 rfl (Nat.le_of_ble_eq_true rfl) dL_law_1257 ⟨Nat.le_of_ble_eq_true rfl, Nat.le_of_ble_eq_true rfl⟩ (w1 := fun u3 => []) (fun _ => rfl) (fun r4 u3 H locs hp hP hD hS => ?_)
  subst hp
  refine lv_icmp_eq (tgt := 1483) hx hb dL_law_1260 (by decide) (fun _ => ?_) (fun h9 => absurd rfl h9)
  exact lc_end C1 hS (Nat.le_of_ble_eq_true rfl) (Nat.le_of_ble_eq_true rfl) (lv_sub hl [0, 4] rfl)
theorem dL_law_1265 : decode cL_law 1265 = .ok (.aload_n 1, 1) := by decide +kernel
theorem dL_law_1266 : decode cL_law 1266 = .ok (.aload_n 0, 1) := by decide +kernel
theorem dL_law_1267 : decode cL_law 1267 = .ok (.iload 4, 2) := by decide +kernel
theorem dL_law_1269 : decode cL_law 1269 = .ok (.iconst 1, 1) := by decide +kernel
theorem dL_law_1270 : decode cL_law 1270 = .ok (.iadd, 1) := by decide +kernel
theorem dL_law_1271 : decode cL_law 1271 = .ok (.iaload, 1) := by decide +kernel
theorem dL_law_1272 : decode cL_law 1272 = .ok (.invokevirtual 174, 3) := by decide +kernel
theorem k_994 : Cond.methodLink RL 174 yX8_same ∈ bw_T := bw_m 994 (by decide +kernel) rfl
theorem kv_X8_same : bw_KV RX8 yX8_same (Cond.code yX8_same cX8_same 2 (some .int)) := ⟨bw_m 995 (by decide +kernel) rfl, bw_m 996 (by decide +kernel) rfl, bw_m 94 (by decide +kernel) rfl, bw_m 997 (by decide +kernel) rfl⟩
theorem dL_law_1275 : decode cL_law 1275 = .ok (.aload_n 2, 1) := by decide +kernel
theorem dL_law_1276 : decode cL_law 1276 = .ok (.aload_n 0, 1) := by decide +kernel
theorem dL_law_1277 : decode cL_law 1277 = .ok (.iload 4, 2) := by decide +kernel
theorem dL_law_1279 : decode cL_law 1279 = .ok (.iconst 1, 1) := by decide +kernel
theorem dL_law_1280 : decode cL_law 1280 = .ok (.iadd, 1) := by decide +kernel
theorem dL_law_1281 : decode cL_law 1281 = .ok (.iaload, 1) := by decide +kernel
theorem dL_law_1282 : decode cL_law 1282 = .ok (.invokevirtual 177, 3) := by decide +kernel
theorem k_1677 : Cond.methodLink RL 177 yX9_same ∈ bw_T := bw_m 1677 (by decide +kernel) rfl
theorem kv_X9_same : bw_KV RX9 yX9_same (Cond.code yX9_same cX9_same 7 (some .int)) := ⟨bw_m 1678 (by decide +kernel) rfl, bw_m 1679 (by decide +kernel) rfl, bw_m 107 (by decide +kernel) rfl, bw_m 1680 (by decide +kernel) rfl⟩
theorem dL_law_1285 : decode cL_law 1285 = .ok (.if_icmp .eq 198, 3) := by decide +kernel
set_option maxRecDepth 100000 in
set_option maxHeartbeats 4000000 in
theorem lc_37 {p : Program} {l : Launch} {e : Env} {s : State} {m : MethodId} {below : List Frame} {meth : Method} {c : Code} {b : Nat} {xs : Nat → Int32} (C0 : lw_At p s m meth c b 6 xs) {E : (Nat → Prop) → State → Prop} (hO : bw_Ok E) {G : va_G} {cI cB cJ cN cW : ClassId} (hK : va_K G vwCl (bw_kt cI cB cJ cN cW) s) (hE : E (fun q : Nat => s.heap.size ≤ q) s) (x y o : Nat) (q qm : Nat → Nat) (f : Nat → Nat → Int32) {H : Heap} {locs : List Loc} (hP : va_P G vwCl (lc_W cI cB cJ x y o q qm f) H) (hD : va_D (fun q : Nat => s.heap.size ≤ q) (lc_W cI cB cJ x y o q qm f)) (hS : va_S (fun q : Nat => s.heap.size ≤ q) s.heap H locs) {ls : Array Slot} (hl : lv_has ls 7 [(4, .int 0), (3, .ref o), (2, .ref y), (1, .ref x), (0, .ref b)]) : W p l e room_1 s m #[Value.ref b] below meth c H locs 163 8733 (lw_Z below #[Value.ref b] s) (F0 m 1265 ls []) := by
  have C1 := C0
  obtain ⟨hx, hb, hr, hml, hown, hts, hX, hbl, hlocks, hgv⟩ := C0
  have hA : ∀ q : Nat, s.heap.size ≤ q → (fun q : Nat => s.heap.size ≤ q) q := fun _ h => h
  have hbA : ¬ (fun q : Nat => s.heap.size ≤ q) b := Nat.not_le.mpr hbl
  have F : CallFix p m c cL_law 7 s #[Value.ref b] bw_T RL := ⟨hx, hb, hml, hown, fun w h => hts w (List.mem_filter.mp h).1⟩
  have hP := bw_subP (isC := [0, 14]) (wc := [(x, .inr (8, [.int 0, .int 0, .ref (q 0), .ref (q 1), .ref (q 2), .ref (q 3), .ref (q 4), .ref (q 5), .ref (q 6), .ref (q 7), .ref (q 8), .ref (q 9), .ref (q 10), .ref (q 11)])), (y, .inr (9, [.int 0, .ref (qm 0), .int 0, .int 0, .int 0, .int 0, .int 0, .int 0, .int 0, .int 0, .int (-1), .int 0, .ref (qm 1), .int 0, .int 0, .ref (qm 2), .ref (qm 3), .ref (qm 4), .ref (qm 5), .ref (qm 6), .ref (qm 7), .ref (qm 8), .ref (qm 9), .ref (qm 10), .ref (qm 11), .ref (qm 12), .ref (qm 13), .ref (qm 14), .ref (qm 15), .ref (qm 16), .int 0, .int 0, .int 0, .int 0, .int 0, .int 0, .ref (qm 17), .ref (qm 18), .ref (qm 19), .ref (qm 20)]))]) hP rfl
  have hD := hD.sub (ws' := [(x, .inr (8, [.int 0, .int 0, .ref (q 0), .ref (q 1), .ref (q 2), .ref (q 3), .ref (q 4), .ref (q 5), .ref (q 6), .ref (q 7), .ref (q 8), .ref (q 9), .ref (q 10), .ref (q 11)])), (y, .inr (9, [.int 0, .ref (qm 0), .int 0, .int 0, .int 0, .int 0, .int 0, .int 0, .int 0, .int 0, .int (-1), .int 0, .ref (qm 1), .int 0, .int 0, .ref (qm 2), .ref (qm 3), .ref (qm 4), .ref (qm 5), .ref (qm 6), .ref (qm 7), .ref (qm 8), .ref (qm 9), .ref (qm 10), .ref (qm 11), .ref (qm 12), .ref (qm 13), .ref (qm 14), .ref (qm 15), .ref (qm 16), .int 0, .int 0, .int 0, .int 0, .int 0, .int 0, .ref (qm 17), .ref (qm 18), .ref (qm 19), .ref (qm 20)]))]) [0, 14] (by decide) rfl
  refine lv_aload_n hx hb dL_law_1265 rfl (lv_at hl 3 rfl) ?_
  refine lv_aload_n hx hb dL_law_1266 rfl (lv_at hl 4 rfl) ?_
  refine lv_iload hx hb dL_law_1267 (lv_at hl 0 rfl) ?_
  refine lv_iconst (v := 1) hx hb dL_law_1269 (by decide) ?_
  refine r_iadd (v := 1) F dL_law_1270 (by decide) ?_
  refine va_sld hx hb hX hbl hbA hS (bw_vin (by decide)) dL_law_1271 ?_
  refine r_callVi (As := [.int (xs (Int32.toNatClampNeg 1))]) (rest := []) (wr := [(y, .inr (9, [.int 0, .ref (qm 0), .int 0, .int 0, .int 0, .int 0, .int 0, .int 0, .int 0, .int 0, .int (-1), .int 0, .ref (qm 1), .int 0, .int 0, .ref (qm 2), .ref (qm 3), .ref (qm 4), .ref (qm 5), .ref (qm 6), .ref (qm 7), .ref (qm 8), .ref (qm 9), .ref (qm 10), .ref (qm 11), .ref (qm 12), .ref (qm 13), .ref (qm 14), .ref (qm 15), .ref (qm 16), .int 0, .int 0, .int 0, .int 0, .int 0, .int 0, .ref (qm 17), .ref (qm 18), .ref (qm 19), .ref (qm 20)]))]) F hK hP hD hS hA hO hE (c_X8_same hO x q (xs (Int32.toNatClampNeg 1))) k_994 kv_X8_same 1 rfl (by decide +kernel) ⟨Nat.le_of_ble_eq_true rfl, Nat.le_of_ble_eq_true rfl⟩ [0] [1] rfl rfl (by decide) (by decide) (by decide) 0 8 rfl rfl rfl hl.1 rfl (Nat.le_of_ble_eq_true rfl) dL_law_1272 ⟨Nat.le_of_ble_eq_true rfl, Nat.le_of_ble_eq_true rfl⟩ (w1 := fun u1 => [(y, .inr (9, [.int 0, .ref (qm 0), .int 0, .int 0, .int 0, .int 0, .int 0, .int 0, .int 0, .int 0, .int (-1), .int 0, .ref (qm 1), .int 0, .int 0, .ref (qm 2), .ref (qm 3), .ref (qm 4), .ref (qm 5), .ref (qm 6), .ref (qm 7), .ref (qm 8), .ref (qm 9), .ref (qm 10), .ref (qm 11), .ref (qm 12), .ref (qm 13), .ref (qm 14), .ref (qm 15), .ref (qm 16), .int 0, .int 0, .int 0, .int 0, .int 0, .int 0, .ref (qm 17), .ref (qm 18), .ref (qm 19), .ref (qm 20)]))]) (fun _ => rfl) (fun r2 u1 H locs hp hP hD hS => ?_)
  subst hp
  refine lv_aload_n hx hb dL_law_1275 rfl (lv_at hl 2 rfl) ?_
  refine lv_aload_n hx hb dL_law_1276 rfl (lv_at hl 4 rfl) ?_
  refine lv_iload hx hb dL_law_1277 (lv_at hl 0 rfl) ?_
  refine lv_iconst (v := 1) hx hb dL_law_1279 (by decide) ?_
  refine r_iadd (v := 1) F dL_law_1280 (by decide) ?_
  refine va_sld hx hb hX hbl hbA hS (bw_vin (by decide)) dL_law_1281 ?_
  refine r_callVi (As := [.int (xs (Int32.toNatClampNeg 1))]) (rest := [.int (-1)]) (wr := []) F hK hP hD hS hA hO hE (c_X9_same hO y qm (xs (Int32.toNatClampNeg 1))) k_1677 kv_X9_same 1 rfl (by decide +kernel) ⟨Nat.le_of_ble_eq_true rfl, Nat.le_of_ble_eq_true rfl⟩ [0] [] rfl rfl (by decide) (by decide) (by decide) 0 9 rfl rfl rfl hl.1 rfl (Nat.le_of_ble_eq_true rfl) dL_law_1282 ⟨Nat.le_of_ble_eq_true rfl, Nat.le_of_ble_eq_true rfl⟩ (w1 := fun u3 => []) (fun _ => rfl) (fun r4 u3 H locs hp hP hD hS => ?_)
  subst hp
  refine lv_icmp_eq (tgt := 1483) hx hb dL_law_1285 (by decide) (fun _ => ?_) (fun h9 => absurd rfl h9)
  exact lc_end C1 hS (Nat.le_of_ble_eq_true rfl) (Nat.le_of_ble_eq_true rfl) (lv_sub hl [0, 4] rfl)
theorem dL_law_1290 : decode cL_law 1290 = .ok (.aload_n 1, 1) := by decide +kernel
theorem dL_law_1291 : decode cL_law 1291 = .ok (.aload_n 0, 1) := by decide +kernel
theorem dL_law_1292 : decode cL_law 1292 = .ok (.iload 4, 2) := by decide +kernel
theorem dL_law_1294 : decode cL_law 1294 = .ok (.iconst 1, 1) := by decide +kernel
theorem dL_law_1295 : decode cL_law 1295 = .ok (.iadd, 1) := by decide +kernel
theorem dL_law_1296 : decode cL_law 1296 = .ok (.iaload, 1) := by decide +kernel
theorem dL_law_1297 : decode cL_law 1297 = .ok (.invokevirtual 178, 3) := by decide +kernel
theorem k_1002 : Cond.methodLink RL 178 yX8_least ∈ bw_T := bw_m 1002 (by decide +kernel) rfl
theorem kv_X8_least : bw_KV RX8 yX8_least (Cond.code yX8_least cX8_least 2 (some .int)) := ⟨bw_m 1003 (by decide +kernel) rfl, bw_m 1004 (by decide +kernel) rfl, bw_m 94 (by decide +kernel) rfl, bw_m 1005 (by decide +kernel) rfl⟩
theorem dL_law_1300 : decode cL_law 1300 = .ok (.aload_n 2, 1) := by decide +kernel
theorem dL_law_1301 : decode cL_law 1301 = .ok (.aload_n 0, 1) := by decide +kernel
theorem dL_law_1302 : decode cL_law 1302 = .ok (.iload 4, 2) := by decide +kernel
theorem dL_law_1304 : decode cL_law 1304 = .ok (.iconst 1, 1) := by decide +kernel
theorem dL_law_1305 : decode cL_law 1305 = .ok (.iadd, 1) := by decide +kernel
theorem dL_law_1306 : decode cL_law 1306 = .ok (.iaload, 1) := by decide +kernel
theorem dL_law_1307 : decode cL_law 1307 = .ok (.invokevirtual 181, 3) := by decide +kernel
theorem k_1681 : Cond.methodLink RL 181 yX9_least ∈ bw_T := bw_m 1681 (by decide +kernel) rfl
theorem kv_X9_least : bw_KV RX9 yX9_least (Cond.code yX9_least cX9_least 3 (some .int)) := ⟨bw_m 1682 (by decide +kernel) rfl, bw_m 1683 (by decide +kernel) rfl, bw_m 107 (by decide +kernel) rfl, bw_m 1684 (by decide +kernel) rfl⟩
theorem dL_law_1310 : decode cL_law 1310 = .ok (.if_icmp .eq 173, 3) := by decide +kernel
set_option maxRecDepth 100000 in
set_option maxHeartbeats 4000000 in
theorem lc_38 {p : Program} {l : Launch} {e : Env} {s : State} {m : MethodId} {below : List Frame} {meth : Method} {c : Code} {b : Nat} {xs : Nat → Int32} (C0 : lw_At p s m meth c b 6 xs) {E : (Nat → Prop) → State → Prop} (hO : bw_Ok E) {G : va_G} {cI cB cJ cN cW : ClassId} (hK : va_K G vwCl (bw_kt cI cB cJ cN cW) s) (hE : E (fun q : Nat => s.heap.size ≤ q) s) (x y o : Nat) (q qm : Nat → Nat) (f : Nat → Nat → Int32) {H : Heap} {locs : List Loc} (hP : va_P G vwCl (lc_W cI cB cJ x y o q qm f) H) (hD : va_D (fun q : Nat => s.heap.size ≤ q) (lc_W cI cB cJ x y o q qm f)) (hS : va_S (fun q : Nat => s.heap.size ≤ q) s.heap H locs) {ls : Array Slot} (hl : lv_has ls 7 [(4, .int 0), (3, .ref o), (2, .ref y), (1, .ref x), (0, .ref b)]) : W p l e room_1 s m #[Value.ref b] below meth c H locs 163 8733 (lw_Z below #[Value.ref b] s) (F0 m 1290 ls []) := by
  have C1 := C0
  obtain ⟨hx, hb, hr, hml, hown, hts, hX, hbl, hlocks, hgv⟩ := C0
  have hA : ∀ q : Nat, s.heap.size ≤ q → (fun q : Nat => s.heap.size ≤ q) q := fun _ h => h
  have hbA : ¬ (fun q : Nat => s.heap.size ≤ q) b := Nat.not_le.mpr hbl
  have F : CallFix p m c cL_law 7 s #[Value.ref b] bw_T RL := ⟨hx, hb, hml, hown, fun w h => hts w (List.mem_filter.mp h).1⟩
  have hP := bw_subP (isC := [0, 14]) (wc := [(x, .inr (8, [.int 0, .int 0, .ref (q 0), .ref (q 1), .ref (q 2), .ref (q 3), .ref (q 4), .ref (q 5), .ref (q 6), .ref (q 7), .ref (q 8), .ref (q 9), .ref (q 10), .ref (q 11)])), (y, .inr (9, [.int 0, .ref (qm 0), .int 0, .int 0, .int 0, .int 0, .int 0, .int 0, .int 0, .int 0, .int (-1), .int 0, .ref (qm 1), .int 0, .int 0, .ref (qm 2), .ref (qm 3), .ref (qm 4), .ref (qm 5), .ref (qm 6), .ref (qm 7), .ref (qm 8), .ref (qm 9), .ref (qm 10), .ref (qm 11), .ref (qm 12), .ref (qm 13), .ref (qm 14), .ref (qm 15), .ref (qm 16), .int 0, .int 0, .int 0, .int 0, .int 0, .int 0, .ref (qm 17), .ref (qm 18), .ref (qm 19), .ref (qm 20)]))]) hP rfl
  have hD := hD.sub (ws' := [(x, .inr (8, [.int 0, .int 0, .ref (q 0), .ref (q 1), .ref (q 2), .ref (q 3), .ref (q 4), .ref (q 5), .ref (q 6), .ref (q 7), .ref (q 8), .ref (q 9), .ref (q 10), .ref (q 11)])), (y, .inr (9, [.int 0, .ref (qm 0), .int 0, .int 0, .int 0, .int 0, .int 0, .int 0, .int 0, .int 0, .int (-1), .int 0, .ref (qm 1), .int 0, .int 0, .ref (qm 2), .ref (qm 3), .ref (qm 4), .ref (qm 5), .ref (qm 6), .ref (qm 7), .ref (qm 8), .ref (qm 9), .ref (qm 10), .ref (qm 11), .ref (qm 12), .ref (qm 13), .ref (qm 14), .ref (qm 15), .ref (qm 16), .int 0, .int 0, .int 0, .int 0, .int 0, .int 0, .ref (qm 17), .ref (qm 18), .ref (qm 19), .ref (qm 20)]))]) [0, 14] (by decide) rfl
  refine lv_aload_n hx hb dL_law_1290 rfl (lv_at hl 3 rfl) ?_
  refine lv_aload_n hx hb dL_law_1291 rfl (lv_at hl 4 rfl) ?_
  refine lv_iload hx hb dL_law_1292 (lv_at hl 0 rfl) ?_
  refine lv_iconst (v := 1) hx hb dL_law_1294 (by decide) ?_
  refine r_iadd (v := 1) F dL_law_1295 (by decide) ?_
  refine va_sld hx hb hX hbl hbA hS (bw_vin (by decide)) dL_law_1296 ?_
  refine r_callVi (As := [.int (xs (Int32.toNatClampNeg 1))]) (rest := []) (wr := [(y, .inr (9, [.int 0, .ref (qm 0), .int 0, .int 0, .int 0, .int 0, .int 0, .int 0, .int 0, .int 0, .int (-1), .int 0, .ref (qm 1), .int 0, .int 0, .ref (qm 2), .ref (qm 3), .ref (qm 4), .ref (qm 5), .ref (qm 6), .ref (qm 7), .ref (qm 8), .ref (qm 9), .ref (qm 10), .ref (qm 11), .ref (qm 12), .ref (qm 13), .ref (qm 14), .ref (qm 15), .ref (qm 16), .int 0, .int 0, .int 0, .int 0, .int 0, .int 0, .ref (qm 17), .ref (qm 18), .ref (qm 19), .ref (qm 20)]))]) F hK hP hD hS hA hO hE (c_X8_least hO x q (xs (Int32.toNatClampNeg 1))) k_1002 kv_X8_least 1 rfl (by decide +kernel) ⟨Nat.le_of_ble_eq_true rfl, Nat.le_of_ble_eq_true rfl⟩ [0] [1] rfl rfl (by decide) (by decide) (by decide) 0 8 rfl rfl rfl hl.1 rfl (Nat.le_of_ble_eq_true rfl) dL_law_1297 ⟨Nat.le_of_ble_eq_true rfl, Nat.le_of_ble_eq_true rfl⟩ (w1 := fun u1 => [(y, .inr (9, [.int 0, .ref (qm 0), .int 0, .int 0, .int 0, .int 0, .int 0, .int 0, .int 0, .int 0, .int (-1), .int 0, .ref (qm 1), .int 0, .int 0, .ref (qm 2), .ref (qm 3), .ref (qm 4), .ref (qm 5), .ref (qm 6), .ref (qm 7), .ref (qm 8), .ref (qm 9), .ref (qm 10), .ref (qm 11), .ref (qm 12), .ref (qm 13), .ref (qm 14), .ref (qm 15), .ref (qm 16), .int 0, .int 0, .int 0, .int 0, .int 0, .int 0, .ref (qm 17), .ref (qm 18), .ref (qm 19), .ref (qm 20)]))]) (fun _ => rfl) (fun r2 u1 H locs hp hP hD hS => ?_)
  subst hp
  refine lv_aload_n hx hb dL_law_1300 rfl (lv_at hl 2 rfl) ?_
  refine lv_aload_n hx hb dL_law_1301 rfl (lv_at hl 4 rfl) ?_
  refine lv_iload hx hb dL_law_1302 (lv_at hl 0 rfl) ?_
  refine lv_iconst (v := 1) hx hb dL_law_1304 (by decide) ?_
  refine r_iadd (v := 1) F dL_law_1305 (by decide) ?_
  refine va_sld hx hb hX hbl hbA hS (bw_vin (by decide)) dL_law_1306 ?_
  refine r_callVi (As := [.int (xs (Int32.toNatClampNeg 1))]) (rest := [.int (-1)]) (wr := []) F hK hP hD hS hA hO hE (c_X9_least hO y qm (xs (Int32.toNatClampNeg 1))) k_1681 kv_X9_least 1 rfl (by decide +kernel) ⟨Nat.le_of_ble_eq_true rfl, Nat.le_of_ble_eq_true rfl⟩ [0] [] rfl rfl (by decide) (by decide) (by decide) 0 9 rfl rfl rfl hl.1 rfl (Nat.le_of_ble_eq_true rfl) dL_law_1307 ⟨Nat.le_of_ble_eq_true rfl, Nat.le_of_ble_eq_true rfl⟩ (w1 := fun u3 => []) (fun _ => rfl) (fun r4 u3 H locs hp hP hD hS => ?_)
  subst hp
  refine lv_icmp_eq (tgt := 1483) hx hb dL_law_1310 (by decide) (fun _ => ?_) (fun h9 => absurd rfl h9)
  exact lc_end C1 hS (Nat.le_of_ble_eq_true rfl) (Nat.le_of_ble_eq_true rfl) (lv_sub hl [0, 4] rfl)
theorem dL_law_1315 : decode cL_law 1315 = .ok (.aload_n 1, 1) := by decide +kernel
theorem dL_law_1316 : decode cL_law 1316 = .ok (.aload_n 0, 1) := by decide +kernel
theorem dL_law_1317 : decode cL_law 1317 = .ok (.iload 4, 2) := by decide +kernel
theorem dL_law_1319 : decode cL_law 1319 = .ok (.iconst 1, 1) := by decide +kernel
theorem dL_law_1320 : decode cL_law 1320 = .ok (.iadd, 1) := by decide +kernel
theorem dL_law_1321 : decode cL_law 1321 = .ok (.iaload, 1) := by decide +kernel
theorem dL_law_1322 : decode cL_law 1322 = .ok (.aload_n 0, 1) := by decide +kernel
theorem dL_law_1323 : decode cL_law 1323 = .ok (.iload 4, 2) := by decide +kernel
theorem dL_law_1325 : decode cL_law 1325 = .ok (.iconst 2, 1) := by decide +kernel
theorem dL_law_1326 : decode cL_law 1326 = .ok (.iadd, 1) := by decide +kernel
theorem dL_law_1327 : decode cL_law 1327 = .ok (.iaload, 1) := by decide +kernel
theorem dL_law_1328 : decode cL_law 1328 = .ok (.invokevirtual 182, 3) := by decide +kernel
theorem k_1039 : Cond.methodLink RL 182 yX8_leastLine ∈ bw_T := bw_m 1039 (by decide +kernel) rfl
theorem kv_X8_leastLine : bw_KV RX8 yX8_leastLine (Cond.code yX8_leastLine cX8_leastLine 4 (some .int)) := ⟨bw_m 1040 (by decide +kernel) rfl, bw_m 1041 (by decide +kernel) rfl, bw_m 94 (by decide +kernel) rfl, bw_m 1042 (by decide +kernel) rfl⟩
theorem dL_law_1331 : decode cL_law 1331 = .ok (.aload_n 2, 1) := by decide +kernel
theorem dL_law_1332 : decode cL_law 1332 = .ok (.aload_n 0, 1) := by decide +kernel
theorem dL_law_1333 : decode cL_law 1333 = .ok (.iload 4, 2) := by decide +kernel
theorem dL_law_1335 : decode cL_law 1335 = .ok (.iconst 1, 1) := by decide +kernel
theorem dL_law_1336 : decode cL_law 1336 = .ok (.iadd, 1) := by decide +kernel
theorem dL_law_1337 : decode cL_law 1337 = .ok (.iaload, 1) := by decide +kernel
theorem dL_law_1338 : decode cL_law 1338 = .ok (.aload_n 0, 1) := by decide +kernel
theorem dL_law_1339 : decode cL_law 1339 = .ok (.iload 4, 2) := by decide +kernel
theorem dL_law_1341 : decode cL_law 1341 = .ok (.iconst 2, 1) := by decide +kernel
theorem dL_law_1342 : decode cL_law 1342 = .ok (.iadd, 1) := by decide +kernel
theorem dL_law_1343 : decode cL_law 1343 = .ok (.iaload, 1) := by decide +kernel
theorem dL_law_1344 : decode cL_law 1344 = .ok (.invokevirtual 185, 3) := by decide +kernel
theorem k_1701 : Cond.methodLink RL 185 yX9_leastLine ∈ bw_T := bw_m 1701 (by decide +kernel) rfl
theorem kv_X9_leastLine : bw_KV RX9 yX9_leastLine (Cond.code yX9_leastLine cX9_leastLine 5 (some .int)) := ⟨bw_m 1702 (by decide +kernel) rfl, bw_m 1703 (by decide +kernel) rfl, bw_m 107 (by decide +kernel) rfl, bw_m 1704 (by decide +kernel) rfl⟩
theorem dL_law_1347 : decode cL_law 1347 = .ok (.if_icmp .eq 136, 3) := by decide +kernel
set_option maxRecDepth 100000 in
set_option maxHeartbeats 4000000 in
theorem lc_39 {p : Program} {l : Launch} {e : Env} {s : State} {m : MethodId} {below : List Frame} {meth : Method} {c : Code} {b : Nat} {xs : Nat → Int32} (C0 : lw_At p s m meth c b 6 xs) {E : (Nat → Prop) → State → Prop} (hO : bw_Ok E) {G : va_G} {cI cB cJ cN cW : ClassId} (hK : va_K G vwCl (bw_kt cI cB cJ cN cW) s) (hE : E (fun q : Nat => s.heap.size ≤ q) s) (x y o : Nat) (q qm : Nat → Nat) (f : Nat → Nat → Int32) {H : Heap} {locs : List Loc} (hP : va_P G vwCl (lc_W cI cB cJ x y o q qm f) H) (hD : va_D (fun q : Nat => s.heap.size ≤ q) (lc_W cI cB cJ x y o q qm f)) (hS : va_S (fun q : Nat => s.heap.size ≤ q) s.heap H locs) {ls : Array Slot} (hl : lv_has ls 7 [(4, .int 0), (3, .ref o), (2, .ref y), (1, .ref x), (0, .ref b)]) : W p l e room_1 s m #[Value.ref b] below meth c H locs 163 8733 (lw_Z below #[Value.ref b] s) (F0 m 1315 ls []) := by
  have C1 := C0
  obtain ⟨hx, hb, hr, hml, hown, hts, hX, hbl, hlocks, hgv⟩ := C0
  have hA : ∀ q : Nat, s.heap.size ≤ q → (fun q : Nat => s.heap.size ≤ q) q := fun _ h => h
  have hbA : ¬ (fun q : Nat => s.heap.size ≤ q) b := Nat.not_le.mpr hbl
  have F : CallFix p m c cL_law 7 s #[Value.ref b] bw_T RL := ⟨hx, hb, hml, hown, fun w h => hts w (List.mem_filter.mp h).1⟩
  have hP := bw_subP (isC := [0, 14]) (wc := [(x, .inr (8, [.int 0, .int 0, .ref (q 0), .ref (q 1), .ref (q 2), .ref (q 3), .ref (q 4), .ref (q 5), .ref (q 6), .ref (q 7), .ref (q 8), .ref (q 9), .ref (q 10), .ref (q 11)])), (y, .inr (9, [.int 0, .ref (qm 0), .int 0, .int 0, .int 0, .int 0, .int 0, .int 0, .int 0, .int 0, .int (-1), .int 0, .ref (qm 1), .int 0, .int 0, .ref (qm 2), .ref (qm 3), .ref (qm 4), .ref (qm 5), .ref (qm 6), .ref (qm 7), .ref (qm 8), .ref (qm 9), .ref (qm 10), .ref (qm 11), .ref (qm 12), .ref (qm 13), .ref (qm 14), .ref (qm 15), .ref (qm 16), .int 0, .int 0, .int 0, .int 0, .int 0, .int 0, .ref (qm 17), .ref (qm 18), .ref (qm 19), .ref (qm 20)]))]) hP rfl
  have hD := hD.sub (ws' := [(x, .inr (8, [.int 0, .int 0, .ref (q 0), .ref (q 1), .ref (q 2), .ref (q 3), .ref (q 4), .ref (q 5), .ref (q 6), .ref (q 7), .ref (q 8), .ref (q 9), .ref (q 10), .ref (q 11)])), (y, .inr (9, [.int 0, .ref (qm 0), .int 0, .int 0, .int 0, .int 0, .int 0, .int 0, .int 0, .int 0, .int (-1), .int 0, .ref (qm 1), .int 0, .int 0, .ref (qm 2), .ref (qm 3), .ref (qm 4), .ref (qm 5), .ref (qm 6), .ref (qm 7), .ref (qm 8), .ref (qm 9), .ref (qm 10), .ref (qm 11), .ref (qm 12), .ref (qm 13), .ref (qm 14), .ref (qm 15), .ref (qm 16), .int 0, .int 0, .int 0, .int 0, .int 0, .int 0, .ref (qm 17), .ref (qm 18), .ref (qm 19), .ref (qm 20)]))]) [0, 14] (by decide) rfl
  refine lv_aload_n hx hb dL_law_1315 rfl (lv_at hl 3 rfl) ?_
  refine lv_aload_n hx hb dL_law_1316 rfl (lv_at hl 4 rfl) ?_
  refine lv_iload hx hb dL_law_1317 (lv_at hl 0 rfl) ?_
  refine lv_iconst (v := 1) hx hb dL_law_1319 (by decide) ?_
  refine r_iadd (v := 1) F dL_law_1320 (by decide) ?_
  refine va_sld hx hb hX hbl hbA hS (bw_vin (by decide)) dL_law_1321 ?_
  refine lv_aload_n hx hb dL_law_1322 rfl (lv_at hl 4 rfl) ?_
  refine lv_iload hx hb dL_law_1323 (lv_at hl 0 rfl) ?_
  refine lv_iconst (v := 2) hx hb dL_law_1325 (by decide) ?_
  refine r_iadd (v := 2) F dL_law_1326 (by decide) ?_
  refine va_sld hx hb hX hbl hbA hS (bw_vin (by decide)) dL_law_1327 ?_
  refine r_callVi (As := [.int (xs (Int32.toNatClampNeg 1)), .int (xs (Int32.toNatClampNeg 2))]) (rest := []) (wr := [(y, .inr (9, [.int 0, .ref (qm 0), .int 0, .int 0, .int 0, .int 0, .int 0, .int 0, .int 0, .int 0, .int (-1), .int 0, .ref (qm 1), .int 0, .int 0, .ref (qm 2), .ref (qm 3), .ref (qm 4), .ref (qm 5), .ref (qm 6), .ref (qm 7), .ref (qm 8), .ref (qm 9), .ref (qm 10), .ref (qm 11), .ref (qm 12), .ref (qm 13), .ref (qm 14), .ref (qm 15), .ref (qm 16), .int 0, .int 0, .int 0, .int 0, .int 0, .int 0, .ref (qm 17), .ref (qm 18), .ref (qm 19), .ref (qm 20)]))]) F hK hP hD hS hA hO hE (c_X8_leastLine hO x q (xs (Int32.toNatClampNeg 1)) (xs (Int32.toNatClampNeg 2))) k_1039 kv_X8_leastLine 2 rfl (by decide +kernel) ⟨Nat.le_of_ble_eq_true rfl, Nat.le_of_ble_eq_true rfl⟩ [0] [1] rfl rfl (by decide) (by decide) (by decide) 0 8 rfl rfl rfl hl.1 rfl (Nat.le_of_ble_eq_true rfl) dL_law_1328 ⟨Nat.le_of_ble_eq_true rfl, Nat.le_of_ble_eq_true rfl⟩ (w1 := fun u1 => [(y, .inr (9, [.int 0, .ref (qm 0), .int 0, .int 0, .int 0, .int 0, .int 0, .int 0, .int 0, .int 0, .int (-1), .int 0, .ref (qm 1), .int 0, .int 0, .ref (qm 2), .ref (qm 3), .ref (qm 4), .ref (qm 5), .ref (qm 6), .ref (qm 7), .ref (qm 8), .ref (qm 9), .ref (qm 10), .ref (qm 11), .ref (qm 12), .ref (qm 13), .ref (qm 14), .ref (qm 15), .ref (qm 16), .int 0, .int 0, .int 0, .int 0, .int 0, .int 0, .ref (qm 17), .ref (qm 18), .ref (qm 19), .ref (qm 20)]))]) (fun _ => rfl) (fun r2 u1 H locs hp hP hD hS => ?_)
  subst hp
  refine lv_aload_n hx hb dL_law_1331 rfl (lv_at hl 2 rfl) ?_
  refine lv_aload_n hx hb dL_law_1332 rfl (lv_at hl 4 rfl) ?_
  refine lv_iload hx hb dL_law_1333 (lv_at hl 0 rfl) ?_
  refine lv_iconst (v := 1) hx hb dL_law_1335 (by decide) ?_
  refine r_iadd (v := 1) F dL_law_1336 (by decide) ?_
  refine va_sld hx hb hX hbl hbA hS (bw_vin (by decide)) dL_law_1337 ?_
  refine lv_aload_n hx hb dL_law_1338 rfl (lv_at hl 4 rfl) ?_
  refine lv_iload hx hb dL_law_1339 (lv_at hl 0 rfl) ?_
  refine lv_iconst (v := 2) hx hb dL_law_1341 (by decide) ?_
  refine r_iadd (v := 2) F dL_law_1342 (by decide) ?_
  refine va_sld hx hb hX hbl hbA hS (bw_vin (by decide)) dL_law_1343 ?_
  refine r_callVi (As := [.int (xs (Int32.toNatClampNeg 1)), .int (xs (Int32.toNatClampNeg 2))]) (rest := [.int (-1)]) (wr := []) F hK hP hD hS hA hO hE (c_X9_leastLine hO y qm (xs (Int32.toNatClampNeg 1)) (xs (Int32.toNatClampNeg 2))) k_1701 kv_X9_leastLine 2 rfl (by decide +kernel) ⟨Nat.le_of_ble_eq_true rfl, Nat.le_of_ble_eq_true rfl⟩ [0] [] rfl rfl (by decide) (by decide) (by decide) 0 9 rfl rfl rfl hl.1 rfl (Nat.le_of_ble_eq_true rfl) dL_law_1344 ⟨Nat.le_of_ble_eq_true rfl, Nat.le_of_ble_eq_true rfl⟩ (w1 := fun u3 => []) (fun _ => rfl) (fun r4 u3 H locs hp hP hD hS => ?_)
  subst hp
  refine lv_icmp_eq (tgt := 1483) hx hb dL_law_1347 (by decide) (fun _ => ?_) (fun h9 => absurd rfl h9)
  exact lc_end C1 hS (Nat.le_of_ble_eq_true rfl) (Nat.le_of_ble_eq_true rfl) (lv_sub hl [0, 4] rfl)
theorem dL_law_1352 : decode cL_law 1352 = .ok (.aload_n 1, 1) := by decide +kernel
theorem dL_law_1353 : decode cL_law 1353 = .ok (.aload_n 0, 1) := by decide +kernel
theorem dL_law_1354 : decode cL_law 1354 = .ok (.iload 4, 2) := by decide +kernel
theorem dL_law_1356 : decode cL_law 1356 = .ok (.iconst 1, 1) := by decide +kernel
theorem dL_law_1357 : decode cL_law 1357 = .ok (.iadd, 1) := by decide +kernel
theorem dL_law_1358 : decode cL_law 1358 = .ok (.iaload, 1) := by decide +kernel
theorem dL_law_1359 : decode cL_law 1359 = .ok (.aload_n 0, 1) := by decide +kernel
theorem dL_law_1360 : decode cL_law 1360 = .ok (.iload 4, 2) := by decide +kernel
theorem dL_law_1362 : decode cL_law 1362 = .ok (.iconst 2, 1) := by decide +kernel
theorem dL_law_1363 : decode cL_law 1363 = .ok (.iadd, 1) := by decide +kernel
theorem dL_law_1364 : decode cL_law 1364 = .ok (.iaload, 1) := by decide +kernel
theorem dL_law_1365 : decode cL_law 1365 = .ok (.invokevirtual 186, 3) := by decide +kernel
theorem k_1047 : Cond.methodLink RL 186 yX8_line ∈ bw_T := bw_m 1047 (by decide +kernel) rfl
theorem kv_X8_line : bw_KV RX8 yX8_line (Cond.code yX8_line cX8_line 3 (some .int)) := ⟨bw_m 1048 (by decide +kernel) rfl, bw_m 1049 (by decide +kernel) rfl, bw_m 94 (by decide +kernel) rfl, bw_m 1050 (by decide +kernel) rfl⟩
theorem dL_law_1368 : decode cL_law 1368 = .ok (.aload_n 2, 1) := by decide +kernel
theorem dL_law_1369 : decode cL_law 1369 = .ok (.aload_n 0, 1) := by decide +kernel
theorem dL_law_1370 : decode cL_law 1370 = .ok (.iload 4, 2) := by decide +kernel
theorem dL_law_1372 : decode cL_law 1372 = .ok (.iconst 1, 1) := by decide +kernel
theorem dL_law_1373 : decode cL_law 1373 = .ok (.iadd, 1) := by decide +kernel
theorem dL_law_1374 : decode cL_law 1374 = .ok (.iaload, 1) := by decide +kernel
theorem dL_law_1375 : decode cL_law 1375 = .ok (.aload_n 0, 1) := by decide +kernel
theorem dL_law_1376 : decode cL_law 1376 = .ok (.iload 4, 2) := by decide +kernel
theorem dL_law_1378 : decode cL_law 1378 = .ok (.iconst 2, 1) := by decide +kernel
theorem dL_law_1379 : decode cL_law 1379 = .ok (.iadd, 1) := by decide +kernel
theorem dL_law_1380 : decode cL_law 1380 = .ok (.iaload, 1) := by decide +kernel
theorem dL_law_1381 : decode cL_law 1381 = .ok (.invokevirtual 189, 3) := by decide +kernel
theorem k_1705 : Cond.methodLink RL 189 yX9_line ∈ bw_T := bw_m 1705 (by decide +kernel) rfl
theorem kv_X9_line : bw_KV RX9 yX9_line (Cond.code yX9_line cX9_line 5 (some .int)) := ⟨bw_m 1706 (by decide +kernel) rfl, bw_m 1707 (by decide +kernel) rfl, bw_m 107 (by decide +kernel) rfl, bw_m 1708 (by decide +kernel) rfl⟩
theorem dL_law_1384 : decode cL_law 1384 = .ok (.if_icmp .eq 99, 3) := by decide +kernel
set_option maxRecDepth 100000 in
set_option maxHeartbeats 4000000 in
theorem lc_40 {p : Program} {l : Launch} {e : Env} {s : State} {m : MethodId} {below : List Frame} {meth : Method} {c : Code} {b : Nat} {xs : Nat → Int32} (C0 : lw_At p s m meth c b 6 xs) {E : (Nat → Prop) → State → Prop} (hO : bw_Ok E) {G : va_G} {cI cB cJ cN cW : ClassId} (hK : va_K G vwCl (bw_kt cI cB cJ cN cW) s) (hE : E (fun q : Nat => s.heap.size ≤ q) s) (x y o : Nat) (q qm : Nat → Nat) (f : Nat → Nat → Int32) {H : Heap} {locs : List Loc} (hP : va_P G vwCl (lc_W cI cB cJ x y o q qm f) H) (hD : va_D (fun q : Nat => s.heap.size ≤ q) (lc_W cI cB cJ x y o q qm f)) (hS : va_S (fun q : Nat => s.heap.size ≤ q) s.heap H locs) {ls : Array Slot} (hl : lv_has ls 7 [(4, .int 0), (3, .ref o), (2, .ref y), (1, .ref x), (0, .ref b)]) : W p l e room_1 s m #[Value.ref b] below meth c H locs 163 8733 (lw_Z below #[Value.ref b] s) (F0 m 1352 ls []) := by
  have C1 := C0
  obtain ⟨hx, hb, hr, hml, hown, hts, hX, hbl, hlocks, hgv⟩ := C0
  have hA : ∀ q : Nat, s.heap.size ≤ q → (fun q : Nat => s.heap.size ≤ q) q := fun _ h => h
  have hbA : ¬ (fun q : Nat => s.heap.size ≤ q) b := Nat.not_le.mpr hbl
  have F : CallFix p m c cL_law 7 s #[Value.ref b] bw_T RL := ⟨hx, hb, hml, hown, fun w h => hts w (List.mem_filter.mp h).1⟩
  have hP := bw_subP (isC := [0, 10, 14]) (wc := [(x, .inr (8, [.int 0, .int 0, .ref (q 0), .ref (q 1), .ref (q 2), .ref (q 3), .ref (q 4), .ref (q 5), .ref (q 6), .ref (q 7), .ref (q 8), .ref (q 9), .ref (q 10), .ref (q 11)])), ((q 2), .inr (2, [.int 0, .ref (q 40), .ref (q 41), .ref (q 42), .ref (q 43), .ref (q 44), .ref (q 45), .ref (q 46), .ref (q 47)])), (y, .inr (9, [.int 0, .ref (qm 0), .int 0, .int 0, .int 0, .int 0, .int 0, .int 0, .int 0, .int 0, .int (-1), .int 0, .ref (qm 1), .int 0, .int 0, .ref (qm 2), .ref (qm 3), .ref (qm 4), .ref (qm 5), .ref (qm 6), .ref (qm 7), .ref (qm 8), .ref (qm 9), .ref (qm 10), .ref (qm 11), .ref (qm 12), .ref (qm 13), .ref (qm 14), .ref (qm 15), .ref (qm 16), .int 0, .int 0, .int 0, .int 0, .int 0, .int 0, .ref (qm 17), .ref (qm 18), .ref (qm 19), .ref (qm 20)]))]) hP rfl
  have hD := hD.sub (ws' := [(x, .inr (8, [.int 0, .int 0, .ref (q 0), .ref (q 1), .ref (q 2), .ref (q 3), .ref (q 4), .ref (q 5), .ref (q 6), .ref (q 7), .ref (q 8), .ref (q 9), .ref (q 10), .ref (q 11)])), ((q 2), .inr (2, [.int 0, .ref (q 40), .ref (q 41), .ref (q 42), .ref (q 43), .ref (q 44), .ref (q 45), .ref (q 46), .ref (q 47)])), (y, .inr (9, [.int 0, .ref (qm 0), .int 0, .int 0, .int 0, .int 0, .int 0, .int 0, .int 0, .int 0, .int (-1), .int 0, .ref (qm 1), .int 0, .int 0, .ref (qm 2), .ref (qm 3), .ref (qm 4), .ref (qm 5), .ref (qm 6), .ref (qm 7), .ref (qm 8), .ref (qm 9), .ref (qm 10), .ref (qm 11), .ref (qm 12), .ref (qm 13), .ref (qm 14), .ref (qm 15), .ref (qm 16), .int 0, .int 0, .int 0, .int 0, .int 0, .int 0, .ref (qm 17), .ref (qm 18), .ref (qm 19), .ref (qm 20)]))]) [0, 10, 14] (by decide) rfl
  refine lv_aload_n hx hb dL_law_1352 rfl (lv_at hl 3 rfl) ?_
  refine lv_aload_n hx hb dL_law_1353 rfl (lv_at hl 4 rfl) ?_
  refine lv_iload hx hb dL_law_1354 (lv_at hl 0 rfl) ?_
  refine lv_iconst (v := 1) hx hb dL_law_1356 (by decide) ?_
  refine r_iadd (v := 1) F dL_law_1357 (by decide) ?_
  refine va_sld hx hb hX hbl hbA hS (bw_vin (by decide)) dL_law_1358 ?_
  refine lv_aload_n hx hb dL_law_1359 rfl (lv_at hl 4 rfl) ?_
  refine lv_iload hx hb dL_law_1360 (lv_at hl 0 rfl) ?_
  refine lv_iconst (v := 2) hx hb dL_law_1362 (by decide) ?_
  refine r_iadd (v := 2) F dL_law_1363 (by decide) ?_
  refine va_sld hx hb hX hbl hbA hS (bw_vin (by decide)) dL_law_1364 ?_
  refine r_callVi (As := [.int (xs (Int32.toNatClampNeg 1)), .int (xs (Int32.toNatClampNeg 2))]) (rest := []) (wr := [(y, .inr (9, [.int 0, .ref (qm 0), .int 0, .int 0, .int 0, .int 0, .int 0, .int 0, .int 0, .int 0, .int (-1), .int 0, .ref (qm 1), .int 0, .int 0, .ref (qm 2), .ref (qm 3), .ref (qm 4), .ref (qm 5), .ref (qm 6), .ref (qm 7), .ref (qm 8), .ref (qm 9), .ref (qm 10), .ref (qm 11), .ref (qm 12), .ref (qm 13), .ref (qm 14), .ref (qm 15), .ref (qm 16), .int 0, .int 0, .int 0, .int 0, .int 0, .int 0, .ref (qm 17), .ref (qm 18), .ref (qm 19), .ref (qm 20)]))]) F hK hP hD hS hA hO hE (c_X8_line hO x q (xs (Int32.toNatClampNeg 1)) (xs (Int32.toNatClampNeg 2))) k_1047 kv_X8_line 2 rfl (by decide +kernel) ⟨Nat.le_of_ble_eq_true rfl, Nat.le_of_ble_eq_true rfl⟩ [0, 1] [2] rfl rfl (by decide) (by decide) (by decide) 0 8 rfl rfl rfl hl.1 rfl (Nat.le_of_ble_eq_true rfl) dL_law_1365 ⟨Nat.le_of_ble_eq_true rfl, Nat.le_of_ble_eq_true rfl⟩ (w1 := fun u1 => [(y, .inr (9, [.int 0, .ref (qm 0), .int 0, .int 0, .int 0, .int 0, .int 0, .int 0, .int 0, .int 0, .int (-1), .int 0, .ref (qm 1), .int 0, .int 0, .ref (qm 2), .ref (qm 3), .ref (qm 4), .ref (qm 5), .ref (qm 6), .ref (qm 7), .ref (qm 8), .ref (qm 9), .ref (qm 10), .ref (qm 11), .ref (qm 12), .ref (qm 13), .ref (qm 14), .ref (qm 15), .ref (qm 16), .int 0, .int 0, .int 0, .int 0, .int 0, .int 0, .ref (qm 17), .ref (qm 18), .ref (qm 19), .ref (qm 20)]))]) (fun _ => rfl) (fun r2 u1 H locs hp hP hD hS => ?_)
  subst hp
  refine lv_aload_n hx hb dL_law_1368 rfl (lv_at hl 2 rfl) ?_
  refine lv_aload_n hx hb dL_law_1369 rfl (lv_at hl 4 rfl) ?_
  refine lv_iload hx hb dL_law_1370 (lv_at hl 0 rfl) ?_
  refine lv_iconst (v := 1) hx hb dL_law_1372 (by decide) ?_
  refine r_iadd (v := 1) F dL_law_1373 (by decide) ?_
  refine va_sld hx hb hX hbl hbA hS (bw_vin (by decide)) dL_law_1374 ?_
  refine lv_aload_n hx hb dL_law_1375 rfl (lv_at hl 4 rfl) ?_
  refine lv_iload hx hb dL_law_1376 (lv_at hl 0 rfl) ?_
  refine lv_iconst (v := 2) hx hb dL_law_1378 (by decide) ?_
  refine r_iadd (v := 2) F dL_law_1379 (by decide) ?_
  refine va_sld hx hb hX hbl hbA hS (bw_vin (by decide)) dL_law_1380 ?_
  refine r_callVi (As := [.int (xs (Int32.toNatClampNeg 1)), .int (xs (Int32.toNatClampNeg 2))]) (rest := [.int (-1)]) (wr := []) F hK hP hD hS hA hO hE (c_X9_line hO y qm (xs (Int32.toNatClampNeg 1)) (xs (Int32.toNatClampNeg 2))) k_1705 kv_X9_line 2 rfl (by decide +kernel) ⟨Nat.le_of_ble_eq_true rfl, Nat.le_of_ble_eq_true rfl⟩ [0] [] rfl rfl (by decide) (by decide) (by decide) 0 9 rfl rfl rfl hl.1 rfl (Nat.le_of_ble_eq_true rfl) dL_law_1381 ⟨Nat.le_of_ble_eq_true rfl, Nat.le_of_ble_eq_true rfl⟩ (w1 := fun u3 => []) (fun _ => rfl) (fun r4 u3 H locs hp hP hD hS => ?_)
  subst hp
  refine lv_icmp_eq (tgt := 1483) hx hb dL_law_1384 (by decide) (fun _ => ?_) (fun h9 => absurd rfl h9)
  exact lc_end C1 hS (Nat.le_of_ble_eq_true rfl) (Nat.le_of_ble_eq_true rfl) (lv_sub hl [0, 4] rfl)
theorem dL_law_1389 : decode cL_law 1389 = .ok (.aload_n 1, 1) := by decide +kernel
theorem dL_law_1390 : decode cL_law 1390 = .ok (.aload_n 0, 1) := by decide +kernel
theorem dL_law_1391 : decode cL_law 1391 = .ok (.iload 4, 2) := by decide +kernel
theorem dL_law_1393 : decode cL_law 1393 = .ok (.iconst 1, 1) := by decide +kernel
theorem dL_law_1394 : decode cL_law 1394 = .ok (.iadd, 1) := by decide +kernel
theorem dL_law_1395 : decode cL_law 1395 = .ok (.iaload, 1) := by decide +kernel
theorem dL_law_1396 : decode cL_law 1396 = .ok (.aload_n 3, 1) := by decide +kernel
theorem dL_law_1397 : decode cL_law 1397 = .ok (.invokestatic 190, 3) := by decide +kernel
theorem k_1080 : Cond.methodLink RL 190 yL_led ∈ bw_T := bw_m 1080 (by decide +kernel) rfl
theorem dL_law_1400 : decode cL_law 1400 = .ok (.istore 5, 2) := by decide +kernel
theorem dL_law_1402 : decode cL_law 1402 = .ok (.aload_n 2, 1) := by decide +kernel
theorem dL_law_1403 : decode cL_law 1403 = .ok (.aload_n 0, 1) := by decide +kernel
theorem dL_law_1404 : decode cL_law 1404 = .ok (.iload 4, 2) := by decide +kernel
theorem dL_law_1406 : decode cL_law 1406 = .ok (.iconst 1, 1) := by decide +kernel
theorem dL_law_1407 : decode cL_law 1407 = .ok (.iadd, 1) := by decide +kernel
theorem dL_law_1408 : decode cL_law 1408 = .ok (.iaload, 1) := by decide +kernel
theorem dL_law_1409 : decode cL_law 1409 = .ok (.invokevirtual 195, 3) := by decide +kernel
theorem k_1709 : Cond.methodLink RL 195 yX9_led ∈ bw_T := bw_m 1709 (by decide +kernel) rfl
theorem kv_X9_led : bw_KV RX9 yX9_led (Cond.code yX9_led cX9_led 4 (some .int)) := ⟨bw_m 1710 (by decide +kernel) rfl, bw_m 1711 (by decide +kernel) rfl, bw_m 107 (by decide +kernel) rfl, bw_m 1712 (by decide +kernel) rfl⟩
theorem dL_law_1412 : decode cL_law 1412 = .ok (.istore 6, 2) := by decide +kernel
theorem dL_law_1414 : decode cL_law 1414 = .ok (.aload_n 2, 1) := by decide +kernel
theorem dL_law_1415 : decode cL_law 1415 = .ok (.invokevirtual 196, 3) := by decide +kernel
theorem k_1284 : Cond.methodLink RL 196 yX9_thrown ∈ bw_T := bw_m 1284 (by decide +kernel) rfl
theorem kv_X9_thrown : bw_KV RX9 yX9_thrown (Cond.code yX9_thrown cX9_thrown 1 (some .int)) := ⟨bw_m 1285 (by decide +kernel) rfl, bw_m 1286 (by decide +kernel) rfl, bw_m 107 (by decide +kernel) rfl, bw_m 1287 (by decide +kernel) rfl⟩
theorem dL_law_1418 : decode cL_law 1418 = .ok (.iload 5, 2) := by decide +kernel
theorem dL_law_1420 : decode cL_law 1420 = .ok (.if_icmp .eq 5, 3) := by decide +kernel
theorem dL_law_1425 : decode cL_law 1425 = .ok (.iload 5, 2) := by decide +kernel
theorem dL_law_1427 : decode cL_law 1427 = .ok (.ifCond .ne 15, 3) := by decide +kernel
theorem dL_law_1442 : decode cL_law 1442 = .ok (.goto 41, 3) := by decide +kernel
set_option maxRecDepth 100000 in
set_option maxHeartbeats 4000000 in
theorem lc_41 {p : Program} {l : Launch} {e : Env} {s : State} {m : MethodId} {below : List Frame} {meth : Method} {c : Code} {b : Nat} {xs : Nat → Int32} (C0 : lw_At p s m meth c b 6 xs) {E : (Nat → Prop) → State → Prop} (hO : bw_Ok E) (hst : l.stackTraces = false) {st : Nat} (hX : bw_Thr E st) {G : va_G} {cI cB cJ cN cW : ClassId} (hK : va_K G vwCl (bw_kt cI cB cJ cN cW) s) (hE : E (fun q : Nat => s.heap.size ≤ q) s) (x y o : Nat) (q qm : Nat → Nat) (f : Nat → Nat → Int32) {H : Heap} {locs : List Loc} (hP : va_P G vwCl (lc_W cI cB cJ x y o q qm f) H) (hD : va_D (fun q : Nat => s.heap.size ≤ q) (lc_W cI cB cJ x y o q qm f)) (hS : va_S (fun q : Nat => s.heap.size ≤ q) s.heap H locs) {ls : Array Slot} (hl : lv_has ls 7 [(4, .int 0), (3, .ref o), (2, .ref y), (1, .ref x), (0, .ref b)]) : W p l e room_1 s m #[Value.ref b] below meth c H locs 163 8733 (lw_Z below #[Value.ref b] s) (F0 m 1389 ls []) := by
  have C1 := C0
  obtain ⟨hx, hb, hr, hml, hown, hts, hXs, hbl, hlocks, hgv⟩ := C0
  have hA : ∀ q : Nat, s.heap.size ≤ q → (fun q : Nat => s.heap.size ≤ q) q := fun _ h => h
  have hbA : ¬ (fun q : Nat => s.heap.size ≤ q) b := Nat.not_le.mpr hbl
  have F : CallFix p m c cL_law 7 s #[Value.ref b] bw_T RL := ⟨hx, hb, hml, hown, fun w h => hts w (List.mem_filter.mp h).1⟩
  have hP := bw_subP (isC := [0, 10, 14]) (wc := [(x, .inr (8, [.int 0, .int 0, .ref (q 0), .ref (q 1), .ref (q 2), .ref (q 3), .ref (q 4), .ref (q 5), .ref (q 6), .ref (q 7), .ref (q 8), .ref (q 9), .ref (q 10), .ref (q 11)])), ((q 2), .inr (2, [.int 0, .ref (q 40), .ref (q 41), .ref (q 42), .ref (q 43), .ref (q 44), .ref (q 45), .ref (q 46), .ref (q 47)])), (y, .inr (9, [.int 0, .ref (qm 0), .int 0, .int 0, .int 0, .int 0, .int 0, .int 0, .int 0, .int 0, .int (-1), .int 0, .ref (qm 1), .int 0, .int 0, .ref (qm 2), .ref (qm 3), .ref (qm 4), .ref (qm 5), .ref (qm 6), .ref (qm 7), .ref (qm 8), .ref (qm 9), .ref (qm 10), .ref (qm 11), .ref (qm 12), .ref (qm 13), .ref (qm 14), .ref (qm 15), .ref (qm 16), .int 0, .int 0, .int 0, .int 0, .int 0, .int 0, .ref (qm 17), .ref (qm 18), .ref (qm 19), .ref (qm 20)]))]) hP rfl
  have hD := hD.sub (ws' := [(x, .inr (8, [.int 0, .int 0, .ref (q 0), .ref (q 1), .ref (q 2), .ref (q 3), .ref (q 4), .ref (q 5), .ref (q 6), .ref (q 7), .ref (q 8), .ref (q 9), .ref (q 10), .ref (q 11)])), ((q 2), .inr (2, [.int 0, .ref (q 40), .ref (q 41), .ref (q 42), .ref (q 43), .ref (q 44), .ref (q 45), .ref (q 46), .ref (q 47)])), (y, .inr (9, [.int 0, .ref (qm 0), .int 0, .int 0, .int 0, .int 0, .int 0, .int 0, .int 0, .int 0, .int (-1), .int 0, .ref (qm 1), .int 0, .int 0, .ref (qm 2), .ref (qm 3), .ref (qm 4), .ref (qm 5), .ref (qm 6), .ref (qm 7), .ref (qm 8), .ref (qm 9), .ref (qm 10), .ref (qm 11), .ref (qm 12), .ref (qm 13), .ref (qm 14), .ref (qm 15), .ref (qm 16), .int 0, .int 0, .int 0, .int 0, .int 0, .int 0, .ref (qm 17), .ref (qm 18), .ref (qm 19), .ref (qm 20)]))]) [0, 10, 14] (by decide) rfl
  refine lv_aload_n hx hb dL_law_1389 rfl (lv_at hl 3 rfl) ?_
  refine lv_aload_n hx hb dL_law_1390 rfl (lv_at hl 4 rfl) ?_
  refine lv_iload hx hb dL_law_1391 (lv_at hl 0 rfl) ?_
  refine lv_iconst (v := 1) hx hb dL_law_1393 (by decide) ?_
  refine r_iadd (v := 1) F dL_law_1394 (by decide) ?_
  refine va_sld hx hb hXs hbl hbA hS (bw_vin (by decide)) dL_law_1395 ?_
  refine lv_aload_n hx hb dL_law_1396 rfl (lv_at hl 1 rfl) ?_
  refine r_callW (As := [.ref x, .int (xs (Int32.toNatClampNeg 1)), .ref o]) (rest := []) (wr := [(y, .inr (9, [.int 0, .ref (qm 0), .int 0, .int 0, .int 0, .int 0, .int 0, .int 0, .int 0, .int 0, .int (-1), .int 0, .ref (qm 1), .int 0, .int 0, .ref (qm 2), .ref (qm 3), .ref (qm 4), .ref (qm 5), .ref (qm 6), .ref (qm 7), .ref (qm 8), .ref (qm 9), .ref (qm 10), .ref (qm 11), .ref (qm 12), .ref (qm 13), .ref (qm 14), .ref (qm 15), .ref (qm 16), .int 0, .int 0, .int 0, .int 0, .int 0, .int 0, .ref (qm 17), .ref (qm 18), .ref (qm 19), .ref (qm 20)]))]) F hK hP hD hS hA hO hE (c_L_led hst hO hX x q (xs (Int32.toNatClampNeg 1)) o) k_1080 kl_led 3 rfl (by decide +kernel) ⟨Nat.le_of_ble_eq_true rfl, Nat.le_of_ble_eq_true rfl⟩ [0, 1] [2] rfl rfl (by decide) (by decide) (by decide) hl.1 rfl (Nat.le_of_ble_eq_true rfl) dL_law_1397 ⟨Nat.le_of_ble_eq_true rfl, Nat.le_of_ble_eq_true rfl⟩ (w1 := fun u1 => [(y, .inr (9, [.int 0, .ref (qm 0), .int 0, .int 0, .int 0, .int 0, .int 0, .int 0, .int 0, .int 0, .int (-1), .int 0, .ref (qm 1), .int 0, .int 0, .ref (qm 2), .ref (qm 3), .ref (qm 4), .ref (qm 5), .ref (qm 6), .ref (qm 7), .ref (qm 8), .ref (qm 9), .ref (qm 10), .ref (qm 11), .ref (qm 12), .ref (qm 13), .ref (qm 14), .ref (qm 15), .ref (qm 16), .int 0, .int 0, .int 0, .int 0, .int 0, .int 0, .ref (qm 17), .ref (qm 18), .ref (qm 19), .ref (qm 20)]))]) (fun _ => rfl) (fun r2 u1 H locs hp hP hD hS => ?_)
  subst hp
  refine lv_istore (lv' := [(5, .int 1), (4, .int 0), (3, .ref o), (2, .ref y), (1, .ref x), (0, .ref b)]) hx hb dL_law_1400 hl (by decide) rfl (fun ls hl => ?_)
  refine lv_aload_n hx hb dL_law_1402 rfl (lv_at hl 3 rfl) ?_
  refine lv_aload_n hx hb dL_law_1403 rfl (lv_at hl 5 rfl) ?_
  refine lv_iload hx hb dL_law_1404 (lv_at hl 1 rfl) ?_
  refine lv_iconst (v := 1) hx hb dL_law_1406 (by decide) ?_
  refine r_iadd (v := 1) F dL_law_1407 (by decide) ?_
  refine va_sld hx hb hXs hbl hbA hS (bw_vin (by decide)) dL_law_1408 ?_
  refine r_callVi (As := [.int (xs (Int32.toNatClampNeg 1))]) (rest := []) (wr := []) F hK hP hD hS hA hO hE (c_X9_led hO y qm (xs (Int32.toNatClampNeg 1))) k_1709 kv_X9_led 1 rfl (by decide +kernel) ⟨Nat.le_of_ble_eq_true rfl, Nat.le_of_ble_eq_true rfl⟩ [0] [] rfl rfl (by decide) (by decide) (by decide) 0 9 rfl rfl rfl hl.1 rfl (Nat.le_of_ble_eq_true rfl) dL_law_1409 ⟨Nat.le_of_ble_eq_true rfl, Nat.le_of_ble_eq_true rfl⟩ (w1 := fun u3 => [(y, .inr (9, [.int 1, .ref (qm 0), .int 0, .int 0, .int 0, .int 0, .int 0, .int 0, .int 0, .int 0, .int (-1), .int 0, .ref (qm 1), .int 0, .int 0, .ref (qm 2), .ref (qm 3), .ref (qm 4), .ref (qm 5), .ref (qm 6), .ref (qm 7), .ref (qm 8), .ref (qm 9), .ref (qm 10), .ref (qm 11), .ref (qm 12), .ref (qm 13), .ref (qm 14), .ref (qm 15), .ref (qm 16), .int 0, .int 0, .int 0, .int 0, .int 0, .int 0, .ref (qm 17), .ref (qm 18), .ref (qm 19), .ref (qm 20)]))]) (fun _ => rfl) (fun r4 u3 H locs hp hP hD hS => ?_)
  subst hp
  refine lv_istore (lv' := [(6, .int 0), (5, .int 1), (4, .int 0), (3, .ref o), (2, .ref y), (1, .ref x), (0, .ref b)]) hx hb dL_law_1412 hl (by decide) rfl (fun ls hl => ?_)
  refine lv_aload_n hx hb dL_law_1414 rfl (lv_at hl 4 rfl) ?_
  refine r_callVi (As := []) (rest := []) (wr := []) F hK hP hD hS hA hO hE (c_X9_thrown hO y qm) k_1284 kv_X9_thrown 0 rfl (by decide +kernel) ⟨Nat.le_of_ble_eq_true rfl, Nat.le_of_ble_eq_true rfl⟩ [0] [] rfl rfl (by decide) (by decide) (by decide) 0 9 rfl rfl rfl hl.1 rfl (Nat.le_of_ble_eq_true rfl) dL_law_1415 ⟨Nat.le_of_ble_eq_true rfl, Nat.le_of_ble_eq_true rfl⟩ (w1 := fun u5 => []) (fun _ => rfl) (fun r6 u5 H locs hp hP hD hS => ?_)
  subst hp
  refine lv_iload hx hb dL_law_1418 (lv_at hl 1 rfl) ?_
  refine lv_icmp_eq (tgt := 1425) hx hb dL_law_1420 (by decide) (fun _ => ?_) (fun h9 => absurd rfl h9)
  refine lv_iload hx hb dL_law_1425 (lv_at hl 1 rfl) ?_
  refine lv_if_ne (tgt := 1442) hx hb dL_law_1427 (by decide) (fun _ => ?_) (fun h9 => absurd h9 (by decide))
  refine lv_goto (tgt := 1483) hx hb dL_law_1442 (by decide) ?_
  exact lc_end C1 hS (Nat.le_of_ble_eq_true rfl) (Nat.le_of_ble_eq_true rfl) (lv_sub hl [2, 6] rfl)
theorem dL_law_1445 : decode cL_law 1445 = .ok (.aload_n 1, 1) := by decide +kernel
theorem dL_law_1446 : decode cL_law 1446 = .ok (.aload_n 0, 1) := by decide +kernel
theorem dL_law_1447 : decode cL_law 1447 = .ok (.iload 4, 2) := by decide +kernel
theorem dL_law_1449 : decode cL_law 1449 = .ok (.iconst 1, 1) := by decide +kernel
theorem dL_law_1450 : decode cL_law 1450 = .ok (.iadd, 1) := by decide +kernel
theorem dL_law_1451 : decode cL_law 1451 = .ok (.iaload, 1) := by decide +kernel
theorem dL_law_1452 : decode cL_law 1452 = .ok (.invokevirtual 199, 3) := by decide +kernel
theorem k_1056 : Cond.methodLink RL 199 yX8_size ∈ bw_T := bw_m 1056 (by decide +kernel) rfl
theorem kv_X8_size : bw_KV RX8 yX8_size (Cond.code yX8_size cX8_size 2 (some .int)) := ⟨bw_m 1057 (by decide +kernel) rfl, bw_m 1058 (by decide +kernel) rfl, bw_m 94 (by decide +kernel) rfl, bw_m 1059 (by decide +kernel) rfl⟩
theorem dL_law_1455 : decode cL_law 1455 = .ok (.aload_n 2, 1) := by decide +kernel
theorem dL_law_1456 : decode cL_law 1456 = .ok (.aload_n 0, 1) := by decide +kernel
theorem dL_law_1457 : decode cL_law 1457 = .ok (.iload 4, 2) := by decide +kernel
theorem dL_law_1459 : decode cL_law 1459 = .ok (.iconst 1, 1) := by decide +kernel
theorem dL_law_1460 : decode cL_law 1460 = .ok (.iadd, 1) := by decide +kernel
theorem dL_law_1461 : decode cL_law 1461 = .ok (.iaload, 1) := by decide +kernel
theorem dL_law_1462 : decode cL_law 1462 = .ok (.invokevirtual 202, 3) := by decide +kernel
theorem k_1713 : Cond.methodLink RL 202 yX9_size ∈ bw_T := bw_m 1713 (by decide +kernel) rfl
theorem kv_X9_size : bw_KV RX9 yX9_size (Cond.code yX9_size cX9_size 5 (some .int)) := ⟨bw_m 1714 (by decide +kernel) rfl, bw_m 1715 (by decide +kernel) rfl, bw_m 107 (by decide +kernel) rfl, bw_m 1716 (by decide +kernel) rfl⟩
theorem dL_law_1465 : decode cL_law 1465 = .ok (.if_icmp .eq 18, 3) := by decide +kernel
set_option maxRecDepth 100000 in
set_option maxHeartbeats 4000000 in
theorem lc_42 {p : Program} {l : Launch} {e : Env} {s : State} {m : MethodId} {below : List Frame} {meth : Method} {c : Code} {b : Nat} {xs : Nat → Int32} (C0 : lw_At p s m meth c b 6 xs) {E : (Nat → Prop) → State → Prop} (hO : bw_Ok E) {G : va_G} {cI cB cJ cN cW : ClassId} (hK : va_K G vwCl (bw_kt cI cB cJ cN cW) s) (hE : E (fun q : Nat => s.heap.size ≤ q) s) (x y o : Nat) (q qm : Nat → Nat) (f : Nat → Nat → Int32) {H : Heap} {locs : List Loc} (hP : va_P G vwCl (lc_W cI cB cJ x y o q qm f) H) (hD : va_D (fun q : Nat => s.heap.size ≤ q) (lc_W cI cB cJ x y o q qm f)) (hS : va_S (fun q : Nat => s.heap.size ≤ q) s.heap H locs) {ls : Array Slot} (hl : lv_has ls 7 [(4, .int 0), (3, .ref o), (2, .ref y), (1, .ref x), (0, .ref b)]) : W p l e room_1 s m #[Value.ref b] below meth c H locs 163 8733 (lw_Z below #[Value.ref b] s) (F0 m 1445 ls []) := by
  have C1 := C0
  obtain ⟨hx, hb, hr, hml, hown, hts, hX, hbl, hlocks, hgv⟩ := C0
  have hA : ∀ q : Nat, s.heap.size ≤ q → (fun q : Nat => s.heap.size ≤ q) q := fun _ h => h
  have hbA : ¬ (fun q : Nat => s.heap.size ≤ q) b := Nat.not_le.mpr hbl
  have F : CallFix p m c cL_law 7 s #[Value.ref b] bw_T RL := ⟨hx, hb, hml, hown, fun w h => hts w (List.mem_filter.mp h).1⟩
  have hP := bw_subP (isC := [0, 1, 10, 11, 12, 13, 14]) (wc := [(x, .inr (8, [.int 0, .int 0, .ref (q 0), .ref (q 1), .ref (q 2), .ref (q 3), .ref (q 4), .ref (q 5), .ref (q 6), .ref (q 7), .ref (q 8), .ref (q 9), .ref (q 10), .ref (q 11)])), ((q 0), .inr (3, [.ref (q 20), .int 0, .ref (q 21), .ref (q 22), .int 0, .int 0, .ref (q 23), .ref (q 24), .int 0, .int 24, .int 0, .int 0, .long 0, .int 0])), ((q 2), .inr (2, [.int 0, .ref (q 40), .ref (q 41), .ref (q 42), .ref (q 43), .ref (q 44), .ref (q 45), .ref (q 46), .ref (q 47)])), ((q 47), .inl (cI, 20, .inl (fun _ => 0))), ((q 4), .inr (7, [.int 0, .ref (q 50)])), ((q 11), .inr (1, [.int 0, .ref (q 51), .ref (q 52)])), (y, .inr (9, [.int 0, .ref (qm 0), .int 0, .int 0, .int 0, .int 0, .int 0, .int 0, .int 0, .int 0, .int (-1), .int 0, .ref (qm 1), .int 0, .int 0, .ref (qm 2), .ref (qm 3), .ref (qm 4), .ref (qm 5), .ref (qm 6), .ref (qm 7), .ref (qm 8), .ref (qm 9), .ref (qm 10), .ref (qm 11), .ref (qm 12), .ref (qm 13), .ref (qm 14), .ref (qm 15), .ref (qm 16), .int 0, .int 0, .int 0, .int 0, .int 0, .int 0, .ref (qm 17), .ref (qm 18), .ref (qm 19), .ref (qm 20)]))]) hP rfl
  have hD := hD.sub (ws' := [(x, .inr (8, [.int 0, .int 0, .ref (q 0), .ref (q 1), .ref (q 2), .ref (q 3), .ref (q 4), .ref (q 5), .ref (q 6), .ref (q 7), .ref (q 8), .ref (q 9), .ref (q 10), .ref (q 11)])), ((q 0), .inr (3, [.ref (q 20), .int 0, .ref (q 21), .ref (q 22), .int 0, .int 0, .ref (q 23), .ref (q 24), .int 0, .int 24, .int 0, .int 0, .long 0, .int 0])), ((q 2), .inr (2, [.int 0, .ref (q 40), .ref (q 41), .ref (q 42), .ref (q 43), .ref (q 44), .ref (q 45), .ref (q 46), .ref (q 47)])), ((q 47), .inl (cI, 20, .inl (fun _ => 0))), ((q 4), .inr (7, [.int 0, .ref (q 50)])), ((q 11), .inr (1, [.int 0, .ref (q 51), .ref (q 52)])), (y, .inr (9, [.int 0, .ref (qm 0), .int 0, .int 0, .int 0, .int 0, .int 0, .int 0, .int 0, .int 0, .int (-1), .int 0, .ref (qm 1), .int 0, .int 0, .ref (qm 2), .ref (qm 3), .ref (qm 4), .ref (qm 5), .ref (qm 6), .ref (qm 7), .ref (qm 8), .ref (qm 9), .ref (qm 10), .ref (qm 11), .ref (qm 12), .ref (qm 13), .ref (qm 14), .ref (qm 15), .ref (qm 16), .int 0, .int 0, .int 0, .int 0, .int 0, .int 0, .ref (qm 17), .ref (qm 18), .ref (qm 19), .ref (qm 20)]))]) [0, 1, 10, 11, 12, 13, 14] (by decide) rfl
  refine lv_aload_n hx hb dL_law_1445 rfl (lv_at hl 3 rfl) ?_
  refine lv_aload_n hx hb dL_law_1446 rfl (lv_at hl 4 rfl) ?_
  refine lv_iload hx hb dL_law_1447 (lv_at hl 0 rfl) ?_
  refine lv_iconst (v := 1) hx hb dL_law_1449 (by decide) ?_
  refine r_iadd (v := 1) F dL_law_1450 (by decide) ?_
  refine va_sld hx hb hX hbl hbA hS (bw_vin (by decide)) dL_law_1451 ?_
  refine r_callVi (As := [.int (xs (Int32.toNatClampNeg 1))]) (rest := []) (wr := [(y, .inr (9, [.int 0, .ref (qm 0), .int 0, .int 0, .int 0, .int 0, .int 0, .int 0, .int 0, .int 0, .int (-1), .int 0, .ref (qm 1), .int 0, .int 0, .ref (qm 2), .ref (qm 3), .ref (qm 4), .ref (qm 5), .ref (qm 6), .ref (qm 7), .ref (qm 8), .ref (qm 9), .ref (qm 10), .ref (qm 11), .ref (qm 12), .ref (qm 13), .ref (qm 14), .ref (qm 15), .ref (qm 16), .int 0, .int 0, .int 0, .int 0, .int 0, .int 0, .ref (qm 17), .ref (qm 18), .ref (qm 19), .ref (qm 20)]))]) F hK hP hD hS hA hO hE (c_X8_size hO x q (xs (Int32.toNatClampNeg 1))) k_1056 kv_X8_size 1 rfl (by decide +kernel) ⟨Nat.le_of_ble_eq_true rfl, Nat.le_of_ble_eq_true rfl⟩ [0, 1, 2, 3, 4, 5] [6] rfl rfl (by decide) (by decide) (by decide) 0 8 rfl rfl rfl hl.1 rfl (Nat.le_of_ble_eq_true rfl) dL_law_1452 ⟨Nat.le_of_ble_eq_true rfl, Nat.le_of_ble_eq_true rfl⟩ (w1 := fun u1 => [(y, .inr (9, [.int 0, .ref (qm 0), .int 0, .int 0, .int 0, .int 0, .int 0, .int 0, .int 0, .int 0, .int (-1), .int 0, .ref (qm 1), .int 0, .int 0, .ref (qm 2), .ref (qm 3), .ref (qm 4), .ref (qm 5), .ref (qm 6), .ref (qm 7), .ref (qm 8), .ref (qm 9), .ref (qm 10), .ref (qm 11), .ref (qm 12), .ref (qm 13), .ref (qm 14), .ref (qm 15), .ref (qm 16), .int 0, .int 0, .int 0, .int 0, .int 0, .int 0, .ref (qm 17), .ref (qm 18), .ref (qm 19), .ref (qm 20)]))]) (fun _ => rfl) (fun r2 u1 H locs hp hP hD hS => ?_)
  subst hp
  refine lv_aload_n hx hb dL_law_1455 rfl (lv_at hl 2 rfl) ?_
  refine lv_aload_n hx hb dL_law_1456 rfl (lv_at hl 4 rfl) ?_
  refine lv_iload hx hb dL_law_1457 (lv_at hl 0 rfl) ?_
  refine lv_iconst (v := 1) hx hb dL_law_1459 (by decide) ?_
  refine r_iadd (v := 1) F dL_law_1460 (by decide) ?_
  refine va_sld hx hb hX hbl hbA hS (bw_vin (by decide)) dL_law_1461 ?_
  refine r_callVi (As := [.int (xs (Int32.toNatClampNeg 1))]) (rest := [.int (bw_size (xs (Int32.toNatClampNeg 1)))]) (wr := []) F hK hP hD hS hA hO hE (c_X9_size hO y qm (xs (Int32.toNatClampNeg 1))) k_1713 kv_X9_size 1 rfl (by decide +kernel) ⟨Nat.le_of_ble_eq_true rfl, Nat.le_of_ble_eq_true rfl⟩ [0] [] rfl rfl (by decide) (by decide) (by decide) 0 9 rfl rfl rfl hl.1 rfl (Nat.le_of_ble_eq_true rfl) dL_law_1462 ⟨Nat.le_of_ble_eq_true rfl, Nat.le_of_ble_eq_true rfl⟩ (w1 := fun u3 => []) (fun _ => rfl) (fun r4 u3 H locs hp hP hD hS => ?_)
  subst hp
  refine lv_icmp_eq (tgt := 1483) hx hb dL_law_1465 (by decide) (fun _ => ?_) (fun h9 => absurd rfl h9)
  exact lc_end C1 hS (Nat.le_of_ble_eq_true rfl) (Nat.le_of_ble_eq_true rfl) (lv_sub hl [0, 4] rfl)
theorem dL_law_1470 : decode cL_law 1470 = .ok (.aload_n 1, 1) := by decide +kernel
theorem dL_law_1471 : decode cL_law 1471 = .ok (.invokevirtual 203, 3) := by decide +kernel
theorem k_1076 : Cond.methodLink RL 203 yX8_trouble ∈ bw_T := bw_m 1076 (by decide +kernel) rfl
theorem kv_X8_trouble : bw_KV RX8 yX8_trouble (Cond.code yX8_trouble cX8_trouble 1 (some .int)) := ⟨bw_m 1077 (by decide +kernel) rfl, bw_m 1078 (by decide +kernel) rfl, bw_m 94 (by decide +kernel) rfl, bw_m 1079 (by decide +kernel) rfl⟩
theorem dL_law_1474 : decode cL_law 1474 = .ok (.aload_n 2, 1) := by decide +kernel
theorem dL_law_1475 : decode cL_law 1475 = .ok (.invokevirtual 206, 3) := by decide +kernel
theorem k_1721 : Cond.methodLink RL 206 yX9_trouble ∈ bw_T := bw_m 1721 (by decide +kernel) rfl
theorem kv_X9_trouble : bw_KV RX9 yX9_trouble (Cond.code yX9_trouble cX9_trouble 1 (some .int)) := ⟨bw_m 1722 (by decide +kernel) rfl, bw_m 1723 (by decide +kernel) rfl, bw_m 107 (by decide +kernel) rfl, bw_m 1724 (by decide +kernel) rfl⟩
theorem dL_law_1478 : decode cL_law 1478 = .ok (.if_icmp .eq 5, 3) := by decide +kernel
set_option maxRecDepth 100000 in
set_option maxHeartbeats 4000000 in
theorem lc_43 {p : Program} {l : Launch} {e : Env} {s : State} {m : MethodId} {below : List Frame} {meth : Method} {c : Code} {b : Nat} {xs : Nat → Int32} (C0 : lw_At p s m meth c b 6 xs) {E : (Nat → Prop) → State → Prop} (hO : bw_Ok E) {G : va_G} {cI cB cJ cN cW : ClassId} (hK : va_K G vwCl (bw_kt cI cB cJ cN cW) s) (hE : E (fun q : Nat => s.heap.size ≤ q) s) (x y o : Nat) (q qm : Nat → Nat) (f : Nat → Nat → Int32) {H : Heap} {locs : List Loc} (hP : va_P G vwCl (lc_W cI cB cJ x y o q qm f) H) (hD : va_D (fun q : Nat => s.heap.size ≤ q) (lc_W cI cB cJ x y o q qm f)) (hS : va_S (fun q : Nat => s.heap.size ≤ q) s.heap H locs) {ls : Array Slot} (hl : lv_has ls 7 [(4, .int 0), (3, .ref o), (2, .ref y), (1, .ref x), (0, .ref b)]) : W p l e room_1 s m #[Value.ref b] below meth c H locs 163 8733 (lw_Z below #[Value.ref b] s) (F0 m 1470 ls []) := by
  have C1 := C0
  obtain ⟨hx, hb, hr, hml, hown, hts, hX, hbl, hlocks, hgv⟩ := C0
  have hA : ∀ q : Nat, s.heap.size ≤ q → (fun q : Nat => s.heap.size ≤ q) q := fun _ h => h
  have hbA : ¬ (fun q : Nat => s.heap.size ≤ q) b := Nat.not_le.mpr hbl
  have F : CallFix p m c cL_law 7 s #[Value.ref b] bw_T RL := ⟨hx, hb, hml, hown, fun w h => hts w (List.mem_filter.mp h).1⟩
  have hP := bw_subP (isC := [0, 14]) (wc := [(x, .inr (8, [.int 0, .int 0, .ref (q 0), .ref (q 1), .ref (q 2), .ref (q 3), .ref (q 4), .ref (q 5), .ref (q 6), .ref (q 7), .ref (q 8), .ref (q 9), .ref (q 10), .ref (q 11)])), (y, .inr (9, [.int 0, .ref (qm 0), .int 0, .int 0, .int 0, .int 0, .int 0, .int 0, .int 0, .int 0, .int (-1), .int 0, .ref (qm 1), .int 0, .int 0, .ref (qm 2), .ref (qm 3), .ref (qm 4), .ref (qm 5), .ref (qm 6), .ref (qm 7), .ref (qm 8), .ref (qm 9), .ref (qm 10), .ref (qm 11), .ref (qm 12), .ref (qm 13), .ref (qm 14), .ref (qm 15), .ref (qm 16), .int 0, .int 0, .int 0, .int 0, .int 0, .int 0, .ref (qm 17), .ref (qm 18), .ref (qm 19), .ref (qm 20)]))]) hP rfl
  have hD := hD.sub (ws' := [(x, .inr (8, [.int 0, .int 0, .ref (q 0), .ref (q 1), .ref (q 2), .ref (q 3), .ref (q 4), .ref (q 5), .ref (q 6), .ref (q 7), .ref (q 8), .ref (q 9), .ref (q 10), .ref (q 11)])), (y, .inr (9, [.int 0, .ref (qm 0), .int 0, .int 0, .int 0, .int 0, .int 0, .int 0, .int 0, .int 0, .int (-1), .int 0, .ref (qm 1), .int 0, .int 0, .ref (qm 2), .ref (qm 3), .ref (qm 4), .ref (qm 5), .ref (qm 6), .ref (qm 7), .ref (qm 8), .ref (qm 9), .ref (qm 10), .ref (qm 11), .ref (qm 12), .ref (qm 13), .ref (qm 14), .ref (qm 15), .ref (qm 16), .int 0, .int 0, .int 0, .int 0, .int 0, .int 0, .ref (qm 17), .ref (qm 18), .ref (qm 19), .ref (qm 20)]))]) [0, 14] (by decide) rfl
  refine lv_aload_n hx hb dL_law_1470 rfl (lv_at hl 3 rfl) ?_
  refine r_callVi (As := []) (rest := []) (wr := [(y, .inr (9, [.int 0, .ref (qm 0), .int 0, .int 0, .int 0, .int 0, .int 0, .int 0, .int 0, .int 0, .int (-1), .int 0, .ref (qm 1), .int 0, .int 0, .ref (qm 2), .ref (qm 3), .ref (qm 4), .ref (qm 5), .ref (qm 6), .ref (qm 7), .ref (qm 8), .ref (qm 9), .ref (qm 10), .ref (qm 11), .ref (qm 12), .ref (qm 13), .ref (qm 14), .ref (qm 15), .ref (qm 16), .int 0, .int 0, .int 0, .int 0, .int 0, .int 0, .ref (qm 17), .ref (qm 18), .ref (qm 19), .ref (qm 20)]))]) F hK hP hD hS hA hO hE (c_X8_trouble hO x q) k_1076 kv_X8_trouble 0 rfl (by decide +kernel) ⟨Nat.le_of_ble_eq_true rfl, Nat.le_of_ble_eq_true rfl⟩ [0] [1] rfl rfl (by decide) (by decide) (by decide) 0 8 rfl rfl rfl hl.1 rfl (Nat.le_of_ble_eq_true rfl) dL_law_1471 ⟨Nat.le_of_ble_eq_true rfl, Nat.le_of_ble_eq_true rfl⟩ (w1 := fun u1 => [(y, .inr (9, [.int 0, .ref (qm 0), .int 0, .int 0, .int 0, .int 0, .int 0, .int 0, .int 0, .int 0, .int (-1), .int 0, .ref (qm 1), .int 0, .int 0, .ref (qm 2), .ref (qm 3), .ref (qm 4), .ref (qm 5), .ref (qm 6), .ref (qm 7), .ref (qm 8), .ref (qm 9), .ref (qm 10), .ref (qm 11), .ref (qm 12), .ref (qm 13), .ref (qm 14), .ref (qm 15), .ref (qm 16), .int 0, .int 0, .int 0, .int 0, .int 0, .int 0, .ref (qm 17), .ref (qm 18), .ref (qm 19), .ref (qm 20)]))]) (fun _ => rfl) (fun r2 u1 H locs hp hP hD hS => ?_)
  subst hp
  refine lv_aload_n hx hb dL_law_1474 rfl (lv_at hl 2 rfl) ?_
  refine r_callVi (As := []) (rest := [.int 0]) (wr := []) F hK hP hD hS hA hO hE (c_X9_trouble hO y qm) k_1721 kv_X9_trouble 0 rfl (by decide +kernel) ⟨Nat.le_of_ble_eq_true rfl, Nat.le_of_ble_eq_true rfl⟩ [0] [] rfl rfl (by decide) (by decide) (by decide) 0 9 rfl rfl rfl hl.1 rfl (Nat.le_of_ble_eq_true rfl) dL_law_1475 ⟨Nat.le_of_ble_eq_true rfl, Nat.le_of_ble_eq_true rfl⟩ (w1 := fun u3 => []) (fun _ => rfl) (fun r4 u3 H locs hp hP hD hS => ?_)
  subst hp
  refine lv_icmp_eq (tgt := 1483) hx hb dL_law_1478 (by decide) (fun _ => ?_) (fun h9 => absurd rfl h9)
  exact lc_end C1 hS (Nat.le_of_ble_eq_true rfl) (Nat.le_of_ble_eq_true rfl) (lv_sub hl [0, 4] rfl)
