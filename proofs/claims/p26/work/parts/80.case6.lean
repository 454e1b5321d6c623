theorem dL_law_1117 : decode cL_law 1117 = .ok (.aload_n 1, 1) := bo_43 (by decide +kernel)
theorem dL_law_1118 : decode cL_law 1118 = .ok (.aload_n 0, 1) := bo_42 (by decide +kernel)
theorem dL_law_1119 : decode cL_law 1119 = .ok (.iload 4, 2) := bo_21 (by decide +kernel)
theorem dL_law_1121 : decode cL_law 1121 = .ok (.iconst 1, 1) := bo_4 (by decide +kernel)
theorem dL_law_1122 : decode cL_law 1122 = .ok (.iadd, 1) := bo_96 (by decide +kernel)
theorem dL_law_1123 : decode cL_law 1123 = .ok (.iaload, 1) := bo_46 (by decide +kernel)
theorem dL_law_1124 : decode cL_law 1124 = .ok (.aload_n 0, 1) := bo_42 (by decide +kernel)
theorem dL_law_1125 : decode cL_law 1125 = .ok (.iload 4, 2) := bo_21 (by decide +kernel)
theorem dL_law_1127 : decode cL_law 1127 = .ok (.iconst 2, 1) := bo_5 (by decide +kernel)
theorem dL_law_1128 : decode cL_law 1128 = .ok (.iadd, 1) := bo_96 (by decide +kernel)
theorem dL_law_1129 : decode cL_law 1129 = .ok (.iaload, 1) := bo_46 (by decide +kernel)
theorem dL_law_1130 : decode cL_law 1130 = .ok (.invokevirtual 157, 3) := bo_182 0 157 (by decide +kernel)
theorem k_953 : Cond.methodLink RL 157 yX8_loop ∈ bw_T := bw_m 953 (by decide +kernel) rfl
theorem kv_X8_loop : bw_KV RX8 yX8_loop (Cond.code yX8_loop cX8_loop 5 (some .int)) := ⟨bw_m 954 (by decide +kernel) rfl, bw_m 955 (by decide +kernel) rfl, bw_m 94 (by decide +kernel) rfl, bw_m 956 (by decide +kernel) rfl⟩
theorem dL_law_1133 : decode cL_law 1133 = .ok (.pop, 1) := bo_87 (by decide +kernel)
theorem dL_law_1134 : decode cL_law 1134 = .ok (.aload_n 2, 1) := bo_44 (by decide +kernel)
theorem dL_law_1135 : decode cL_law 1135 = .ok (.aload_n 0, 1) := bo_42 (by decide +kernel)
theorem dL_law_1136 : decode cL_law 1136 = .ok (.iload 4, 2) := bo_21 (by decide +kernel)
theorem dL_law_1138 : decode cL_law 1138 = .ok (.iconst 1, 1) := bo_4 (by decide +kernel)
theorem dL_law_1139 : decode cL_law 1139 = .ok (.iadd, 1) := bo_96 (by decide +kernel)
theorem dL_law_1140 : decode cL_law 1140 = .ok (.iaload, 1) := bo_46 (by decide +kernel)
theorem dL_law_1141 : decode cL_law 1141 = .ok (.aload_n 0, 1) := bo_42 (by decide +kernel)
theorem dL_law_1142 : decode cL_law 1142 = .ok (.iload 4, 2) := bo_21 (by decide +kernel)
theorem dL_law_1144 : decode cL_law 1144 = .ok (.iconst 2, 1) := bo_5 (by decide +kernel)
theorem dL_law_1145 : decode cL_law 1145 = .ok (.iadd, 1) := bo_96 (by decide +kernel)
theorem dL_law_1146 : decode cL_law 1146 = .ok (.iaload, 1) := bo_46 (by decide +kernel)
theorem dL_law_1147 : decode cL_law 1147 = .ok (.invokevirtual 160, 3) := bo_182 0 160 (by decide +kernel)
theorem k_1641 : Cond.methodLink RL 160 yX9_loop ∈ bw_T := bw_m 1641 (by decide +kernel) rfl
theorem kv_X9_loop : bw_KV RX9 yX9_loop (Cond.code yX9_loop cX9_loop 4 (some .int)) := ⟨bw_m 1642 (by decide +kernel) rfl, bw_m 1643 (by decide +kernel) rfl, bw_m 107 (by decide +kernel) rfl, bw_m 1644 (by decide +kernel) rfl⟩
theorem dL_law_1150 : decode cL_law 1150 = .ok (.pop, 1) := bo_87 (by decide +kernel)
theorem dL_law_1151 : decode cL_law 1151 = .ok (.goto 304, 3) := bo_167 1 48 (by decide +kernel)
set_option maxRecDepth 100000 in
set_option maxHeartbeats 8000000 in
theorem lc_33 {p : Program} {l : Launch} {e : Env} {s : State} {m : MethodId} {below : List Frame} {meth : Method} {c : Code} {b : Nat} {xs : Nat → Int32} {L : Nat} (C0 : lw_At p s m meth c b L xs) (hL9 : L ≤ 3072) {E : (Nat → Prop) → State → Prop} (hO : bw_Ok E) {sa va : Nat → Nat} {fb : Nat → Nat → Int32} (hWd : bw_Words E sa va fb) (hWb : ∀ j, j < 15 → ∀ k, k < wlen j → fb j k = zI (wch j k)) (hst : l.stackTraces = false) {sth : Nat} (hTh : bw_Thr E sth) {G : va_G} (cI cB cJ cN cW : ClassId) (x y o : Nat) (Q qN qK : Nat → Nat → Nat) (qm : Nat → Nat) (hK : va_K G vwCl (bw_kt cI cB cJ cN cW) s) (hE : E (fun q : Nat => s.heap.size ≤ q) s) (n : Nat) (hn : n + 6 ≤ L) (t : Int) (ld : Int) (i1 : Nat → Int) (g1 : Nat → Nat → Int) (n2 : Int) (g2 : Nat → Nat → Int) (n3 : Int) (g3 : Nat → Nat → Int) (n4 : Int) (g4 : Nat → Nat → Int) (n5 : Int) (g5 : Nat → Nat → Int) (n6 : Int) (g6 : Nat → Nat → Int) (n7 : Int) (g7 : Nat → Nat → Int) (i8 : Nat → Int) (g8 : Nat → Nat → Int) (i9 : Nat → Int) (g9 : Nat → Nat → Int) (i10 : Nat → Int) (g10 : Nat → Nat → Int) (i11 : Nat → Int) (g11 : Nat → Nat → Int) (i12 : Nat → Int) (g12 : Nat → Nat → Int) (i13 : Nat → Int) (g13 : Nat → Nat → Int) (g14 : Nat → Nat → Int) (n15 : Int) (nN : Nat → Int) (gN : Nat → Nat → Nat → Int) (iK : Nat → Nat → Int) (gK : Nat → Nat → Nat → Int) (i : Nat → Int) (a0 : Nat → Int) (a1 : Nat → Int) (a2 : Nat → Int) (a3 : Nat → Int) (a4 : Nat → Int) (a5 : Nat → Int) (a6 : Nat → Int) (a7 : Nat → Int) (a8 : Nat → Int) (a9 : Nat → Int) (a10 : Nat → Int) (a11 : Nat → Int) (a12 : Nat → Int) (a13 : Nat → Int) (a14 : Nat → Int) (a15 : Nat → Int) (a16 : Nat → Int) (a17 : Nat → Int) (a18 : Nat → Int) (a19 : Nat → Int) (a20 : Nat → Int) (go : Nat → Int) (hF : lw_F (1000 * (n : Int)) t ld i1 g1 n2 g2 n3 g3 n4 g4 n5 g5 n6 g6 n7 g7 i8 g8 i9 g9 i10 g10 i11 g11 i12 g12 i13 g13 g14 n15 nN gN iK gK) (hMm : lw_M i a0 a1 a2 a3 a4 a5 a6 a7 a8 a9 a10 a11 a12 a13 a14 a15 a16 a17 a18 a19 a20) (hT : ((i1 0 = i 1 ∧ lw_X t ld i1 g1 n15 i a0) ∧ lw_N n4 g4 n5 g5 n7 g7 i8 g8 i11 g11 n15 nN gN iK gK i a3 a4 a6 a11 a13 a16)) {H : Heap} {locs : List Loc} {ls : Array Slot} (hP : va_P G vwCl (lw_W cI cB cJ cN cW x y o Q qN qK qm t ld i1 g1 n2 g2 n3 g3 n4 g4 n5 g5 n6 g6 n7 g7 i8 g8 i9 g9 i10 g10 i11 g11 i12 g12 i13 g13 g14 n15 nN gN iK gK i a0 a1 a2 a3 a4 a5 a6 a7 a8 a9 a10 a11 a12 a13 a14 a15 a16 a17 a18 a19 a20 go) H) (hD : va_D (fun q : Nat => s.heap.size ≤ q) (lw_W cI cB cJ cN cW x y o Q qN qK qm t ld i1 g1 n2 g2 n3 g3 n4 g4 n5 g5 n6 g6 n7 g7 i8 g8 i9 g9 i10 g10 i11 g11 i12 g12 i13 g13 g14 n15 nN gN iK gK i a0 a1 a2 a3 a4 a5 a6 a7 a8 a9 a10 a11 a12 a13 a14 a15 a16 a17 a18 a19 a20 go)) (hS : va_S (fun q : Nat => s.heap.size ≤ q) s.heap H locs) (hl : lv_has ls 7 [(4, .int (zI (n : Int))), (3, .ref o), (2, .ref y), (1, .ref x), (0, .ref b)]) (IH : lw_End p l e s m below meth c b G cI cB cJ cN cW x y o Q qN qK qm n) : W p l e room_1 s m #[Value.ref b] below meth c H locs (163 + n) (8733 + 6 * n) (lw_Z below #[Value.ref b] s) (F0 m 1117 ls []) := by
  have C1 := C0
  obtain ⟨hx, hb, hr, hml, hown, hts, hX, hbl, hlocks, hgv⟩ := C0
  have hA : ∀ q : Nat, s.heap.size ≤ q → (fun q : Nat => s.heap.size ≤ q) q := fun _ h => h
  have hbA : ¬ (fun q : Nat => s.heap.size ≤ q) b := Nat.not_le.mpr hbl
  have F : CallFix p m c cL_law 7 s #[Value.ref b] bw_T RL := ⟨hx, hb, hml, hown, fun w h => hts w (List.mem_filter.mp h).1⟩
  obtain ⟨ht, hL, h1, h2, h3, h4, h5, h6, h7, h8, h9, h10, h11, h12, h13, h14, h15, hN, hK4, hk, hkK⟩ := hF
  obtain ⟨hM, r0, r1, r11, r12, r17, r18, hpn, hpt, hsr, hkp⟩ := hMm
  obtain ⟨⟨hT1, hI1, hI2, hI3, hI4⟩, hNn⟩ := hT
  have hNq := hNn
  obtain ⟨⟨⟨hm1, hm3, hm5, hm5d⟩, hm7, hm8⟩, ⟨hm2, hm4, hm6⟩, hm9, hm10, hm11⟩ := hNq
  have hm5n : LN a3 n5 := by rw [hm3]; exact hm5
  have hm5dn : DN a3 n5 := by rw [hm3]; exact hm5d
  obtain ⟨e1, he1, hy1⟩ := zI_of (xs (n + 1))
  obtain ⟨e2, he2, hy2⟩ := zI_of (xs (n + 2))
  refine lv_aload_n hx hb dL_law_1117 rfl (lv_at hl 3 rfl) ?_
  refine lw_arg (j := 1) F hX hbl hbA hS (lv_at hl 4 rfl) (lv_at hl 0 rfl) (by decide) hy1 (by omega) hL9 dL_law_1118 dL_law_1119 dL_law_1121 dL_law_1122 dL_law_1123 ?_
  refine lw_arg (j := 2) F hX hbl hbA hS (lv_at hl 4 rfl) (lv_at hl 0 rfl) (by decide) hy2 (by omega) hL9 dL_law_1124 dL_law_1125 dL_law_1127 dL_law_1128 dL_law_1129 ?_
  refine lw_callV (As := [.int (zI e1), .int (zI e2)]) (rest := []) F hK hP hD hS hA hO hE (c_X8_loop hO x (Q 0) t ld hL e1 e2 he1 he2) k_953 kv_X8_loop 2 rfl (by decide +kernel) ⟨Nat.le_of_ble_eq_true rfl, Nat.le_of_ble_eq_true rfl⟩ [0] rfl (by decide) (fun _ => rfl) 0 8 rfl rfl rfl hl.1 rfl (Nat.le_of_ble_eq_true rfl) dL_law_1130 (lw_hf (by omega) (Nat.le_of_ble_eq_true rfl) (Nat.le_of_ble_eq_true rfl)) [some 0, none, none, none, none, none, none, none, none, none, none, none, none, none, none, none, none, none, none, none, none, none, none, none, none, none, none, none, none, none, none, none, none, none, none, none, none, none, none, none, none, none, none, none, none, none, none, none, none, none, none, none, none, none, none, none, none, none, none, none, none, none, none, none, none, none, none, none, none, none, none, none, none, none, none, none, none, none, none, none, none, none, none, none, none, none, none, none, none, none, none, none, none, none, none, none, none, none, none, none, none, none, none, none, none, none, none, none, none, none, none, none, none, none, none, none, none, none, none, none, none, none, none, none, none, none, none, none, none, none, none, none, none, none, none, none, none, none, none, none, none, none, none, none, none, none, none, none, none, none, none, none, none, none, none, none, none, none, none, none, none, none, none] 163 (by decide +kernel) (w1 := fun u1 => lw_W cI cB cJ cN cW x y o Q qN qK qm (u1.1 0) ld i1 g1 n2 g2 n3 g3 n4 g4 n5 g5 n6 g6 n7 g7 i8 g8 i9 g9 i10 g10 i11 g11 i12 g12 i13 g13 g14 n15 nN gN iK gK i a0 a1 a2 a3 a4 a5 a6 a7 a8 a9 a10 a11 a12 a13 a14 a15 a16 a17 a18 a19 a20 go) (fun _ => rfl) (fun rv1 u1 H locs hp1 hP hD hS => ?_)
  obtain ⟨z1, rfl, hz1⟩ := hp1
  have ht1 : 0 ≤ u1.1 0 ∧ u1.1 0 ≤ 6 := ⟨hz1.2.1, hz1.2.2.1⟩
  have ht4 := hz1.2.2.2
  refine lv_pop hx hb dL_law_1133 rfl ?_
  refine lv_aload_n hx hb dL_law_1134 rfl (lv_at hl 2 rfl) ?_
  refine lw_arg (j := 1) F hX hbl hbA hS (lv_at hl 4 rfl) (lv_at hl 0 rfl) (by decide) hy1 (by omega) hL9 dL_law_1135 dL_law_1136 dL_law_1138 dL_law_1139 dL_law_1140 ?_
  refine lw_arg (j := 2) F hX hbl hbA hS (lv_at hl 4 rfl) (lv_at hl 0 rfl) (by decide) hy2 (by omega) hL9 dL_law_1141 dL_law_1142 dL_law_1144 dL_law_1145 dL_law_1146 ?_
  refine lw_callV (As := [.int (zI e1), .int (zI e2)]) (rest := []) F hK hP hD hS hA hO hE (c_X9_loop hO y qm i hM e1 e2 he1 he2) k_1641 kv_X9_loop 2 rfl (by decide +kernel) ⟨Nat.le_of_ble_eq_true rfl, Nat.le_of_ble_eq_true rfl⟩ [140] rfl (by decide) (fun _ => rfl) 0 9 rfl rfl rfl hl.1 rfl (Nat.le_of_ble_eq_true rfl) dL_law_1147 (lw_hf2 (by omega) (Nat.le_of_ble_eq_true rfl) (Nat.le_of_ble_eq_true rfl) (Nat.le_of_ble_eq_true rfl) (Nat.le_of_ble_eq_true rfl)) [none, none, none, none, none, none, none, none, none, none, none, none, none, none, none, none, none, none, none, none, none, none, none, none, none, none, none, none, none, none, none, none, none, none, none, none, none, none, none, none, none, none, none, none, none, none, none, none, none, none, none, none, none, none, none, none, none, none, none, none, none, none, none, none, none, none, none, none, none, none, none, none, none, none, none, none, none, none, none, none, none, none, none, none, none, none, none, none, none, none, none, none, none, none, none, none, none, none, none, none, none, none, none, none, none, none, none, none, none, none, none, none, none, none, none, none, none, none, none, none, none, none, none, none, none, none, none, none, none, none, none, none, none, none, none, none, none, none, none, none, some 0, none, none, none, none, none, none, none, none, none, none, none, none, none, none, none, none, none, none, none, none, none, none] 163 (by decide +kernel) (w1 := fun u2 => lw_W cI cB cJ cN cW x y o Q qN qK qm (u1.1 0) ld i1 g1 n2 g2 n3 g3 n4 g4 n5 g5 n6 g6 n7 g7 i8 g8 i9 g9 i10 g10 i11 g11 i12 g12 i13 g13 g14 n15 nN gN iK gK ((u2 0).1) a0 a1 a2 a3 a4 a5 a6 a7 a8 a9 a10 a11 a12 a13 a14 a15 a16 a17 a18 a19 a20 go) (fun _ => rfl) (fun rv2 u2 H locs hp2 hP hD hS => ?_)
  obtain ⟨z2, rfl, hz2⟩ := hp2
  have hx2 := hz2.2
  refine lv_pop hx hb dL_law_1150 rfl ?_
  refine lv_goto (tgt := 1455) hx hb dL_law_1151 (by decide) ?_
  refine W.widen (k := 164 + n) (n := 8739 + 6 * n) (lw_cl (Nat.le_of_ble_eq_true rfl)) (lw_sl (Nat.le_of_ble_eq_true rfl)) ?_
  exact IH (u1.1 0) ld i1 g1 n2 g2 n3 g3 n4 g4 n5 g5 n6 g6 n7 g7 i8 g8 i9 g9 i10 g10 i11 g11 i12 g12 i13 g13 g14 n15 nN gN iK gK ((u2 0).1) a0 a1 a2 a3 a4 a5 a6 a7 a8 a9 a10 a11 a12 a13 a14 a15 a16 a17 a18 a19 a20 go H locs ls ⟨ht1, hL, h1, h2, h3, h4, h5, h6, h7, h8, h9, h10, h11, h12, h13, h14, h15, hN, hK4, (show i8 1 ≤ 1000 * (n : Int) + 1000 from by omega), (fun j hj => by have h9 := hkK j hj; omega)⟩ ⟨hz2.1, r0, r1, r11, r12, r17, r18, hpn, hpt, hsr, hkp⟩ ⟨⟨(show i1 0 = ((u2 0).1) 1 from by omega), ⟨hI1.1, hI1.2⟩, (show i1 1 = ((u2 0).1) 8 ∧ ld = ((u2 0).1) 12 ∧ n15 = ((u2 0).1) 17 from by omega), (show (u1.1 0) = 4 ↔ ((u2 0).1) 10 = 4 from by omega), (show (u1.1 0) = 4 → i1 2 = ((u2 0).1) 9 from fun q9 => absurd q9 (by omega))⟩, (lw_N.ii hNn (show ((u2 0).1) 12 = i 12 ∧ ((u2 0).1) 13 = i 13 ∧ ((u2 0).1) 15 = i 15 from by omega))⟩ hP hD hS hl
theorem dL_law_1154 : decode cL_law 1154 = .ok (.aload_n 1, 1) := bo_43 (by decide +kernel)
theorem dL_law_1155 : decode cL_law 1155 = .ok (.aload_n 0, 1) := bo_42 (by decide +kernel)
theorem dL_law_1156 : decode cL_law 1156 = .ok (.iload 4, 2) := bo_21 (by decide +kernel)
theorem dL_law_1158 : decode cL_law 1158 = .ok (.iconst 1, 1) := bo_4 (by decide +kernel)
theorem dL_law_1159 : decode cL_law 1159 = .ok (.iadd, 1) := bo_96 (by decide +kernel)
theorem dL_law_1160 : decode cL_law 1160 = .ok (.iaload, 1) := bo_46 (by decide +kernel)
theorem dL_law_1161 : decode cL_law 1161 = .ok (.aload_n 0, 1) := bo_42 (by decide +kernel)
theorem dL_law_1162 : decode cL_law 1162 = .ok (.iload 4, 2) := bo_21 (by decide +kernel)
theorem dL_law_1164 : decode cL_law 1164 = .ok (.iconst 2, 1) := bo_5 (by decide +kernel)
theorem dL_law_1165 : decode cL_law 1165 = .ok (.iadd, 1) := bo_96 (by decide +kernel)
theorem dL_law_1166 : decode cL_law 1166 = .ok (.iaload, 1) := bo_46 (by decide +kernel)
theorem dL_law_1167 : decode cL_law 1167 = .ok (.invokevirtual 161, 3) := bo_182 0 161 (by decide +kernel)
theorem k_957 : Cond.methodLink RL 161 yX8_alike ∈ bw_T := bw_m 957 (by decide +kernel) rfl
theorem kv_X8_alike : bw_KV RX8 yX8_alike (Cond.code yX8_alike cX8_alike 3 (some .int)) := ⟨bw_m 958 (by decide +kernel) rfl, bw_m 959 (by decide +kernel) rfl, bw_m 94 (by decide +kernel) rfl, bw_m 960 (by decide +kernel) rfl⟩
theorem dL_law_1170 : decode cL_law 1170 = .ok (.pop, 1) := bo_87 (by decide +kernel)
theorem dL_law_1171 : decode cL_law 1171 = .ok (.aload_n 2, 1) := bo_44 (by decide +kernel)
theorem dL_law_1172 : decode cL_law 1172 = .ok (.aload_n 0, 1) := bo_42 (by decide +kernel)
theorem dL_law_1173 : decode cL_law 1173 = .ok (.iload 4, 2) := bo_21 (by decide +kernel)
theorem dL_law_1175 : decode cL_law 1175 = .ok (.iconst 1, 1) := bo_4 (by decide +kernel)
theorem dL_law_1176 : decode cL_law 1176 = .ok (.iadd, 1) := bo_96 (by decide +kernel)
theorem dL_law_1177 : decode cL_law 1177 = .ok (.iaload, 1) := bo_46 (by decide +kernel)
theorem dL_law_1178 : decode cL_law 1178 = .ok (.aload_n 0, 1) := bo_42 (by decide +kernel)
theorem dL_law_1179 : decode cL_law 1179 = .ok (.iload 4, 2) := bo_21 (by decide +kernel)
theorem dL_law_1181 : decode cL_law 1181 = .ok (.iconst 2, 1) := bo_5 (by decide +kernel)
theorem dL_law_1182 : decode cL_law 1182 = .ok (.iadd, 1) := bo_96 (by decide +kernel)
theorem dL_law_1183 : decode cL_law 1183 = .ok (.iaload, 1) := bo_46 (by decide +kernel)
theorem dL_law_1184 : decode cL_law 1184 = .ok (.invokevirtual 164, 3) := bo_182 0 164 (by decide +kernel)
theorem k_1645 : Cond.methodLink RL 164 yX9_alike ∈ bw_T := bw_m 1645 (by decide +kernel) rfl
theorem kv_X9_alike : bw_KV RX9 yX9_alike (Cond.code yX9_alike cX9_alike 3 (some .int)) := ⟨bw_m 1646 (by decide +kernel) rfl, bw_m 1647 (by decide +kernel) rfl, bw_m 107 (by decide +kernel) rfl, bw_m 1648 (by decide +kernel) rfl⟩
theorem dL_law_1187 : decode cL_law 1187 = .ok (.pop, 1) := bo_87 (by decide +kernel)
theorem dL_law_1188 : decode cL_law 1188 = .ok (.goto 267, 3) := bo_167 1 11 (by decide +kernel)
set_option maxRecDepth 100000 in
set_option maxHeartbeats 8000000 in
theorem lc_34 {p : Program} {l : Launch} {e : Env} {s : State} {m : MethodId} {below : List Frame} {meth : Method} {c : Code} {b : Nat} {xs : Nat → Int32} {L : Nat} (C0 : lw_At p s m meth c b L xs) (hL9 : L ≤ 3072) {E : (Nat → Prop) → State → Prop} (hO : bw_Ok E) {sa va : Nat → Nat} {fb : Nat → Nat → Int32} (hWd : bw_Words E sa va fb) (hWb : ∀ j, j < 15 → ∀ k, k < wlen j → fb j k = zI (wch j k)) (hst : l.stackTraces = false) {sth : Nat} (hTh : bw_Thr E sth) {G : va_G} (cI cB cJ cN cW : ClassId) (x y o : Nat) (Q qN qK : Nat → Nat → Nat) (qm : Nat → Nat) (hK : va_K G vwCl (bw_kt cI cB cJ cN cW) s) (hE : E (fun q : Nat => s.heap.size ≤ q) s) (n : Nat) (hn : n + 6 ≤ L) (t : Int) (ld : Int) (i1 : Nat → Int) (g1 : Nat → Nat → Int) (n2 : Int) (g2 : Nat → Nat → Int) (n3 : Int) (g3 : Nat → Nat → Int) (n4 : Int) (g4 : Nat → Nat → Int) (n5 : Int) (g5 : Nat → Nat → Int) (n6 : Int) (g6 : Nat → Nat → Int) (n7 : Int) (g7 : Nat → Nat → Int) (i8 : Nat → Int) (g8 : Nat → Nat → Int) (i9 : Nat → Int) (g9 : Nat → Nat → Int) (i10 : Nat → Int) (g10 : Nat → Nat → Int) (i11 : Nat → Int) (g11 : Nat → Nat → Int) (i12 : Nat → Int) (g12 : Nat → Nat → Int) (i13 : Nat → Int) (g13 : Nat → Nat → Int) (g14 : Nat → Nat → Int) (n15 : Int) (nN : Nat → Int) (gN : Nat → Nat → Nat → Int) (iK : Nat → Nat → Int) (gK : Nat → Nat → Nat → Int) (i : Nat → Int) (a0 : Nat → Int) (a1 : Nat → Int) (a2 : Nat → Int) (a3 : Nat → Int) (a4 : Nat → Int) (a5 : Nat → Int) (a6 : Nat → Int) (a7 : Nat → Int) (a8 : Nat → Int) (a9 : Nat → Int) (a10 : Nat → Int) (a11 : Nat → Int) (a12 : Nat → Int) (a13 : Nat → Int) (a14 : Nat → Int) (a15 : Nat → Int) (a16 : Nat → Int) (a17 : Nat → Int) (a18 : Nat → Int) (a19 : Nat → Int) (a20 : Nat → Int) (go : Nat → Int) (hF : lw_F (1000 * (n : Int)) t ld i1 g1 n2 g2 n3 g3 n4 g4 n5 g5 n6 g6 n7 g7 i8 g8 i9 g9 i10 g10 i11 g11 i12 g12 i13 g13 g14 n15 nN gN iK gK) (hMm : lw_M i a0 a1 a2 a3 a4 a5 a6 a7 a8 a9 a10 a11 a12 a13 a14 a15 a16 a17 a18 a19 a20) (hT : ((i1 0 = i 1 ∧ lw_X t ld i1 g1 n15 i a0) ∧ lw_N n4 g4 n5 g5 n7 g7 i8 g8 i11 g11 n15 nN gN iK gK i a3 a4 a6 a11 a13 a16)) {H : Heap} {locs : List Loc} {ls : Array Slot} (hP : va_P G vwCl (lw_W cI cB cJ cN cW x y o Q qN qK qm t ld i1 g1 n2 g2 n3 g3 n4 g4 n5 g5 n6 g6 n7 g7 i8 g8 i9 g9 i10 g10 i11 g11 i12 g12 i13 g13 g14 n15 nN gN iK gK i a0 a1 a2 a3 a4 a5 a6 a7 a8 a9 a10 a11 a12 a13 a14 a15 a16 a17 a18 a19 a20 go) H) (hD : va_D (fun q : Nat => s.heap.size ≤ q) (lw_W cI cB cJ cN cW x y o Q qN qK qm t ld i1 g1 n2 g2 n3 g3 n4 g4 n5 g5 n6 g6 n7 g7 i8 g8 i9 g9 i10 g10 i11 g11 i12 g12 i13 g13 g14 n15 nN gN iK gK i a0 a1 a2 a3 a4 a5 a6 a7 a8 a9 a10 a11 a12 a13 a14 a15 a16 a17 a18 a19 a20 go)) (hS : va_S (fun q : Nat => s.heap.size ≤ q) s.heap H locs) (hl : lv_has ls 7 [(4, .int (zI (n : Int))), (3, .ref o), (2, .ref y), (1, .ref x), (0, .ref b)]) (IH : lw_End p l e s m below meth c b G cI cB cJ cN cW x y o Q qN qK qm n) : W p l e room_1 s m #[Value.ref b] below meth c H locs (163 + n) (8733 + 6 * n) (lw_Z below #[Value.ref b] s) (F0 m 1154 ls []) := by
  have C1 := C0
  obtain ⟨hx, hb, hr, hml, hown, hts, hX, hbl, hlocks, hgv⟩ := C0
  have hA : ∀ q : Nat, s.heap.size ≤ q → (fun q : Nat => s.heap.size ≤ q) q := fun _ h => h
  have hbA : ¬ (fun q : Nat => s.heap.size ≤ q) b := Nat.not_le.mpr hbl
  have F : CallFix p m c cL_law 7 s #[Value.ref b] bw_T RL := ⟨hx, hb, hml, hown, fun w h => hts w (List.mem_filter.mp h).1⟩
  obtain ⟨ht, hL, h1, h2, h3, h4, h5, h6, h7, h8, h9, h10, h11, h12, h13, h14, h15, hN, hK4, hk, hkK⟩ := hF
  obtain ⟨hM, r0, r1, r11, r12, r17, r18, hpn, hpt, hsr, hkp⟩ := hMm
  obtain ⟨⟨hT1, hI1, hI2, hI3, hI4⟩, hNn⟩ := hT
  have hNq := hNn
  obtain ⟨⟨⟨hm1, hm3, hm5, hm5d⟩, hm7, hm8⟩, ⟨hm2, hm4, hm6⟩, hm9, hm10, hm11⟩ := hNq
  have hm5n : LN a3 n5 := by rw [hm3]; exact hm5
  have hm5dn : DN a3 n5 := by rw [hm3]; exact hm5d
  obtain ⟨e1, he1, hy1⟩ := zI_of (xs (n + 1))
  obtain ⟨e2, he2, hy2⟩ := zI_of (xs (n + 2))
  refine lv_aload_n hx hb dL_law_1154 rfl (lv_at hl 3 rfl) ?_
  refine lw_arg (j := 1) F hX hbl hbA hS (lv_at hl 4 rfl) (lv_at hl 0 rfl) (by decide) hy1 (by omega) hL9 dL_law_1155 dL_law_1156 dL_law_1158 dL_law_1159 dL_law_1160 ?_
  refine lw_arg (j := 2) F hX hbl hbA hS (lv_at hl 4 rfl) (lv_at hl 0 rfl) (by decide) hy2 (by omega) hL9 dL_law_1161 dL_law_1162 dL_law_1164 dL_law_1165 dL_law_1166 ?_
  refine lw_callV (As := [.int (zI e1), .int (zI e2)]) (rest := []) F hK hP hD hS hA hO hE (c_X8_alike hO x (Q 0) t ld hL ht (Q 5) n5 g5 h5 e1 e2 he1 he2) k_957 kv_X8_alike 2 rfl (by decide +kernel) ⟨Nat.le_of_ble_eq_true rfl, Nat.le_of_ble_eq_true rfl⟩ [0, 25, 26, 27, 28, 29, 30, 31, 32, 33] rfl (by decide) (fun _ => rfl) 0 8 rfl rfl rfl hl.1 rfl (Nat.le_of_ble_eq_true rfl) dL_law_1167 (lw_hf (by omega) (Nat.le_of_ble_eq_true rfl) (Nat.le_of_ble_eq_true rfl)) [some 0, none, none, none, none, none, none, none, none, none, none, none, none, none, none, none, none, none, none, none, none, none, none, none, none, some 1, some 2, some 3, some 4, some 5, some 6, some 7, some 8, some 9, none, none, none, none, none, none, none, none, none, none, none, none, none, none, none, none, none, none, none, none, none, none, none, none, none, none, none, none, none, none, none, none, none, none, none, none, none, none, none, none, none, none, none, none, none, none, none, none, none, none, none, none, none, none, none, none, none, none, none, none, none, none, none, none, none, none, none, none, none, none, none, none, none, none, none, none, none, none, none, none, none, none, none, none, none, none, none, none, none, none, none, none, none, none, none, none, none, none, none, none, none, none, none, none, none, none, none, none, none, none, none, none, none, none, none, none, none, none, none, none, none, none, none, none, none, none, none, none, none] 163 (by decide +kernel) (w1 := fun u1 => lw_W cI cB cJ cN cW x y o Q qN qK qm ((u1 0).1 0) ((u1 0).1 1) i1 g1 n2 g2 n3 g3 n4 g4 n5 g5 n6 g6 n7 g7 i8 g8 i9 g9 i10 g10 i11 g11 i12 g12 i13 g13 g14 n15 nN gN iK gK i a0 a1 a2 a3 a4 a5 a6 a7 a8 a9 a10 a11 a12 a13 a14 a15 a16 a17 a18 a19 a20 go) (fun _ => rfl) (fun rv1 u1 H locs hp1 hP hD hS => ?_)
  obtain ⟨z1, rfl, hz1⟩ := hp1
  have ht1 : 0 ≤ (u1 0).1 0 ∧ (u1 0).1 0 ≤ 6 := hz1.1.1
  have hL1 : (u1 0).1 1 = 0 ∨ (u1 0).1 1 = 1 := hz1.1.2.1
  have hyq := hz1.1.2.2
  have hx1 := hz1.2
  refine lv_pop hx hb dL_law_1170 rfl ?_
  refine lv_aload_n hx hb dL_law_1171 rfl (lv_at hl 2 rfl) ?_
  refine lw_arg (j := 1) F hX hbl hbA hS (lv_at hl 4 rfl) (lv_at hl 0 rfl) (by decide) hy1 (by omega) hL9 dL_law_1172 dL_law_1173 dL_law_1175 dL_law_1176 dL_law_1177 ?_
  refine lw_arg (j := 2) F hX hbl hbA hS (lv_at hl 4 rfl) (lv_at hl 0 rfl) (by decide) hy2 (by omega) hL9 dL_law_1178 dL_law_1179 dL_law_1181 dL_law_1182 dL_law_1183 ?_
  refine lw_callV (As := [.int (zI e1), .int (zI e2)]) (rest := []) F hK hP hD hS hA hO hE (c_X9_alike hO y qm i hM a3 e1 e2 he1 he2 hpn) k_1645 kv_X9_alike 2 rfl (by decide +kernel) ⟨Nat.le_of_ble_eq_true rfl, Nat.le_of_ble_eq_true rfl⟩ [140, 144] rfl (by decide) (fun _ => rfl) 0 9 rfl rfl rfl hl.1 rfl (Nat.le_of_ble_eq_true rfl) dL_law_1184 (lw_hf2 (by omega) (Nat.le_of_ble_eq_true rfl) (Nat.le_of_ble_eq_true rfl) (Nat.le_of_ble_eq_true rfl) (Nat.le_of_ble_eq_true rfl)) [none, none, none, none, none, none, none, none, none, none, none, none, none, none, none, none, none, none, none, none, none, none, none, none, none, none, none, none, none, none, none, none, none, none, none, none, none, none, none, none, none, none, none, none, none, none, none, none, none, none, none, none, none, none, none, none, none, none, none, none, none, none, none, none, none, none, none, none, none, none, none, none, none, none, none, none, none, none, none, none, none, none, none, none, none, none, none, none, none, none, none, none, none, none, none, none, none, none, none, none, none, none, none, none, none, none, none, none, none, none, none, none, none, none, none, none, none, none, none, none, none, none, none, none, none, none, none, none, none, none, none, none, none, none, none, none, none, none, none, none, some 0, none, none, none, some 1, none, none, none, none, none, none, none, none, none, none, none, none, none, none, none, none, none, none] 163 (by decide +kernel) (w1 := fun u2 => lw_W cI cB cJ cN cW x y o Q qN qK qm ((u1 0).1 0) ((u1 0).1 1) i1 g1 n2 g2 n3 g3 n4 g4 n5 g5 n6 g6 n7 g7 i8 g8 i9 g9 i10 g10 i11 g11 i12 g12 i13 g13 g14 n15 nN gN iK gK ((u2 0).1) a0 a1 a2 a3 a4 a5 a6 a7 a8 a9 a10 a11 a12 a13 a14 a15 a16 a17 a18 a19 a20 go) (fun _ => rfl) (fun rv2 u2 H locs hp2 hP hD hS => ?_)
  obtain ⟨z2, rfl, hz2⟩ := hp2
  have hx2 := hz2.2
  refine lv_pop hx hb dL_law_1187 rfl ?_
  refine lv_goto (tgt := 1455) hx hb dL_law_1188 (by decide) ?_
  refine W.widen (k := 164 + n) (n := 8739 + 6 * n) (lw_cl (Nat.le_of_ble_eq_true rfl)) (lw_sl (Nat.le_of_ble_eq_true rfl)) ?_
  exact IH ((u1 0).1 0) ((u1 0).1 1) i1 g1 n2 g2 n3 g3 n4 g4 n5 g5 n6 g6 n7 g7 i8 g8 i9 g9 i10 g10 i11 g11 i12 g12 i13 g13 g14 n15 nN gN iK gK ((u2 0).1) a0 a1 a2 a3 a4 a5 a6 a7 a8 a9 a10 a11 a12 a13 a14 a15 a16 a17 a18 a19 a20 go H locs ls ⟨ht1, hL1, h1, h2, h3, h4, h5, h6, h7, h8, h9, h10, h11, h12, h13, h14, h15, hN, hK4, (show i8 1 ≤ 1000 * (n : Int) + 1000 from by omega), (fun j hj => by have h9 := hkK j hj; omega)⟩ ⟨hz2.1, r0, r1, r11, r12, r17, r18, hpn, hpt, hsr, hkp⟩ ⟨⟨(show i1 0 = ((u2 0).1) 1 from by omega), ⟨hI1.1, hI1.2⟩, (show i1 1 = ((u2 0).1) 8 ∧ ((u1 0).1 1) = ((u2 0).1) 12 ∧ n15 = ((u2 0).1) 17 from by omega), (show ((u1 0).1 0) = 4 ↔ ((u2 0).1) 10 = 4 from by omega), (show ((u1 0).1 0) = 4 → i1 2 = ((u2 0).1) 9 from fun q9 => absurd q9 (by omega))⟩, (lw_N.ii hNn (show ((u2 0).1) 12 = i 12 ∧ ((u2 0).1) 13 = i 13 ∧ ((u2 0).1) 15 = i 15 from by omega))⟩ hP hD hS hl
theorem dL_law_1191 : decode cL_law 1191 = .ok (.aload_n 1, 1) := bo_43 (by decide +kernel)
theorem dL_law_1192 : decode cL_law 1192 = .ok (.aload_n 0, 1) := bo_42 (by decide +kernel)
theorem dL_law_1193 : decode cL_law 1193 = .ok (.iload 4, 2) := bo_21 (by decide +kernel)
theorem dL_law_1195 : decode cL_law 1195 = .ok (.iconst 1, 1) := bo_4 (by decide +kernel)
theorem dL_law_1196 : decode cL_law 1196 = .ok (.iadd, 1) := bo_96 (by decide +kernel)
theorem dL_law_1197 : decode cL_law 1197 = .ok (.iaload, 1) := bo_46 (by decide +kernel)
theorem dL_law_1198 : decode cL_law 1198 = .ok (.aload_n 0, 1) := bo_42 (by decide +kernel)
theorem dL_law_1199 : decode cL_law 1199 = .ok (.iload 4, 2) := bo_21 (by decide +kernel)
theorem dL_law_1201 : decode cL_law 1201 = .ok (.iconst 2, 1) := bo_5 (by decide +kernel)
theorem dL_law_1202 : decode cL_law 1202 = .ok (.iadd, 1) := bo_96 (by decide +kernel)
theorem dL_law_1203 : decode cL_law 1203 = .ok (.iaload, 1) := bo_46 (by decide +kernel)
theorem dL_law_1204 : decode cL_law 1204 = .ok (.aload_n 0, 1) := bo_42 (by decide +kernel)
theorem dL_law_1205 : decode cL_law 1205 = .ok (.iload 4, 2) := bo_21 (by decide +kernel)
theorem dL_law_1207 : decode cL_law 1207 = .ok (.iconst 3, 1) := bo_6 (by decide +kernel)
theorem dL_law_1208 : decode cL_law 1208 = .ok (.iadd, 1) := bo_96 (by decide +kernel)
theorem dL_law_1209 : decode cL_law 1209 = .ok (.iaload, 1) := bo_46 (by decide +kernel)
theorem dL_law_1210 : decode cL_law 1210 = .ok (.invokevirtual 165, 3) := bo_182 0 165 (by decide +kernel)
theorem k_974 : Cond.methodLink RL 165 yX8_unfair ∈ bw_T := bw_m 974 (by decide +kernel) rfl
theorem kv_X8_unfair : bw_KV RX8 yX8_unfair (Cond.code yX8_unfair cX8_unfair 4 (some .int)) := ⟨bw_m 975 (by decide +kernel) rfl, bw_m 976 (by decide +kernel) rfl, bw_m 94 (by decide +kernel) rfl, bw_m 977 (by decide +kernel) rfl⟩
theorem dL_law_1213 : decode cL_law 1213 = .ok (.pop, 1) := bo_87 (by decide +kernel)
theorem dL_law_1214 : decode cL_law 1214 = .ok (.aload_n 2, 1) := bo_44 (by decide +kernel)
theorem dL_law_1215 : decode cL_law 1215 = .ok (.aload_n 0, 1) := bo_42 (by decide +kernel)
theorem dL_law_1216 : decode cL_law 1216 = .ok (.iload 4, 2) := bo_21 (by decide +kernel)
theorem dL_law_1218 : decode cL_law 1218 = .ok (.iconst 1, 1) := bo_4 (by decide +kernel)
theorem dL_law_1219 : decode cL_law 1219 = .ok (.iadd, 1) := bo_96 (by decide +kernel)
theorem dL_law_1220 : decode cL_law 1220 = .ok (.iaload, 1) := bo_46 (by decide +kernel)
theorem dL_law_1221 : decode cL_law 1221 = .ok (.aload_n 0, 1) := bo_42 (by decide +kernel)
theorem dL_law_1222 : decode cL_law 1222 = .ok (.iload 4, 2) := bo_21 (by decide +kernel)
theorem dL_law_1224 : decode cL_law 1224 = .ok (.iconst 2, 1) := bo_5 (by decide +kernel)
theorem dL_law_1225 : decode cL_law 1225 = .ok (.iadd, 1) := bo_96 (by decide +kernel)
theorem dL_law_1226 : decode cL_law 1226 = .ok (.iaload, 1) := bo_46 (by decide +kernel)
theorem dL_law_1227 : decode cL_law 1227 = .ok (.aload_n 0, 1) := bo_42 (by decide +kernel)
theorem dL_law_1228 : decode cL_law 1228 = .ok (.iload 4, 2) := bo_21 (by decide +kernel)
theorem dL_law_1230 : decode cL_law 1230 = .ok (.iconst 3, 1) := bo_6 (by decide +kernel)
theorem dL_law_1231 : decode cL_law 1231 = .ok (.iadd, 1) := bo_96 (by decide +kernel)
theorem dL_law_1232 : decode cL_law 1232 = .ok (.iaload, 1) := bo_46 (by decide +kernel)
theorem dL_law_1233 : decode cL_law 1233 = .ok (.invokevirtual 169, 3) := bo_182 0 169 (by decide +kernel)
theorem k_1657 : Cond.methodLink RL 169 yX9_unfair ∈ bw_T := bw_m 1657 (by decide +kernel) rfl
theorem kv_X9_unfair : bw_KV RX9 yX9_unfair (Cond.code yX9_unfair cX9_unfair 4 (some .int)) := ⟨bw_m 1658 (by decide +kernel) rfl, bw_m 1659 (by decide +kernel) rfl, bw_m 107 (by decide +kernel) rfl, bw_m 1660 (by decide +kernel) rfl⟩
theorem dL_law_1236 : decode cL_law 1236 = .ok (.pop, 1) := bo_87 (by decide +kernel)
theorem dL_law_1237 : decode cL_law 1237 = .ok (.goto 218, 3) := bo_167 0 218 (by decide +kernel)
set_option maxRecDepth 100000 in
set_option maxHeartbeats 8000000 in
theorem lc_35 {p : Program} {l : Launch} {e : Env} {s : State} {m : MethodId} {below : List Frame} {meth : Method} {c : Code} {b : Nat} {xs : Nat → Int32} {L : Nat} (C0 : lw_At p s m meth c b L xs) (hL9 : L ≤ 3072) {E : (Nat → Prop) → State → Prop} (hO : bw_Ok E) {sa va : Nat → Nat} {fb : Nat → Nat → Int32} (hWd : bw_Words E sa va fb) (hWb : ∀ j, j < 15 → ∀ k, k < wlen j → fb j k = zI (wch j k)) (hst : l.stackTraces = false) {sth : Nat} (hTh : bw_Thr E sth) {G : va_G} (cI cB cJ cN cW : ClassId) (x y o : Nat) (Q qN qK : Nat → Nat → Nat) (qm : Nat → Nat) (hK : va_K G vwCl (bw_kt cI cB cJ cN cW) s) (hE : E (fun q : Nat => s.heap.size ≤ q) s) (n : Nat) (hn : n + 6 ≤ L) (t : Int) (ld : Int) (i1 : Nat → Int) (g1 : Nat → Nat → Int) (n2 : Int) (g2 : Nat → Nat → Int) (n3 : Int) (g3 : Nat → Nat → Int) (n4 : Int) (g4 : Nat → Nat → Int) (n5 : Int) (g5 : Nat → Nat → Int) (n6 : Int) (g6 : Nat → Nat → Int) (n7 : Int) (g7 : Nat → Nat → Int) (i8 : Nat → Int) (g8 : Nat → Nat → Int) (i9 : Nat → Int) (g9 : Nat → Nat → Int) (i10 : Nat → Int) (g10 : Nat → Nat → Int) (i11 : Nat → Int) (g11 : Nat → Nat → Int) (i12 : Nat → Int) (g12 : Nat → Nat → Int) (i13 : Nat → Int) (g13 : Nat → Nat → Int) (g14 : Nat → Nat → Int) (n15 : Int) (nN : Nat → Int) (gN : Nat → Nat → Nat → Int) (iK : Nat → Nat → Int) (gK : Nat → Nat → Nat → Int) (i : Nat → Int) (a0 : Nat → Int) (a1 : Nat → Int) (a2 : Nat → Int) (a3 : Nat → Int) (a4 : Nat → Int) (a5 : Nat → Int) (a6 : Nat → Int) (a7 : Nat → Int) (a8 : Nat → Int) (a9 : Nat → Int) (a10 : Nat → Int) (a11 : Nat → Int) (a12 : Nat → Int) (a13 : Nat → Int) (a14 : Nat → Int) (a15 : Nat → Int) (a16 : Nat → Int) (a17 : Nat → Int) (a18 : Nat → Int) (a19 : Nat → Int) (a20 : Nat → Int) (go : Nat → Int) (hF : lw_F (1000 * (n : Int)) t ld i1 g1 n2 g2 n3 g3 n4 g4 n5 g5 n6 g6 n7 g7 i8 g8 i9 g9 i10 g10 i11 g11 i12 g12 i13 g13 g14 n15 nN gN iK gK) (hMm : lw_M i a0 a1 a2 a3 a4 a5 a6 a7 a8 a9 a10 a11 a12 a13 a14 a15 a16 a17 a18 a19 a20) (hT : ((i1 0 = i 1 ∧ lw_X t ld i1 g1 n15 i a0) ∧ lw_N n4 g4 n5 g5 n7 g7 i8 g8 i11 g11 n15 nN gN iK gK i a3 a4 a6 a11 a13 a16)) {H : Heap} {locs : List Loc} {ls : Array Slot} (hP : va_P G vwCl (lw_W cI cB cJ cN cW x y o Q qN qK qm t ld i1 g1 n2 g2 n3 g3 n4 g4 n5 g5 n6 g6 n7 g7 i8 g8 i9 g9 i10 g10 i11 g11 i12 g12 i13 g13 g14 n15 nN gN iK gK i a0 a1 a2 a3 a4 a5 a6 a7 a8 a9 a10 a11 a12 a13 a14 a15 a16 a17 a18 a19 a20 go) H) (hD : va_D (fun q : Nat => s.heap.size ≤ q) (lw_W cI cB cJ cN cW x y o Q qN qK qm t ld i1 g1 n2 g2 n3 g3 n4 g4 n5 g5 n6 g6 n7 g7 i8 g8 i9 g9 i10 g10 i11 g11 i12 g12 i13 g13 g14 n15 nN gN iK gK i a0 a1 a2 a3 a4 a5 a6 a7 a8 a9 a10 a11 a12 a13 a14 a15 a16 a17 a18 a19 a20 go)) (hS : va_S (fun q : Nat => s.heap.size ≤ q) s.heap H locs) (hl : lv_has ls 7 [(4, .int (zI (n : Int))), (3, .ref o), (2, .ref y), (1, .ref x), (0, .ref b)]) (IH : lw_End p l e s m below meth c b G cI cB cJ cN cW x y o Q qN qK qm n) : W p l e room_1 s m #[Value.ref b] below meth c H locs (163 + n) (8733 + 6 * n) (lw_Z below #[Value.ref b] s) (F0 m 1191 ls []) := by
  have C1 := C0
  obtain ⟨hx, hb, hr, hml, hown, hts, hX, hbl, hlocks, hgv⟩ := C0
  have hA : ∀ q : Nat, s.heap.size ≤ q → (fun q : Nat => s.heap.size ≤ q) q := fun _ h => h
  have hbA : ¬ (fun q : Nat => s.heap.size ≤ q) b := Nat.not_le.mpr hbl
  have F : CallFix p m c cL_law 7 s #[Value.ref b] bw_T RL := ⟨hx, hb, hml, hown, fun w h => hts w (List.mem_filter.mp h).1⟩
  obtain ⟨ht, hL, h1, h2, h3, h4, h5, h6, h7, h8, h9, h10, h11, h12, h13, h14, h15, hN, hK4, hk, hkK⟩ := hF
  obtain ⟨hM, r0, r1, r11, r12, r17, r18, hpn, hpt, hsr, hkp⟩ := hMm
  obtain ⟨⟨hT1, hI1, hI2, hI3, hI4⟩, hNn⟩ := hT
  have hNq := hNn
  obtain ⟨⟨⟨hm1, hm3, hm5, hm5d⟩, hm7, hm8⟩, ⟨hm2, hm4, hm6⟩, hm9, hm10, hm11⟩ := hNq
  have hm5n : LN a3 n5 := by rw [hm3]; exact hm5
  have hm5dn : DN a3 n5 := by rw [hm3]; exact hm5d
  obtain ⟨e1, he1, hy1⟩ := zI_of (xs (n + 1))
  obtain ⟨e2, he2, hy2⟩ := zI_of (xs (n + 2))
  obtain ⟨e3, he3, hy3⟩ := zI_of (xs (n + 3))
  refine lv_aload_n hx hb dL_law_1191 rfl (lv_at hl 3 rfl) ?_
  refine lw_arg (j := 1) F hX hbl hbA hS (lv_at hl 4 rfl) (lv_at hl 0 rfl) (by decide) hy1 (by omega) hL9 dL_law_1192 dL_law_1193 dL_law_1195 dL_law_1196 dL_law_1197 ?_
  refine lw_arg (j := 2) F hX hbl hbA hS (lv_at hl 4 rfl) (lv_at hl 0 rfl) (by decide) hy2 (by omega) hL9 dL_law_1198 dL_law_1199 dL_law_1201 dL_law_1202 dL_law_1203 ?_
  refine lw_arg (j := 3) F hX hbl hbA hS (lv_at hl 4 rfl) (lv_at hl 0 rfl) (by decide) hy3 (by omega) hL9 dL_law_1204 dL_law_1205 dL_law_1207 dL_law_1208 dL_law_1209 ?_
  refine lw_callV (As := [.int (zI e1), .int (zI e2), .int (zI e3)]) (rest := []) F hK hP hD hS hA hO hE (c_X8z_unfair hO x (Q 0) t ld hL ht (Q 5) n5 g5 h5 (Q 6) n6 g6 h6 (Q 11) i11 g11 h11 (Q 12) i12 g12 h12 e1 e2 e3 he1 he2 he3 a3 hpn hm1 hm9) k_974 kv_X8_unfair 3 rfl (by decide +kernel) ⟨Nat.le_of_ble_eq_true rfl, Nat.le_of_ble_eq_true rfl⟩ [0, 25, 26, 27, 28, 29, 30, 31, 32, 33, 34, 35, 36, 37, 38, 39, 40, 41, 42, 60, 61, 62, 63, 64, 65, 66, 67, 68, 69] rfl (by decide) (fun _ => rfl) 0 8 rfl rfl rfl hl.1 rfl (Nat.le_of_ble_eq_true rfl) dL_law_1210 (lw_hf (by omega) (Nat.le_of_ble_eq_true rfl) (Nat.le_of_ble_eq_true rfl)) [some 0, none, none, none, none, none, none, none, none, none, none, none, none, none, none, none, none, none, none, none, none, none, none, none, none, some 1, some 2, some 3, some 4, some 5, some 6, some 7, some 8, some 9, some 10, some 11, some 12, some 13, some 14, some 15, some 16, some 17, some 18, none, none, none, none, none, none, none, none, none, none, none, none, none, none, none, none, none, some 19, some 20, some 21, some 22, some 23, some 24, some 25, some 26, some 27, some 28, none, none, none, none, none, none, none, none, none, none, none, none, none, none, none, none, none, none, none, none, none, none, none, none, none, none, none, none, none, none, none, none, none, none, none, none, none, none, none, none, none, none, none, none, none, none, none, none, none, none, none, none, none, none, none, none, none, none, none, none, none, none, none, none, none, none, none, none, none, none, none, none, none, none, none, none, none, none, none, none, none, none, none, none, none, none, none, none, none, none, none, none, none] 163 (by decide +kernel) (w1 := fun u1 => lw_W cI cB cJ cN cW x y o Q qN qK qm ((u1 0).1 0) ((u1 0).1 1) i1 g1 n2 g2 n3 g3 n4 g4 n5 g5 ((u1 1).1 0) ((u1 1).2) n7 g7 i8 g8 i9 g9 i10 g10 ((u1 2).1) ((u1 2).2) ((u1 3).1) ((u1 3).2) i13 g13 g14 n15 nN gN iK gK i a0 a1 a2 a3 a4 a5 a6 a7 a8 a9 a10 a11 a12 a13 a14 a15 a16 a17 a18 a19 a20 go) (fun _ => rfl) (fun rv1 u1 H locs hp1 hP hD hS => ?_)
  obtain ⟨z1, rfl, hz1⟩ := hp1
  have ht1 : 0 ≤ (u1 0).1 0 ∧ (u1 0).1 0 ≤ 6 := hz1.1.1
  have hL1 : (u1 0).1 1 = 0 ∨ (u1 0).1 1 = 1 := hz1.1.2.1
  have hyq := hz1.1.2.2
  have hx1 := hz1.2.2.2.2
  refine lv_pop hx hb dL_law_1213 rfl ?_
  refine lv_aload_n hx hb dL_law_1214 rfl (lv_at hl 2 rfl) ?_
  refine lw_arg (j := 1) F hX hbl hbA hS (lv_at hl 4 rfl) (lv_at hl 0 rfl) (by decide) hy1 (by omega) hL9 dL_law_1215 dL_law_1216 dL_law_1218 dL_law_1219 dL_law_1220 ?_
  refine lw_arg (j := 2) F hX hbl hbA hS (lv_at hl 4 rfl) (lv_at hl 0 rfl) (by decide) hy2 (by omega) hL9 dL_law_1221 dL_law_1222 dL_law_1224 dL_law_1225 dL_law_1226 ?_
  refine lw_arg (j := 3) F hX hbl hbA hS (lv_at hl 4 rfl) (lv_at hl 0 rfl) (by decide) hy3 (by omega) hL9 dL_law_1227 dL_law_1228 dL_law_1230 dL_law_1231 dL_law_1232 ?_
  refine lw_callV (As := [.int (zI e1), .int (zI e2), .int (zI e3)]) (rest := []) F hK hP hD hS hA hO hE (c_X9_unfair hO y qm i hM a3 a5 a14 a15 e1 e2 e3 he1 he2 he3 hpn) k_1657 kv_X9_unfair 3 rfl (by decide +kernel) ⟨Nat.le_of_ble_eq_true rfl, Nat.le_of_ble_eq_true rfl⟩ [140, 144, 146, 155, 156] rfl (by decide) (fun _ => rfl) 0 9 rfl rfl rfl hl.1 rfl (Nat.le_of_ble_eq_true rfl) dL_law_1233 (lw_hf2 (by omega) (Nat.le_of_ble_eq_true rfl) (Nat.le_of_ble_eq_true rfl) (Nat.le_of_ble_eq_true rfl) (Nat.le_of_ble_eq_true rfl)) [none, none, none, none, none, none, none, none, none, none, none, none, none, none, none, none, none, none, none, none, none, none, none, none, none, none, none, none, none, none, none, none, none, none, none, none, none, none, none, none, none, none, none, none, none, none, none, none, none, none, none, none, none, none, none, none, none, none, none, none, none, none, none, none, none, none, none, none, none, none, none, none, none, none, none, none, none, none, none, none, none, none, none, none, none, none, none, none, none, none, none, none, none, none, none, none, none, none, none, none, none, none, none, none, none, none, none, none, none, none, none, none, none, none, none, none, none, none, none, none, none, none, none, none, none, none, none, none, none, none, none, none, none, none, none, none, none, none, none, none, some 0, none, none, none, some 1, none, some 2, none, none, none, none, none, none, none, none, some 3, some 4, none, none, none, none, none, none] 163 (by decide +kernel) (w1 := fun u2 => lw_W cI cB cJ cN cW x y o Q qN qK qm ((u1 0).1 0) ((u1 0).1 1) i1 g1 n2 g2 n3 g3 n4 g4 n5 g5 ((u1 1).1 0) ((u1 1).2) n7 g7 i8 g8 i9 g9 i10 g10 ((u1 2).1) ((u1 2).2) ((u1 3).1) ((u1 3).2) i13 g13 g14 n15 nN gN iK gK ((u2 0).1) a0 a1 a2 a3 a4 ((u2 1).2 0) a6 a7 a8 a9 a10 a11 a12 a13 ((u2 2).2 0) ((u2 3).2 0) a16 a17 a18 a19 a20 go) (fun _ => rfl) (fun rv2 u2 H locs hp2 hP hD hS => ?_)
  obtain ⟨z2, rfl, hz2⟩ := hp2
  have hx2 := hz2.2
  refine lv_pop hx hb dL_law_1236 rfl ?_
  refine lv_goto (tgt := 1455) hx hb dL_law_1237 (by decide) ?_
  refine W.widen (k := 164 + n) (n := 8739 + 6 * n) (lw_cl (Nat.le_of_ble_eq_true rfl)) (lw_sl (Nat.le_of_ble_eq_true rfl)) ?_
  exact IH ((u1 0).1 0) ((u1 0).1 1) i1 g1 n2 g2 n3 g3 n4 g4 n5 g5 ((u1 1).1 0) ((u1 1).2) n7 g7 i8 g8 i9 g9 i10 g10 ((u1 2).1) ((u1 2).2) ((u1 3).1) ((u1 3).2) i13 g13 g14 n15 nN gN iK gK ((u2 0).1) a0 a1 a2 a3 a4 ((u2 1).2 0) a6 a7 a8 a9 a10 a11 a12 a13 ((u2 2).2 0) ((u2 3).2 0) a16 a17 a18 a19 a20 go H locs ls ⟨ht1, hL1, h1, h2, h3, h4, h5, hz1.2.1, h7, h8, h9, h10, hz1.2.2.1, hz1.2.2.2.1, h13, h14, h15, hN, hK4, (show i8 1 ≤ 1000 * (n : Int) + 1000 from by omega), (fun j hj => by have h9 := hkK j hj; omega)⟩ ⟨hz2.1, r0, r1, r11, r12, r17, r18, hpn, hpt, hsr, hkp⟩ ⟨⟨(show i1 0 = ((u2 0).1) 1 from by omega), ⟨hI1.1, hI1.2⟩, (show i1 1 = ((u2 0).1) 8 ∧ ((u1 0).1 1) = ((u2 0).1) 12 ∧ n15 = ((u2 0).1) 17 from by omega), (show ((u1 0).1 0) = 4 ↔ ((u2 0).1) 10 = 4 from by omega), (show ((u1 0).1 0) = 4 → i1 2 = ((u2 0).1) 9 from fun q9 => absurd q9 (by omega))⟩, (lw_N.ii (lw_N.ss hNn hx1) (show ((u2 0).1) 12 = i 12 ∧ ((u2 0).1) 13 = i 13 ∧ ((u2 0).1) 15 = i 15 from by omega))⟩ hP hD hS hl
theorem dL_law_1240 : decode cL_law 1240 = .ok (.aload_n 1, 1) := bo_43 (by decide +kernel)
theorem dL_law_1241 : decode cL_law 1241 = .ok (.aload_n 0, 1) := bo_42 (by decide +kernel)
theorem dL_law_1242 : decode cL_law 1242 = .ok (.iload 4, 2) := bo_21 (by decide +kernel)
theorem dL_law_1244 : decode cL_law 1244 = .ok (.iconst 1, 1) := bo_4 (by decide +kernel)
theorem dL_law_1245 : decode cL_law 1245 = .ok (.iadd, 1) := bo_96 (by decide +kernel)
theorem dL_law_1246 : decode cL_law 1246 = .ok (.iaload, 1) := bo_46 (by decide +kernel)
theorem dL_law_1247 : decode cL_law 1247 = .ok (.invokevirtual 170, 3) := bo_182 0 170 (by decide +kernel)
theorem k_986 : Cond.methodLink RL 170 yX8_fold ∈ bw_T := bw_m 986 (by decide +kernel) rfl
theorem kv_X8_fold : bw_KV RX8 yX8_fold (Cond.code yX8_fold cX8_fold 4 (some .int)) := ⟨bw_m 987 (by decide +kernel) rfl, bw_m 988 (by decide +kernel) rfl, bw_m 94 (by decide +kernel) rfl, bw_m 989 (by decide +kernel) rfl⟩
theorem dL_law_1250 : decode cL_law 1250 = .ok (.pop, 1) := bo_87 (by decide +kernel)
theorem dL_law_1251 : decode cL_law 1251 = .ok (.aload_n 2, 1) := bo_44 (by decide +kernel)
theorem dL_law_1252 : decode cL_law 1252 = .ok (.aload_n 0, 1) := bo_42 (by decide +kernel)
theorem dL_law_1253 : decode cL_law 1253 = .ok (.iload 4, 2) := bo_21 (by decide +kernel)
theorem dL_law_1255 : decode cL_law 1255 = .ok (.iconst 1, 1) := bo_4 (by decide +kernel)
theorem dL_law_1256 : decode cL_law 1256 = .ok (.iadd, 1) := bo_96 (by decide +kernel)
theorem dL_law_1257 : decode cL_law 1257 = .ok (.iaload, 1) := bo_46 (by decide +kernel)
theorem dL_law_1258 : decode cL_law 1258 = .ok (.invokevirtual 173, 3) := bo_182 0 173 (by decide +kernel)
theorem k_1665 : Cond.methodLink RL 173 yX9_fold ∈ bw_T := bw_m 1665 (by decide +kernel) rfl
theorem kv_X9_fold : bw_KV RX9 yX9_fold (Cond.code yX9_fold cX9_fold 4 (some .int)) := ⟨bw_m 1666 (by decide +kernel) rfl, bw_m 1667 (by decide +kernel) rfl, bw_m 107 (by decide +kernel) rfl, bw_m 1668 (by decide +kernel) rfl⟩
theorem dL_law_1261 : decode cL_law 1261 = .ok (.pop, 1) := bo_87 (by decide +kernel)
theorem dL_law_1262 : decode cL_law 1262 = .ok (.goto 193, 3) := bo_167 0 193 (by decide +kernel)
set_option maxRecDepth 100000 in
set_option maxHeartbeats 8000000 in
theorem lc_36 {p : Program} {l : Launch} {e : Env} {s : State} {m : MethodId} {below : List Frame} {meth : Method} {c : Code} {b : Nat} {xs : Nat → Int32} {L : Nat} (C0 : lw_At p s m meth c b L xs) (hL9 : L ≤ 3072) {E : (Nat → Prop) → State → Prop} (hO : bw_Ok E) {sa va : Nat → Nat} {fb : Nat → Nat → Int32} (hWd : bw_Words E sa va fb) (hWb : ∀ j, j < 15 → ∀ k, k < wlen j → fb j k = zI (wch j k)) (hst : l.stackTraces = false) {sth : Nat} (hTh : bw_Thr E sth) {G : va_G} (cI cB cJ cN cW : ClassId) (x y o : Nat) (Q qN qK : Nat → Nat → Nat) (qm : Nat → Nat) (hK : va_K G vwCl (bw_kt cI cB cJ cN cW) s) (hE : E (fun q : Nat => s.heap.size ≤ q) s) (n : Nat) (hn : n + 6 ≤ L) (t : Int) (ld : Int) (i1 : Nat → Int) (g1 : Nat → Nat → Int) (n2 : Int) (g2 : Nat → Nat → Int) (n3 : Int) (g3 : Nat → Nat → Int) (n4 : Int) (g4 : Nat → Nat → Int) (n5 : Int) (g5 : Nat → Nat → Int) (n6 : Int) (g6 : Nat → Nat → Int) (n7 : Int) (g7 : Nat → Nat → Int) (i8 : Nat → Int) (g8 : Nat → Nat → Int) (i9 : Nat → Int) (g9 : Nat → Nat → Int) (i10 : Nat → Int) (g10 : Nat → Nat → Int) (i11 : Nat → Int) (g11 : Nat → Nat → Int) (i12 : Nat → Int) (g12 : Nat → Nat → Int) (i13 : Nat → Int) (g13 : Nat → Nat → Int) (g14 : Nat → Nat → Int) (n15 : Int) (nN : Nat → Int) (gN : Nat → Nat → Nat → Int) (iK : Nat → Nat → Int) (gK : Nat → Nat → Nat → Int) (i : Nat → Int) (a0 : Nat → Int) (a1 : Nat → Int) (a2 : Nat → Int) (a3 : Nat → Int) (a4 : Nat → Int) (a5 : Nat → Int) (a6 : Nat → Int) (a7 : Nat → Int) (a8 : Nat → Int) (a9 : Nat → Int) (a10 : Nat → Int) (a11 : Nat → Int) (a12 : Nat → Int) (a13 : Nat → Int) (a14 : Nat → Int) (a15 : Nat → Int) (a16 : Nat → Int) (a17 : Nat → Int) (a18 : Nat → Int) (a19 : Nat → Int) (a20 : Nat → Int) (go : Nat → Int) (hF : lw_F (1000 * (n : Int)) t ld i1 g1 n2 g2 n3 g3 n4 g4 n5 g5 n6 g6 n7 g7 i8 g8 i9 g9 i10 g10 i11 g11 i12 g12 i13 g13 g14 n15 nN gN iK gK) (hMm : lw_M i a0 a1 a2 a3 a4 a5 a6 a7 a8 a9 a10 a11 a12 a13 a14 a15 a16 a17 a18 a19 a20) (hT : ((i1 0 = i 1 ∧ lw_X t ld i1 g1 n15 i a0) ∧ lw_N n4 g4 n5 g5 n7 g7 i8 g8 i11 g11 n15 nN gN iK gK i a3 a4 a6 a11 a13 a16)) {H : Heap} {locs : List Loc} {ls : Array Slot} (hP : va_P G vwCl (lw_W cI cB cJ cN cW x y o Q qN qK qm t ld i1 g1 n2 g2 n3 g3 n4 g4 n5 g5 n6 g6 n7 g7 i8 g8 i9 g9 i10 g10 i11 g11 i12 g12 i13 g13 g14 n15 nN gN iK gK i a0 a1 a2 a3 a4 a5 a6 a7 a8 a9 a10 a11 a12 a13 a14 a15 a16 a17 a18 a19 a20 go) H) (hD : va_D (fun q : Nat => s.heap.size ≤ q) (lw_W cI cB cJ cN cW x y o Q qN qK qm t ld i1 g1 n2 g2 n3 g3 n4 g4 n5 g5 n6 g6 n7 g7 i8 g8 i9 g9 i10 g10 i11 g11 i12 g12 i13 g13 g14 n15 nN gN iK gK i a0 a1 a2 a3 a4 a5 a6 a7 a8 a9 a10 a11 a12 a13 a14 a15 a16 a17 a18 a19 a20 go)) (hS : va_S (fun q : Nat => s.heap.size ≤ q) s.heap H locs) (hl : lv_has ls 7 [(4, .int (zI (n : Int))), (3, .ref o), (2, .ref y), (1, .ref x), (0, .ref b)]) (IH : lw_End p l e s m below meth c b G cI cB cJ cN cW x y o Q qN qK qm n) : W p l e room_1 s m #[Value.ref b] below meth c H locs (163 + n) (8733 + 6 * n) (lw_Z below #[Value.ref b] s) (F0 m 1240 ls []) := by
  have C1 := C0
  obtain ⟨hx, hb, hr, hml, hown, hts, hX, hbl, hlocks, hgv⟩ := C0
  have hA : ∀ q : Nat, s.heap.size ≤ q → (fun q : Nat => s.heap.size ≤ q) q := fun _ h => h
  have hbA : ¬ (fun q : Nat => s.heap.size ≤ q) b := Nat.not_le.mpr hbl
  have F : CallFix p m c cL_law 7 s #[Value.ref b] bw_T RL := ⟨hx, hb, hml, hown, fun w h => hts w (List.mem_filter.mp h).1⟩
  obtain ⟨ht, hL, h1, h2, h3, h4, h5, h6, h7, h8, h9, h10, h11, h12, h13, h14, h15, hN, hK4, hk, hkK⟩ := hF
  obtain ⟨hM, r0, r1, r11, r12, r17, r18, hpn, hpt, hsr, hkp⟩ := hMm
  obtain ⟨⟨hT1, hI1, hI2, hI3, hI4⟩, hNn⟩ := hT
  have hNq := hNn
  obtain ⟨⟨⟨hm1, hm3, hm5, hm5d⟩, hm7, hm8⟩, ⟨hm2, hm4, hm6⟩, hm9, hm10, hm11⟩ := hNq
  have hm5n : LN a3 n5 := by rw [hm3]; exact hm5
  have hm5dn : DN a3 n5 := by rw [hm3]; exact hm5d
  obtain ⟨e1, he1, hy1⟩ := zI_of (xs (n + 1))
  refine lv_aload_n hx hb dL_law_1240 rfl (lv_at hl 3 rfl) ?_
  refine lw_arg (j := 1) F hX hbl hbA hS (lv_at hl 4 rfl) (lv_at hl 0 rfl) (by decide) hy1 (by omega) hL9 dL_law_1241 dL_law_1242 dL_law_1244 dL_law_1245 dL_law_1246 ?_
  refine lw_callV (As := [.int (zI e1)]) (rest := []) F hK hP hD hS hA hO hE (c_X8z_fold hO x (Q 0) t ld hL ht (Q 5) n5 g5 h5 (Q 6) n6 g6 h6 (Q 11) i11 g11 h11 (Q 12) i12 g12 h12 (Q 13) i13 g13 h13 (Q 8) i8 g8 h8 e1 he1 (by omega) a3 hpn hm1 hm9 hm5n) k_986 kv_X8_fold 1 rfl (by decide +kernel) ⟨Nat.le_of_ble_eq_true rfl, Nat.le_of_ble_eq_true rfl⟩ [0, 25, 26, 27, 28, 29, 30, 31, 32, 33, 34, 35, 36, 37, 38, 39, 40, 41, 42, 60, 61, 62, 63, 64, 65, 66, 67, 68, 69, 70, 71, 72, 45, 46, 47, 48, 49] rfl (by decide) (fun _ => rfl) 0 8 rfl rfl rfl hl.1 rfl (Nat.le_of_ble_eq_true rfl) dL_law_1247 (lw_hf (by omega) (Nat.le_of_ble_eq_true rfl) (Nat.le_of_ble_eq_true rfl)) [some 0, none, none, none, none, none, none, none, none, none, none, none, none, none, none, none, none, none, none, none, none, none, none, none, none, some 1, some 2, some 3, some 4, some 5, some 6, some 7, some 8, some 9, some 10, some 11, some 12, some 13, some 14, some 15, some 16, some 17, some 18, none, none, some 32, some 33, some 34, some 35, some 36, none, none, none, none, none, none, none, none, none, none, some 19, some 20, some 21, some 22, some 23, some 24, some 25, some 26, some 27, some 28, some 29, some 30, some 31, none, none, none, none, none, none, none, none, none, none, none, none, none, none, none, none, none, none, none, none, none, none, none, none, none, none, none, none, none, none, none, none, none, none, none, none, none, none, none, none, none, none, none, none, none, none, none, none, none, none, none, none, none, none, none, none, none, none, none, none, none, none, none, none, none, none, none, none, none, none, none, none, none, none, none, none, none, none, none, none, none, none, none, none, none, none, none, none, none, none] 163 (by decide +kernel) (w1 := fun u1 => lw_W cI cB cJ cN cW x y o Q qN qK qm ((u1 0).1 0) ((u1 0).1 1) i1 g1 n2 g2 n3 g3 n4 g4 ((u1 1).1 0) ((u1 1).2) ((u1 2).1 0) ((u1 2).2) n7 g7 ((u1 6).1) ((u1 6).2) i9 g9 i10 g10 ((u1 3).1) ((u1 3).2) ((u1 4).1) ((u1 4).2) ((u1 5).1) ((u1 5).2) g14 n15 nN gN iK gK i a0 a1 a2 a3 a4 a5 a6 a7 a8 a9 a10 a11 a12 a13 a14 a15 a16 a17 a18 a19 a20 go) (fun _ => rfl) (fun rv1 u1 H locs hp1 hP hD hS => ?_)
  obtain ⟨z1, rfl, hz1⟩ := hp1
  have ht1 : 0 ≤ (u1 0).1 0 ∧ (u1 0).1 0 ≤ 6 := hz1.1.1
  have hL1 : (u1 0).1 1 = 0 ∨ (u1 0).1 1 = 1 := hz1.1.2.1
  have hyq := hz1.1.2.2
  have hx1 := hz1.2.2.2.2.2.2.2.1
  have hx1n := hz1.2.2.2.2.2.2.2.2
  refine lv_pop hx hb dL_law_1250 rfl ?_
  refine lv_aload_n hx hb dL_law_1251 rfl (lv_at hl 2 rfl) ?_
  refine lw_arg (j := 1) F hX hbl hbA hS (lv_at hl 4 rfl) (lv_at hl 0 rfl) (by decide) hy1 (by omega) hL9 dL_law_1252 dL_law_1253 dL_law_1255 dL_law_1256 dL_law_1257 ?_
  refine lw_callV (As := [.int (zI e1)]) (rest := []) F hK hP hD hS hA hO hE (c_X9_foldX hO y qm i hM a3 a5 a14 a15 a13 e1 he1 hpn hsr) k_1665 kv_X9_fold 1 rfl (by decide +kernel) ⟨Nat.le_of_ble_eq_true rfl, Nat.le_of_ble_eq_true rfl⟩ [140, 144, 146, 155, 156, 154] rfl (by decide) (fun _ => rfl) 0 9 rfl rfl rfl hl.1 rfl (Nat.le_of_ble_eq_true rfl) dL_law_1258 (lw_hf2 (by omega) (Nat.le_of_ble_eq_true rfl) (Nat.le_of_ble_eq_true rfl) (Nat.le_of_ble_eq_true rfl) (Nat.le_of_ble_eq_true rfl)) [none, none, none, none, none, none, none, none, none, none, none, none, none, none, none, none, none, none, none, none, none, none, none, none, none, none, none, none, none, none, none, none, none, none, none, none, none, none, none, none, none, none, none, none, none, none, none, none, none, none, none, none, none, none, none, none, none, none, none, none, none, none, none, none, none, none, none, none, none, none, none, none, none, none, none, none, none, none, none, none, none, none, none, none, none, none, none, none, none, none, none, none, none, none, none, none, none, none, none, none, none, none, none, none, none, none, none, none, none, none, none, none, none, none, none, none, none, none, none, none, none, none, none, none, none, none, none, none, none, none, none, none, none, none, none, none, none, none, none, none, some 0, none, none, none, some 1, none, some 2, none, none, none, none, none, none, none, some 5, some 3, some 4, none, none, none, none, none, none] 163 (by decide +kernel) (w1 := fun u2 => lw_W cI cB cJ cN cW x y o Q qN qK qm ((u1 0).1 0) ((u1 0).1 1) i1 g1 n2 g2 n3 g3 n4 g4 ((u1 1).1 0) ((u1 1).2) ((u1 2).1 0) ((u1 2).2) n7 g7 ((u1 6).1) ((u1 6).2) i9 g9 i10 g10 ((u1 3).1) ((u1 3).2) ((u1 4).1) ((u1 4).2) ((u1 5).1) ((u1 5).2) g14 n15 nN gN iK gK ((u2 0).1) a0 a1 a2 ((u2 1).2 0) a4 ((u2 2).2 0) a6 a7 a8 a9 a10 a11 a12 ((u2 5).2 0) ((u2 3).2 0) ((u2 4).2 0) a16 a17 a18 a19 a20 go) (fun _ => rfl) (fun rv2 u2 H locs hp2 hP hD hS => ?_)
  obtain ⟨z2, rfl, hz2⟩ := hp2
  have hx3n := hz2.2.2
  have hx2 := hz2.2.1.1
  refine lv_pop hx hb dL_law_1261 rfl ?_
  refine lv_goto (tgt := 1455) hx hb dL_law_1262 (by decide) ?_
  refine W.widen (k := 164 + n) (n := 8739 + 6 * n) (lw_cl (Nat.le_of_ble_eq_true rfl)) (lw_sl (Nat.le_of_ble_eq_true rfl)) ?_
  exact IH ((u1 0).1 0) ((u1 0).1 1) i1 g1 n2 g2 n3 g3 n4 g4 ((u1 1).1 0) ((u1 1).2) ((u1 2).1 0) ((u1 2).2) n7 g7 ((u1 6).1) ((u1 6).2) i9 g9 i10 g10 ((u1 3).1) ((u1 3).2) ((u1 4).1) ((u1 4).2) ((u1 5).1) ((u1 5).2) g14 n15 nN gN iK gK ((u2 0).1) a0 a1 a2 ((u2 1).2 0) a4 ((u2 2).2 0) a6 a7 a8 a9 a10 a11 a12 ((u2 5).2 0) ((u2 3).2 0) ((u2 4).2 0) a16 a17 a18 a19 a20 go H locs ls ⟨ht1, hL1, h1, h2, h3, h4, hz1.2.1, hz1.2.2.1, h7, hz1.2.2.2.2.2.2.1, h9, h10, hz1.2.2.2.1, hz1.2.2.2.2.1, hz1.2.2.2.2.2.1, h14, h15, hN, hK4, (show (u1 6).1 1 ≤ 1000 * (n : Int) + 1000 from by omega), (fun j hj => by have h9 := hkK j hj; omega)⟩ ⟨hz2.1, r0, r1, r11, r12, r17, r18, hz2.2.1.2.1, hpt, hz2.2.1.2.2, hkp⟩ ⟨⟨(show i1 0 = ((u2 0).1) 1 from by omega), ⟨hI1.1, hI1.2⟩, (show i1 1 = ((u2 0).1) 8 ∧ ((u1 0).1 1) = ((u2 0).1) 12 ∧ n15 = ((u2 0).1) 17 from by omega), (show ((u1 0).1 0) = 4 ↔ ((u2 0).1) 10 = 4 from by omega), (show ((u1 0).1 0) = 4 → i1 2 = ((u2 0).1) 9 from fun q9 => absurd q9 (by omega))⟩, (lw_N.fold hNn hpn hz1.2.1 (show ((u2 0).1) 12 = i 12 ∧ ((u2 0).1) 13 = i 13 ∧ ((u2 0).1) 15 = i 15 from by omega) (by omega) (by have q8 := h5.1; omega) hx1n hx3n).2⟩ hP hD hS hl
theorem dL_law_1265 : decode cL_law 1265 = .ok (.aload_n 1, 1) := bo_43 (by decide +kernel)
theorem dL_law_1266 : decode cL_law 1266 = .ok (.aload_n 0, 1) := bo_42 (by decide +kernel)
theorem dL_law_1267 : decode cL_law 1267 = .ok (.iload 4, 2) := bo_21 (by decide +kernel)
theorem dL_law_1269 : decode cL_law 1269 = .ok (.iconst 1, 1) := bo_4 (by decide +kernel)
theorem dL_law_1270 : decode cL_law 1270 = .ok (.iadd, 1) := bo_96 (by decide +kernel)
theorem dL_law_1271 : decode cL_law 1271 = .ok (.iaload, 1) := bo_46 (by decide +kernel)
theorem dL_law_1272 : decode cL_law 1272 = .ok (.invokevirtual 174, 3) := bo_182 0 174 (by decide +kernel)
theorem k_994 : Cond.methodLink RL 174 yX8_same ∈ bw_T := bw_m 994 (by decide +kernel) rfl
theorem kv_X8_same : bw_KV RX8 yX8_same (Cond.code yX8_same cX8_same 2 (some .int)) := ⟨bw_m 995 (by decide +kernel) rfl, bw_m 996 (by decide +kernel) rfl, bw_m 94 (by decide +kernel) rfl, bw_m 997 (by decide +kernel) rfl⟩
theorem dL_law_1275 : decode cL_law 1275 = .ok (.pop, 1) := bo_87 (by decide +kernel)
theorem dL_law_1276 : decode cL_law 1276 = .ok (.aload_n 2, 1) := bo_44 (by decide +kernel)
theorem dL_law_1277 : decode cL_law 1277 = .ok (.aload_n 0, 1) := bo_42 (by decide +kernel)
theorem dL_law_1278 : decode cL_law 1278 = .ok (.iload 4, 2) := bo_21 (by decide +kernel)
theorem dL_law_1280 : decode cL_law 1280 = .ok (.iconst 1, 1) := bo_4 (by decide +kernel)
theorem dL_law_1281 : decode cL_law 1281 = .ok (.iadd, 1) := bo_96 (by decide +kernel)
theorem dL_law_1282 : decode cL_law 1282 = .ok (.iaload, 1) := bo_46 (by decide +kernel)
theorem dL_law_1283 : decode cL_law 1283 = .ok (.invokevirtual 177, 3) := bo_182 0 177 (by decide +kernel)
theorem k_1673 : Cond.methodLink RL 177 yX9_same ∈ bw_T := bw_m 1673 (by decide +kernel) rfl
theorem kv_X9_same : bw_KV RX9 yX9_same (Cond.code yX9_same cX9_same 7 (some .int)) := ⟨bw_m 1674 (by decide +kernel) rfl, bw_m 1675 (by decide +kernel) rfl, bw_m 107 (by decide +kernel) rfl, bw_m 1676 (by decide +kernel) rfl⟩
theorem dL_law_1286 : decode cL_law 1286 = .ok (.pop, 1) := bo_87 (by decide +kernel)
theorem dL_law_1287 : decode cL_law 1287 = .ok (.goto 168, 3) := bo_167 0 168 (by decide +kernel)
set_option maxRecDepth 100000 in
set_option maxHeartbeats 8000000 in
theorem lc_37 {p : Program} {l : Launch} {e : Env} {s : State} {m : MethodId} {below : List Frame} {meth : Method} {c : Code} {b : Nat} {xs : Nat → Int32} {L : Nat} (C0 : lw_At p s m meth c b L xs) (hL9 : L ≤ 3072) {E : (Nat → Prop) → State → Prop} (hO : bw_Ok E) {sa va : Nat → Nat} {fb : Nat → Nat → Int32} (hWd : bw_Words E sa va fb) (hWb : ∀ j, j < 15 → ∀ k, k < wlen j → fb j k = zI (wch j k)) (hst : l.stackTraces = false) {sth : Nat} (hTh : bw_Thr E sth) {G : va_G} (cI cB cJ cN cW : ClassId) (x y o : Nat) (Q qN qK : Nat → Nat → Nat) (qm : Nat → Nat) (hK : va_K G vwCl (bw_kt cI cB cJ cN cW) s) (hE : E (fun q : Nat => s.heap.size ≤ q) s) (n : Nat) (hn : n + 6 ≤ L) (t : Int) (ld : Int) (i1 : Nat → Int) (g1 : Nat → Nat → Int) (n2 : Int) (g2 : Nat → Nat → Int) (n3 : Int) (g3 : Nat → Nat → Int) (n4 : Int) (g4 : Nat → Nat → Int) (n5 : Int) (g5 : Nat → Nat → Int) (n6 : Int) (g6 : Nat → Nat → Int) (n7 : Int) (g7 : Nat → Nat → Int) (i8 : Nat → Int) (g8 : Nat → Nat → Int) (i9 : Nat → Int) (g9 : Nat → Nat → Int) (i10 : Nat → Int) (g10 : Nat → Nat → Int) (i11 : Nat → Int) (g11 : Nat → Nat → Int) (i12 : Nat → Int) (g12 : Nat → Nat → Int) (i13 : Nat → Int) (g13 : Nat → Nat → Int) (g14 : Nat → Nat → Int) (n15 : Int) (nN : Nat → Int) (gN : Nat → Nat → Nat → Int) (iK : Nat → Nat → Int) (gK : Nat → Nat → Nat → Int) (i : Nat → Int) (a0 : Nat → Int) (a1 : Nat → Int) (a2 : Nat → Int) (a3 : Nat → Int) (a4 : Nat → Int) (a5 : Nat → Int) (a6 : Nat → Int) (a7 : Nat → Int) (a8 : Nat → Int) (a9 : Nat → Int) (a10 : Nat → Int) (a11 : Nat → Int) (a12 : Nat → Int) (a13 : Nat → Int) (a14 : Nat → Int) (a15 : Nat → Int) (a16 : Nat → Int) (a17 : Nat → Int) (a18 : Nat → Int) (a19 : Nat → Int) (a20 : Nat → Int) (go : Nat → Int) (hF : lw_F (1000 * (n : Int)) t ld i1 g1 n2 g2 n3 g3 n4 g4 n5 g5 n6 g6 n7 g7 i8 g8 i9 g9 i10 g10 i11 g11 i12 g12 i13 g13 g14 n15 nN gN iK gK) (hMm : lw_M i a0 a1 a2 a3 a4 a5 a6 a7 a8 a9 a10 a11 a12 a13 a14 a15 a16 a17 a18 a19 a20) (hT : ((i1 0 = i 1 ∧ lw_X t ld i1 g1 n15 i a0) ∧ lw_N n4 g4 n5 g5 n7 g7 i8 g8 i11 g11 n15 nN gN iK gK i a3 a4 a6 a11 a13 a16)) {H : Heap} {locs : List Loc} {ls : Array Slot} (hP : va_P G vwCl (lw_W cI cB cJ cN cW x y o Q qN qK qm t ld i1 g1 n2 g2 n3 g3 n4 g4 n5 g5 n6 g6 n7 g7 i8 g8 i9 g9 i10 g10 i11 g11 i12 g12 i13 g13 g14 n15 nN gN iK gK i a0 a1 a2 a3 a4 a5 a6 a7 a8 a9 a10 a11 a12 a13 a14 a15 a16 a17 a18 a19 a20 go) H) (hD : va_D (fun q : Nat => s.heap.size ≤ q) (lw_W cI cB cJ cN cW x y o Q qN qK qm t ld i1 g1 n2 g2 n3 g3 n4 g4 n5 g5 n6 g6 n7 g7 i8 g8 i9 g9 i10 g10 i11 g11 i12 g12 i13 g13 g14 n15 nN gN iK gK i a0 a1 a2 a3 a4 a5 a6 a7 a8 a9 a10 a11 a12 a13 a14 a15 a16 a17 a18 a19 a20 go)) (hS : va_S (fun q : Nat => s.heap.size ≤ q) s.heap H locs) (hl : lv_has ls 7 [(4, .int (zI (n : Int))), (3, .ref o), (2, .ref y), (1, .ref x), (0, .ref b)]) (IH : lw_End p l e s m below meth c b G cI cB cJ cN cW x y o Q qN qK qm n) : W p l e room_1 s m #[Value.ref b] below meth c H locs (163 + n) (8733 + 6 * n) (lw_Z below #[Value.ref b] s) (F0 m 1265 ls []) := by
  have C1 := C0
  obtain ⟨hx, hb, hr, hml, hown, hts, hX, hbl, hlocks, hgv⟩ := C0
  have hA : ∀ q : Nat, s.heap.size ≤ q → (fun q : Nat => s.heap.size ≤ q) q := fun _ h => h
  have hbA : ¬ (fun q : Nat => s.heap.size ≤ q) b := Nat.not_le.mpr hbl
  have F : CallFix p m c cL_law 7 s #[Value.ref b] bw_T RL := ⟨hx, hb, hml, hown, fun w h => hts w (List.mem_filter.mp h).1⟩
  obtain ⟨ht, hL, h1, h2, h3, h4, h5, h6, h7, h8, h9, h10, h11, h12, h13, h14, h15, hN, hK4, hk, hkK⟩ := hF
  obtain ⟨hM, r0, r1, r11, r12, r17, r18, hpn, hpt, hsr, hkp⟩ := hMm
  obtain ⟨⟨hT1, hI1, hI2, hI3, hI4⟩, hNn⟩ := hT
  have hNq := hNn
  obtain ⟨⟨⟨hm1, hm3, hm5, hm5d⟩, hm7, hm8⟩, ⟨hm2, hm4, hm6⟩, hm9, hm10, hm11⟩ := hNq
  have hm5n : LN a3 n5 := by rw [hm3]; exact hm5
  have hm5dn : DN a3 n5 := by rw [hm3]; exact hm5d
  obtain ⟨e1, he1, hy1⟩ := zI_of (xs (n + 1))
  refine lv_aload_n hx hb dL_law_1265 rfl (lv_at hl 3 rfl) ?_
  refine lw_arg (j := 1) F hX hbl hbA hS (lv_at hl 4 rfl) (lv_at hl 0 rfl) (by decide) hy1 (by omega) hL9 dL_law_1266 dL_law_1267 dL_law_1269 dL_law_1270 dL_law_1271 ?_
  refine lw_callV (As := [.int (zI e1)]) (rest := []) F hK hP hD hS hA hO hE (c_X8z_same hO x (Q 0) t ld hL ht (Q 5) n5 g5 h5 (Q 4) n4 g4 h4 (Q 11) i11 g11 h11 (Q 12) i12 g12 h12 e1 he1 a3 hpn hm1 hm9) k_994 kv_X8_same 1 rfl (by decide +kernel) ⟨Nat.le_of_ble_eq_true rfl, Nat.le_of_ble_eq_true rfl⟩ [0, 25, 26, 27, 28, 29, 30, 31, 32, 33, 16, 17, 18, 19, 20, 21, 22, 23, 24, 60, 61, 62, 63, 64, 65, 66, 67, 68, 69] rfl (by decide) (fun _ => rfl) 0 8 rfl rfl rfl hl.1 rfl (Nat.le_of_ble_eq_true rfl) dL_law_1272 (lw_hf (by omega) (Nat.le_of_ble_eq_true rfl) (Nat.le_of_ble_eq_true rfl)) [some 0, none, none, none, none, none, none, none, none, none, none, none, none, none, none, none, some 10, some 11, some 12, some 13, some 14, some 15, some 16, some 17, some 18, some 1, some 2, some 3, some 4, some 5, some 6, some 7, some 8, some 9, none, none, none, none, none, none, none, none, none, none, none, none, none, none, none, none, none, none, none, none, none, none, none, none, none, none, some 19, some 20, some 21, some 22, some 23, some 24, some 25, some 26, some 27, some 28, none, none, none, none, none, none, none, none, none, none, none, none, none, none, none, none, none, none, none, none, none, none, none, none, none, none, none, none, none, none, none, none, none, none, none, none, none, none, none, none, none, none, none, none, none, none, none, none, none, none, none, none, none, none, none, none, none, none, none, none, none, none, none, none, none, none, none, none, none, none, none, none, none, none, none, none, none, none, none, none, none, none, none, none, none, none, none, none, none, none, none, none, none] 163 (by decide +kernel) (w1 := fun u1 => lw_W cI cB cJ cN cW x y o Q qN qK qm ((u1 0).1 0) ((u1 0).1 1) i1 g1 n2 g2 n3 g3 n4 g4 n5 g5 n6 g6 n7 g7 i8 g8 i9 g9 i10 g10 ((u1 1).1) ((u1 1).2) ((u1 2).1) ((u1 2).2) i13 g13 g14 n15 nN gN iK gK i a0 a1 a2 a3 a4 a5 a6 a7 a8 a9 a10 a11 a12 a13 a14 a15 a16 a17 a18 a19 a20 go) (fun _ => rfl) (fun rv1 u1 H locs hp1 hP hD hS => ?_)
  obtain ⟨z1, rfl, hz1⟩ := hp1
  have ht1 : 0 ≤ (u1 0).1 0 ∧ (u1 0).1 0 ≤ 6 := hz1.1.1
  have hL1 : (u1 0).1 1 = 0 ∨ (u1 0).1 1 = 1 := hz1.1.2.1
  have hyq := hz1.1.2.2
  have hx1 := hz1.2.2.2
  refine lv_pop hx hb dL_law_1275 rfl ?_
  refine lv_aload_n hx hb dL_law_1276 rfl (lv_at hl 2 rfl) ?_
  refine lw_arg (j := 1) F hX hbl hbA hS (lv_at hl 4 rfl) (lv_at hl 0 rfl) (by decide) hy1 (by omega) hL9 dL_law_1277 dL_law_1278 dL_law_1280 dL_law_1281 dL_law_1282 ?_
  refine lw_callV (As := [.int (zI e1)]) (rest := []) F hK hP hD hS hA hO hE (c_X9_same hO y qm i hM a3 a4 a14 a15 e1 he1 hpn hpt) k_1673 kv_X9_same 1 rfl (by decide +kernel) ⟨Nat.le_of_ble_eq_true rfl, Nat.le_of_ble_eq_true rfl⟩ [140, 144, 145, 155, 156] rfl (by decide) (fun _ => rfl) 0 9 rfl rfl rfl hl.1 rfl (Nat.le_of_ble_eq_true rfl) dL_law_1283 (lw_hf2 (by omega) (Nat.le_of_ble_eq_true rfl) (Nat.le_of_ble_eq_true rfl) (Nat.le_of_ble_eq_true rfl) (Nat.le_of_ble_eq_true rfl)) [none, none, none, none, none, none, none, none, none, none, none, none, none, none, none, none, none, none, none, none, none, none, none, none, none, none, none, none, none, none, none, none, none, none, none, none, none, none, none, none, none, none, none, none, none, none, none, none, none, none, none, none, none, none, none, none, none, none, none, none, none, none, none, none, none, none, none, none, none, none, none, none, none, none, none, none, none, none, none, none, none, none, none, none, none, none, none, none, none, none, none, none, none, none, none, none, none, none, none, none, none, none, none, none, none, none, none, none, none, none, none, none, none, none, none, none, none, none, none, none, none, none, none, none, none, none, none, none, none, none, none, none, none, none, none, none, none, none, none, none, some 0, none, none, none, some 1, some 2, none, none, none, none, none, none, none, none, none, some 3, some 4, none, none, none, none, none, none] 163 (by decide +kernel) (w1 := fun u2 => lw_W cI cB cJ cN cW x y o Q qN qK qm ((u1 0).1 0) ((u1 0).1 1) i1 g1 n2 g2 n3 g3 n4 g4 n5 g5 n6 g6 n7 g7 i8 g8 i9 g9 i10 g10 ((u1 1).1) ((u1 1).2) ((u1 2).1) ((u1 2).2) i13 g13 g14 n15 nN gN iK gK ((u2 0).1) a0 a1 a2 a3 a4 a5 a6 a7 a8 a9 a10 a11 a12 a13 ((u2 1).2 0) ((u2 2).2 0) a16 a17 a18 a19 a20 go) (fun _ => rfl) (fun rv2 u2 H locs hp2 hP hD hS => ?_)
  obtain ⟨z2, rfl, hz2⟩ := hp2
  have hx2 := hz2.2
  refine lv_pop hx hb dL_law_1286 rfl ?_
  refine lv_goto (tgt := 1455) hx hb dL_law_1287 (by decide) ?_
  refine W.widen (k := 164 + n) (n := 8739 + 6 * n) (lw_cl (Nat.le_of_ble_eq_true rfl)) (lw_sl (Nat.le_of_ble_eq_true rfl)) ?_
  exact IH ((u1 0).1 0) ((u1 0).1 1) i1 g1 n2 g2 n3 g3 n4 g4 n5 g5 n6 g6 n7 g7 i8 g8 i9 g9 i10 g10 ((u1 1).1) ((u1 1).2) ((u1 2).1) ((u1 2).2) i13 g13 g14 n15 nN gN iK gK ((u2 0).1) a0 a1 a2 a3 a4 a5 a6 a7 a8 a9 a10 a11 a12 a13 ((u2 1).2 0) ((u2 2).2 0) a16 a17 a18 a19 a20 go H locs ls ⟨ht1, hL1, h1, h2, h3, h4, h5, h6, h7, h8, h9, h10, hz1.2.1, hz1.2.2.1, h13, h14, h15, hN, hK4, (show i8 1 ≤ 1000 * (n : Int) + 1000 from by omega), (fun j hj => by have h9 := hkK j hj; omega)⟩ ⟨hz2.1, r0, r1, r11, r12, r17, r18, hpn, hpt, hsr, hkp⟩ ⟨⟨(show i1 0 = ((u2 0).1) 1 from by omega), ⟨hI1.1, hI1.2⟩, (show i1 1 = ((u2 0).1) 8 ∧ ((u1 0).1 1) = ((u2 0).1) 12 ∧ n15 = ((u2 0).1) 17 from by omega), (show ((u1 0).1 0) = 4 ↔ ((u2 0).1) 10 = 4 from by omega), (show ((u1 0).1 0) = 4 → i1 2 = ((u2 0).1) 9 from fun q9 => absurd q9 (by omega))⟩, (lw_N.ii (lw_N.ss hNn hx1) (show ((u2 0).1) 12 = i 12 ∧ ((u2 0).1) 13 = i 13 ∧ ((u2 0).1) 15 = i 15 from by omega))⟩ hP hD hS hl
