theorem dL_law_232 : decode cL_law 232 = .ok (.aload_n 1, 1) := bo_43 (by decide +kernel)
theorem dL_law_233 : decode cL_law 233 = .ok (.aload_n 0, 1) := bo_42 (by decide +kernel)
theorem dL_law_234 : decode cL_law 234 = .ok (.iload 4, 2) := bo_21 (by decide +kernel)
theorem dL_law_236 : decode cL_law 236 = .ok (.iconst 1, 1) := bo_4 (by decide +kernel)
theorem dL_law_237 : decode cL_law 237 = .ok (.iadd, 1) := bo_96 (by decide +kernel)
theorem dL_law_238 : decode cL_law 238 = .ok (.iaload, 1) := bo_46 (by decide +kernel)
theorem dL_law_239 : decode cL_law 239 = .ok (.aload_n 0, 1) := bo_42 (by decide +kernel)
theorem dL_law_240 : decode cL_law 240 = .ok (.iload 4, 2) := bo_21 (by decide +kernel)
theorem dL_law_242 : decode cL_law 242 = .ok (.iconst 2, 1) := bo_5 (by decide +kernel)
theorem dL_law_243 : decode cL_law 243 = .ok (.iadd, 1) := bo_96 (by decide +kernel)
theorem dL_law_244 : decode cL_law 244 = .ok (.iaload, 1) := bo_46 (by decide +kernel)
theorem dL_law_245 : decode cL_law 245 = .ok (.aload_n 0, 1) := bo_42 (by decide +kernel)
theorem dL_law_246 : decode cL_law 246 = .ok (.iload 4, 2) := bo_21 (by decide +kernel)
theorem dL_law_248 : decode cL_law 248 = .ok (.iconst 3, 1) := bo_6 (by decide +kernel)
theorem dL_law_249 : decode cL_law 249 = .ok (.iadd, 1) := bo_96 (by decide +kernel)
theorem dL_law_250 : decode cL_law 250 = .ok (.iaload, 1) := bo_46 (by decide +kernel)
theorem dL_law_251 : decode cL_law 251 = .ok (.aload_n 0, 1) := bo_42 (by decide +kernel)
theorem dL_law_252 : decode cL_law 252 = .ok (.iload 4, 2) := bo_21 (by decide +kernel)
theorem dL_law_254 : decode cL_law 254 = .ok (.iconst 4, 1) := bo_7 (by decide +kernel)
theorem dL_law_255 : decode cL_law 255 = .ok (.iadd, 1) := bo_96 (by decide +kernel)
theorem dL_law_256 : decode cL_law 256 = .ok (.iaload, 1) := bo_46 (by decide +kernel)
theorem dL_law_257 : decode cL_law 257 = .ok (.aload_n 0, 1) := bo_42 (by decide +kernel)
theorem dL_law_258 : decode cL_law 258 = .ok (.iload 4, 2) := bo_21 (by decide +kernel)
theorem dL_law_260 : decode cL_law 260 = .ok (.iconst 5, 1) := bo_8 (by decide +kernel)
theorem dL_law_261 : decode cL_law 261 = .ok (.iadd, 1) := bo_96 (by decide +kernel)
theorem dL_law_262 : decode cL_law 262 = .ok (.iaload, 1) := bo_46 (by decide +kernel)
theorem dL_law_263 : decode cL_law 263 = .ok (.invokevirtual 19, 3) := bo_182 0 19 (by decide +kernel)
theorem k_538 : Cond.methodLink RL 19 yX8_feed ∈ bw_T := bw_m 538 (by decide +kernel) rfl
theorem kv_X8_feed : bw_KV RX8 yX8_feed (Cond.code yX8_feed cX8_feed 6 (some .int)) := ⟨bw_m 539 (by decide +kernel) rfl, bw_m 540 (by decide +kernel) rfl, bw_m 94 (by decide +kernel) rfl, bw_m 541 (by decide +kernel) rfl⟩
theorem dL_law_266 : decode cL_law 266 = .ok (.pop, 1) := bo_87 (by decide +kernel)
theorem dL_law_267 : decode cL_law 267 = .ok (.aload_n 2, 1) := bo_44 (by decide +kernel)
theorem dL_law_268 : decode cL_law 268 = .ok (.aload_n 0, 1) := bo_42 (by decide +kernel)
theorem dL_law_269 : decode cL_law 269 = .ok (.iload 4, 2) := bo_21 (by decide +kernel)
theorem dL_law_271 : decode cL_law 271 = .ok (.iconst 1, 1) := bo_4 (by decide +kernel)
theorem dL_law_272 : decode cL_law 272 = .ok (.iadd, 1) := bo_96 (by decide +kernel)
theorem dL_law_273 : decode cL_law 273 = .ok (.iaload, 1) := bo_46 (by decide +kernel)
theorem dL_law_274 : decode cL_law 274 = .ok (.aload_n 0, 1) := bo_42 (by decide +kernel)
theorem dL_law_275 : decode cL_law 275 = .ok (.iload 4, 2) := bo_21 (by decide +kernel)
theorem dL_law_277 : decode cL_law 277 = .ok (.iconst 2, 1) := bo_5 (by decide +kernel)
theorem dL_law_278 : decode cL_law 278 = .ok (.iadd, 1) := bo_96 (by decide +kernel)
theorem dL_law_279 : decode cL_law 279 = .ok (.iaload, 1) := bo_46 (by decide +kernel)
theorem dL_law_280 : decode cL_law 280 = .ok (.aload_n 0, 1) := bo_42 (by decide +kernel)
theorem dL_law_281 : decode cL_law 281 = .ok (.iload 4, 2) := bo_21 (by decide +kernel)
theorem dL_law_283 : decode cL_law 283 = .ok (.iconst 3, 1) := bo_6 (by decide +kernel)
theorem dL_law_284 : decode cL_law 284 = .ok (.iadd, 1) := bo_96 (by decide +kernel)
theorem dL_law_285 : decode cL_law 285 = .ok (.iaload, 1) := bo_46 (by decide +kernel)
theorem dL_law_286 : decode cL_law 286 = .ok (.aload_n 0, 1) := bo_42 (by decide +kernel)
theorem dL_law_287 : decode cL_law 287 = .ok (.iload 4, 2) := bo_21 (by decide +kernel)
theorem dL_law_289 : decode cL_law 289 = .ok (.iconst 4, 1) := bo_7 (by decide +kernel)
theorem dL_law_290 : decode cL_law 290 = .ok (.iadd, 1) := bo_96 (by decide +kernel)
theorem dL_law_291 : decode cL_law 291 = .ok (.iaload, 1) := bo_46 (by decide +kernel)
theorem dL_law_292 : decode cL_law 292 = .ok (.aload_n 0, 1) := bo_42 (by decide +kernel)
theorem dL_law_293 : decode cL_law 293 = .ok (.iload 4, 2) := bo_21 (by decide +kernel)
theorem dL_law_295 : decode cL_law 295 = .ok (.iconst 5, 1) := bo_8 (by decide +kernel)
theorem dL_law_296 : decode cL_law 296 = .ok (.iadd, 1) := bo_96 (by decide +kernel)
theorem dL_law_297 : decode cL_law 297 = .ok (.iaload, 1) := bo_46 (by decide +kernel)
theorem dL_law_298 : decode cL_law 298 = .ok (.invokevirtual 23, 3) := bo_182 0 23 (by decide +kernel)
theorem k_1288 : Cond.methodLink RL 23 yX9_feed ∈ bw_T := bw_m 1288 (by decide +kernel) rfl
theorem kv_X9_feed : bw_KV RX9 yX9_feed (Cond.code yX9_feed cX9_feed 8 (some .int)) := ⟨bw_m 1289 (by decide +kernel) rfl, bw_m 1290 (by decide +kernel) rfl, bw_m 107 (by decide +kernel) rfl, bw_m 1291 (by decide +kernel) rfl⟩
theorem dL_law_301 : decode cL_law 301 = .ok (.pop, 1) := bo_87 (by decide +kernel)
theorem dL_law_302 : decode cL_law 302 = .ok (.goto 1181, 3) := bo_167 4 157 (by decide +kernel)
set_option maxRecDepth 100000 in
set_option maxHeartbeats 8000000 in
theorem lc_0 {p : Program} {l : Launch} {e : Env} {s : State} {m : MethodId} {below : List Frame} {meth : Method} {c : Code} {b : Nat} {xs : Nat → Int32} {L : Nat} (C0 : lw_At p s m meth c b L xs) (hL9 : L ≤ 3072) {E : (Nat → Prop) → State → Prop} (hO : bw_Ok E) {sa va : Nat → Nat} {fb : Nat → Nat → Int32} (hWd : bw_Words E sa va fb) (hWb : ∀ j, j < 15 → ∀ k, k < wlen j → fb j k = zI (wch j k)) (hst : l.stackTraces = false) {sth : Nat} (hTh : bw_Thr E sth) {G : va_G} (cI cB cJ cN cW : ClassId) (x y o : Nat) (Q qN qK : Nat → Nat → Nat) (qm : Nat → Nat) (hK : va_K G vwCl (bw_kt cI cB cJ cN cW) s) (hE : E (fun q : Nat => s.heap.size ≤ q) s) (n : Nat) (hn : n + 6 ≤ L) (t : Int) (ld : Int) (i1 : Nat → Int) (g1 : Nat → Nat → Int) (n2 : Int) (g2 : Nat → Nat → Int) (n3 : Int) (g3 : Nat → Nat → Int) (n4 : Int) (g4 : Nat → Nat → Int) (n5 : Int) (g5 : Nat → Nat → Int) (n6 : Int) (g6 : Nat → Nat → Int) (n7 : Int) (g7 : Nat → Nat → Int) (i8 : Nat → Int) (g8 : Nat → Nat → Int) (i9 : Nat → Int) (g9 : Nat → Nat → Int) (i10 : Nat → Int) (g10 : Nat → Nat → Int) (i11 : Nat → Int) (g11 : Nat → Nat → Int) (i12 : Nat → Int) (g12 : Nat → Nat → Int) (i13 : Nat → Int) (g13 : Nat → Nat → Int) (g14 : Nat → Nat → Int) (n15 : Int) (nN : Nat → Int) (gN : Nat → Nat → Nat → Int) (iK : Nat → Nat → Int) (gK : Nat → Nat → Nat → Int) (i : Nat → Int) (a0 : Nat → Int) (a1 : Nat → Int) (a2 : Nat → Int) (a3 : Nat → Int) (a4 : Nat → Int) (a5 : Nat → Int) (a6 : Nat → Int) (a7 : Nat → Int) (a8 : Nat → Int) (a9 : Nat → Int) (a10 : Nat → Int) (a11 : Nat → Int) (a12 : Nat → Int) (a13 : Nat → Int) (a14 : Nat → Int) (a15 : Nat → Int) (a16 : Nat → Int) (a17 : Nat → Int) (a18 : Nat → Int) (a19 : Nat → Int) (a20 : Nat → Int) (go : Nat → Int) (hF : lw_F (1000 * (n : Int)) t ld i1 g1 n2 g2 n3 g3 n4 g4 n5 g5 n6 g6 n7 g7 i8 g8 i9 g9 i10 g10 i11 g11 i12 g12 i13 g13 g14 n15 nN gN iK gK) (hMm : lw_M i a0 a1 a2 a3 a4 a5 a6 a7 a8 a9 a10 a11 a12 a13 a14 a15 a16 a17 a18 a19 a20) (hT : ((i1 0 = i 1 ∧ lw_X t ld i1 g1 n15 i a0) ∧ lw_N n4 g4 n5 g5 n7 g7 i8 g8 i11 g11 n15 nN gN iK gK i a3 a4 a6 a11 a13 a16)) {H : Heap} {locs : List Loc} {ls : Array Slot} (hP : va_P G vwCl (lw_W cI cB cJ cN cW x y o Q qN qK qm t ld i1 g1 n2 g2 n3 g3 n4 g4 n5 g5 n6 g6 n7 g7 i8 g8 i9 g9 i10 g10 i11 g11 i12 g12 i13 g13 g14 n15 nN gN iK gK i a0 a1 a2 a3 a4 a5 a6 a7 a8 a9 a10 a11 a12 a13 a14 a15 a16 a17 a18 a19 a20 go) H) (hD : va_D (fun q : Nat => s.heap.size ≤ q) (lw_W cI cB cJ cN cW x y o Q qN qK qm t ld i1 g1 n2 g2 n3 g3 n4 g4 n5 g5 n6 g6 n7 g7 i8 g8 i9 g9 i10 g10 i11 g11 i12 g12 i13 g13 g14 n15 nN gN iK gK i a0 a1 a2 a3 a4 a5 a6 a7 a8 a9 a10 a11 a12 a13 a14 a15 a16 a17 a18 a19 a20 go)) (hS : va_S (fun q : Nat => s.heap.size ≤ q) s.heap H locs) (hl : lv_has ls 7 [(4, .int (zI (n : Int))), (3, .ref o), (2, .ref y), (1, .ref x), (0, .ref b)]) (IH : lw_End p l e s m below meth c b G cI cB cJ cN cW x y o Q qN qK qm n) : W p l e room_1 s m #[Value.ref b] below meth c H locs (163 + n) (8733 + 6 * n) (lw_Z below #[Value.ref b] s) (F0 m 232 ls []) := by
  have C1 := C0
  obtain ⟨hx, hb, hr, hml, hown, hts, hX, hbl, hlocks, hgv⟩ := C0
  have hA : ∀ q : Nat, s.heap.size ≤ q → (fun q : Nat => s.heap.size ≤ q) q := fun _ h => h
  have hbA : ¬ (fun q : Nat => s.heap.size ≤ q) b := Nat.not_le.mpr hbl
  have F : CallFix p m c cL_law 7 s #[Value.ref b] bw_T RL := ⟨hx, hb, hml, hown, fun w h => hts w (List.mem_filter.mp h).1⟩
  obtain ⟨ht, hL, h1, h2, h3, h4, h5, h6, h7, h8, h9, h10, h11, h12, h13, h14, h15, hN, hK4, hk, hkK⟩ := hF
  obtain ⟨hM, r0, r1, r11, r12, r17, r18, hpn, hpt, hsr, hkp⟩ := hMm
  obtain ⟨⟨hT1, hI1, hI2, hI3, hI4⟩, hNn⟩ := hT
  have hNq := hNn
  obtain ⟨⟨⟨hm1, hm3, hm5⟩, hm7, hm8⟩, ⟨hm2, hm4, hm6⟩, hm9, hm10, hm11⟩ := hNq
  have hm5n : LN a3 n5 := by rw [hm3]; exact hm5
  obtain ⟨e1, he1, hy1⟩ := zI_of (xs (n + 1))
  obtain ⟨e2, he2, hy2⟩ := zI_of (xs (n + 2))
  obtain ⟨e3, he3, hy3⟩ := zI_of (xs (n + 3))
  obtain ⟨e4, he4, hy4⟩ := zI_of (xs (n + 4))
  obtain ⟨e5, he5, hy5⟩ := zI_of (xs (n + 5))
  refine lv_aload_n hx hb dL_law_232 rfl (lv_at hl 3 rfl) ?_
  refine lw_arg (j := 1) F hX hbl hbA hS (lv_at hl 4 rfl) (lv_at hl 0 rfl) (by decide) hy1 (by omega) hL9 dL_law_233 dL_law_234 dL_law_236 dL_law_237 dL_law_238 ?_
  refine lw_arg (j := 2) F hX hbl hbA hS (lv_at hl 4 rfl) (lv_at hl 0 rfl) (by decide) hy2 (by omega) hL9 dL_law_239 dL_law_240 dL_law_242 dL_law_243 dL_law_244 ?_
  refine lw_arg (j := 3) F hX hbl hbA hS (lv_at hl 4 rfl) (lv_at hl 0 rfl) (by decide) hy3 (by omega) hL9 dL_law_245 dL_law_246 dL_law_248 dL_law_249 dL_law_250 ?_
  refine lw_arg (j := 4) F hX hbl hbA hS (lv_at hl 4 rfl) (lv_at hl 0 rfl) (by decide) hy4 (by omega) hL9 dL_law_251 dL_law_252 dL_law_254 dL_law_255 dL_law_256 ?_
  refine lw_arg (j := 5) F hX hbl hbA hS (lv_at hl 4 rfl) (lv_at hl 0 rfl) (by decide) hy5 (by omega) hL9 dL_law_257 dL_law_258 dL_law_260 dL_law_261 dL_law_262 ?_
  refine lw_callV (As := [.int (zI e1), .int (zI e2), .int (zI e3), .int (zI e4), .int (zI e5)]) (rest := []) F hK hP hD hS hA hO hE (c_X8y_feed hO x (Q 0) t ld hL ht (Q 1) i1 g1 h1 e1 e2 e3 e4 e5 he1 he2 he3 he4 he5) k_538 kv_X8_feed 5 rfl (by decide +kernel) ⟨Nat.le_of_ble_eq_true rfl, Nat.le_of_ble_eq_true rfl⟩ [0, 1, 2, 3, 4] rfl (by decide) (fun _ => rfl) 0 8 rfl rfl rfl hl.1 rfl (Nat.le_of_ble_eq_true rfl) dL_law_263 (lw_hf (by omega) (Nat.le_of_ble_eq_true rfl) (Nat.le_of_ble_eq_true rfl)) [some 0, some 1, some 2, some 3, some 4, none, none, none, none, none, none, none, none, none, none, none, none, none, none, none, none, none, none, none, none, none, none, none, none, none, none, none, none, none, none, none, none, none, none, none, none, none, none, none, none, none, none, none, none, none, none, none, none, none, none, none, none, none, none, none, none, none, none, none, none, none, none, none, none, none, none, none, none, none, none, none, none, none, none, none, none, none, none, none, none, none, none, none, none, none, none, none, none, none, none, none, none, none, none, none, none, none, none, none, none, none, none, none, none, none, none, none, none, none, none, none, none, none, none, none, none, none, none, none, none, none, none, none, none, none, none, none, none, none, none, none, none, none, none, none, none, none, none, none, none, none, none, none, none, none, none, none, none, none, none, none, none, none, none, none, none, none, none] 163 (by decide +kernel) (w1 := fun u1 => lw_W cI cB cJ cN cW x y o Q qN qK qm ((u1 0).1 0) ((u1 0).1 1) ((u1 1).1) ((u1 1).2) n2 g2 n3 g3 n4 g4 n5 g5 n6 g6 n7 g7 i8 g8 i9 g9 i10 g10 i11 g11 i12 g12 i13 g13 g14 n15 nN gN iK gK i a0 a1 a2 a3 a4 a5 a6 a7 a8 a9 a10 a11 a12 a13 a14 a15 a16 a17 a18 a19 a20 go) (fun _ => rfl) (fun rv1 u1 H locs hp1 hP hD hS => ?_)
  obtain ⟨z1, rfl, hz1⟩ := hp1
  have ht1 : 0 ≤ (u1 0).1 0 ∧ (u1 0).1 0 ≤ 6 := hz1.1.1
  have hL1 : (u1 0).1 1 = 0 ∨ (u1 0).1 1 = 1 := hz1.1.2.1
  have hyq := hz1.1.2.2
  have hx1 := hz1.2.2
  refine lv_pop hx hb dL_law_266 rfl ?_
  refine lv_aload_n hx hb dL_law_267 rfl (lv_at hl 2 rfl) ?_
  refine lw_arg (j := 1) F hX hbl hbA hS (lv_at hl 4 rfl) (lv_at hl 0 rfl) (by decide) hy1 (by omega) hL9 dL_law_268 dL_law_269 dL_law_271 dL_law_272 dL_law_273 ?_
  refine lw_arg (j := 2) F hX hbl hbA hS (lv_at hl 4 rfl) (lv_at hl 0 rfl) (by decide) hy2 (by omega) hL9 dL_law_274 dL_law_275 dL_law_277 dL_law_278 dL_law_279 ?_
  refine lw_arg (j := 3) F hX hbl hbA hS (lv_at hl 4 rfl) (lv_at hl 0 rfl) (by decide) hy3 (by omega) hL9 dL_law_280 dL_law_281 dL_law_283 dL_law_284 dL_law_285 ?_
  refine lw_arg (j := 4) F hX hbl hbA hS (lv_at hl 4 rfl) (lv_at hl 0 rfl) (by decide) hy4 (by omega) hL9 dL_law_286 dL_law_287 dL_law_289 dL_law_290 dL_law_291 ?_
  refine lw_arg (j := 5) F hX hbl hbA hS (lv_at hl 4 rfl) (lv_at hl 0 rfl) (by decide) hy5 (by omega) hL9 dL_law_292 dL_law_293 dL_law_295 dL_law_296 dL_law_297 ?_
  refine lw_callV (As := [.int (zI e1), .int (zI e2), .int (zI e3), .int (zI e4), .int (zI e5)]) (rest := []) F hK hP hD hS hA hO hE (c_X9_feedX hO y qm i hM a0 r0 e1 e2 e3 e4 e5 he1 he2 he3 he4 he5) k_1288 kv_X9_feed 5 rfl (by decide +kernel) ⟨Nat.le_of_ble_eq_true rfl, Nat.le_of_ble_eq_true rfl⟩ [140, 141] rfl (by decide) (fun _ => rfl) 0 9 rfl rfl rfl hl.1 rfl (Nat.le_of_ble_eq_true rfl) dL_law_298 (lw_hf2 (by omega) (Nat.le_of_ble_eq_true rfl) (Nat.le_of_ble_eq_true rfl) (Nat.le_of_ble_eq_true rfl) (Nat.le_of_ble_eq_true rfl)) [none, none, none, none, none, none, none, none, none, none, none, none, none, none, none, none, none, none, none, none, none, none, none, none, none, none, none, none, none, none, none, none, none, none, none, none, none, none, none, none, none, none, none, none, none, none, none, none, none, none, none, none, none, none, none, none, none, none, none, none, none, none, none, none, none, none, none, none, none, none, none, none, none, none, none, none, none, none, none, none, none, none, none, none, none, none, none, none, none, none, none, none, none, none, none, none, none, none, none, none, none, none, none, none, none, none, none, none, none, none, none, none, none, none, none, none, none, none, none, none, none, none, none, none, none, none, none, none, none, none, none, none, none, none, none, none, none, none, none, none, some 0, some 1, none, none, none, none, none, none, none, none, none, none, none, none, none, none, none, none, none, none, none, none, none] 163 (by decide +kernel) (w1 := fun u2 => lw_W cI cB cJ cN cW x y o Q qN qK qm ((u1 0).1 0) ((u1 0).1 1) ((u1 1).1) ((u1 1).2) n2 g2 n3 g3 n4 g4 n5 g5 n6 g6 n7 g7 i8 g8 i9 g9 i10 g10 i11 g11 i12 g12 i13 g13 g14 n15 nN gN iK gK ((u2 0).1) ((u2 1).2 0) a1 a2 a3 a4 a5 a6 a7 a8 a9 a10 a11 a12 a13 a14 a15 a16 a17 a18 a19 a20 go) (fun _ => rfl) (fun rv2 u2 H locs hp2 hP hD hS => ?_)
  obtain ⟨z2, rfl, hz2⟩ := hp2
  have hx2 := hz2.2.2
  refine lv_pop hx hb dL_law_301 rfl ?_
  refine lv_goto (tgt := 1483) hx hb dL_law_302 (by decide) ?_
  refine W.widen (k := 164 + n) (n := 8739 + 6 * n) (lw_cl (Nat.le_of_ble_eq_true rfl)) (lw_sl (Nat.le_of_ble_eq_true rfl)) ?_
  exact IH ((u1 0).1 0) ((u1 0).1 1) ((u1 1).1) ((u1 1).2) n2 g2 n3 g3 n4 g4 n5 g5 n6 g6 n7 g7 i8 g8 i9 g9 i10 g10 i11 g11 i12 g12 i13 g13 g14 n15 nN gN iK gK ((u2 0).1) ((u2 1).2 0) a1 a2 a3 a4 a5 a6 a7 a8 a9 a10 a11 a12 a13 a14 a15 a16 a17 a18 a19 a20 go H locs ls ⟨ht1, hL1, hz1.2.1, h2, h3, h4, h5, h6, h7, h8, h9, h10, h11, h12, h13, h14, h15, hN, hK4, (show i8 1 ≤ 1000 * (n : Int) + 1000 from by omega), (fun j hj => by have h9 := hkK j hj; omega)⟩ ⟨hz2.1, hz2.2.1, r1, r11, r12, r17, r18, hpn, hpt, hsr, hkp⟩ ⟨⟨(show ((u1 1).1) 0 = ((u2 0).1) 1 from by omega), ⟨(lw_txfeed hI1.1 hT1 hx1.1 hx2.1), (fun j hj => by rw [hx1.2.1.1]; exact hI1.2 j hj)⟩, (show ((u1 1).1) 1 = ((u2 0).1) 8 ∧ ((u1 0).1 1) = ((u2 0).1) 12 ∧ n15 = ((u2 0).1) 17 from by omega), (show ((u1 0).1 0) = 4 ↔ ((u2 0).1) 10 = 4 from by omega), (show ((u1 0).1 0) = 4 → ((u1 1).1) 2 = ((u2 0).1) 9 from fun q9 => by have q8 := hI4 (by omega); omega)⟩, (lw_N.ii hNn (show ((u2 0).1) 12 = i 12 ∧ ((u2 0).1) 13 = i 13 ∧ ((u2 0).1) 15 = i 15 from by omega))⟩ hP hD hS hl
