theorem dL_law_232 : decode cL_law 232 = .ok (.aload_n 1, 1) := by decide +kernel
theorem dL_law_233 : decode cL_law 233 = .ok (.aload_n 0, 1) := by decide +kernel
theorem dL_law_234 : decode cL_law 234 = .ok (.iload 4, 2) := by decide +kernel
theorem dL_law_236 : decode cL_law 236 = .ok (.iconst 1, 1) := by decide +kernel
theorem dL_law_237 : decode cL_law 237 = .ok (.iadd, 1) := by decide +kernel
theorem dL_law_238 : decode cL_law 238 = .ok (.iaload, 1) := by decide +kernel
theorem dL_law_239 : decode cL_law 239 = .ok (.aload_n 0, 1) := by decide +kernel
theorem dL_law_240 : decode cL_law 240 = .ok (.iload 4, 2) := by decide +kernel
theorem dL_law_242 : decode cL_law 242 = .ok (.iconst 2, 1) := by decide +kernel
theorem dL_law_243 : decode cL_law 243 = .ok (.iadd, 1) := by decide +kernel
theorem dL_law_244 : decode cL_law 244 = .ok (.iaload, 1) := by decide +kernel
theorem dL_law_245 : decode cL_law 245 = .ok (.aload_n 0, 1) := by decide +kernel
theorem dL_law_246 : decode cL_law 246 = .ok (.iload 4, 2) := by decide +kernel
theorem dL_law_248 : decode cL_law 248 = .ok (.iconst 3, 1) := by decide +kernel
theorem dL_law_249 : decode cL_law 249 = .ok (.iadd, 1) := by decide +kernel
theorem dL_law_250 : decode cL_law 250 = .ok (.iaload, 1) := by decide +kernel
theorem dL_law_251 : decode cL_law 251 = .ok (.aload_n 0, 1) := by decide +kernel
theorem dL_law_252 : decode cL_law 252 = .ok (.iload 4, 2) := by decide +kernel
theorem dL_law_254 : decode cL_law 254 = .ok (.iconst 4, 1) := by decide +kernel
theorem dL_law_255 : decode cL_law 255 = .ok (.iadd, 1) := by decide +kernel
theorem dL_law_256 : decode cL_law 256 = .ok (.iaload, 1) := by decide +kernel
theorem dL_law_257 : decode cL_law 257 = .ok (.aload_n 0, 1) := by decide +kernel
theorem dL_law_258 : decode cL_law 258 = .ok (.iload 4, 2) := by decide +kernel
theorem dL_law_260 : decode cL_law 260 = .ok (.iconst 5, 1) := by decide +kernel
theorem dL_law_261 : decode cL_law 261 = .ok (.iadd, 1) := by decide +kernel
theorem dL_law_262 : decode cL_law 262 = .ok (.iaload, 1) := by decide +kernel
theorem dL_law_263 : decode cL_law 263 = .ok (.invokevirtual 19, 3) := by decide +kernel
theorem k_538 : Cond.methodLink RL 19 yX8_feed ∈ bw_T := bw_m 538 (by decide +kernel) rfl
theorem kv_X8_feed : bw_KV RX8 yX8_feed (Cond.code yX8_feed cX8_feed 6 (some .int)) := ⟨bw_m 539 (by decide +kernel) rfl, bw_m 540 (by decide +kernel) rfl, bw_m 94 (by decide +kernel) rfl, bw_m 541 (by decide +kernel) rfl⟩
theorem dL_law_266 : decode cL_law 266 = .ok (.aload_n 2, 1) := by decide +kernel
theorem dL_law_267 : decode cL_law 267 = .ok (.aload_n 0, 1) := by decide +kernel
theorem dL_law_268 : decode cL_law 268 = .ok (.iload 4, 2) := by decide +kernel
theorem dL_law_270 : decode cL_law 270 = .ok (.iconst 1, 1) := by decide +kernel
theorem dL_law_271 : decode cL_law 271 = .ok (.iadd, 1) := by decide +kernel
theorem dL_law_272 : decode cL_law 272 = .ok (.iaload, 1) := by decide +kernel
theorem dL_law_273 : decode cL_law 273 = .ok (.aload_n 0, 1) := by decide +kernel
theorem dL_law_274 : decode cL_law 274 = .ok (.iload 4, 2) := by decide +kernel
theorem dL_law_276 : decode cL_law 276 = .ok (.iconst 2, 1) := by decide +kernel
theorem dL_law_277 : decode cL_law 277 = .ok (.iadd, 1) := by decide +kernel
theorem dL_law_278 : decode cL_law 278 = .ok (.iaload, 1) := by decide +kernel
theorem dL_law_279 : decode cL_law 279 = .ok (.aload_n 0, 1) := by decide +kernel
theorem dL_law_280 : decode cL_law 280 = .ok (.iload 4, 2) := by decide +kernel
theorem dL_law_282 : decode cL_law 282 = .ok (.iconst 3, 1) := by decide +kernel
theorem dL_law_283 : decode cL_law 283 = .ok (.iadd, 1) := by decide +kernel
theorem dL_law_284 : decode cL_law 284 = .ok (.iaload, 1) := by decide +kernel
theorem dL_law_285 : decode cL_law 285 = .ok (.aload_n 0, 1) := by decide +kernel
theorem dL_law_286 : decode cL_law 286 = .ok (.iload 4, 2) := by decide +kernel
theorem dL_law_288 : decode cL_law 288 = .ok (.iconst 4, 1) := by decide +kernel
theorem dL_law_289 : decode cL_law 289 = .ok (.iadd, 1) := by decide +kernel
theorem dL_law_290 : decode cL_law 290 = .ok (.iaload, 1) := by decide +kernel
theorem dL_law_291 : decode cL_law 291 = .ok (.aload_n 0, 1) := by decide +kernel
theorem dL_law_292 : decode cL_law 292 = .ok (.iload 4, 2) := by decide +kernel
theorem dL_law_294 : decode cL_law 294 = .ok (.iconst 5, 1) := by decide +kernel
theorem dL_law_295 : decode cL_law 295 = .ok (.iadd, 1) := by decide +kernel
theorem dL_law_296 : decode cL_law 296 = .ok (.iaload, 1) := by decide +kernel
theorem dL_law_297 : decode cL_law 297 = .ok (.invokevirtual 23, 3) := by decide +kernel
theorem k_1288 : Cond.methodLink RL 23 yX9_feed ∈ bw_T := bw_m 1288 (by decide +kernel) rfl
theorem kv_X9_feed : bw_KV RX9 yX9_feed (Cond.code yX9_feed cX9_feed 8 (some .int)) := ⟨bw_m 1289 (by decide +kernel) rfl, bw_m 1290 (by decide +kernel) rfl, bw_m 107 (by decide +kernel) rfl, bw_m 1291 (by decide +kernel) rfl⟩
theorem dL_law_300 : decode cL_law 300 = .ok (.if_icmp .eq 1183, 3) := by decide +kernel
set_option maxRecDepth 100000 in
set_option maxHeartbeats 4000000 in
theorem lc_0 {p : Program} {l : Launch} {e : Env} {s : State} {m : MethodId} {below : List Frame} {meth : Method} {c : Code} {b : Nat} {xs : Nat → Int32} (C0 : lw_At p s m meth c b 6 xs) {E : (Nat → Prop) → State → Prop} (hO : bw_Ok E) {G : va_G} {cI cB cJ cN cW : ClassId} (hK : va_K G vwCl (bw_kt cI cB cJ cN cW) s) (hE : E (fun q : Nat => s.heap.size ≤ q) s) (x y o : Nat) (q qm : Nat → Nat) (f : Nat → Nat → Int32) {H : Heap} {locs : List Loc} (hP : va_P G vwCl (lc_W cI cB cJ x y o q qm f) H) (hD : va_D (fun q : Nat => s.heap.size ≤ q) (lc_W cI cB cJ x y o q qm f)) (hS : va_S (fun q : Nat => s.heap.size ≤ q) s.heap H locs) {ls : Array Slot} (hl : lv_has ls 7 [(4, .int 0), (3, .ref o), (2, .ref y), (1, .ref x), (0, .ref b)]) : W p l e room_1 s m #[Value.ref b] below meth c H locs 163 8733 (lw_Z below #[Value.ref b] s) (F0 m 232 ls []) := by
  have C1 := C0
  obtain ⟨hx, hb, hr, hml, hown, hts, hX, hbl, hlocks, hgv⟩ := C0
  have hA : ∀ q : Nat, s.heap.size ≤ q → (fun q : Nat => s.heap.size ≤ q) q := fun _ h => h
  have hbA : ¬ (fun q : Nat => s.heap.size ≤ q) b := Nat.not_le.mpr hbl
  have F : CallFix p m c cL_law 7 s #[Value.ref b] bw_T RL := ⟨hx, hb, hml, hown, fun w h => hts w (List.mem_filter.mp h).1⟩
  have hP := bw_subP (isC := [0, 1, 2, 14, 15]) (wc := [(x, .inr (8, [.int 0, .int 0, .ref (q 0), .ref (q 1), .ref (q 2), .ref (q 3), .ref (q 4), .ref (q 5), .ref (q 6), .ref (q 7), .ref (q 8), .ref (q 9), .ref (q 10), .ref (q 11)])), ((q 0), .inr (3, [.ref (q 20), .int 0, .ref (q 21), .ref (q 22), .int 0, .int 0, .ref (q 23), .ref (q 24), .int 0, .int 24, .int 0, .int 0, .long 0, .int 0])), ((q 20), .inl (cB, 900, .inl (fun _ => 0))), (y, .inr (9, [.int 0, .ref (qm 0), .int 0, .int 0, .int 0, .int 0, .int 0, .int 0, .int 0, .int 0, .int (-1), .int 0, .ref (qm 1), .int 0, .int 0, .ref (qm 2), .ref (qm 3), .ref (qm 4), .ref (qm 5), .ref (qm 6), .ref (qm 7), .ref (qm 8), .ref (qm 9), .ref (qm 10), .ref (qm 11), .ref (qm 12), .ref (qm 13), .ref (qm 14), .ref (qm 15), .ref (qm 16), .int 0, .int 0, .int 0, .int 0, .int 0, .int 0, .ref (qm 17), .ref (qm 18), .ref (qm 19), .ref (qm 20)])), ((qm 0), .inl (cI, 900, .inl (fun _ => 0)))]) hP rfl
  have hD := hD.sub (ws' := [(x, .inr (8, [.int 0, .int 0, .ref (q 0), .ref (q 1), .ref (q 2), .ref (q 3), .ref (q 4), .ref (q 5), .ref (q 6), .ref (q 7), .ref (q 8), .ref (q 9), .ref (q 10), .ref (q 11)])), ((q 0), .inr (3, [.ref (q 20), .int 0, .ref (q 21), .ref (q 22), .int 0, .int 0, .ref (q 23), .ref (q 24), .int 0, .int 24, .int 0, .int 0, .long 0, .int 0])), ((q 20), .inl (cB, 900, .inl (fun _ => 0))), (y, .inr (9, [.int 0, .ref (qm 0), .int 0, .int 0, .int 0, .int 0, .int 0, .int 0, .int 0, .int 0, .int (-1), .int 0, .ref (qm 1), .int 0, .int 0, .ref (qm 2), .ref (qm 3), .ref (qm 4), .ref (qm 5), .ref (qm 6), .ref (qm 7), .ref (qm 8), .ref (qm 9), .ref (qm 10), .ref (qm 11), .ref (qm 12), .ref (qm 13), .ref (qm 14), .ref (qm 15), .ref (qm 16), .int 0, .int 0, .int 0, .int 0, .int 0, .int 0, .ref (qm 17), .ref (qm 18), .ref (qm 19), .ref (qm 20)])), ((qm 0), .inl (cI, 900, .inl (fun _ => 0)))]) [0, 1, 2, 14, 15] (by decide) rfl
  refine lv_aload_n hx hb dL_law_232 rfl (lv_at hl 3 rfl) ?_
  refine lv_aload_n hx hb dL_law_233 rfl (lv_at hl 4 rfl) ?_
  refine lv_iload hx hb dL_law_234 (lv_at hl 0 rfl) ?_
  refine lv_iconst (v := 1) hx hb dL_law_236 (by decide) ?_
  refine r_iadd (v := 1) F dL_law_237 (by decide) ?_
  refine va_sld hx hb hX hbl hbA hS (bw_vin (by decide)) dL_law_238 ?_
  refine lv_aload_n hx hb dL_law_239 rfl (lv_at hl 4 rfl) ?_
  refine lv_iload hx hb dL_law_240 (lv_at hl 0 rfl) ?_
  refine lv_iconst (v := 2) hx hb dL_law_242 (by decide) ?_
  refine r_iadd (v := 2) F dL_law_243 (by decide) ?_
  refine va_sld hx hb hX hbl hbA hS (bw_vin (by decide)) dL_law_244 ?_
  refine lv_aload_n hx hb dL_law_245 rfl (lv_at hl 4 rfl) ?_
  refine lv_iload hx hb dL_law_246 (lv_at hl 0 rfl) ?_
  refine lv_iconst (v := 3) hx hb dL_law_248 (by decide) ?_
  refine r_iadd (v := 3) F dL_law_249 (by decide) ?_
  refine va_sld hx hb hX hbl hbA hS (bw_vin (by decide)) dL_law_250 ?_
  refine lv_aload_n hx hb dL_law_251 rfl (lv_at hl 4 rfl) ?_
  refine lv_iload hx hb dL_law_252 (lv_at hl 0 rfl) ?_
  refine lv_iconst (v := 4) hx hb dL_law_254 (by decide) ?_
  refine r_iadd (v := 4) F dL_law_255 (by decide) ?_
  refine va_sld hx hb hX hbl hbA hS (bw_vin (by decide)) dL_law_256 ?_
  refine lv_aload_n hx hb dL_law_257 rfl (lv_at hl 4 rfl) ?_
  refine lv_iload hx hb dL_law_258 (lv_at hl 0 rfl) ?_
  refine lv_iconst (v := 5) hx hb dL_law_260 (by decide) ?_
  refine r_iadd (v := 5) F dL_law_261 (by decide) ?_
  refine va_sld hx hb hX hbl hbA hS (bw_vin (by decide)) dL_law_262 ?_
  refine r_callVi (As := [.int (xs (Int32.toNatClampNeg 1)), .int (xs (Int32.toNatClampNeg 2)), .int (xs (Int32.toNatClampNeg 3)), .int (xs (Int32.toNatClampNeg 4)), .int (xs (Int32.toNatClampNeg 5))]) (rest := []) (wr := [(y, .inr (9, [.int 0, .ref (qm 0), .int 0, .int 0, .int 0, .int 0, .int 0, .int 0, .int 0, .int 0, .int (-1), .int 0, .ref (qm 1), .int 0, .int 0, .ref (qm 2), .ref (qm 3), .ref (qm 4), .ref (qm 5), .ref (qm 6), .ref (qm 7), .ref (qm 8), .ref (qm 9), .ref (qm 10), .ref (qm 11), .ref (qm 12), .ref (qm 13), .ref (qm 14), .ref (qm 15), .ref (qm 16), .int 0, .int 0, .int 0, .int 0, .int 0, .int 0, .ref (qm 17), .ref (qm 18), .ref (qm 19), .ref (qm 20)])), ((qm 0), .inl (cI, 900, .inl (fun _ => 0)))]) F hK hP hD hS hA hO hE (c_X8_feed hO x q (xs (Int32.toNatClampNeg 1)) (xs (Int32.toNatClampNeg 2)) (xs (Int32.toNatClampNeg 3)) (xs (Int32.toNatClampNeg 4)) (xs (Int32.toNatClampNeg 5))) k_538 kv_X8_feed 5 rfl (by decide +kernel) ⟨Nat.le_of_ble_eq_true rfl, Nat.le_of_ble_eq_true rfl⟩ [0, 1, 2] [3, 4] rfl rfl (by decide) (by decide) (by decide) 0 8 rfl rfl rfl hl.1 rfl (Nat.le_of_ble_eq_true rfl) dL_law_263 ⟨Nat.le_of_ble_eq_true rfl, Nat.le_of_ble_eq_true rfl⟩ (w1 := fun u1 => [(y, .inr (9, [.int 0, .ref (qm 0), .int 0, .int 0, .int 0, .int 0, .int 0, .int 0, .int 0, .int 0, .int (-1), .int 0, .ref (qm 1), .int 0, .int 0, .ref (qm 2), .ref (qm 3), .ref (qm 4), .ref (qm 5), .ref (qm 6), .ref (qm 7), .ref (qm 8), .ref (qm 9), .ref (qm 10), .ref (qm 11), .ref (qm 12), .ref (qm 13), .ref (qm 14), .ref (qm 15), .ref (qm 16), .int 0, .int 0, .int 0, .int 0, .int 0, .int 0, .ref (qm 17), .ref (qm 18), .ref (qm 19), .ref (qm 20)])), ((qm 0), .inl (cI, 900, .inl (fun _ => 0)))]) (fun _ => rfl) (fun r2 u1 H locs hp hP hD hS => ?_)
  subst hp
  refine lv_aload_n hx hb dL_law_266 rfl (lv_at hl 2 rfl) ?_
  refine lv_aload_n hx hb dL_law_267 rfl (lv_at hl 4 rfl) ?_
  refine lv_iload hx hb dL_law_268 (lv_at hl 0 rfl) ?_
  refine lv_iconst (v := 1) hx hb dL_law_270 (by decide) ?_
  refine r_iadd (v := 1) F dL_law_271 (by decide) ?_
  refine va_sld hx hb hX hbl hbA hS (bw_vin (by decide)) dL_law_272 ?_
  refine lv_aload_n hx hb dL_law_273 rfl (lv_at hl 4 rfl) ?_
  refine lv_iload hx hb dL_law_274 (lv_at hl 0 rfl) ?_
  refine lv_iconst (v := 2) hx hb dL_law_276 (by decide) ?_
  refine r_iadd (v := 2) F dL_law_277 (by decide) ?_
  refine va_sld hx hb hX hbl hbA hS (bw_vin (by decide)) dL_law_278 ?_
  refine lv_aload_n hx hb dL_law_279 rfl (lv_at hl 4 rfl) ?_
  refine lv_iload hx hb dL_law_280 (lv_at hl 0 rfl) ?_
  refine lv_iconst (v := 3) hx hb dL_law_282 (by decide) ?_
  refine r_iadd (v := 3) F dL_law_283 (by decide) ?_
  refine va_sld hx hb hX hbl hbA hS (bw_vin (by decide)) dL_law_284 ?_
  refine lv_aload_n hx hb dL_law_285 rfl (lv_at hl 4 rfl) ?_
  refine lv_iload hx hb dL_law_286 (lv_at hl 0 rfl) ?_
  refine lv_iconst (v := 4) hx hb dL_law_288 (by decide) ?_
  refine r_iadd (v := 4) F dL_law_289 (by decide) ?_
  refine va_sld hx hb hX hbl hbA hS (bw_vin (by decide)) dL_law_290 ?_
  refine lv_aload_n hx hb dL_law_291 rfl (lv_at hl 4 rfl) ?_
  refine lv_iload hx hb dL_law_292 (lv_at hl 0 rfl) ?_
  refine lv_iconst (v := 5) hx hb dL_law_294 (by decide) ?_
  refine r_iadd (v := 5) F dL_law_295 (by decide) ?_
  refine va_sld hx hb hX hbl hbA hS (bw_vin (by decide)) dL_law_296 ?_
  refine r_callVi (As := [.int (xs (Int32.toNatClampNeg 1)), .int (xs (Int32.toNatClampNeg 2)), .int (xs (Int32.toNatClampNeg 3)), .int (xs (Int32.toNatClampNeg 4)), .int (xs (Int32.toNatClampNeg 5))]) (rest := [.int 20]) (wr := []) F hK hP hD hS hA hO hE (c_X9_feed hO y qm (xs (Int32.toNatClampNeg 1)) (xs (Int32.toNatClampNeg 2)) (xs (Int32.toNatClampNeg 3)) (xs (Int32.toNatClampNeg 4)) (xs (Int32.toNatClampNeg 5))) k_1288 kv_X9_feed 5 rfl (by decide +kernel) ⟨Nat.le_of_ble_eq_true rfl, Nat.le_of_ble_eq_true rfl⟩ [0, 1] [] rfl rfl (by decide) (by decide) (by decide) 0 9 rfl rfl rfl hl.1 rfl (Nat.le_of_ble_eq_true rfl) dL_law_297 ⟨Nat.le_of_ble_eq_true rfl, Nat.le_of_ble_eq_true rfl⟩ (w1 := fun u3 => []) (fun _ => rfl) (fun r4 u3 H locs hp hP hD hS => ?_)
  subst hp
  refine lv_icmp_eq (tgt := 1483) hx hb dL_law_300 (by decide) (fun _ => ?_) (fun h9 => absurd rfl h9)
  exact lc_end C1 hS (Nat.le_of_ble_eq_true rfl) (Nat.le_of_ble_eq_true rfl) (lv_sub hl [0, 4] rfl)
theorem dL_law_305 : decode cL_law 305 = .ok (.aload_n 1, 1) := by decide +kernel
theorem dL_law_306 : decode cL_law 306 = .ok (.aload_n 0, 1) := by decide +kernel
theorem dL_law_307 : decode cL_law 307 = .ok (.iload 4, 2) := by decide +kernel
theorem dL_law_309 : decode cL_law 309 = .ok (.iconst 1, 1) := by decide +kernel
theorem dL_law_310 : decode cL_law 310 = .ok (.iadd, 1) := by decide +kernel
theorem dL_law_311 : decode cL_law 311 = .ok (.iaload, 1) := by decide +kernel
theorem dL_law_312 : decode cL_law 312 = .ok (.invokevirtual 24, 3) := by decide +kernel
theorem k_546 : Cond.methodLink RL 24 yX8_program ∈ bw_T := bw_m 546 (by decide +kernel) rfl
theorem kv_X8_program : bw_KV RX8 yX8_program (Cond.code yX8_program cX8_program 2 (some .int)) := ⟨bw_m 547 (by decide +kernel) rfl, bw_m 548 (by decide +kernel) rfl, bw_m 94 (by decide +kernel) rfl, bw_m 549 (by decide +kernel) rfl⟩
theorem dL_law_315 : decode cL_law 315 = .ok (.aload_n 2, 1) := by decide +kernel
theorem dL_law_316 : decode cL_law 316 = .ok (.aload_n 0, 1) := by decide +kernel
theorem dL_law_317 : decode cL_law 317 = .ok (.iload 4, 2) := by decide +kernel
theorem dL_law_319 : decode cL_law 319 = .ok (.iconst 1, 1) := by decide +kernel
theorem dL_law_320 : decode cL_law 320 = .ok (.iadd, 1) := by decide +kernel
theorem dL_law_321 : decode cL_law 321 = .ok (.iaload, 1) := by decide +kernel
theorem dL_law_322 : decode cL_law 322 = .ok (.invokevirtual 27, 3) := by decide +kernel
theorem k_1292 : Cond.methodLink RL 27 yX9_program ∈ bw_T := bw_m 1292 (by decide +kernel) rfl
theorem kv_X9_program : bw_KV RX9 yX9_program (Cond.code yX9_program cX9_program 3 (some .int)) := ⟨bw_m 1293 (by decide +kernel) rfl, bw_m 1294 (by decide +kernel) rfl, bw_m 107 (by decide +kernel) rfl, bw_m 1295 (by decide +kernel) rfl⟩
theorem dL_law_325 : decode cL_law 325 = .ok (.if_icmp .eq 1158, 3) := by decide +kernel
set_option maxRecDepth 100000 in
set_option maxHeartbeats 4000000 in
theorem lc_1 {p : Program} {l : Launch} {e : Env} {s : State} {m : MethodId} {below : List Frame} {meth : Method} {c : Code} {b : Nat} {xs : Nat → Int32} (C0 : lw_At p s m meth c b 6 xs) {E : (Nat → Prop) → State → Prop} (hO : bw_Ok E) {w1 w2 w3 : Nat} (hW : bw_Words E w1 w2 w3) {G : va_G} {cI cB cJ cN cW : ClassId} (hK : va_K G vwCl (bw_kt cI cB cJ cN cW) s) (hE : E (fun q : Nat => s.heap.size ≤ q) s) (x y o : Nat) (q qm : Nat → Nat) (f : Nat → Nat → Int32) {H : Heap} {locs : List Loc} (hP : va_P G vwCl (lc_W cI cB cJ x y o q qm f) H) (hD : va_D (fun q : Nat => s.heap.size ≤ q) (lc_W cI cB cJ x y o q qm f)) (hS : va_S (fun q : Nat => s.heap.size ≤ q) s.heap H locs) {ls : Array Slot} (hl : lv_has ls 7 [(4, .int 0), (3, .ref o), (2, .ref y), (1, .ref x), (0, .ref b)]) : W p l e room_1 s m #[Value.ref b] below meth c H locs 163 8733 (lw_Z below #[Value.ref b] s) (F0 m 305 ls []) := by
  have C1 := C0
  obtain ⟨hx, hb, hr, hml, hown, hts, hX, hbl, hlocks, hgv⟩ := C0
  have hA : ∀ q : Nat, s.heap.size ≤ q → (fun q : Nat => s.heap.size ≤ q) q := fun _ h => h
  have hbA : ¬ (fun q : Nat => s.heap.size ≤ q) b := Nat.not_le.mpr hbl
  have F : CallFix p m c cL_law 7 s #[Value.ref b] bw_T RL := ⟨hx, hb, hml, hown, fun w h => hts w (List.mem_filter.mp h).1⟩
  have hP := bw_subP (isC := [0, 1, 3, 4, 5, 6, 7, 8, 9, 14, 16]) (wc := [(x, .inr (8, [.int 0, .int 0, .ref (q 0), .ref (q 1), .ref (q 2), .ref (q 3), .ref (q 4), .ref (q 5), .ref (q 6), .ref (q 7), .ref (q 8), .ref (q 9), .ref (q 10), .ref (q 11)])), ((q 0), .inr (3, [.ref (q 20), .int 0, .ref (q 21), .ref (q 22), .int 0, .int 0, .ref (q 23), .ref (q 24), .int 0, .int 24, .int 0, .int 0, .long 0, .int 0])), ((q 21), .inr (2, [.int 0, .ref (q 25), .ref (q 26), .ref (q 27), .ref (q 28), .ref (q 29), .ref (q 30), .ref (q 31), .ref (q 32)])), ((q 25), .inl (cI, 10, .inl (f 0))), ((q 26), .inl (cI, 10, .inl (f 1))), ((q 27), .inl (cI, 10, .inl (f 2))), ((q 31), .inl (cI, 20, .inl (f 3))), ((q 32), .inl (cI, 20, .inl (fun _ => 0))), ((q 22), .inr (7, [.int 0, .ref (q 33)])), (y, .inr (9, [.int 0, .ref (qm 0), .int 0, .int 0, .int 0, .int 0, .int 0, .int 0, .int 0, .int 0, .int (-1), .int 0, .ref (qm 1), .int 0, .int 0, .ref (qm 2), .ref (qm 3), .ref (qm 4), .ref (qm 5), .ref (qm 6), .ref (qm 7), .ref (qm 8), .ref (qm 9), .ref (qm 10), .ref (qm 11), .ref (qm 12), .ref (qm 13), .ref (qm 14), .ref (qm 15), .ref (qm 16), .int 0, .int 0, .int 0, .int 0, .int 0, .int 0, .ref (qm 17), .ref (qm 18), .ref (qm 19), .ref (qm 20)])), ((qm 2), .inl (cI, 200, .inl (fun _ => 0)))]) hP rfl
  have hD := hD.sub (ws' := [(x, .inr (8, [.int 0, .int 0, .ref (q 0), .ref (q 1), .ref (q 2), .ref (q 3), .ref (q 4), .ref (q 5), .ref (q 6), .ref (q 7), .ref (q 8), .ref (q 9), .ref (q 10), .ref (q 11)])), ((q 0), .inr (3, [.ref (q 20), .int 0, .ref (q 21), .ref (q 22), .int 0, .int 0, .ref (q 23), .ref (q 24), .int 0, .int 24, .int 0, .int 0, .long 0, .int 0])), ((q 21), .inr (2, [.int 0, .ref (q 25), .ref (q 26), .ref (q 27), .ref (q 28), .ref (q 29), .ref (q 30), .ref (q 31), .ref (q 32)])), ((q 25), .inl (cI, 10, .inl (f 0))), ((q 26), .inl (cI, 10, .inl (f 1))), ((q 27), .inl (cI, 10, .inl (f 2))), ((q 31), .inl (cI, 20, .inl (f 3))), ((q 32), .inl (cI, 20, .inl (fun _ => 0))), ((q 22), .inr (7, [.int 0, .ref (q 33)])), (y, .inr (9, [.int 0, .ref (qm 0), .int 0, .int 0, .int 0, .int 0, .int 0, .int 0, .int 0, .int 0, .int (-1), .int 0, .ref (qm 1), .int 0, .int 0, .ref (qm 2), .ref (qm 3), .ref (qm 4), .ref (qm 5), .ref (qm 6), .ref (qm 7), .ref (qm 8), .ref (qm 9), .ref (qm 10), .ref (qm 11), .ref (qm 12), .ref (qm 13), .ref (qm 14), .ref (qm 15), .ref (qm 16), .int 0, .int 0, .int 0, .int 0, .int 0, .int 0, .ref (qm 17), .ref (qm 18), .ref (qm 19), .ref (qm 20)])), ((qm 2), .inl (cI, 200, .inl (fun _ => 0)))]) [0, 1, 3, 4, 5, 6, 7, 8, 9, 14, 16] (by decide) rfl
  refine lv_aload_n hx hb dL_law_305 rfl (lv_at hl 3 rfl) ?_
  refine lv_aload_n hx hb dL_law_306 rfl (lv_at hl 4 rfl) ?_
  refine lv_iload hx hb dL_law_307 (lv_at hl 0 rfl) ?_
  refine lv_iconst (v := 1) hx hb dL_law_309 (by decide) ?_
  refine r_iadd (v := 1) F dL_law_310 (by decide) ?_
  refine va_sld hx hb hX hbl hbA hS (bw_vin (by decide)) dL_law_311 ?_
  refine r_callVi (As := [.int (xs (Int32.toNatClampNeg 1))]) (rest := []) (wr := [(y, .inr (9, [.int 0, .ref (qm 0), .int 0, .int 0, .int 0, .int 0, .int 0, .int 0, .int 0, .int 0, .int (-1), .int 0, .ref (qm 1), .int 0, .int 0, .ref (qm 2), .ref (qm 3), .ref (qm 4), .ref (qm 5), .ref (qm 6), .ref (qm 7), .ref (qm 8), .ref (qm 9), .ref (qm 10), .ref (qm 11), .ref (qm 12), .ref (qm 13), .ref (qm 14), .ref (qm 15), .ref (qm 16), .int 0, .int 0, .int 0, .int 0, .int 0, .int 0, .ref (qm 17), .ref (qm 18), .ref (qm 19), .ref (qm 20)])), ((qm 2), .inl (cI, 200, .inl (fun _ => 0)))]) F hK hP hD hS hA hO hE (c_X8_program hO x q f (xs (Int32.toNatClampNeg 1))) k_546 kv_X8_program 1 rfl (by decide +kernel) ⟨Nat.le_of_ble_eq_true rfl, Nat.le_of_ble_eq_true rfl⟩ [0, 1, 2, 3, 4, 5, 6, 7, 8] [9, 10] rfl rfl (by decide) (by decide) (by decide) 0 8 rfl rfl rfl hl.1 rfl (Nat.le_of_ble_eq_true rfl) dL_law_312 ⟨Nat.le_of_ble_eq_true rfl, Nat.le_of_ble_eq_true rfl⟩ (w1 := fun u1 => [(y, .inr (9, [.int 0, .ref (qm 0), .int 0, .int 0, .int 0, .int 0, .int 0, .int 0, .int 0, .int 0, .int (-1), .int 0, .ref (qm 1), .int 0, .int 0, .ref (qm 2), .ref (qm 3), .ref (qm 4), .ref (qm 5), .ref (qm 6), .ref (qm 7), .ref (qm 8), .ref (qm 9), .ref (qm 10), .ref (qm 11), .ref (qm 12), .ref (qm 13), .ref (qm 14), .ref (qm 15), .ref (qm 16), .int 0, .int 0, .int 0, .int 0, .int 0, .int 0, .ref (qm 17), .ref (qm 18), .ref (qm 19), .ref (qm 20)])), ((qm 2), .inl (cI, 200, .inl (fun _ => 0)))]) (fun _ => rfl) (fun r2 u1 H locs hp hP hD hS => ?_)
  subst hp
  refine lv_aload_n hx hb dL_law_315 rfl (lv_at hl 2 rfl) ?_
  refine lv_aload_n hx hb dL_law_316 rfl (lv_at hl 4 rfl) ?_
  refine lv_iload hx hb dL_law_317 (lv_at hl 0 rfl) ?_
  refine lv_iconst (v := 1) hx hb dL_law_319 (by decide) ?_
  refine r_iadd (v := 1) F dL_law_320 (by decide) ?_
  refine va_sld hx hb hX hbl hbA hS (bw_vin (by decide)) dL_law_321 ?_
  refine r_callVi (As := [.int (xs (Int32.toNatClampNeg 1))]) (rest := [.int (-1)]) (wr := []) F hK hP hD hS hA hO hE (c_X9_program hO hW y qm (xs (Int32.toNatClampNeg 1))) k_1292 kv_X9_program 1 rfl (by decide +kernel) ⟨Nat.le_of_ble_eq_true rfl, Nat.le_of_ble_eq_true rfl⟩ [0, 1] [] rfl rfl (by decide) (by decide) (by decide) 0 9 rfl rfl rfl hl.1 rfl (Nat.le_of_ble_eq_true rfl) dL_law_322 ⟨Nat.le_of_ble_eq_true rfl, Nat.le_of_ble_eq_true rfl⟩ (w1 := fun u3 => []) (fun _ => rfl) (fun r4 u3 H locs hp hP hD hS => ?_)
  subst hp
  refine lv_icmp_eq (tgt := 1483) hx hb dL_law_325 (by decide) (fun _ => ?_) (fun h9 => absurd rfl h9)
  exact lc_end C1 hS (Nat.le_of_ble_eq_true rfl) (Nat.le_of_ble_eq_true rfl) (lv_sub hl [0, 4] rfl)
theorem dL_law_330 : decode cL_law 330 = .ok (.aload_n 1, 1) := by decide +kernel
theorem dL_law_331 : decode cL_law 331 = .ok (.invokevirtual 28, 3) := by decide +kernel
theorem k_667 : Cond.methodLink RL 28 yX8_fault ∈ bw_T := bw_m 667 (by decide +kernel) rfl
theorem kv_X8_fault : bw_KV RX8 yX8_fault (Cond.code yX8_fault cX8_fault 1 (some .int)) := ⟨bw_m 668 (by decide +kernel) rfl, bw_m 669 (by decide +kernel) rfl, bw_m 94 (by decide +kernel) rfl, bw_m 670 (by decide +kernel) rfl⟩
theorem dL_law_334 : decode cL_law 334 = .ok (.aload_n 2, 1) := by decide +kernel
theorem dL_law_335 : decode cL_law 335 = .ok (.invokevirtual 32, 3) := by decide +kernel
theorem k_1427 : Cond.methodLink RL 32 yX9_fault ∈ bw_T := bw_m 1427 (by decide +kernel) rfl
theorem kv_X9_fault : bw_KV RX9 yX9_fault (Cond.code yX9_fault cX9_fault 1 (some .int)) := ⟨bw_m 1428 (by decide +kernel) rfl, bw_m 1429 (by decide +kernel) rfl, bw_m 107 (by decide +kernel) rfl, bw_m 1430 (by decide +kernel) rfl⟩
theorem dL_law_338 : decode cL_law 338 = .ok (.if_icmp .eq 1145, 3) := by decide +kernel
set_option maxRecDepth 100000 in
set_option maxHeartbeats 4000000 in
theorem lc_2 {p : Program} {l : Launch} {e : Env} {s : State} {m : MethodId} {below : List Frame} {meth : Method} {c : Code} {b : Nat} {xs : Nat → Int32} (C0 : lw_At p s m meth c b 6 xs) {E : (Nat → Prop) → State → Prop} (hO : bw_Ok E) {G : va_G} {cI cB cJ cN cW : ClassId} (hK : va_K G vwCl (bw_kt cI cB cJ cN cW) s) (hE : E (fun q : Nat => s.heap.size ≤ q) s) (x y o : Nat) (q qm : Nat → Nat) (f : Nat → Nat → Int32) {H : Heap} {locs : List Loc} (hP : va_P G vwCl (lc_W cI cB cJ x y o q qm f) H) (hD : va_D (fun q : Nat => s.heap.size ≤ q) (lc_W cI cB cJ x y o q qm f)) (hS : va_S (fun q : Nat => s.heap.size ≤ q) s.heap H locs) {ls : Array Slot} (hl : lv_has ls 7 [(4, .int 0), (3, .ref o), (2, .ref y), (1, .ref x), (0, .ref b)]) : W p l e room_1 s m #[Value.ref b] below meth c H locs 163 8733 (lw_Z below #[Value.ref b] s) (F0 m 330 ls []) := by
  have C1 := C0
  obtain ⟨hx, hb, hr, hml, hown, hts, hX, hbl, hlocks, hgv⟩ := C0
  have hA : ∀ q : Nat, s.heap.size ≤ q → (fun q : Nat => s.heap.size ≤ q) q := fun _ h => h
  have hbA : ¬ (fun q : Nat => s.heap.size ≤ q) b := Nat.not_le.mpr hbl
  have F : CallFix p m c cL_law 7 s #[Value.ref b] bw_T RL := ⟨hx, hb, hml, hown, fun w h => hts w (List.mem_filter.mp h).1⟩
  have hP := bw_subP (isC := [0, 1, 14]) (wc := [(x, .inr (8, [.int 0, .int 0, .ref (q 0), .ref (q 1), .ref (q 2), .ref (q 3), .ref (q 4), .ref (q 5), .ref (q 6), .ref (q 7), .ref (q 8), .ref (q 9), .ref (q 10), .ref (q 11)])), ((q 0), .inr (3, [.ref (q 20), .int 0, .ref (q 21), .ref (q 22), .int 0, .int 0, .ref (q 23), .ref (q 24), .int 0, .int 24, .int 0, .int 0, .long 0, .int 0])), (y, .inr (9, [.int 0, .ref (qm 0), .int 0, .int 0, .int 0, .int 0, .int 0, .int 0, .int 0, .int 0, .int (-1), .int 0, .ref (qm 1), .int 0, .int 0, .ref (qm 2), .ref (qm 3), .ref (qm 4), .ref (qm 5), .ref (qm 6), .ref (qm 7), .ref (qm 8), .ref (qm 9), .ref (qm 10), .ref (qm 11), .ref (qm 12), .ref (qm 13), .ref (qm 14), .ref (qm 15), .ref (qm 16), .int 0, .int 0, .int 0, .int 0, .int 0, .int 0, .ref (qm 17), .ref (qm 18), .ref (qm 19), .ref (qm 20)]))]) hP rfl
  have hD := hD.sub (ws' := [(x, .inr (8, [.int 0, .int 0, .ref (q 0), .ref (q 1), .ref (q 2), .ref (q 3), .ref (q 4), .ref (q 5), .ref (q 6), .ref (q 7), .ref (q 8), .ref (q 9), .ref (q 10), .ref (q 11)])), ((q 0), .inr (3, [.ref (q 20), .int 0, .ref (q 21), .ref (q 22), .int 0, .int 0, .ref (q 23), .ref (q 24), .int 0, .int 24, .int 0, .int 0, .long 0, .int 0])), (y, .inr (9, [.int 0, .ref (qm 0), .int 0, .int 0, .int 0, .int 0, .int 0, .int 0, .int 0, .int 0, .int (-1), .int 0, .ref (qm 1), .int 0, .int 0, .ref (qm 2), .ref (qm 3), .ref (qm 4), .ref (qm 5), .ref (qm 6), .ref (qm 7), .ref (qm 8), .ref (qm 9), .ref (qm 10), .ref (qm 11), .ref (qm 12), .ref (qm 13), .ref (qm 14), .ref (qm 15), .ref (qm 16), .int 0, .int 0, .int 0, .int 0, .int 0, .int 0, .ref (qm 17), .ref (qm 18), .ref (qm 19), .ref (qm 20)]))]) [0, 1, 14] (by decide) rfl
  refine lv_aload_n hx hb dL_law_330 rfl (lv_at hl 3 rfl) ?_
  refine r_callVi (As := []) (rest := []) (wr := [(y, .inr (9, [.int 0, .ref (qm 0), .int 0, .int 0, .int 0, .int 0, .int 0, .int 0, .int 0, .int 0, .int (-1), .int 0, .ref (qm 1), .int 0, .int 0, .ref (qm 2), .ref (qm 3), .ref (qm 4), .ref (qm 5), .ref (qm 6), .ref (qm 7), .ref (qm 8), .ref (qm 9), .ref (qm 10), .ref (qm 11), .ref (qm 12), .ref (qm 13), .ref (qm 14), .ref (qm 15), .ref (qm 16), .int 0, .int 0, .int 0, .int 0, .int 0, .int 0, .ref (qm 17), .ref (qm 18), .ref (qm 19), .ref (qm 20)]))]) F hK hP hD hS hA hO hE (c_X8_fault hO x q) k_667 kv_X8_fault 0 rfl (by decide +kernel) ⟨Nat.le_of_ble_eq_true rfl, Nat.le_of_ble_eq_true rfl⟩ [0, 1] [2] rfl rfl (by decide) (by decide) (by decide) 0 8 rfl rfl rfl hl.1 rfl (Nat.le_of_ble_eq_true rfl) dL_law_331 ⟨Nat.le_of_ble_eq_true rfl, Nat.le_of_ble_eq_true rfl⟩ (w1 := fun u1 => [(y, .inr (9, [.int 0, .ref (qm 0), .int 0, .int 0, .int 0, .int 0, .int 0, .int 0, .int 0, .int 0, .int (-1), .int 0, .ref (qm 1), .int 0, .int 0, .ref (qm 2), .ref (qm 3), .ref (qm 4), .ref (qm 5), .ref (qm 6), .ref (qm 7), .ref (qm 8), .ref (qm 9), .ref (qm 10), .ref (qm 11), .ref (qm 12), .ref (qm 13), .ref (qm 14), .ref (qm 15), .ref (qm 16), .int 0, .int 0, .int 0, .int 0, .int 0, .int 0, .ref (qm 17), .ref (qm 18), .ref (qm 19), .ref (qm 20)]))]) (fun _ => rfl) (fun r2 u1 H locs hp hP hD hS => ?_)
  subst hp
  refine lv_aload_n hx hb dL_law_334 rfl (lv_at hl 2 rfl) ?_
  refine r_callVi (As := []) (rest := [.int 0]) (wr := []) F hK hP hD hS hA hO hE (c_X9_fault hO y qm) k_1427 kv_X9_fault 0 rfl (by decide +kernel) ⟨Nat.le_of_ble_eq_true rfl, Nat.le_of_ble_eq_true rfl⟩ [0] [] rfl rfl (by decide) (by decide) (by decide) 0 9 rfl rfl rfl hl.1 rfl (Nat.le_of_ble_eq_true rfl) dL_law_335 ⟨Nat.le_of_ble_eq_true rfl, Nat.le_of_ble_eq_true rfl⟩ (w1 := fun u3 => []) (fun _ => rfl) (fun r4 u3 H locs hp hP hD hS => ?_)
  subst hp
  refine lv_icmp_eq (tgt := 1483) hx hb dL_law_338 (by decide) (fun _ => ?_) (fun h9 => absurd rfl h9)
  exact lc_end C1 hS (Nat.le_of_ble_eq_true rfl) (Nat.le_of_ble_eq_true rfl) (lv_sub hl [0, 4] rfl)
theorem dL_law_343 : decode cL_law 343 = .ok (.aload_n 1, 1) := by decide +kernel
theorem dL_law_344 : decode cL_law 344 = .ok (.invokevirtual 33, 3) := by decide +kernel
theorem k_671 : Cond.methodLink RL 33 yX8_where ∈ bw_T := bw_m 671 (by decide +kernel) rfl
theorem kv_X8_where : bw_KV RX8 yX8_where (Cond.code yX8_where cX8_where 1 (some .int)) := ⟨bw_m 672 (by decide +kernel) rfl, bw_m 673 (by decide +kernel) rfl, bw_m 94 (by decide +kernel) rfl, bw_m 674 (by decide +kernel) rfl⟩
theorem dL_law_347 : decode cL_law 347 = .ok (.aload_n 2, 1) := by decide +kernel
theorem dL_law_348 : decode cL_law 348 = .ok (.invokevirtual 36, 3) := by decide +kernel
theorem k_1431 : Cond.methodLink RL 36 yX9_where ∈ bw_T := bw_m 1431 (by decide +kernel) rfl
theorem kv_X9_where : bw_KV RX9 yX9_where (Cond.code yX9_where cX9_where 1 (some .int)) := ⟨bw_m 1432 (by decide +kernel) rfl, bw_m 1433 (by decide +kernel) rfl, bw_m 107 (by decide +kernel) rfl, bw_m 1434 (by decide +kernel) rfl⟩
theorem dL_law_351 : decode cL_law 351 = .ok (.if_icmp .eq 1132, 3) := by decide +kernel
set_option maxRecDepth 100000 in
set_option maxHeartbeats 4000000 in
theorem lc_3 {p : Program} {l : Launch} {e : Env} {s : State} {m : MethodId} {below : List Frame} {meth : Method} {c : Code} {b : Nat} {xs : Nat → Int32} (C0 : lw_At p s m meth c b 6 xs) {E : (Nat → Prop) → State → Prop} (hO : bw_Ok E) {G : va_G} {cI cB cJ cN cW : ClassId} (hK : va_K G vwCl (bw_kt cI cB cJ cN cW) s) (hE : E (fun q : Nat => s.heap.size ≤ q) s) (x y o : Nat) (q qm : Nat → Nat) (f : Nat → Nat → Int32) {H : Heap} {locs : List Loc} (hP : va_P G vwCl (lc_W cI cB cJ x y o q qm f) H) (hD : va_D (fun q : Nat => s.heap.size ≤ q) (lc_W cI cB cJ x y o q qm f)) (hS : va_S (fun q : Nat => s.heap.size ≤ q) s.heap H locs) {ls : Array Slot} (hl : lv_has ls 7 [(4, .int 0), (3, .ref o), (2, .ref y), (1, .ref x), (0, .ref b)]) : W p l e room_1 s m #[Value.ref b] below meth c H locs 163 8733 (lw_Z below #[Value.ref b] s) (F0 m 343 ls []) := by
  have C1 := C0
  obtain ⟨hx, hb, hr, hml, hown, hts, hX, hbl, hlocks, hgv⟩ := C0
  have hA : ∀ q : Nat, s.heap.size ≤ q → (fun q : Nat => s.heap.size ≤ q) q := fun _ h => h
  have hbA : ¬ (fun q : Nat => s.heap.size ≤ q) b := Nat.not_le.mpr hbl
  have F : CallFix p m c cL_law 7 s #[Value.ref b] bw_T RL := ⟨hx, hb, hml, hown, fun w h => hts w (List.mem_filter.mp h).1⟩
  have hP := bw_subP (isC := [0, 14]) (wc := [(x, .inr (8, [.int 0, .int 0, .ref (q 0), .ref (q 1), .ref (q 2), .ref (q 3), .ref (q 4), .ref (q 5), .ref (q 6), .ref (q 7), .ref (q 8), .ref (q 9), .ref (q 10), .ref (q 11)])), (y, .inr (9, [.int 0, .ref (qm 0), .int 0, .int 0, .int 0, .int 0, .int 0, .int 0, .int 0, .int 0, .int (-1), .int 0, .ref (qm 1), .int 0, .int 0, .ref (qm 2), .ref (qm 3), .ref (qm 4), .ref (qm 5), .ref (qm 6), .ref (qm 7), .ref (qm 8), .ref (qm 9), .ref (qm 10), .ref (qm 11), .ref (qm 12), .ref (qm 13), .ref (qm 14), .ref (qm 15), .ref (qm 16), .int 0, .int 0, .int 0, .int 0, .int 0, .int 0, .ref (qm 17), .ref (qm 18), .ref (qm 19), .ref (qm 20)]))]) hP rfl
  have hD := hD.sub (ws' := [(x, .inr (8, [.int 0, .int 0, .ref (q 0), .ref (q 1), .ref (q 2), .ref (q 3), .ref (q 4), .ref (q 5), .ref (q 6), .ref (q 7), .ref (q 8), .ref (q 9), .ref (q 10), .ref (q 11)])), (y, .inr (9, [.int 0, .ref (qm 0), .int 0, .int 0, .int 0, .int 0, .int 0, .int 0, .int 0, .int 0, .int (-1), .int 0, .ref (qm 1), .int 0, .int 0, .ref (qm 2), .ref (qm 3), .ref (qm 4), .ref (qm 5), .ref (qm 6), .ref (qm 7), .ref (qm 8), .ref (qm 9), .ref (qm 10), .ref (qm 11), .ref (qm 12), .ref (qm 13), .ref (qm 14), .ref (qm 15), .ref (qm 16), .int 0, .int 0, .int 0, .int 0, .int 0, .int 0, .ref (qm 17), .ref (qm 18), .ref (qm 19), .ref (qm 20)]))]) [0, 14] (by decide) rfl
  refine lv_aload_n hx hb dL_law_343 rfl (lv_at hl 3 rfl) ?_
  refine r_callVi (As := []) (rest := []) (wr := [(y, .inr (9, [.int 0, .ref (qm 0), .int 0, .int 0, .int 0, .int 0, .int 0, .int 0, .int 0, .int 0, .int (-1), .int 0, .ref (qm 1), .int 0, .int 0, .ref (qm 2), .ref (qm 3), .ref (qm 4), .ref (qm 5), .ref (qm 6), .ref (qm 7), .ref (qm 8), .ref (qm 9), .ref (qm 10), .ref (qm 11), .ref (qm 12), .ref (qm 13), .ref (qm 14), .ref (qm 15), .ref (qm 16), .int 0, .int 0, .int 0, .int 0, .int 0, .int 0, .ref (qm 17), .ref (qm 18), .ref (qm 19), .ref (qm 20)]))]) F hK hP hD hS hA hO hE (c_X8_where hO x q) k_671 kv_X8_where 0 rfl (by decide +kernel) ⟨Nat.le_of_ble_eq_true rfl, Nat.le_of_ble_eq_true rfl⟩ [0] [1] rfl rfl (by decide) (by decide) (by decide) 0 8 rfl rfl rfl hl.1 rfl (Nat.le_of_ble_eq_true rfl) dL_law_344 ⟨Nat.le_of_ble_eq_true rfl, Nat.le_of_ble_eq_true rfl⟩ (w1 := fun u1 => [(y, .inr (9, [.int 0, .ref (qm 0), .int 0, .int 0, .int 0, .int 0, .int 0, .int 0, .int 0, .int 0, .int (-1), .int 0, .ref (qm 1), .int 0, .int 0, .ref (qm 2), .ref (qm 3), .ref (qm 4), .ref (qm 5), .ref (qm 6), .ref (qm 7), .ref (qm 8), .ref (qm 9), .ref (qm 10), .ref (qm 11), .ref (qm 12), .ref (qm 13), .ref (qm 14), .ref (qm 15), .ref (qm 16), .int 0, .int 0, .int 0, .int 0, .int 0, .int 0, .ref (qm 17), .ref (qm 18), .ref (qm 19), .ref (qm 20)]))]) (fun _ => rfl) (fun r2 u1 H locs hp hP hD hS => ?_)
  subst hp
  refine lv_aload_n hx hb dL_law_347 rfl (lv_at hl 2 rfl) ?_
  refine r_callVi (As := []) (rest := [.int (-1)]) (wr := []) F hK hP hD hS hA hO hE (c_X9_where hO y qm) k_1431 kv_X9_where 0 rfl (by decide +kernel) ⟨Nat.le_of_ble_eq_true rfl, Nat.le_of_ble_eq_true rfl⟩ [0] [] rfl rfl (by decide) (by decide) (by decide) 0 9 rfl rfl rfl hl.1 rfl (Nat.le_of_ble_eq_true rfl) dL_law_348 ⟨Nat.le_of_ble_eq_true rfl, Nat.le_of_ble_eq_true rfl⟩ (w1 := fun u3 => []) (fun _ => rfl) (fun r4 u3 H locs hp hP hD hS => ?_)
  subst hp
  refine lv_icmp_eq (tgt := 1483) hx hb dL_law_351 (by decide) (fun _ => ?_) (fun h9 => absurd rfl h9)
  exact lc_end C1 hS (Nat.le_of_ble_eq_true rfl) (Nat.le_of_ble_eq_true rfl) (lv_sub hl [0, 4] rfl)
theorem dL_law_356 : decode cL_law 356 = .ok (.aload_n 1, 1) := by decide +kernel
theorem dL_law_357 : decode cL_law 357 = .ok (.aload_n 0, 1) := by decide +kernel
theorem dL_law_358 : decode cL_law 358 = .ok (.iload 4, 2) := by decide +kernel
theorem dL_law_360 : decode cL_law 360 = .ok (.iconst 1, 1) := by decide +kernel
theorem dL_law_361 : decode cL_law 361 = .ok (.iadd, 1) := by decide +kernel
theorem dL_law_362 : decode cL_law 362 = .ok (.iaload, 1) := by decide +kernel
theorem dL_law_363 : decode cL_law 363 = .ok (.aload_n 0, 1) := by decide +kernel
theorem dL_law_364 : decode cL_law 364 = .ok (.iload 4, 2) := by decide +kernel
theorem dL_law_366 : decode cL_law 366 = .ok (.iconst 2, 1) := by decide +kernel
theorem dL_law_367 : decode cL_law 367 = .ok (.iadd, 1) := by decide +kernel
theorem dL_law_368 : decode cL_law 368 = .ok (.iaload, 1) := by decide +kernel
theorem dL_law_369 : decode cL_law 369 = .ok (.aload_n 0, 1) := by decide +kernel
theorem dL_law_370 : decode cL_law 370 = .ok (.iload 4, 2) := by decide +kernel
theorem dL_law_372 : decode cL_law 372 = .ok (.iconst 3, 1) := by decide +kernel
theorem dL_law_373 : decode cL_law 373 = .ok (.iadd, 1) := by decide +kernel
theorem dL_law_374 : decode cL_law 374 = .ok (.iaload, 1) := by decide +kernel
theorem dL_law_375 : decode cL_law 375 = .ok (.aload_n 0, 1) := by decide +kernel
theorem dL_law_376 : decode cL_law 376 = .ok (.iload 4, 2) := by decide +kernel
theorem dL_law_378 : decode cL_law 378 = .ok (.iconst 4, 1) := by decide +kernel
theorem dL_law_379 : decode cL_law 379 = .ok (.iadd, 1) := by decide +kernel
theorem dL_law_380 : decode cL_law 380 = .ok (.iaload, 1) := by decide +kernel
theorem dL_law_381 : decode cL_law 381 = .ok (.invokevirtual 37, 3) := by decide +kernel
theorem k_675 : Cond.methodLink RL 37 yX8_start ∈ bw_T := bw_m 675 (by decide +kernel) rfl
theorem kv_X8_start : bw_KV RX8 yX8_start (Cond.code yX8_start cX8_start 5 (some .boolean)) := ⟨bw_m 676 (by decide +kernel) rfl, bw_m 677 (by decide +kernel) rfl, bw_m 94 (by decide +kernel) rfl, bw_m 678 (by decide +kernel) rfl⟩
theorem dL_law_384 : decode cL_law 384 = .ok (.aload_n 2, 1) := by decide +kernel
theorem dL_law_385 : decode cL_law 385 = .ok (.aload_n 0, 1) := by decide +kernel
theorem dL_law_386 : decode cL_law 386 = .ok (.iload 4, 2) := by decide +kernel
theorem dL_law_388 : decode cL_law 388 = .ok (.iconst 1, 1) := by decide +kernel
theorem dL_law_389 : decode cL_law 389 = .ok (.iadd, 1) := by decide +kernel
theorem dL_law_390 : decode cL_law 390 = .ok (.iaload, 1) := by decide +kernel
theorem dL_law_391 : decode cL_law 391 = .ok (.aload_n 0, 1) := by decide +kernel
theorem dL_law_392 : decode cL_law 392 = .ok (.iload 4, 2) := by decide +kernel
theorem dL_law_394 : decode cL_law 394 = .ok (.iconst 2, 1) := by decide +kernel
theorem dL_law_395 : decode cL_law 395 = .ok (.iadd, 1) := by decide +kernel
theorem dL_law_396 : decode cL_law 396 = .ok (.iaload, 1) := by decide +kernel
theorem dL_law_397 : decode cL_law 397 = .ok (.aload_n 0, 1) := by decide +kernel
theorem dL_law_398 : decode cL_law 398 = .ok (.iload 4, 2) := by decide +kernel
theorem dL_law_400 : decode cL_law 400 = .ok (.iconst 3, 1) := by decide +kernel
theorem dL_law_401 : decode cL_law 401 = .ok (.iadd, 1) := by decide +kernel
theorem dL_law_402 : decode cL_law 402 = .ok (.iaload, 1) := by decide +kernel
theorem dL_law_403 : decode cL_law 403 = .ok (.aload_n 0, 1) := by decide +kernel
theorem dL_law_404 : decode cL_law 404 = .ok (.iload 4, 2) := by decide +kernel
theorem dL_law_406 : decode cL_law 406 = .ok (.iconst 4, 1) := by decide +kernel
theorem dL_law_407 : decode cL_law 407 = .ok (.iadd, 1) := by decide +kernel
theorem dL_law_408 : decode cL_law 408 = .ok (.iaload, 1) := by decide +kernel
theorem dL_law_409 : decode cL_law 409 = .ok (.invokevirtual 41, 3) := by decide +kernel
theorem k_1435 : Cond.methodLink RL 41 yX9_start ∈ bw_T := bw_m 1435 (by decide +kernel) rfl
theorem kv_X9_start : bw_KV RX9 yX9_start (Cond.code yX9_start cX9_start 6 (some .boolean)) := ⟨bw_m 1436 (by decide +kernel) rfl, bw_m 1437 (by decide +kernel) rfl, bw_m 107 (by decide +kernel) rfl, bw_m 1438 (by decide +kernel) rfl⟩
theorem dL_law_412 : decode cL_law 412 = .ok (.if_icmp .eq 1071, 3) := by decide +kernel
set_option maxRecDepth 100000 in
set_option maxHeartbeats 4000000 in
theorem lc_4 {p : Program} {l : Launch} {e : Env} {s : State} {m : MethodId} {below : List Frame} {meth : Method} {c : Code} {b : Nat} {xs : Nat → Int32} (C0 : lw_At p s m meth c b 6 xs) {E : (Nat → Prop) → State → Prop} (hO : bw_Ok E) {G : va_G} {cI cB cJ cN cW : ClassId} (hK : va_K G vwCl (bw_kt cI cB cJ cN cW) s) (hE : E (fun q : Nat => s.heap.size ≤ q) s) (x y o : Nat) (q qm : Nat → Nat) (f : Nat → Nat → Int32) {H : Heap} {locs : List Loc} (hP : va_P G vwCl (lc_W cI cB cJ x y o q qm f) H) (hD : va_D (fun q : Nat => s.heap.size ≤ q) (lc_W cI cB cJ x y o q qm f)) (hS : va_S (fun q : Nat => s.heap.size ≤ q) s.heap H locs) {ls : Array Slot} (hl : lv_has ls 7 [(4, .int 0), (3, .ref o), (2, .ref y), (1, .ref x), (0, .ref b)]) : W p l e room_1 s m #[Value.ref b] below meth c H locs 163 8733 (lw_Z below #[Value.ref b] s) (F0 m 356 ls []) := by
  have C1 := C0
  obtain ⟨hx, hb, hr, hml, hown, hts, hX, hbl, hlocks, hgv⟩ := C0
  have hA : ∀ q : Nat, s.heap.size ≤ q → (fun q : Nat => s.heap.size ≤ q) q := fun _ h => h
  have hbA : ¬ (fun q : Nat => s.heap.size ≤ q) b := Nat.not_le.mpr hbl
  have F : CallFix p m c cL_law 7 s #[Value.ref b] bw_T RL := ⟨hx, hb, hml, hown, fun w h => hts w (List.mem_filter.mp h).1⟩
  have hP := bw_subP (isC := [0, 14]) (wc := [(x, .inr (8, [.int 0, .int 0, .ref (q 0), .ref (q 1), .ref (q 2), .ref (q 3), .ref (q 4), .ref (q 5), .ref (q 6), .ref (q 7), .ref (q 8), .ref (q 9), .ref (q 10), .ref (q 11)])), (y, .inr (9, [.int 0, .ref (qm 0), .int 0, .int 0, .int 0, .int 0, .int 0, .int 0, .int 0, .int 0, .int (-1), .int 0, .ref (qm 1), .int 0, .int 0, .ref (qm 2), .ref (qm 3), .ref (qm 4), .ref (qm 5), .ref (qm 6), .ref (qm 7), .ref (qm 8), .ref (qm 9), .ref (qm 10), .ref (qm 11), .ref (qm 12), .ref (qm 13), .ref (qm 14), .ref (qm 15), .ref (qm 16), .int 0, .int 0, .int 0, .int 0, .int 0, .int 0, .ref (qm 17), .ref (qm 18), .ref (qm 19), .ref (qm 20)]))]) hP rfl
  have hD := hD.sub (ws' := [(x, .inr (8, [.int 0, .int 0, .ref (q 0), .ref (q 1), .ref (q 2), .ref (q 3), .ref (q 4), .ref (q 5), .ref (q 6), .ref (q 7), .ref (q 8), .ref (q 9), .ref (q 10), .ref (q 11)])), (y, .inr (9, [.int 0, .ref (qm 0), .int 0, .int 0, .int 0, .int 0, .int 0, .int 0, .int 0, .int 0, .int (-1), .int 0, .ref (qm 1), .int 0, .int 0, .ref (qm 2), .ref (qm 3), .ref (qm 4), .ref (qm 5), .ref (qm 6), .ref (qm 7), .ref (qm 8), .ref (qm 9), .ref (qm 10), .ref (qm 11), .ref (qm 12), .ref (qm 13), .ref (qm 14), .ref (qm 15), .ref (qm 16), .int 0, .int 0, .int 0, .int 0, .int 0, .int 0, .ref (qm 17), .ref (qm 18), .ref (qm 19), .ref (qm 20)]))]) [0, 14] (by decide) rfl
  refine lv_aload_n hx hb dL_law_356 rfl (lv_at hl 3 rfl) ?_
  refine lv_aload_n hx hb dL_law_357 rfl (lv_at hl 4 rfl) ?_
  refine lv_iload hx hb dL_law_358 (lv_at hl 0 rfl) ?_
  refine lv_iconst (v := 1) hx hb dL_law_360 (by decide) ?_
  refine r_iadd (v := 1) F dL_law_361 (by decide) ?_
  refine va_sld hx hb hX hbl hbA hS (bw_vin (by decide)) dL_law_362 ?_
  refine lv_aload_n hx hb dL_law_363 rfl (lv_at hl 4 rfl) ?_
  refine lv_iload hx hb dL_law_364 (lv_at hl 0 rfl) ?_
  refine lv_iconst (v := 2) hx hb dL_law_366 (by decide) ?_
  refine r_iadd (v := 2) F dL_law_367 (by decide) ?_
  refine va_sld hx hb hX hbl hbA hS (bw_vin (by decide)) dL_law_368 ?_
  refine lv_aload_n hx hb dL_law_369 rfl (lv_at hl 4 rfl) ?_
  refine lv_iload hx hb dL_law_370 (lv_at hl 0 rfl) ?_
  refine lv_iconst (v := 3) hx hb dL_law_372 (by decide) ?_
  refine r_iadd (v := 3) F dL_law_373 (by decide) ?_
  refine va_sld hx hb hX hbl hbA hS (bw_vin (by decide)) dL_law_374 ?_
  refine lv_aload_n hx hb dL_law_375 rfl (lv_at hl 4 rfl) ?_
  refine lv_iload hx hb dL_law_376 (lv_at hl 0 rfl) ?_
  refine lv_iconst (v := 4) hx hb dL_law_378 (by decide) ?_
  refine r_iadd (v := 4) F dL_law_379 (by decide) ?_
  refine va_sld hx hb hX hbl hbA hS (bw_vin (by decide)) dL_law_380 ?_
  refine r_callVi (As := [.int (xs (Int32.toNatClampNeg 1)), .int (xs (Int32.toNatClampNeg 2)), .int (xs (Int32.toNatClampNeg 3)), .int (xs (Int32.toNatClampNeg 4))]) (rest := []) (wr := [(y, .inr (9, [.int 0, .ref (qm 0), .int 0, .int 0, .int 0, .int 0, .int 0, .int 0, .int 0, .int 0, .int (-1), .int 0, .ref (qm 1), .int 0, .int 0, .ref (qm 2), .ref (qm 3), .ref (qm 4), .ref (qm 5), .ref (qm 6), .ref (qm 7), .ref (qm 8), .ref (qm 9), .ref (qm 10), .ref (qm 11), .ref (qm 12), .ref (qm 13), .ref (qm 14), .ref (qm 15), .ref (qm 16), .int 0, .int 0, .int 0, .int 0, .int 0, .int 0, .ref (qm 17), .ref (qm 18), .ref (qm 19), .ref (qm 20)]))]) F hK hP hD hS hA hO hE (c_X8_start hO x q (xs (Int32.toNatClampNeg 1)) (xs (Int32.toNatClampNeg 2)) (xs (Int32.toNatClampNeg 3)) (xs (Int32.toNatClampNeg 4))) k_675 kv_X8_start 4 rfl (by decide +kernel) ⟨Nat.le_of_ble_eq_true rfl, Nat.le_of_ble_eq_true rfl⟩ [0] [1] rfl rfl (by decide) (by decide) (by decide) 0 8 rfl rfl rfl hl.1 rfl (Nat.le_of_ble_eq_true rfl) dL_law_381 ⟨Nat.le_of_ble_eq_true rfl, Nat.le_of_ble_eq_true rfl⟩ (w1 := fun u1 => [(y, .inr (9, [.int 0, .ref (qm 0), .int 0, .int 0, .int 0, .int 0, .int 0, .int 0, .int 0, .int 0, .int (-1), .int 0, .ref (qm 1), .int 0, .int 0, .ref (qm 2), .ref (qm 3), .ref (qm 4), .ref (qm 5), .ref (qm 6), .ref (qm 7), .ref (qm 8), .ref (qm 9), .ref (qm 10), .ref (qm 11), .ref (qm 12), .ref (qm 13), .ref (qm 14), .ref (qm 15), .ref (qm 16), .int 0, .int 0, .int 0, .int 0, .int 0, .int 0, .ref (qm 17), .ref (qm 18), .ref (qm 19), .ref (qm 20)]))]) (fun _ => rfl) (fun r2 u1 H locs hp hP hD hS => ?_)
  subst hp
  refine lv_aload_n hx hb dL_law_384 rfl (lv_at hl 2 rfl) ?_
  refine lv_aload_n hx hb dL_law_385 rfl (lv_at hl 4 rfl) ?_
  refine lv_iload hx hb dL_law_386 (lv_at hl 0 rfl) ?_
  refine lv_iconst (v := 1) hx hb dL_law_388 (by decide) ?_
  refine r_iadd (v := 1) F dL_law_389 (by decide) ?_
  refine va_sld hx hb hX hbl hbA hS (bw_vin (by decide)) dL_law_390 ?_
  refine lv_aload_n hx hb dL_law_391 rfl (lv_at hl 4 rfl) ?_
  refine lv_iload hx hb dL_law_392 (lv_at hl 0 rfl) ?_
  refine lv_iconst (v := 2) hx hb dL_law_394 (by decide) ?_
  refine r_iadd (v := 2) F dL_law_395 (by decide) ?_
  refine va_sld hx hb hX hbl hbA hS (bw_vin (by decide)) dL_law_396 ?_
  refine lv_aload_n hx hb dL_law_397 rfl (lv_at hl 4 rfl) ?_
  refine lv_iload hx hb dL_law_398 (lv_at hl 0 rfl) ?_
  refine lv_iconst (v := 3) hx hb dL_law_400 (by decide) ?_
  refine r_iadd (v := 3) F dL_law_401 (by decide) ?_
  refine va_sld hx hb hX hbl hbA hS (bw_vin (by decide)) dL_law_402 ?_
  refine lv_aload_n hx hb dL_law_403 rfl (lv_at hl 4 rfl) ?_
  refine lv_iload hx hb dL_law_404 (lv_at hl 0 rfl) ?_
  refine lv_iconst (v := 4) hx hb dL_law_406 (by decide) ?_
  refine r_iadd (v := 4) F dL_law_407 (by decide) ?_
  refine va_sld hx hb hX hbl hbA hS (bw_vin (by decide)) dL_law_408 ?_
  refine r_callVi (As := [.int (xs (Int32.toNatClampNeg 1)), .int (xs (Int32.toNatClampNeg 2)), .int (xs (Int32.toNatClampNeg 3)), .int (xs (Int32.toNatClampNeg 4))]) (rest := [.int 0]) (wr := []) F hK hP hD hS hA hO hE (c_X9_start hO y qm (xs (Int32.toNatClampNeg 1)) (xs (Int32.toNatClampNeg 2)) (xs (Int32.toNatClampNeg 3)) (xs (Int32.toNatClampNeg 4))) k_1435 kv_X9_start 4 rfl (by decide +kernel) ⟨Nat.le_of_ble_eq_true rfl, Nat.le_of_ble_eq_true rfl⟩ [0] [] rfl rfl (by decide) (by decide) (by decide) 0 9 rfl rfl rfl hl.1 rfl (Nat.le_of_ble_eq_true rfl) dL_law_409 ⟨Nat.le_of_ble_eq_true rfl, Nat.le_of_ble_eq_true rfl⟩ (w1 := fun u3 => []) (fun _ => rfl) (fun r4 u3 H locs hp hP hD hS => ?_)
  subst hp
  refine lv_icmp_eq (tgt := 1483) hx hb dL_law_412 (by decide) (fun _ => ?_) (fun h9 => absurd rfl h9)
  exact lc_end C1 hS (Nat.le_of_ble_eq_true rfl) (Nat.le_of_ble_eq_true rfl) (lv_sub hl [0, 4] rfl)
theorem dL_law_417 : decode cL_law 417 = .ok (.aload_n 1, 1) := by decide +kernel
theorem dL_law_418 : decode cL_law 418 = .ok (.aload_n 0, 1) := by decide +kernel
theorem dL_law_419 : decode cL_law 419 = .ok (.iload 4, 2) := by decide +kernel
theorem dL_law_421 : decode cL_law 421 = .ok (.iconst 1, 1) := by decide +kernel
theorem dL_law_422 : decode cL_law 422 = .ok (.iadd, 1) := by decide +kernel
theorem dL_law_423 : decode cL_law 423 = .ok (.iaload, 1) := by decide +kernel
theorem dL_law_424 : decode cL_law 424 = .ok (.invokevirtual 42, 3) := by decide +kernel
theorem k_690 : Cond.methodLink RL 42 yX8_steps ∈ bw_T := bw_m 690 (by decide +kernel) rfl
theorem kv_X8_steps : bw_KV RX8 yX8_steps (Cond.code yX8_steps cX8_steps 2 (some .int)) := ⟨bw_m 691 (by decide +kernel) rfl, bw_m 692 (by decide +kernel) rfl, bw_m 94 (by decide +kernel) rfl, bw_m 693 (by decide +kernel) rfl⟩
theorem dL_law_427 : decode cL_law 427 = .ok (.aload_n 2, 1) := by decide +kernel
theorem dL_law_428 : decode cL_law 428 = .ok (.aload_n 0, 1) := by decide +kernel
theorem dL_law_429 : decode cL_law 429 = .ok (.iload 4, 2) := by decide +kernel
theorem dL_law_431 : decode cL_law 431 = .ok (.iconst 1, 1) := by decide +kernel
theorem dL_law_432 : decode cL_law 432 = .ok (.iadd, 1) := by decide +kernel
theorem dL_law_433 : decode cL_law 433 = .ok (.iaload, 1) := by decide +kernel
theorem dL_law_434 : decode cL_law 434 = .ok (.invokevirtual 45, 3) := by decide +kernel
theorem k_1450 : Cond.methodLink RL 45 yX9_steps ∈ bw_T := bw_m 1450 (by decide +kernel) rfl
theorem kv_X9_steps : bw_KV RX9 yX9_steps (Cond.code yX9_steps cX9_steps 3 (some .int)) := ⟨bw_m 1451 (by decide +kernel) rfl, bw_m 1452 (by decide +kernel) rfl, bw_m 107 (by decide +kernel) rfl, bw_m 1453 (by decide +kernel) rfl⟩
theorem dL_law_437 : decode cL_law 437 = .ok (.if_icmp .eq 1046, 3) := by decide +kernel
set_option maxRecDepth 100000 in
set_option maxHeartbeats 4000000 in
theorem lc_5 {p : Program} {l : Launch} {e : Env} {s : State} {m : MethodId} {below : List Frame} {meth : Method} {c : Code} {b : Nat} {xs : Nat → Int32} (C0 : lw_At p s m meth c b 6 xs) {E : (Nat → Prop) → State → Prop} (hO : bw_Ok E) {G : va_G} {cI cB cJ cN cW : ClassId} (hK : va_K G vwCl (bw_kt cI cB cJ cN cW) s) (hE : E (fun q : Nat => s.heap.size ≤ q) s) (x y o : Nat) (q qm : Nat → Nat) (f : Nat → Nat → Int32) {H : Heap} {locs : List Loc} (hP : va_P G vwCl (lc_W cI cB cJ x y o q qm f) H) (hD : va_D (fun q : Nat => s.heap.size ≤ q) (lc_W cI cB cJ x y o q qm f)) (hS : va_S (fun q : Nat => s.heap.size ≤ q) s.heap H locs) {ls : Array Slot} (hl : lv_has ls 7 [(4, .int 0), (3, .ref o), (2, .ref y), (1, .ref x), (0, .ref b)]) : W p l e room_1 s m #[Value.ref b] below meth c H locs 163 8733 (lw_Z below #[Value.ref b] s) (F0 m 417 ls []) := by
  have C1 := C0
  obtain ⟨hx, hb, hr, hml, hown, hts, hX, hbl, hlocks, hgv⟩ := C0
  have hA : ∀ q : Nat, s.heap.size ≤ q → (fun q : Nat => s.heap.size ≤ q) q := fun _ h => h
  have hbA : ¬ (fun q : Nat => s.heap.size ≤ q) b := Nat.not_le.mpr hbl
  have F : CallFix p m c cL_law 7 s #[Value.ref b] bw_T RL := ⟨hx, hb, hml, hown, fun w h => hts w (List.mem_filter.mp h).1⟩
  have hP := bw_subP (isC := [0, 14]) (wc := [(x, .inr (8, [.int 0, .int 0, .ref (q 0), .ref (q 1), .ref (q 2), .ref (q 3), .ref (q 4), .ref (q 5), .ref (q 6), .ref (q 7), .ref (q 8), .ref (q 9), .ref (q 10), .ref (q 11)])), (y, .inr (9, [.int 0, .ref (qm 0), .int 0, .int 0, .int 0, .int 0, .int 0, .int 0, .int 0, .int 0, .int (-1), .int 0, .ref (qm 1), .int 0, .int 0, .ref (qm 2), .ref (qm 3), .ref (qm 4), .ref (qm 5), .ref (qm 6), .ref (qm 7), .ref (qm 8), .ref (qm 9), .ref (qm 10), .ref (qm 11), .ref (qm 12), .ref (qm 13), .ref (qm 14), .ref (qm 15), .ref (qm 16), .int 0, .int 0, .int 0, .int 0, .int 0, .int 0, .ref (qm 17), .ref (qm 18), .ref (qm 19), .ref (qm 20)]))]) hP rfl
  have hD := hD.sub (ws' := [(x, .inr (8, [.int 0, .int 0, .ref (q 0), .ref (q 1), .ref (q 2), .ref (q 3), .ref (q 4), .ref (q 5), .ref (q 6), .ref (q 7), .ref (q 8), .ref (q 9), .ref (q 10), .ref (q 11)])), (y, .inr (9, [.int 0, .ref (qm 0), .int 0, .int 0, .int 0, .int 0, .int 0, .int 0, .int 0, .int 0, .int (-1), .int 0, .ref (qm 1), .int 0, .int 0, .ref (qm 2), .ref (qm 3), .ref (qm 4), .ref (qm 5), .ref (qm 6), .ref (qm 7), .ref (qm 8), .ref (qm 9), .ref (qm 10), .ref (qm 11), .ref (qm 12), .ref (qm 13), .ref (qm 14), .ref (qm 15), .ref (qm 16), .int 0, .int 0, .int 0, .int 0, .int 0, .int 0, .ref (qm 17), .ref (qm 18), .ref (qm 19), .ref (qm 20)]))]) [0, 14] (by decide) rfl
  refine lv_aload_n hx hb dL_law_417 rfl (lv_at hl 3 rfl) ?_
  refine lv_aload_n hx hb dL_law_418 rfl (lv_at hl 4 rfl) ?_
  refine lv_iload hx hb dL_law_419 (lv_at hl 0 rfl) ?_
  refine lv_iconst (v := 1) hx hb dL_law_421 (by decide) ?_
  refine r_iadd (v := 1) F dL_law_422 (by decide) ?_
  refine va_sld hx hb hX hbl hbA hS (bw_vin (by decide)) dL_law_423 ?_
  refine r_callVi (As := [.int (xs (Int32.toNatClampNeg 1))]) (rest := []) (wr := [(y, .inr (9, [.int 0, .ref (qm 0), .int 0, .int 0, .int 0, .int 0, .int 0, .int 0, .int 0, .int 0, .int (-1), .int 0, .ref (qm 1), .int 0, .int 0, .ref (qm 2), .ref (qm 3), .ref (qm 4), .ref (qm 5), .ref (qm 6), .ref (qm 7), .ref (qm 8), .ref (qm 9), .ref (qm 10), .ref (qm 11), .ref (qm 12), .ref (qm 13), .ref (qm 14), .ref (qm 15), .ref (qm 16), .int 0, .int 0, .int 0, .int 0, .int 0, .int 0, .ref (qm 17), .ref (qm 18), .ref (qm 19), .ref (qm 20)]))]) F hK hP hD hS hA hO hE (c_X8_steps hO x q (xs (Int32.toNatClampNeg 1))) k_690 kv_X8_steps 1 rfl (by decide +kernel) ⟨Nat.le_of_ble_eq_true rfl, Nat.le_of_ble_eq_true rfl⟩ [0] [1] rfl rfl (by decide) (by decide) (by decide) 0 8 rfl rfl rfl hl.1 rfl (Nat.le_of_ble_eq_true rfl) dL_law_424 ⟨Nat.le_of_ble_eq_true rfl, Nat.le_of_ble_eq_true rfl⟩ (w1 := fun u1 => [(y, .inr (9, [.int 0, .ref (qm 0), .int 0, .int 0, .int 0, .int 0, .int 0, .int 0, .int 0, .int 0, .int (-1), .int 0, .ref (qm 1), .int 0, .int 0, .ref (qm 2), .ref (qm 3), .ref (qm 4), .ref (qm 5), .ref (qm 6), .ref (qm 7), .ref (qm 8), .ref (qm 9), .ref (qm 10), .ref (qm 11), .ref (qm 12), .ref (qm 13), .ref (qm 14), .ref (qm 15), .ref (qm 16), .int 0, .int 0, .int 0, .int 0, .int 0, .int 0, .ref (qm 17), .ref (qm 18), .ref (qm 19), .ref (qm 20)]))]) (fun _ => rfl) (fun r2 u1 H locs hp hP hD hS => ?_)
  subst hp
  refine lv_aload_n hx hb dL_law_427 rfl (lv_at hl 2 rfl) ?_
  refine lv_aload_n hx hb dL_law_428 rfl (lv_at hl 4 rfl) ?_
  refine lv_iload hx hb dL_law_429 (lv_at hl 0 rfl) ?_
  refine lv_iconst (v := 1) hx hb dL_law_431 (by decide) ?_
  refine r_iadd (v := 1) F dL_law_432 (by decide) ?_
  refine va_sld hx hb hX hbl hbA hS (bw_vin (by decide)) dL_law_433 ?_
  refine r_callVi (As := [.int (xs (Int32.toNatClampNeg 1))]) (rest := [.int (-1)]) (wr := []) F hK hP hD hS hA hO hE (c_X9_steps hO y qm (xs (Int32.toNatClampNeg 1))) k_1450 kv_X9_steps 1 rfl (by decide +kernel) ⟨Nat.le_of_ble_eq_true rfl, Nat.le_of_ble_eq_true rfl⟩ [0] [] rfl rfl (by decide) (by decide) (by decide) 0 9 rfl rfl rfl hl.1 rfl (Nat.le_of_ble_eq_true rfl) dL_law_434 ⟨Nat.le_of_ble_eq_true rfl, Nat.le_of_ble_eq_true rfl⟩ (w1 := fun u3 => []) (fun _ => rfl) (fun r4 u3 H locs hp hP hD hS => ?_)
  subst hp
  refine lv_icmp_eq (tgt := 1483) hx hb dL_law_437 (by decide) (fun _ => ?_) (fun h9 => absurd rfl h9)
  exact lc_end C1 hS (Nat.le_of_ble_eq_true rfl) (Nat.le_of_ble_eq_true rfl) (lv_sub hl [0, 4] rfl)
theorem dL_law_442 : decode cL_law 442 = .ok (.aload_n 1, 1) := by decide +kernel
theorem dL_law_443 : decode cL_law 443 = .ok (.invokevirtual 46, 3) := by decide +kernel
theorem k_710 : Cond.methodLink RL 46 yX8_run ∈ bw_T := bw_m 710 (by decide +kernel) rfl
theorem kv_X8_run : bw_KV RX8 yX8_run (Cond.code yX8_run cX8_run 1 (some .int)) := ⟨bw_m 711 (by decide +kernel) rfl, bw_m 712 (by decide +kernel) rfl, bw_m 94 (by decide +kernel) rfl, bw_m 713 (by decide +kernel) rfl⟩
theorem dL_law_446 : decode cL_law 446 = .ok (.aload_n 2, 1) := by decide +kernel
theorem dL_law_447 : decode cL_law 447 = .ok (.invokevirtual 49, 3) := by decide +kernel
theorem k_1466 : Cond.methodLink RL 49 yX9_run ∈ bw_T := bw_m 1466 (by decide +kernel) rfl
theorem kv_X9_run : bw_KV RX9 yX9_run (Cond.code yX9_run cX9_run 2 (some .int)) := ⟨bw_m 1467 (by decide +kernel) rfl, bw_m 1468 (by decide +kernel) rfl, bw_m 107 (by decide +kernel) rfl, bw_m 1469 (by decide +kernel) rfl⟩
theorem dL_law_450 : decode cL_law 450 = .ok (.if_icmp .eq 1033, 3) := by decide +kernel
set_option maxRecDepth 100000 in
set_option maxHeartbeats 4000000 in
theorem lc_6 {p : Program} {l : Launch} {e : Env} {s : State} {m : MethodId} {below : List Frame} {meth : Method} {c : Code} {b : Nat} {xs : Nat → Int32} (C0 : lw_At p s m meth c b 6 xs) {E : (Nat → Prop) → State → Prop} (hO : bw_Ok E) {G : va_G} {cI cB cJ cN cW : ClassId} (hK : va_K G vwCl (bw_kt cI cB cJ cN cW) s) (hE : E (fun q : Nat => s.heap.size ≤ q) s) (x y o : Nat) (q qm : Nat → Nat) (f : Nat → Nat → Int32) {H : Heap} {locs : List Loc} (hP : va_P G vwCl (lc_W cI cB cJ x y o q qm f) H) (hD : va_D (fun q : Nat => s.heap.size ≤ q) (lc_W cI cB cJ x y o q qm f)) (hS : va_S (fun q : Nat => s.heap.size ≤ q) s.heap H locs) {ls : Array Slot} (hl : lv_has ls 7 [(4, .int 0), (3, .ref o), (2, .ref y), (1, .ref x), (0, .ref b)]) : W p l e room_1 s m #[Value.ref b] below meth c H locs 163 8733 (lw_Z below #[Value.ref b] s) (F0 m 442 ls []) := by
  have C1 := C0
  obtain ⟨hx, hb, hr, hml, hown, hts, hX, hbl, hlocks, hgv⟩ := C0
  have hA : ∀ q : Nat, s.heap.size ≤ q → (fun q : Nat => s.heap.size ≤ q) q := fun _ h => h
  have hbA : ¬ (fun q : Nat => s.heap.size ≤ q) b := Nat.not_le.mpr hbl
  have F : CallFix p m c cL_law 7 s #[Value.ref b] bw_T RL := ⟨hx, hb, hml, hown, fun w h => hts w (List.mem_filter.mp h).1⟩
  have hP := bw_subP (isC := [0, 14]) (wc := [(x, .inr (8, [.int 0, .int 0, .ref (q 0), .ref (q 1), .ref (q 2), .ref (q 3), .ref (q 4), .ref (q 5), .ref (q 6), .ref (q 7), .ref (q 8), .ref (q 9), .ref (q 10), .ref (q 11)])), (y, .inr (9, [.int 0, .ref (qm 0), .int 0, .int 0, .int 0, .int 0, .int 0, .int 0, .int 0, .int 0, .int (-1), .int 0, .ref (qm 1), .int 0, .int 0, .ref (qm 2), .ref (qm 3), .ref (qm 4), .ref (qm 5), .ref (qm 6), .ref (qm 7), .ref (qm 8), .ref (qm 9), .ref (qm 10), .ref (qm 11), .ref (qm 12), .ref (qm 13), .ref (qm 14), .ref (qm 15), .ref (qm 16), .int 0, .int 0, .int 0, .int 0, .int 0, .int 0, .ref (qm 17), .ref (qm 18), .ref (qm 19), .ref (qm 20)]))]) hP rfl
  have hD := hD.sub (ws' := [(x, .inr (8, [.int 0, .int 0, .ref (q 0), .ref (q 1), .ref (q 2), .ref (q 3), .ref (q 4), .ref (q 5), .ref (q 6), .ref (q 7), .ref (q 8), .ref (q 9), .ref (q 10), .ref (q 11)])), (y, .inr (9, [.int 0, .ref (qm 0), .int 0, .int 0, .int 0, .int 0, .int 0, .int 0, .int 0, .int 0, .int (-1), .int 0, .ref (qm 1), .int 0, .int 0, .ref (qm 2), .ref (qm 3), .ref (qm 4), .ref (qm 5), .ref (qm 6), .ref (qm 7), .ref (qm 8), .ref (qm 9), .ref (qm 10), .ref (qm 11), .ref (qm 12), .ref (qm 13), .ref (qm 14), .ref (qm 15), .ref (qm 16), .int 0, .int 0, .int 0, .int 0, .int 0, .int 0, .ref (qm 17), .ref (qm 18), .ref (qm 19), .ref (qm 20)]))]) [0, 14] (by decide) rfl
  refine lv_aload_n hx hb dL_law_442 rfl (lv_at hl 3 rfl) ?_
  refine r_callVi (As := []) (rest := []) (wr := [(y, .inr (9, [.int 0, .ref (qm 0), .int 0, .int 0, .int 0, .int 0, .int 0, .int 0, .int 0, .int 0, .int (-1), .int 0, .ref (qm 1), .int 0, .int 0, .ref (qm 2), .ref (qm 3), .ref (qm 4), .ref (qm 5), .ref (qm 6), .ref (qm 7), .ref (qm 8), .ref (qm 9), .ref (qm 10), .ref (qm 11), .ref (qm 12), .ref (qm 13), .ref (qm 14), .ref (qm 15), .ref (qm 16), .int 0, .int 0, .int 0, .int 0, .int 0, .int 0, .ref (qm 17), .ref (qm 18), .ref (qm 19), .ref (qm 20)]))]) F hK hP hD hS hA hO hE (c_X8_run hO x q) k_710 kv_X8_run 0 rfl (by decide +kernel) ⟨Nat.le_of_ble_eq_true rfl, Nat.le_of_ble_eq_true rfl⟩ [0] [1] rfl rfl (by decide) (by decide) (by decide) 0 8 rfl rfl rfl hl.1 rfl (Nat.le_of_ble_eq_true rfl) dL_law_443 ⟨Nat.le_of_ble_eq_true rfl, Nat.le_of_ble_eq_true rfl⟩ (w1 := fun u1 => [(y, .inr (9, [.int 0, .ref (qm 0), .int 0, .int 0, .int 0, .int 0, .int 0, .int 0, .int 0, .int 0, .int (-1), .int 0, .ref (qm 1), .int 0, .int 0, .ref (qm 2), .ref (qm 3), .ref (qm 4), .ref (qm 5), .ref (qm 6), .ref (qm 7), .ref (qm 8), .ref (qm 9), .ref (qm 10), .ref (qm 11), .ref (qm 12), .ref (qm 13), .ref (qm 14), .ref (qm 15), .ref (qm 16), .int 0, .int 0, .int 0, .int 0, .int 0, .int 0, .ref (qm 17), .ref (qm 18), .ref (qm 19), .ref (qm 20)]))]) (fun _ => rfl) (fun r2 u1 H locs hp hP hD hS => ?_)
  subst hp
  refine lv_aload_n hx hb dL_law_446 rfl (lv_at hl 2 rfl) ?_
  refine r_callVi (As := []) (rest := [.int (-1)]) (wr := []) F hK hP hD hS hA hO hE (c_X9_run hO y qm) k_1466 kv_X9_run 0 rfl (by decide +kernel) ⟨Nat.le_of_ble_eq_true rfl, Nat.le_of_ble_eq_true rfl⟩ [0] [] rfl rfl (by decide) (by decide) (by decide) 0 9 rfl rfl rfl hl.1 rfl (Nat.le_of_ble_eq_true rfl) dL_law_447 ⟨Nat.le_of_ble_eq_true rfl, Nat.le_of_ble_eq_true rfl⟩ (w1 := fun u3 => []) (fun _ => rfl) (fun r4 u3 H locs hp hP hD hS => ?_)
  subst hp
  refine lv_icmp_eq (tgt := 1483) hx hb dL_law_450 (by decide) (fun _ => ?_) (fun h9 => absurd rfl h9)
  exact lc_end C1 hS (Nat.le_of_ble_eq_true rfl) (Nat.le_of_ble_eq_true rfl) (lv_sub hl [0, 4] rfl)
theorem dL_law_455 : decode cL_law 455 = .ok (.aload_n 1, 1) := by decide +kernel
theorem dL_law_456 : decode cL_law 456 = .ok (.aload_n 0, 1) := by decide +kernel
theorem dL_law_457 : decode cL_law 457 = .ok (.iload 4, 2) := by decide +kernel
theorem dL_law_459 : decode cL_law 459 = .ok (.iconst 1, 1) := by decide +kernel
theorem dL_law_460 : decode cL_law 460 = .ok (.iadd, 1) := by decide +kernel
theorem dL_law_461 : decode cL_law 461 = .ok (.iaload, 1) := by decide +kernel
theorem dL_law_462 : decode cL_law 462 = .ok (.invokevirtual 50, 3) := by decide +kernel
theorem k_714 : Cond.methodLink RL 50 yX8_now ∈ bw_T := bw_m 714 (by decide +kernel) rfl
theorem kv_X8_now : bw_KV RX8 yX8_now (Cond.code yX8_now cX8_now 2 (some .int)) := ⟨bw_m 715 (by decide +kernel) rfl, bw_m 716 (by decide +kernel) rfl, bw_m 94 (by decide +kernel) rfl, bw_m 717 (by decide +kernel) rfl⟩
theorem dL_law_465 : decode cL_law 465 = .ok (.aload_n 2, 1) := by decide +kernel
theorem dL_law_466 : decode cL_law 466 = .ok (.aload_n 0, 1) := by decide +kernel
theorem dL_law_467 : decode cL_law 467 = .ok (.iload 4, 2) := by decide +kernel
theorem dL_law_469 : decode cL_law 469 = .ok (.iconst 1, 1) := by decide +kernel
theorem dL_law_470 : decode cL_law 470 = .ok (.iadd, 1) := by decide +kernel
theorem dL_law_471 : decode cL_law 471 = .ok (.iaload, 1) := by decide +kernel
theorem dL_law_472 : decode cL_law 472 = .ok (.invokevirtual 53, 3) := by decide +kernel
theorem k_1473 : Cond.methodLink RL 53 yX9_now ∈ bw_T := bw_m 1473 (by decide +kernel) rfl
theorem kv_X9_now : bw_KV RX9 yX9_now (Cond.code yX9_now cX9_now 2 (some .int)) := ⟨bw_m 1474 (by decide +kernel) rfl, bw_m 1475 (by decide +kernel) rfl, bw_m 107 (by decide +kernel) rfl, bw_m 1476 (by decide +kernel) rfl⟩
theorem dL_law_475 : decode cL_law 475 = .ok (.if_icmp .eq 1008, 3) := by decide +kernel
set_option maxRecDepth 100000 in
set_option maxHeartbeats 4000000 in
theorem lc_7 {p : Program} {l : Launch} {e : Env} {s : State} {m : MethodId} {below : List Frame} {meth : Method} {c : Code} {b : Nat} {xs : Nat → Int32} (C0 : lw_At p s m meth c b 6 xs) {E : (Nat → Prop) → State → Prop} (hO : bw_Ok E) {G : va_G} {cI cB cJ cN cW : ClassId} (hK : va_K G vwCl (bw_kt cI cB cJ cN cW) s) (hE : E (fun q : Nat => s.heap.size ≤ q) s) (x y o : Nat) (q qm : Nat → Nat) (f : Nat → Nat → Int32) {H : Heap} {locs : List Loc} (hP : va_P G vwCl (lc_W cI cB cJ x y o q qm f) H) (hD : va_D (fun q : Nat => s.heap.size ≤ q) (lc_W cI cB cJ x y o q qm f)) (hS : va_S (fun q : Nat => s.heap.size ≤ q) s.heap H locs) {ls : Array Slot} (hl : lv_has ls 7 [(4, .int 0), (3, .ref o), (2, .ref y), (1, .ref x), (0, .ref b)]) : W p l e room_1 s m #[Value.ref b] below meth c H locs 163 8733 (lw_Z below #[Value.ref b] s) (F0 m 455 ls []) := by
  have C1 := C0
  obtain ⟨hx, hb, hr, hml, hown, hts, hX, hbl, hlocks, hgv⟩ := C0
  have hA : ∀ q : Nat, s.heap.size ≤ q → (fun q : Nat => s.heap.size ≤ q) q := fun _ h => h
  have hbA : ¬ (fun q : Nat => s.heap.size ≤ q) b := Nat.not_le.mpr hbl
  have F : CallFix p m c cL_law 7 s #[Value.ref b] bw_T RL := ⟨hx, hb, hml, hown, fun w h => hts w (List.mem_filter.mp h).1⟩
  have hP := bw_subP (isC := [0, 14]) (wc := [(x, .inr (8, [.int 0, .int 0, .ref (q 0), .ref (q 1), .ref (q 2), .ref (q 3), .ref (q 4), .ref (q 5), .ref (q 6), .ref (q 7), .ref (q 8), .ref (q 9), .ref (q 10), .ref (q 11)])), (y, .inr (9, [.int 0, .ref (qm 0), .int 0, .int 0, .int 0, .int 0, .int 0, .int 0, .int 0, .int 0, .int (-1), .int 0, .ref (qm 1), .int 0, .int 0, .ref (qm 2), .ref (qm 3), .ref (qm 4), .ref (qm 5), .ref (qm 6), .ref (qm 7), .ref (qm 8), .ref (qm 9), .ref (qm 10), .ref (qm 11), .ref (qm 12), .ref (qm 13), .ref (qm 14), .ref (qm 15), .ref (qm 16), .int 0, .int 0, .int 0, .int 0, .int 0, .int 0, .ref (qm 17), .ref (qm 18), .ref (qm 19), .ref (qm 20)]))]) hP rfl
  have hD := hD.sub (ws' := [(x, .inr (8, [.int 0, .int 0, .ref (q 0), .ref (q 1), .ref (q 2), .ref (q 3), .ref (q 4), .ref (q 5), .ref (q 6), .ref (q 7), .ref (q 8), .ref (q 9), .ref (q 10), .ref (q 11)])), (y, .inr (9, [.int 0, .ref (qm 0), .int 0, .int 0, .int 0, .int 0, .int 0, .int 0, .int 0, .int 0, .int (-1), .int 0, .ref (qm 1), .int 0, .int 0, .ref (qm 2), .ref (qm 3), .ref (qm 4), .ref (qm 5), .ref (qm 6), .ref (qm 7), .ref (qm 8), .ref (qm 9), .ref (qm 10), .ref (qm 11), .ref (qm 12), .ref (qm 13), .ref (qm 14), .ref (qm 15), .ref (qm 16), .int 0, .int 0, .int 0, .int 0, .int 0, .int 0, .ref (qm 17), .ref (qm 18), .ref (qm 19), .ref (qm 20)]))]) [0, 14] (by decide) rfl
  refine lv_aload_n hx hb dL_law_455 rfl (lv_at hl 3 rfl) ?_
  refine lv_aload_n hx hb dL_law_456 rfl (lv_at hl 4 rfl) ?_
  refine lv_iload hx hb dL_law_457 (lv_at hl 0 rfl) ?_
  refine lv_iconst (v := 1) hx hb dL_law_459 (by decide) ?_
  refine r_iadd (v := 1) F dL_law_460 (by decide) ?_
  refine va_sld hx hb hX hbl hbA hS (bw_vin (by decide)) dL_law_461 ?_
  refine r_callVi (As := [.int (xs (Int32.toNatClampNeg 1))]) (rest := []) (wr := [(y, .inr (9, [.int 0, .ref (qm 0), .int 0, .int 0, .int 0, .int 0, .int 0, .int 0, .int 0, .int 0, .int (-1), .int 0, .ref (qm 1), .int 0, .int 0, .ref (qm 2), .ref (qm 3), .ref (qm 4), .ref (qm 5), .ref (qm 6), .ref (qm 7), .ref (qm 8), .ref (qm 9), .ref (qm 10), .ref (qm 11), .ref (qm 12), .ref (qm 13), .ref (qm 14), .ref (qm 15), .ref (qm 16), .int 0, .int 0, .int 0, .int 0, .int 0, .int 0, .ref (qm 17), .ref (qm 18), .ref (qm 19), .ref (qm 20)]))]) F hK hP hD hS hA hO hE (c_X8_now hO x q (xs (Int32.toNatClampNeg 1))) k_714 kv_X8_now 1 rfl (by decide +kernel) ⟨Nat.le_of_ble_eq_true rfl, Nat.le_of_ble_eq_true rfl⟩ [0] [1] rfl rfl (by decide) (by decide) (by decide) 0 8 rfl rfl rfl hl.1 rfl (Nat.le_of_ble_eq_true rfl) dL_law_462 ⟨Nat.le_of_ble_eq_true rfl, Nat.le_of_ble_eq_true rfl⟩ (w1 := fun u1 => [(y, .inr (9, [.int 0, .ref (qm 0), .int 0, .int 0, .int 0, .int 0, .int 0, .int 0, .int 0, .int 0, .int (-1), .int 0, .ref (qm 1), .int 0, .int 0, .ref (qm 2), .ref (qm 3), .ref (qm 4), .ref (qm 5), .ref (qm 6), .ref (qm 7), .ref (qm 8), .ref (qm 9), .ref (qm 10), .ref (qm 11), .ref (qm 12), .ref (qm 13), .ref (qm 14), .ref (qm 15), .ref (qm 16), .int 0, .int 0, .int 0, .int 0, .int 0, .int 0, .ref (qm 17), .ref (qm 18), .ref (qm 19), .ref (qm 20)]))]) (fun _ => rfl) (fun r2 u1 H locs hp hP hD hS => ?_)
  subst hp
  refine lv_aload_n hx hb dL_law_465 rfl (lv_at hl 2 rfl) ?_
  refine lv_aload_n hx hb dL_law_466 rfl (lv_at hl 4 rfl) ?_
  refine lv_iload hx hb dL_law_467 (lv_at hl 0 rfl) ?_
  refine lv_iconst (v := 1) hx hb dL_law_469 (by decide) ?_
  refine r_iadd (v := 1) F dL_law_470 (by decide) ?_
  refine va_sld hx hb hX hbl hbA hS (bw_vin (by decide)) dL_law_471 ?_
  refine r_callVi (As := [.int (xs (Int32.toNatClampNeg 1))]) (rest := [.int (-1)]) (wr := []) F hK hP hD hS hA hO hE (c_X9_now hO y qm (xs (Int32.toNatClampNeg 1))) k_1473 kv_X9_now 1 rfl (by decide +kernel) ⟨Nat.le_of_ble_eq_true rfl, Nat.le_of_ble_eq_true rfl⟩ [0] [] rfl rfl (by decide) (by decide) (by decide) 0 9 rfl rfl rfl hl.1 rfl (Nat.le_of_ble_eq_true rfl) dL_law_472 ⟨Nat.le_of_ble_eq_true rfl, Nat.le_of_ble_eq_true rfl⟩ (w1 := fun u3 => []) (fun _ => rfl) (fun r4 u3 H locs hp hP hD hS => ?_)
  subst hp
  refine lv_icmp_eq (tgt := 1483) hx hb dL_law_475 (by decide) (fun _ => ?_) (fun h9 => absurd rfl h9)
  exact lc_end C1 hS (Nat.le_of_ble_eq_true rfl) (Nat.le_of_ble_eq_true rfl) (lv_sub hl [0, 4] rfl)
theorem dL_law_480 : decode cL_law 480 = .ok (.aload_n 1, 1) := by decide +kernel
theorem dL_law_481 : decode cL_law 481 = .ok (.aload_n 0, 1) := by decide +kernel
theorem dL_law_482 : decode cL_law 482 = .ok (.iload 4, 2) := by decide +kernel
theorem dL_law_484 : decode cL_law 484 = .ok (.iconst 1, 1) := by decide +kernel
theorem dL_law_485 : decode cL_law 485 = .ok (.iadd, 1) := by decide +kernel
theorem dL_law_486 : decode cL_law 486 = .ok (.iaload, 1) := by decide +kernel
theorem dL_law_487 : decode cL_law 487 = .ok (.invokevirtual 54, 3) := by decide +kernel
theorem k_718 : Cond.methodLink RL 54 yX8_counter ∈ bw_T := bw_m 718 (by decide +kernel) rfl
theorem kv_X8_counter : bw_KV RX8 yX8_counter (Cond.code yX8_counter cX8_counter 2 (some .int)) := ⟨bw_m 719 (by decide +kernel) rfl, bw_m 720 (by decide +kernel) rfl, bw_m 94 (by decide +kernel) rfl, bw_m 721 (by decide +kernel) rfl⟩
theorem dL_law_490 : decode cL_law 490 = .ok (.aload_n 2, 1) := by decide +kernel
theorem dL_law_491 : decode cL_law 491 = .ok (.aload_n 0, 1) := by decide +kernel
theorem dL_law_492 : decode cL_law 492 = .ok (.iload 4, 2) := by decide +kernel
theorem dL_law_494 : decode cL_law 494 = .ok (.iconst 1, 1) := by decide +kernel
theorem dL_law_495 : decode cL_law 495 = .ok (.iadd, 1) := by decide +kernel
theorem dL_law_496 : decode cL_law 496 = .ok (.iaload, 1) := by decide +kernel
theorem dL_law_497 : decode cL_law 497 = .ok (.invokevirtual 57, 3) := by decide +kernel
theorem k_1477 : Cond.methodLink RL 57 yX9_counter ∈ bw_T := bw_m 1477 (by decide +kernel) rfl
theorem kv_X9_counter : bw_KV RX9 yX9_counter (Cond.code yX9_counter cX9_counter 2 (some .int)) := ⟨bw_m 1478 (by decide +kernel) rfl, bw_m 1479 (by decide +kernel) rfl, bw_m 107 (by decide +kernel) rfl, bw_m 1480 (by decide +kernel) rfl⟩
theorem dL_law_500 : decode cL_law 500 = .ok (.if_icmp .eq 983, 3) := by decide +kernel
set_option maxRecDepth 100000 in
set_option maxHeartbeats 4000000 in
theorem lc_8 {p : Program} {l : Launch} {e : Env} {s : State} {m : MethodId} {below : List Frame} {meth : Method} {c : Code} {b : Nat} {xs : Nat → Int32} (C0 : lw_At p s m meth c b 6 xs) {E : (Nat → Prop) → State → Prop} (hO : bw_Ok E) {G : va_G} {cI cB cJ cN cW : ClassId} (hK : va_K G vwCl (bw_kt cI cB cJ cN cW) s) (hE : E (fun q : Nat => s.heap.size ≤ q) s) (x y o : Nat) (q qm : Nat → Nat) (f : Nat → Nat → Int32) {H : Heap} {locs : List Loc} (hP : va_P G vwCl (lc_W cI cB cJ x y o q qm f) H) (hD : va_D (fun q : Nat => s.heap.size ≤ q) (lc_W cI cB cJ x y o q qm f)) (hS : va_S (fun q : Nat => s.heap.size ≤ q) s.heap H locs) {ls : Array Slot} (hl : lv_has ls 7 [(4, .int 0), (3, .ref o), (2, .ref y), (1, .ref x), (0, .ref b)]) : W p l e room_1 s m #[Value.ref b] below meth c H locs 163 8733 (lw_Z below #[Value.ref b] s) (F0 m 480 ls []) := by
  have C1 := C0
  obtain ⟨hx, hb, hr, hml, hown, hts, hX, hbl, hlocks, hgv⟩ := C0
  have hA : ∀ q : Nat, s.heap.size ≤ q → (fun q : Nat => s.heap.size ≤ q) q := fun _ h => h
  have hbA : ¬ (fun q : Nat => s.heap.size ≤ q) b := Nat.not_le.mpr hbl
  have F : CallFix p m c cL_law 7 s #[Value.ref b] bw_T RL := ⟨hx, hb, hml, hown, fun w h => hts w (List.mem_filter.mp h).1⟩
  have hP := bw_subP (isC := [0, 14]) (wc := [(x, .inr (8, [.int 0, .int 0, .ref (q 0), .ref (q 1), .ref (q 2), .ref (q 3), .ref (q 4), .ref (q 5), .ref (q 6), .ref (q 7), .ref (q 8), .ref (q 9), .ref (q 10), .ref (q 11)])), (y, .inr (9, [.int 0, .ref (qm 0), .int 0, .int 0, .int 0, .int 0, .int 0, .int 0, .int 0, .int 0, .int (-1), .int 0, .ref (qm 1), .int 0, .int 0, .ref (qm 2), .ref (qm 3), .ref (qm 4), .ref (qm 5), .ref (qm 6), .ref (qm 7), .ref (qm 8), .ref (qm 9), .ref (qm 10), .ref (qm 11), .ref (qm 12), .ref (qm 13), .ref (qm 14), .ref (qm 15), .ref (qm 16), .int 0, .int 0, .int 0, .int 0, .int 0, .int 0, .ref (qm 17), .ref (qm 18), .ref (qm 19), .ref (qm 20)]))]) hP rfl
  have hD := hD.sub (ws' := [(x, .inr (8, [.int 0, .int 0, .ref (q 0), .ref (q 1), .ref (q 2), .ref (q 3), .ref (q 4), .ref (q 5), .ref (q 6), .ref (q 7), .ref (q 8), .ref (q 9), .ref (q 10), .ref (q 11)])), (y, .inr (9, [.int 0, .ref (qm 0), .int 0, .int 0, .int 0, .int 0, .int 0, .int 0, .int 0, .int 0, .int (-1), .int 0, .ref (qm 1), .int 0, .int 0, .ref (qm 2), .ref (qm 3), .ref (qm 4), .ref (qm 5), .ref (qm 6), .ref (qm 7), .ref (qm 8), .ref (qm 9), .ref (qm 10), .ref (qm 11), .ref (qm 12), .ref (qm 13), .ref (qm 14), .ref (qm 15), .ref (qm 16), .int 0, .int 0, .int 0, .int 0, .int 0, .int 0, .ref (qm 17), .ref (qm 18), .ref (qm 19), .ref (qm 20)]))]) [0, 14] (by decide) rfl
  refine lv_aload_n hx hb dL_law_480 rfl (lv_at hl 3 rfl) ?_
  refine lv_aload_n hx hb dL_law_481 rfl (lv_at hl 4 rfl) ?_
  refine lv_iload hx hb dL_law_482 (lv_at hl 0 rfl) ?_
  refine lv_iconst (v := 1) hx hb dL_law_484 (by decide) ?_
  refine r_iadd (v := 1) F dL_law_485 (by decide) ?_
  refine va_sld hx hb hX hbl hbA hS (bw_vin (by decide)) dL_law_486 ?_
  refine r_callVi (As := [.int (xs (Int32.toNatClampNeg 1))]) (rest := []) (wr := [(y, .inr (9, [.int 0, .ref (qm 0), .int 0, .int 0, .int 0, .int 0, .int 0, .int 0, .int 0, .int 0, .int (-1), .int 0, .ref (qm 1), .int 0, .int 0, .ref (qm 2), .ref (qm 3), .ref (qm 4), .ref (qm 5), .ref (qm 6), .ref (qm 7), .ref (qm 8), .ref (qm 9), .ref (qm 10), .ref (qm 11), .ref (qm 12), .ref (qm 13), .ref (qm 14), .ref (qm 15), .ref (qm 16), .int 0, .int 0, .int 0, .int 0, .int 0, .int 0, .ref (qm 17), .ref (qm 18), .ref (qm 19), .ref (qm 20)]))]) F hK hP hD hS hA hO hE (c_X8_counter hO x q (xs (Int32.toNatClampNeg 1))) k_718 kv_X8_counter 1 rfl (by decide +kernel) ⟨Nat.le_of_ble_eq_true rfl, Nat.le_of_ble_eq_true rfl⟩ [0] [1] rfl rfl (by decide) (by decide) (by decide) 0 8 rfl rfl rfl hl.1 rfl (Nat.le_of_ble_eq_true rfl) dL_law_487 ⟨Nat.le_of_ble_eq_true rfl, Nat.le_of_ble_eq_true rfl⟩ (w1 := fun u1 => [(y, .inr (9, [.int 0, .ref (qm 0), .int 0, .int 0, .int 0, .int 0, .int 0, .int 0, .int 0, .int 0, .int (-1), .int 0, .ref (qm 1), .int 0, .int 0, .ref (qm 2), .ref (qm 3), .ref (qm 4), .ref (qm 5), .ref (qm 6), .ref (qm 7), .ref (qm 8), .ref (qm 9), .ref (qm 10), .ref (qm 11), .ref (qm 12), .ref (qm 13), .ref (qm 14), .ref (qm 15), .ref (qm 16), .int 0, .int 0, .int 0, .int 0, .int 0, .int 0, .ref (qm 17), .ref (qm 18), .ref (qm 19), .ref (qm 20)]))]) (fun _ => rfl) (fun r2 u1 H locs hp hP hD hS => ?_)
  subst hp
  refine lv_aload_n hx hb dL_law_490 rfl (lv_at hl 2 rfl) ?_
  refine lv_aload_n hx hb dL_law_491 rfl (lv_at hl 4 rfl) ?_
  refine lv_iload hx hb dL_law_492 (lv_at hl 0 rfl) ?_
  refine lv_iconst (v := 1) hx hb dL_law_494 (by decide) ?_
  refine r_iadd (v := 1) F dL_law_495 (by decide) ?_
  refine va_sld hx hb hX hbl hbA hS (bw_vin (by decide)) dL_law_496 ?_
  refine r_callVi (As := [.int (xs (Int32.toNatClampNeg 1))]) (rest := [.int (-1)]) (wr := []) F hK hP hD hS hA hO hE (c_X9_counter hO y qm (xs (Int32.toNatClampNeg 1))) k_1477 kv_X9_counter 1 rfl (by decide +kernel) ⟨Nat.le_of_ble_eq_true rfl, Nat.le_of_ble_eq_true rfl⟩ [0] [] rfl rfl (by decide) (by decide) (by decide) 0 9 rfl rfl rfl hl.1 rfl (Nat.le_of_ble_eq_true rfl) dL_law_497 ⟨Nat.le_of_ble_eq_true rfl, Nat.le_of_ble_eq_true rfl⟩ (w1 := fun u3 => []) (fun _ => rfl) (fun r4 u3 H locs hp hP hD hS => ?_)
  subst hp
  refine lv_icmp_eq (tgt := 1483) hx hb dL_law_500 (by decide) (fun _ => ?_) (fun h9 => absurd rfl h9)
  exact lc_end C1 hS (Nat.le_of_ble_eq_true rfl) (Nat.le_of_ble_eq_true rfl) (lv_sub hl [0, 4] rfl)
theorem dL_law_505 : decode cL_law 505 = .ok (.aload_n 1, 1) := by decide +kernel
theorem dL_law_506 : decode cL_law 506 = .ok (.aload_n 0, 1) := by decide +kernel
theorem dL_law_507 : decode cL_law 507 = .ok (.iload 4, 2) := by decide +kernel
theorem dL_law_509 : decode cL_law 509 = .ok (.iconst 1, 1) := by decide +kernel
theorem dL_law_510 : decode cL_law 510 = .ok (.iadd, 1) := by decide +kernel
theorem dL_law_511 : decode cL_law 511 = .ok (.iaload, 1) := by decide +kernel
theorem dL_law_512 : decode cL_law 512 = .ok (.invokevirtual 58, 3) := by decide +kernel
theorem k_722 : Cond.methodLink RL 58 yX8_left ∈ bw_T := bw_m 722 (by decide +kernel) rfl
theorem kv_X8_left : bw_KV RX8 yX8_left (Cond.code yX8_left cX8_left 2 (some .int)) := ⟨bw_m 723 (by decide +kernel) rfl, bw_m 724 (by decide +kernel) rfl, bw_m 94 (by decide +kernel) rfl, bw_m 725 (by decide +kernel) rfl⟩
theorem dL_law_515 : decode cL_law 515 = .ok (.aload_n 2, 1) := by decide +kernel
theorem dL_law_516 : decode cL_law 516 = .ok (.aload_n 0, 1) := by decide +kernel
theorem dL_law_517 : decode cL_law 517 = .ok (.iload 4, 2) := by decide +kernel
theorem dL_law_519 : decode cL_law 519 = .ok (.iconst 1, 1) := by decide +kernel
theorem dL_law_520 : decode cL_law 520 = .ok (.iadd, 1) := by decide +kernel
theorem dL_law_521 : decode cL_law 521 = .ok (.iaload, 1) := by decide +kernel
theorem dL_law_522 : decode cL_law 522 = .ok (.invokevirtual 61, 3) := by decide +kernel
theorem k_1481 : Cond.methodLink RL 61 yX9_left ∈ bw_T := bw_m 1481 (by decide +kernel) rfl
theorem kv_X9_left : bw_KV RX9 yX9_left (Cond.code yX9_left cX9_left 2 (some .int)) := ⟨bw_m 1482 (by decide +kernel) rfl, bw_m 1483 (by decide +kernel) rfl, bw_m 107 (by decide +kernel) rfl, bw_m 1484 (by decide +kernel) rfl⟩
theorem dL_law_525 : decode cL_law 525 = .ok (.if_icmp .eq 958, 3) := by decide +kernel
set_option maxRecDepth 100000 in
set_option maxHeartbeats 4000000 in
theorem lc_9 {p : Program} {l : Launch} {e : Env} {s : State} {m : MethodId} {below : List Frame} {meth : Method} {c : Code} {b : Nat} {xs : Nat → Int32} (C0 : lw_At p s m meth c b 6 xs) {E : (Nat → Prop) → State → Prop} (hO : bw_Ok E) {G : va_G} {cI cB cJ cN cW : ClassId} (hK : va_K G vwCl (bw_kt cI cB cJ cN cW) s) (hE : E (fun q : Nat => s.heap.size ≤ q) s) (x y o : Nat) (q qm : Nat → Nat) (f : Nat → Nat → Int32) {H : Heap} {locs : List Loc} (hP : va_P G vwCl (lc_W cI cB cJ x y o q qm f) H) (hD : va_D (fun q : Nat => s.heap.size ≤ q) (lc_W cI cB cJ x y o q qm f)) (hS : va_S (fun q : Nat => s.heap.size ≤ q) s.heap H locs) {ls : Array Slot} (hl : lv_has ls 7 [(4, .int 0), (3, .ref o), (2, .ref y), (1, .ref x), (0, .ref b)]) : W p l e room_1 s m #[Value.ref b] below meth c H locs 163 8733 (lw_Z below #[Value.ref b] s) (F0 m 505 ls []) := by
  have C1 := C0
  obtain ⟨hx, hb, hr, hml, hown, hts, hX, hbl, hlocks, hgv⟩ := C0
  have hA : ∀ q : Nat, s.heap.size ≤ q → (fun q : Nat => s.heap.size ≤ q) q := fun _ h => h
  have hbA : ¬ (fun q : Nat => s.heap.size ≤ q) b := Nat.not_le.mpr hbl
  have F : CallFix p m c cL_law 7 s #[Value.ref b] bw_T RL := ⟨hx, hb, hml, hown, fun w h => hts w (List.mem_filter.mp h).1⟩
  have hP := bw_subP (isC := [0, 10, 11, 14]) (wc := [(x, .inr (8, [.int 0, .int 0, .ref (q 0), .ref (q 1), .ref (q 2), .ref (q 3), .ref (q 4), .ref (q 5), .ref (q 6), .ref (q 7), .ref (q 8), .ref (q 9), .ref (q 10), .ref (q 11)])), ((q 2), .inr (2, [.int 0, .ref (q 40), .ref (q 41), .ref (q 42), .ref (q 43), .ref (q 44), .ref (q 45), .ref (q 46), .ref (q 47)])), ((q 47), .inl (cI, 20, .inl (fun _ => 0))), (y, .inr (9, [.int 0, .ref (qm 0), .int 0, .int 0, .int 0, .int 0, .int 0, .int 0, .int 0, .int 0, .int (-1), .int 0, .ref (qm 1), .int 0, .int 0, .ref (qm 2), .ref (qm 3), .ref (qm 4), .ref (qm 5), .ref (qm 6), .ref (qm 7), .ref (qm 8), .ref (qm 9), .ref (qm 10), .ref (qm 11), .ref (qm 12), .ref (qm 13), .ref (qm 14), .ref (qm 15), .ref (qm 16), .int 0, .int 0, .int 0, .int 0, .int 0, .int 0, .ref (qm 17), .ref (qm 18), .ref (qm 19), .ref (qm 20)]))]) hP rfl
  have hD := hD.sub (ws' := [(x, .inr (8, [.int 0, .int 0, .ref (q 0), .ref (q 1), .ref (q 2), .ref (q 3), .ref (q 4), .ref (q 5), .ref (q 6), .ref (q 7), .ref (q 8), .ref (q 9), .ref (q 10), .ref (q 11)])), ((q 2), .inr (2, [.int 0, .ref (q 40), .ref (q 41), .ref (q 42), .ref (q 43), .ref (q 44), .ref (q 45), .ref (q 46), .ref (q 47)])), ((q 47), .inl (cI, 20, .inl (fun _ => 0))), (y, .inr (9, [.int 0, .ref (qm 0), .int 0, .int 0, .int 0, .int 0, .int 0, .int 0, .int 0, .int 0, .int (-1), .int 0, .ref (qm 1), .int 0, .int 0, .ref (qm 2), .ref (qm 3), .ref (qm 4), .ref (qm 5), .ref (qm 6), .ref (qm 7), .ref (qm 8), .ref (qm 9), .ref (qm 10), .ref (qm 11), .ref (qm 12), .ref (qm 13), .ref (qm 14), .ref (qm 15), .ref (qm 16), .int 0, .int 0, .int 0, .int 0, .int 0, .int 0, .ref (qm 17), .ref (qm 18), .ref (qm 19), .ref (qm 20)]))]) [0, 10, 11, 14] (by decide) rfl
  refine lv_aload_n hx hb dL_law_505 rfl (lv_at hl 3 rfl) ?_
  refine lv_aload_n hx hb dL_law_506 rfl (lv_at hl 4 rfl) ?_
  refine lv_iload hx hb dL_law_507 (lv_at hl 0 rfl) ?_
  refine lv_iconst (v := 1) hx hb dL_law_509 (by decide) ?_
  refine r_iadd (v := 1) F dL_law_510 (by decide) ?_
  refine va_sld hx hb hX hbl hbA hS (bw_vin (by decide)) dL_law_511 ?_
  refine r_callVi (As := [.int (xs (Int32.toNatClampNeg 1))]) (rest := []) (wr := [(y, .inr (9, [.int 0, .ref (qm 0), .int 0, .int 0, .int 0, .int 0, .int 0, .int 0, .int 0, .int 0, .int (-1), .int 0, .ref (qm 1), .int 0, .int 0, .ref (qm 2), .ref (qm 3), .ref (qm 4), .ref (qm 5), .ref (qm 6), .ref (qm 7), .ref (qm 8), .ref (qm 9), .ref (qm 10), .ref (qm 11), .ref (qm 12), .ref (qm 13), .ref (qm 14), .ref (qm 15), .ref (qm 16), .int 0, .int 0, .int 0, .int 0, .int 0, .int 0, .ref (qm 17), .ref (qm 18), .ref (qm 19), .ref (qm 20)]))]) F hK hP hD hS hA hO hE (c_X8_left hO x q (xs (Int32.toNatClampNeg 1))) k_722 kv_X8_left 1 rfl (by decide +kernel) ⟨Nat.le_of_ble_eq_true rfl, Nat.le_of_ble_eq_true rfl⟩ [0, 1, 2] [3] rfl rfl (by decide) (by decide) (by decide) 0 8 rfl rfl rfl hl.1 rfl (Nat.le_of_ble_eq_true rfl) dL_law_512 ⟨Nat.le_of_ble_eq_true rfl, Nat.le_of_ble_eq_true rfl⟩ (w1 := fun u1 => [(y, .inr (9, [.int 0, .ref (qm 0), .int 0, .int 0, .int 0, .int 0, .int 0, .int 0, .int 0, .int 0, .int (-1), .int 0, .ref (qm 1), .int 0, .int 0, .ref (qm 2), .ref (qm 3), .ref (qm 4), .ref (qm 5), .ref (qm 6), .ref (qm 7), .ref (qm 8), .ref (qm 9), .ref (qm 10), .ref (qm 11), .ref (qm 12), .ref (qm 13), .ref (qm 14), .ref (qm 15), .ref (qm 16), .int 0, .int 0, .int 0, .int 0, .int 0, .int 0, .ref (qm 17), .ref (qm 18), .ref (qm 19), .ref (qm 20)]))]) (fun _ => rfl) (fun r2 u1 H locs hp hP hD hS => ?_)
  subst hp
  refine lv_aload_n hx hb dL_law_515 rfl (lv_at hl 2 rfl) ?_
  refine lv_aload_n hx hb dL_law_516 rfl (lv_at hl 4 rfl) ?_
  refine lv_iload hx hb dL_law_517 (lv_at hl 0 rfl) ?_
  refine lv_iconst (v := 1) hx hb dL_law_519 (by decide) ?_
  refine r_iadd (v := 1) F dL_law_520 (by decide) ?_
  refine va_sld hx hb hX hbl hbA hS (bw_vin (by decide)) dL_law_521 ?_
  refine r_callVi (As := [.int (xs (Int32.toNatClampNeg 1))]) (rest := [.int (-1)]) (wr := []) F hK hP hD hS hA hO hE (c_X9_left hO y qm (xs (Int32.toNatClampNeg 1))) k_1481 kv_X9_left 1 rfl (by decide +kernel) ⟨Nat.le_of_ble_eq_true rfl, Nat.le_of_ble_eq_true rfl⟩ [0] [] rfl rfl (by decide) (by decide) (by decide) 0 9 rfl rfl rfl hl.1 rfl (Nat.le_of_ble_eq_true rfl) dL_law_522 ⟨Nat.le_of_ble_eq_true rfl, Nat.le_of_ble_eq_true rfl⟩ (w1 := fun u3 => []) (fun _ => rfl) (fun r4 u3 H locs hp hP hD hS => ?_)
  subst hp
  refine lv_icmp_eq (tgt := 1483) hx hb dL_law_525 (by decide) (fun _ => ?_) (fun h9 => absurd rfl h9)
  exact lc_end C1 hS (Nat.le_of_ble_eq_true rfl) (Nat.le_of_ble_eq_true rfl) (lv_sub hl [0, 4] rfl)
theorem dL_law_530 : decode cL_law 530 = .ok (.aload_n 1, 1) := by decide +kernel
theorem dL_law_531 : decode cL_law 531 = .ok (.invokevirtual 62, 3) := by decide +kernel
theorem k_730 : Cond.methodLink RL 62 yX8_burnt ∈ bw_T := bw_m 730 (by decide +kernel) rfl
theorem kv_X8_burnt : bw_KV RX8 yX8_burnt (Cond.code yX8_burnt cX8_burnt 1 (some .int)) := ⟨bw_m 731 (by decide +kernel) rfl, bw_m 732 (by decide +kernel) rfl, bw_m 94 (by decide +kernel) rfl, bw_m 733 (by decide +kernel) rfl⟩
theorem dL_law_534 : decode cL_law 534 = .ok (.aload_n 2, 1) := by decide +kernel
theorem dL_law_535 : decode cL_law 535 = .ok (.invokevirtual 65, 3) := by decide +kernel
theorem k_1492 : Cond.methodLink RL 65 yX9_burnt ∈ bw_T := bw_m 1492 (by decide +kernel) rfl
theorem kv_X9_burnt : bw_KV RX9 yX9_burnt (Cond.code yX9_burnt cX9_burnt 1 (some .int)) := ⟨bw_m 1493 (by decide +kernel) rfl, bw_m 1494 (by decide +kernel) rfl, bw_m 107 (by decide +kernel) rfl, bw_m 1495 (by decide +kernel) rfl⟩
theorem dL_law_538 : decode cL_law 538 = .ok (.if_icmp .eq 945, 3) := by decide +kernel
set_option maxRecDepth 100000 in
set_option maxHeartbeats 4000000 in
theorem lc_10 {p : Program} {l : Launch} {e : Env} {s : State} {m : MethodId} {below : List Frame} {meth : Method} {c : Code} {b : Nat} {xs : Nat → Int32} (C0 : lw_At p s m meth c b 6 xs) {E : (Nat → Prop) → State → Prop} (hO : bw_Ok E) {G : va_G} {cI cB cJ cN cW : ClassId} (hK : va_K G vwCl (bw_kt cI cB cJ cN cW) s) (hE : E (fun q : Nat => s.heap.size ≤ q) s) (x y o : Nat) (q qm : Nat → Nat) (f : Nat → Nat → Int32) {H : Heap} {locs : List Loc} (hP : va_P G vwCl (lc_W cI cB cJ x y o q qm f) H) (hD : va_D (fun q : Nat => s.heap.size ≤ q) (lc_W cI cB cJ x y o q qm f)) (hS : va_S (fun q : Nat => s.heap.size ≤ q) s.heap H locs) {ls : Array Slot} (hl : lv_has ls 7 [(4, .int 0), (3, .ref o), (2, .ref y), (1, .ref x), (0, .ref b)]) : W p l e room_1 s m #[Value.ref b] below meth c H locs 163 8733 (lw_Z below #[Value.ref b] s) (F0 m 530 ls []) := by
  have C1 := C0
  obtain ⟨hx, hb, hr, hml, hown, hts, hX, hbl, hlocks, hgv⟩ := C0
  have hA : ∀ q : Nat, s.heap.size ≤ q → (fun q : Nat => s.heap.size ≤ q) q := fun _ h => h
  have hbA : ¬ (fun q : Nat => s.heap.size ≤ q) b := Nat.not_le.mpr hbl
  have F : CallFix p m c cL_law 7 s #[Value.ref b] bw_T RL := ⟨hx, hb, hml, hown, fun w h => hts w (List.mem_filter.mp h).1⟩
  have hP := bw_subP (isC := [0, 14]) (wc := [(x, .inr (8, [.int 0, .int 0, .ref (q 0), .ref (q 1), .ref (q 2), .ref (q 3), .ref (q 4), .ref (q 5), .ref (q 6), .ref (q 7), .ref (q 8), .ref (q 9), .ref (q 10), .ref (q 11)])), (y, .inr (9, [.int 0, .ref (qm 0), .int 0, .int 0, .int 0, .int 0, .int 0, .int 0, .int 0, .int 0, .int (-1), .int 0, .ref (qm 1), .int 0, .int 0, .ref (qm 2), .ref (qm 3), .ref (qm 4), .ref (qm 5), .ref (qm 6), .ref (qm 7), .ref (qm 8), .ref (qm 9), .ref (qm 10), .ref (qm 11), .ref (qm 12), .ref (qm 13), .ref (qm 14), .ref (qm 15), .ref (qm 16), .int 0, .int 0, .int 0, .int 0, .int 0, .int 0, .ref (qm 17), .ref (qm 18), .ref (qm 19), .ref (qm 20)]))]) hP rfl
  have hD := hD.sub (ws' := [(x, .inr (8, [.int 0, .int 0, .ref (q 0), .ref (q 1), .ref (q 2), .ref (q 3), .ref (q 4), .ref (q 5), .ref (q 6), .ref (q 7), .ref (q 8), .ref (q 9), .ref (q 10), .ref (q 11)])), (y, .inr (9, [.int 0, .ref (qm 0), .int 0, .int 0, .int 0, .int 0, .int 0, .int 0, .int 0, .int 0, .int (-1), .int 0, .ref (qm 1), .int 0, .int 0, .ref (qm 2), .ref (qm 3), .ref (qm 4), .ref (qm 5), .ref (qm 6), .ref (qm 7), .ref (qm 8), .ref (qm 9), .ref (qm 10), .ref (qm 11), .ref (qm 12), .ref (qm 13), .ref (qm 14), .ref (qm 15), .ref (qm 16), .int 0, .int 0, .int 0, .int 0, .int 0, .int 0, .ref (qm 17), .ref (qm 18), .ref (qm 19), .ref (qm 20)]))]) [0, 14] (by decide) rfl
  refine lv_aload_n hx hb dL_law_530 rfl (lv_at hl 3 rfl) ?_
  refine r_callVi (As := []) (rest := []) (wr := [(y, .inr (9, [.int 0, .ref (qm 0), .int 0, .int 0, .int 0, .int 0, .int 0, .int 0, .int 0, .int 0, .int (-1), .int 0, .ref (qm 1), .int 0, .int 0, .ref (qm 2), .ref (qm 3), .ref (qm 4), .ref (qm 5), .ref (qm 6), .ref (qm 7), .ref (qm 8), .ref (qm 9), .ref (qm 10), .ref (qm 11), .ref (qm 12), .ref (qm 13), .ref (qm 14), .ref (qm 15), .ref (qm 16), .int 0, .int 0, .int 0, .int 0, .int 0, .int 0, .ref (qm 17), .ref (qm 18), .ref (qm 19), .ref (qm 20)]))]) F hK hP hD hS hA hO hE (c_X8_burnt hO x q) k_730 kv_X8_burnt 0 rfl (by decide +kernel) ⟨Nat.le_of_ble_eq_true rfl, Nat.le_of_ble_eq_true rfl⟩ [0] [1] rfl rfl (by decide) (by decide) (by decide) 0 8 rfl rfl rfl hl.1 rfl (Nat.le_of_ble_eq_true rfl) dL_law_531 ⟨Nat.le_of_ble_eq_true rfl, Nat.le_of_ble_eq_true rfl⟩ (w1 := fun u1 => [(y, .inr (9, [.int 0, .ref (qm 0), .int 0, .int 0, .int 0, .int 0, .int 0, .int 0, .int 0, .int 0, .int (-1), .int 0, .ref (qm 1), .int 0, .int 0, .ref (qm 2), .ref (qm 3), .ref (qm 4), .ref (qm 5), .ref (qm 6), .ref (qm 7), .ref (qm 8), .ref (qm 9), .ref (qm 10), .ref (qm 11), .ref (qm 12), .ref (qm 13), .ref (qm 14), .ref (qm 15), .ref (qm 16), .int 0, .int 0, .int 0, .int 0, .int 0, .int 0, .ref (qm 17), .ref (qm 18), .ref (qm 19), .ref (qm 20)]))]) (fun _ => rfl) (fun r2 u1 H locs hp hP hD hS => ?_)
  subst hp
  refine lv_aload_n hx hb dL_law_534 rfl (lv_at hl 2 rfl) ?_
  refine r_callVi (As := []) (rest := [.int (-1)]) (wr := []) F hK hP hD hS hA hO hE (c_X9_burnt hO y qm) k_1492 kv_X9_burnt 0 rfl (by decide +kernel) ⟨Nat.le_of_ble_eq_true rfl, Nat.le_of_ble_eq_true rfl⟩ [0] [] rfl rfl (by decide) (by decide) (by decide) 0 9 rfl rfl rfl hl.1 rfl (Nat.le_of_ble_eq_true rfl) dL_law_535 ⟨Nat.le_of_ble_eq_true rfl, Nat.le_of_ble_eq_true rfl⟩ (w1 := fun u3 => []) (fun _ => rfl) (fun r4 u3 H locs hp hP hD hS => ?_)
  subst hp
  refine lv_icmp_eq (tgt := 1483) hx hb dL_law_538 (by decide) (fun _ => ?_) (fun h9 => absurd rfl h9)
  exact lc_end C1 hS (Nat.le_of_ble_eq_true rfl) (Nat.le_of_ble_eq_true rfl) (lv_sub hl [0, 4] rfl)
theorem dL_law_543 : decode cL_law 543 = .ok (.aload_n 1, 1) := by decide +kernel
theorem dL_law_544 : decode cL_law 544 = .ok (.aload_n 0, 1) := by decide +kernel
theorem dL_law_545 : decode cL_law 545 = .ok (.iload 4, 2) := by decide +kernel
theorem dL_law_547 : decode cL_law 547 = .ok (.iconst 1, 1) := by decide +kernel
theorem dL_law_548 : decode cL_law 548 = .ok (.iadd, 1) := by decide +kernel
theorem dL_law_549 : decode cL_law 549 = .ok (.iaload, 1) := by decide +kernel
theorem dL_law_550 : decode cL_law 550 = .ok (.invokevirtual 66, 3) := by decide +kernel
theorem k_739 : Cond.methodLink RL 66 yX8_path ∈ bw_T := bw_m 739 (by decide +kernel) rfl
theorem kv_X8_path : bw_KV RX8 yX8_path (Cond.code yX8_path cX8_path 2 (some .int)) := ⟨bw_m 740 (by decide +kernel) rfl, bw_m 741 (by decide +kernel) rfl, bw_m 94 (by decide +kernel) rfl, bw_m 742 (by decide +kernel) rfl⟩
theorem dL_law_553 : decode cL_law 553 = .ok (.aload_n 2, 1) := by decide +kernel
theorem dL_law_554 : decode cL_law 554 = .ok (.aload_n 0, 1) := by decide +kernel
theorem dL_law_555 : decode cL_law 555 = .ok (.iload 4, 2) := by decide +kernel
theorem dL_law_557 : decode cL_law 557 = .ok (.iconst 1, 1) := by decide +kernel
theorem dL_law_558 : decode cL_law 558 = .ok (.iadd, 1) := by decide +kernel
theorem dL_law_559 : decode cL_law 559 = .ok (.iaload, 1) := by decide +kernel
theorem dL_law_560 : decode cL_law 560 = .ok (.invokevirtual 69, 3) := by decide +kernel
theorem k_1500 : Cond.methodLink RL 69 yX9_path ∈ bw_T := bw_m 1500 (by decide +kernel) rfl
theorem kv_X9_path : bw_KV RX9 yX9_path (Cond.code yX9_path cX9_path 2 (some .int)) := ⟨bw_m 1501 (by decide +kernel) rfl, bw_m 1502 (by decide +kernel) rfl, bw_m 107 (by decide +kernel) rfl, bw_m 1503 (by decide +kernel) rfl⟩
theorem dL_law_563 : decode cL_law 563 = .ok (.if_icmp .eq 920, 3) := by decide +kernel
set_option maxRecDepth 100000 in
set_option maxHeartbeats 4000000 in
theorem lc_11 {p : Program} {l : Launch} {e : Env} {s : State} {m : MethodId} {below : List Frame} {meth : Method} {c : Code} {b : Nat} {xs : Nat → Int32} (C0 : lw_At p s m meth c b 6 xs) {E : (Nat → Prop) → State → Prop} (hO : bw_Ok E) {G : va_G} {cI cB cJ cN cW : ClassId} (hK : va_K G vwCl (bw_kt cI cB cJ cN cW) s) (hE : E (fun q : Nat => s.heap.size ≤ q) s) (x y o : Nat) (q qm : Nat → Nat) (f : Nat → Nat → Int32) {H : Heap} {locs : List Loc} (hP : va_P G vwCl (lc_W cI cB cJ x y o q qm f) H) (hD : va_D (fun q : Nat => s.heap.size ≤ q) (lc_W cI cB cJ x y o q qm f)) (hS : va_S (fun q : Nat => s.heap.size ≤ q) s.heap H locs) {ls : Array Slot} (hl : lv_has ls 7 [(4, .int 0), (3, .ref o), (2, .ref y), (1, .ref x), (0, .ref b)]) : W p l e room_1 s m #[Value.ref b] below meth c H locs 163 8733 (lw_Z below #[Value.ref b] s) (F0 m 543 ls []) := by
  have C1 := C0
  obtain ⟨hx, hb, hr, hml, hown, hts, hX, hbl, hlocks, hgv⟩ := C0
  have hA : ∀ q : Nat, s.heap.size ≤ q → (fun q : Nat => s.heap.size ≤ q) q := fun _ h => h
  have hbA : ¬ (fun q : Nat => s.heap.size ≤ q) b := Nat.not_le.mpr hbl
  have F : CallFix p m c cL_law 7 s #[Value.ref b] bw_T RL := ⟨hx, hb, hml, hown, fun w h => hts w (List.mem_filter.mp h).1⟩
  have hP := bw_subP (isC := [0, 14]) (wc := [(x, .inr (8, [.int 0, .int 0, .ref (q 0), .ref (q 1), .ref (q 2), .ref (q 3), .ref (q 4), .ref (q 5), .ref (q 6), .ref (q 7), .ref (q 8), .ref (q 9), .ref (q 10), .ref (q 11)])), (y, .inr (9, [.int 0, .ref (qm 0), .int 0, .int 0, .int 0, .int 0, .int 0, .int 0, .int 0, .int 0, .int (-1), .int 0, .ref (qm 1), .int 0, .int 0, .ref (qm 2), .ref (qm 3), .ref (qm 4), .ref (qm 5), .ref (qm 6), .ref (qm 7), .ref (qm 8), .ref (qm 9), .ref (qm 10), .ref (qm 11), .ref (qm 12), .ref (qm 13), .ref (qm 14), .ref (qm 15), .ref (qm 16), .int 0, .int 0, .int 0, .int 0, .int 0, .int 0, .ref (qm 17), .ref (qm 18), .ref (qm 19), .ref (qm 20)]))]) hP rfl
  have hD := hD.sub (ws' := [(x, .inr (8, [.int 0, .int 0, .ref (q 0), .ref (q 1), .ref (q 2), .ref (q 3), .ref (q 4), .ref (q 5), .ref (q 6), .ref (q 7), .ref (q 8), .ref (q 9), .ref (q 10), .ref (q 11)])), (y, .inr (9, [.int 0, .ref (qm 0), .int 0, .int 0, .int 0, .int 0, .int 0, .int 0, .int 0, .int 0, .int (-1), .int 0, .ref (qm 1), .int 0, .int 0, .ref (qm 2), .ref (qm 3), .ref (qm 4), .ref (qm 5), .ref (qm 6), .ref (qm 7), .ref (qm 8), .ref (qm 9), .ref (qm 10), .ref (qm 11), .ref (qm 12), .ref (qm 13), .ref (qm 14), .ref (qm 15), .ref (qm 16), .int 0, .int 0, .int 0, .int 0, .int 0, .int 0, .ref (qm 17), .ref (qm 18), .ref (qm 19), .ref (qm 20)]))]) [0, 14] (by decide) rfl
  refine lv_aload_n hx hb dL_law_543 rfl (lv_at hl 3 rfl) ?_
  refine lv_aload_n hx hb dL_law_544 rfl (lv_at hl 4 rfl) ?_
  refine lv_iload hx hb dL_law_545 (lv_at hl 0 rfl) ?_
  refine lv_iconst (v := 1) hx hb dL_law_547 (by decide) ?_
  refine r_iadd (v := 1) F dL_law_548 (by decide) ?_
  refine va_sld hx hb hX hbl hbA hS (bw_vin (by decide)) dL_law_549 ?_
  refine r_callVi (As := [.int (xs (Int32.toNatClampNeg 1))]) (rest := []) (wr := [(y, .inr (9, [.int 0, .ref (qm 0), .int 0, .int 0, .int 0, .int 0, .int 0, .int 0, .int 0, .int 0, .int (-1), .int 0, .ref (qm 1), .int 0, .int 0, .ref (qm 2), .ref (qm 3), .ref (qm 4), .ref (qm 5), .ref (qm 6), .ref (qm 7), .ref (qm 8), .ref (qm 9), .ref (qm 10), .ref (qm 11), .ref (qm 12), .ref (qm 13), .ref (qm 14), .ref (qm 15), .ref (qm 16), .int 0, .int 0, .int 0, .int 0, .int 0, .int 0, .ref (qm 17), .ref (qm 18), .ref (qm 19), .ref (qm 20)]))]) F hK hP hD hS hA hO hE (c_X8_path hO x q (xs (Int32.toNatClampNeg 1))) k_739 kv_X8_path 1 rfl (by decide +kernel) ⟨Nat.le_of_ble_eq_true rfl, Nat.le_of_ble_eq_true rfl⟩ [0] [1] rfl rfl (by decide) (by decide) (by decide) 0 8 rfl rfl rfl hl.1 rfl (Nat.le_of_ble_eq_true rfl) dL_law_550 ⟨Nat.le_of_ble_eq_true rfl, Nat.le_of_ble_eq_true rfl⟩ (w1 := fun u1 => [(y, .inr (9, [.int 0, .ref (qm 0), .int 0, .int 0, .int 0, .int 0, .int 0, .int 0, .int 0, .int 0, .int (-1), .int 0, .ref (qm 1), .int 0, .int 0, .ref (qm 2), .ref (qm 3), .ref (qm 4), .ref (qm 5), .ref (qm 6), .ref (qm 7), .ref (qm 8), .ref (qm 9), .ref (qm 10), .ref (qm 11), .ref (qm 12), .ref (qm 13), .ref (qm 14), .ref (qm 15), .ref (qm 16), .int 0, .int 0, .int 0, .int 0, .int 0, .int 0, .ref (qm 17), .ref (qm 18), .ref (qm 19), .ref (qm 20)]))]) (fun _ => rfl) (fun r2 u1 H locs hp hP hD hS => ?_)
  subst hp
  refine lv_aload_n hx hb dL_law_553 rfl (lv_at hl 2 rfl) ?_
  refine lv_aload_n hx hb dL_law_554 rfl (lv_at hl 4 rfl) ?_
  refine lv_iload hx hb dL_law_555 (lv_at hl 0 rfl) ?_
  refine lv_iconst (v := 1) hx hb dL_law_557 (by decide) ?_
  refine r_iadd (v := 1) F dL_law_558 (by decide) ?_
  refine va_sld hx hb hX hbl hbA hS (bw_vin (by decide)) dL_law_559 ?_
  refine r_callVi (As := [.int (xs (Int32.toNatClampNeg 1))]) (rest := [.int (-1)]) (wr := []) F hK hP hD hS hA hO hE (c_X9_path hO y qm (xs (Int32.toNatClampNeg 1))) k_1500 kv_X9_path 1 rfl (by decide +kernel) ⟨Nat.le_of_ble_eq_true rfl, Nat.le_of_ble_eq_true rfl⟩ [0] [] rfl rfl (by decide) (by decide) (by decide) 0 9 rfl rfl rfl hl.1 rfl (Nat.le_of_ble_eq_true rfl) dL_law_560 ⟨Nat.le_of_ble_eq_true rfl, Nat.le_of_ble_eq_true rfl⟩ (w1 := fun u3 => []) (fun _ => rfl) (fun r4 u3 H locs hp hP hD hS => ?_)
  subst hp
  refine lv_icmp_eq (tgt := 1483) hx hb dL_law_563 (by decide) (fun _ => ?_) (fun h9 => absurd rfl h9)
  exact lc_end C1 hS (Nat.le_of_ble_eq_true rfl) (Nat.le_of_ble_eq_true rfl) (lv_sub hl [0, 4] rfl)
theorem dL_law_568 : decode cL_law 568 = .ok (.aload_n 1, 1) := by decide +kernel
theorem dL_law_569 : decode cL_law 569 = .ok (.aload_n 0, 1) := by decide +kernel
theorem dL_law_570 : decode cL_law 570 = .ok (.iload 4, 2) := by decide +kernel
theorem dL_law_572 : decode cL_law 572 = .ok (.iconst 1, 1) := by decide +kernel
theorem dL_law_573 : decode cL_law 573 = .ok (.iadd, 1) := by decide +kernel
theorem dL_law_574 : decode cL_law 574 = .ok (.iaload, 1) := by decide +kernel
theorem dL_law_575 : decode cL_law 575 = .ok (.aload_n 0, 1) := by decide +kernel
theorem dL_law_576 : decode cL_law 576 = .ok (.iload 4, 2) := by decide +kernel
theorem dL_law_578 : decode cL_law 578 = .ok (.iconst 2, 1) := by decide +kernel
theorem dL_law_579 : decode cL_law 579 = .ok (.iadd, 1) := by decide +kernel
theorem dL_law_580 : decode cL_law 580 = .ok (.iaload, 1) := by decide +kernel
theorem dL_law_581 : decode cL_law 581 = .ok (.aload_n 0, 1) := by decide +kernel
theorem dL_law_582 : decode cL_law 582 = .ok (.iload 4, 2) := by decide +kernel
theorem dL_law_584 : decode cL_law 584 = .ok (.iconst 3, 1) := by decide +kernel
theorem dL_law_585 : decode cL_law 585 = .ok (.iadd, 1) := by decide +kernel
theorem dL_law_586 : decode cL_law 586 = .ok (.iaload, 1) := by decide +kernel
theorem dL_law_587 : decode cL_law 587 = .ok (.aload_n 0, 1) := by decide +kernel
theorem dL_law_588 : decode cL_law 588 = .ok (.iload 4, 2) := by decide +kernel
theorem dL_law_590 : decode cL_law 590 = .ok (.iconst 4, 1) := by decide +kernel
theorem dL_law_591 : decode cL_law 591 = .ok (.iadd, 1) := by decide +kernel
theorem dL_law_592 : decode cL_law 592 = .ok (.iaload, 1) := by decide +kernel
theorem dL_law_593 : decode cL_law 593 = .ok (.invokevirtual 70, 3) := by decide +kernel
theorem k_743 : Cond.methodLink RL 70 yX8_answer ∈ bw_T := bw_m 743 (by decide +kernel) rfl
theorem kv_X8_answer : bw_KV RX8 yX8_answer (Cond.code yX8_answer cX8_answer 5 (some .int)) := ⟨bw_m 744 (by decide +kernel) rfl, bw_m 745 (by decide +kernel) rfl, bw_m 94 (by decide +kernel) rfl, bw_m 746 (by decide +kernel) rfl⟩
theorem dL_law_596 : decode cL_law 596 = .ok (.aload_n 2, 1) := by decide +kernel
theorem dL_law_597 : decode cL_law 597 = .ok (.aload_n 0, 1) := by decide +kernel
theorem dL_law_598 : decode cL_law 598 = .ok (.iload 4, 2) := by decide +kernel
theorem dL_law_600 : decode cL_law 600 = .ok (.iconst 1, 1) := by decide +kernel
theorem dL_law_601 : decode cL_law 601 = .ok (.iadd, 1) := by decide +kernel
theorem dL_law_602 : decode cL_law 602 = .ok (.iaload, 1) := by decide +kernel
theorem dL_law_603 : decode cL_law 603 = .ok (.aload_n 0, 1) := by decide +kernel
theorem dL_law_604 : decode cL_law 604 = .ok (.iload 4, 2) := by decide +kernel
theorem dL_law_606 : decode cL_law 606 = .ok (.iconst 2, 1) := by decide +kernel
theorem dL_law_607 : decode cL_law 607 = .ok (.iadd, 1) := by decide +kernel
theorem dL_law_608 : decode cL_law 608 = .ok (.iaload, 1) := by decide +kernel
theorem dL_law_609 : decode cL_law 609 = .ok (.aload_n 0, 1) := by decide +kernel
theorem dL_law_610 : decode cL_law 610 = .ok (.iload 4, 2) := by decide +kernel
theorem dL_law_612 : decode cL_law 612 = .ok (.iconst 3, 1) := by decide +kernel
theorem dL_law_613 : decode cL_law 613 = .ok (.iadd, 1) := by decide +kernel
theorem dL_law_614 : decode cL_law 614 = .ok (.iaload, 1) := by decide +kernel
theorem dL_law_615 : decode cL_law 615 = .ok (.aload_n 0, 1) := by decide +kernel
theorem dL_law_616 : decode cL_law 616 = .ok (.iload 4, 2) := by decide +kernel
theorem dL_law_618 : decode cL_law 618 = .ok (.iconst 4, 1) := by decide +kernel
theorem dL_law_619 : decode cL_law 619 = .ok (.iadd, 1) := by decide +kernel
theorem dL_law_620 : decode cL_law 620 = .ok (.iaload, 1) := by decide +kernel
theorem dL_law_621 : decode cL_law 621 = .ok (.invokevirtual 74, 3) := by decide +kernel
theorem k_1504 : Cond.methodLink RL 74 yX9_answer ∈ bw_T := bw_m 1504 (by decide +kernel) rfl
theorem kv_X9_answer : bw_KV RX9 yX9_answer (Cond.code yX9_answer cX9_answer 6 (some .int)) := ⟨bw_m 1505 (by decide +kernel) rfl, bw_m 1506 (by decide +kernel) rfl, bw_m 107 (by decide +kernel) rfl, bw_m 1507 (by decide +kernel) rfl⟩
theorem dL_law_624 : decode cL_law 624 = .ok (.if_icmp .eq 859, 3) := by decide +kernel
set_option maxRecDepth 100000 in
set_option maxHeartbeats 4000000 in
theorem lc_12 {p : Program} {l : Launch} {e : Env} {s : State} {m : MethodId} {below : List Frame} {meth : Method} {c : Code} {b : Nat} {xs : Nat → Int32} (C0 : lw_At p s m meth c b 6 xs) {E : (Nat → Prop) → State → Prop} (hO : bw_Ok E) {G : va_G} {cI cB cJ cN cW : ClassId} (hK : va_K G vwCl (bw_kt cI cB cJ cN cW) s) (hE : E (fun q : Nat => s.heap.size ≤ q) s) (x y o : Nat) (q qm : Nat → Nat) (f : Nat → Nat → Int32) {H : Heap} {locs : List Loc} (hP : va_P G vwCl (lc_W cI cB cJ x y o q qm f) H) (hD : va_D (fun q : Nat => s.heap.size ≤ q) (lc_W cI cB cJ x y o q qm f)) (hS : va_S (fun q : Nat => s.heap.size ≤ q) s.heap H locs) {ls : Array Slot} (hl : lv_has ls 7 [(4, .int 0), (3, .ref o), (2, .ref y), (1, .ref x), (0, .ref b)]) : W p l e room_1 s m #[Value.ref b] below meth c H locs 163 8733 (lw_Z below #[Value.ref b] s) (F0 m 568 ls []) := by
  have C1 := C0
  obtain ⟨hx, hb, hr, hml, hown, hts, hX, hbl, hlocks, hgv⟩ := C0
  have hA : ∀ q : Nat, s.heap.size ≤ q → (fun q : Nat => s.heap.size ≤ q) q := fun _ h => h
  have hbA : ¬ (fun q : Nat => s.heap.size ≤ q) b := Nat.not_le.mpr hbl
  have F : CallFix p m c cL_law 7 s #[Value.ref b] bw_T RL := ⟨hx, hb, hml, hown, fun w h => hts w (List.mem_filter.mp h).1⟩
  have hP := bw_subP (isC := [0, 14]) (wc := [(x, .inr (8, [.int 0, .int 0, .ref (q 0), .ref (q 1), .ref (q 2), .ref (q 3), .ref (q 4), .ref (q 5), .ref (q 6), .ref (q 7), .ref (q 8), .ref (q 9), .ref (q 10), .ref (q 11)])), (y, .inr (9, [.int 0, .ref (qm 0), .int 0, .int 0, .int 0, .int 0, .int 0, .int 0, .int 0, .int 0, .int (-1), .int 0, .ref (qm 1), .int 0, .int 0, .ref (qm 2), .ref (qm 3), .ref (qm 4), .ref (qm 5), .ref (qm 6), .ref (qm 7), .ref (qm 8), .ref (qm 9), .ref (qm 10), .ref (qm 11), .ref (qm 12), .ref (qm 13), .ref (qm 14), .ref (qm 15), .ref (qm 16), .int 0, .int 0, .int 0, .int 0, .int 0, .int 0, .ref (qm 17), .ref (qm 18), .ref (qm 19), .ref (qm 20)]))]) hP rfl
  have hD := hD.sub (ws' := [(x, .inr (8, [.int 0, .int 0, .ref (q 0), .ref (q 1), .ref (q 2), .ref (q 3), .ref (q 4), .ref (q 5), .ref (q 6), .ref (q 7), .ref (q 8), .ref (q 9), .ref (q 10), .ref (q 11)])), (y, .inr (9, [.int 0, .ref (qm 0), .int 0, .int 0, .int 0, .int 0, .int 0, .int 0, .int 0, .int 0, .int (-1), .int 0, .ref (qm 1), .int 0, .int 0, .ref (qm 2), .ref (qm 3), .ref (qm 4), .ref (qm 5), .ref (qm 6), .ref (qm 7), .ref (qm 8), .ref (qm 9), .ref (qm 10), .ref (qm 11), .ref (qm 12), .ref (qm 13), .ref (qm 14), .ref (qm 15), .ref (qm 16), .int 0, .int 0, .int 0, .int 0, .int 0, .int 0, .ref (qm 17), .ref (qm 18), .ref (qm 19), .ref (qm 20)]))]) [0, 14] (by decide) rfl
  refine lv_aload_n hx hb dL_law_568 rfl (lv_at hl 3 rfl) ?_
  refine lv_aload_n hx hb dL_law_569 rfl (lv_at hl 4 rfl) ?_
  refine lv_iload hx hb dL_law_570 (lv_at hl 0 rfl) ?_
  refine lv_iconst (v := 1) hx hb dL_law_572 (by decide) ?_
  refine r_iadd (v := 1) F dL_law_573 (by decide) ?_
  refine va_sld hx hb hX hbl hbA hS (bw_vin (by decide)) dL_law_574 ?_
  refine lv_aload_n hx hb dL_law_575 rfl (lv_at hl 4 rfl) ?_
  refine lv_iload hx hb dL_law_576 (lv_at hl 0 rfl) ?_
  refine lv_iconst (v := 2) hx hb dL_law_578 (by decide) ?_
  refine r_iadd (v := 2) F dL_law_579 (by decide) ?_
  refine va_sld hx hb hX hbl hbA hS (bw_vin (by decide)) dL_law_580 ?_
  refine lv_aload_n hx hb dL_law_581 rfl (lv_at hl 4 rfl) ?_
  refine lv_iload hx hb dL_law_582 (lv_at hl 0 rfl) ?_
  refine lv_iconst (v := 3) hx hb dL_law_584 (by decide) ?_
  refine r_iadd (v := 3) F dL_law_585 (by decide) ?_
  refine va_sld hx hb hX hbl hbA hS (bw_vin (by decide)) dL_law_586 ?_
  refine lv_aload_n hx hb dL_law_587 rfl (lv_at hl 4 rfl) ?_
  refine lv_iload hx hb dL_law_588 (lv_at hl 0 rfl) ?_
  refine lv_iconst (v := 4) hx hb dL_law_590 (by decide) ?_
  refine r_iadd (v := 4) F dL_law_591 (by decide) ?_
  refine va_sld hx hb hX hbl hbA hS (bw_vin (by decide)) dL_law_592 ?_
  refine r_callVi (As := [.int (xs (Int32.toNatClampNeg 1)), .int (xs (Int32.toNatClampNeg 2)), .int (xs (Int32.toNatClampNeg 3)), .int (xs (Int32.toNatClampNeg 4))]) (rest := []) (wr := [(y, .inr (9, [.int 0, .ref (qm 0), .int 0, .int 0, .int 0, .int 0, .int 0, .int 0, .int 0, .int 0, .int (-1), .int 0, .ref (qm 1), .int 0, .int 0, .ref (qm 2), .ref (qm 3), .ref (qm 4), .ref (qm 5), .ref (qm 6), .ref (qm 7), .ref (qm 8), .ref (qm 9), .ref (qm 10), .ref (qm 11), .ref (qm 12), .ref (qm 13), .ref (qm 14), .ref (qm 15), .ref (qm 16), .int 0, .int 0, .int 0, .int 0, .int 0, .int 0, .ref (qm 17), .ref (qm 18), .ref (qm 19), .ref (qm 20)]))]) F hK hP hD hS hA hO hE (c_X8_answer hO x q (xs (Int32.toNatClampNeg 1)) (xs (Int32.toNatClampNeg 2)) (xs (Int32.toNatClampNeg 3)) (xs (Int32.toNatClampNeg 4))) k_743 kv_X8_answer 4 rfl (by decide +kernel) ⟨Nat.le_of_ble_eq_true rfl, Nat.le_of_ble_eq_true rfl⟩ [0] [1] rfl rfl (by decide) (by decide) (by decide) 0 8 rfl rfl rfl hl.1 rfl (Nat.le_of_ble_eq_true rfl) dL_law_593 ⟨Nat.le_of_ble_eq_true rfl, Nat.le_of_ble_eq_true rfl⟩ (w1 := fun u1 => [(y, .inr (9, [.int 0, .ref (qm 0), .int 0, .int 0, .int 0, .int 0, .int 0, .int 0, .int 0, .int 0, .int (-1), .int 0, .ref (qm 1), .int 0, .int 0, .ref (qm 2), .ref (qm 3), .ref (qm 4), .ref (qm 5), .ref (qm 6), .ref (qm 7), .ref (qm 8), .ref (qm 9), .ref (qm 10), .ref (qm 11), .ref (qm 12), .ref (qm 13), .ref (qm 14), .ref (qm 15), .ref (qm 16), .int 0, .int 0, .int 0, .int 0, .int 0, .int 0, .ref (qm 17), .ref (qm 18), .ref (qm 19), .ref (qm 20)]))]) (fun _ => rfl) (fun r2 u1 H locs hp hP hD hS => ?_)
  subst hp
  refine lv_aload_n hx hb dL_law_596 rfl (lv_at hl 2 rfl) ?_
  refine lv_aload_n hx hb dL_law_597 rfl (lv_at hl 4 rfl) ?_
  refine lv_iload hx hb dL_law_598 (lv_at hl 0 rfl) ?_
  refine lv_iconst (v := 1) hx hb dL_law_600 (by decide) ?_
  refine r_iadd (v := 1) F dL_law_601 (by decide) ?_
  refine va_sld hx hb hX hbl hbA hS (bw_vin (by decide)) dL_law_602 ?_
  refine lv_aload_n hx hb dL_law_603 rfl (lv_at hl 4 rfl) ?_
  refine lv_iload hx hb dL_law_604 (lv_at hl 0 rfl) ?_
  refine lv_iconst (v := 2) hx hb dL_law_606 (by decide) ?_
  refine r_iadd (v := 2) F dL_law_607 (by decide) ?_
  refine va_sld hx hb hX hbl hbA hS (bw_vin (by decide)) dL_law_608 ?_
  refine lv_aload_n hx hb dL_law_609 rfl (lv_at hl 4 rfl) ?_
  refine lv_iload hx hb dL_law_610 (lv_at hl 0 rfl) ?_
  refine lv_iconst (v := 3) hx hb dL_law_612 (by decide) ?_
  refine r_iadd (v := 3) F dL_law_613 (by decide) ?_
  refine va_sld hx hb hX hbl hbA hS (bw_vin (by decide)) dL_law_614 ?_
  refine lv_aload_n hx hb dL_law_615 rfl (lv_at hl 4 rfl) ?_
  refine lv_iload hx hb dL_law_616 (lv_at hl 0 rfl) ?_
  refine lv_iconst (v := 4) hx hb dL_law_618 (by decide) ?_
  refine r_iadd (v := 4) F dL_law_619 (by decide) ?_
  refine va_sld hx hb hX hbl hbA hS (bw_vin (by decide)) dL_law_620 ?_
  refine r_callVi (As := [.int (xs (Int32.toNatClampNeg 1)), .int (xs (Int32.toNatClampNeg 2)), .int (xs (Int32.toNatClampNeg 3)), .int (xs (Int32.toNatClampNeg 4))]) (rest := [.int (-1)]) (wr := []) F hK hP hD hS hA hO hE (c_X9_answer hO y qm (xs (Int32.toNatClampNeg 1)) (xs (Int32.toNatClampNeg 2)) (xs (Int32.toNatClampNeg 3)) (xs (Int32.toNatClampNeg 4))) k_1504 kv_X9_answer 4 rfl (by decide +kernel) ⟨Nat.le_of_ble_eq_true rfl, Nat.le_of_ble_eq_true rfl⟩ [0] [] rfl rfl (by decide) (by decide) (by decide) 0 9 rfl rfl rfl hl.1 rfl (Nat.le_of_ble_eq_true rfl) dL_law_621 ⟨Nat.le_of_ble_eq_true rfl, Nat.le_of_ble_eq_true rfl⟩ (w1 := fun u3 => []) (fun _ => rfl) (fun r4 u3 H locs hp hP hD hS => ?_)
  subst hp
  refine lv_icmp_eq (tgt := 1483) hx hb dL_law_624 (by decide) (fun _ => ?_) (fun h9 => absurd rfl h9)
  exact lc_end C1 hS (Nat.le_of_ble_eq_true rfl) (Nat.le_of_ble_eq_true rfl) (lv_sub hl [0, 4] rfl)
theorem dL_law_629 : decode cL_law 629 = .ok (.aload_n 1, 1) := by decide +kernel
theorem dL_law_630 : decode cL_law 630 = .ok (.aload_n 0, 1) := by decide +kernel
theorem dL_law_631 : decode cL_law 631 = .ok (.iload 4, 2) := by decide +kernel
theorem dL_law_633 : decode cL_law 633 = .ok (.iconst 1, 1) := by decide +kernel
theorem dL_law_634 : decode cL_law 634 = .ok (.iadd, 1) := by decide +kernel
theorem dL_law_635 : decode cL_law 635 = .ok (.iaload, 1) := by decide +kernel
theorem dL_law_636 : decode cL_law 636 = .ok (.aload_n 0, 1) := by decide +kernel
theorem dL_law_637 : decode cL_law 637 = .ok (.iload 4, 2) := by decide +kernel
theorem dL_law_639 : decode cL_law 639 = .ok (.iconst 2, 1) := by decide +kernel
theorem dL_law_640 : decode cL_law 640 = .ok (.iadd, 1) := by decide +kernel
theorem dL_law_641 : decode cL_law 641 = .ok (.iaload, 1) := by decide +kernel
theorem dL_law_642 : decode cL_law 642 = .ok (.invokevirtual 75, 3) := by decide +kernel
theorem k_747 : Cond.methodLink RL 75 yX8_parted ∈ bw_T := bw_m 747 (by decide +kernel) rfl
theorem kv_X8_parted : bw_KV RX8 yX8_parted (Cond.code yX8_parted cX8_parted 3 (some .int)) := ⟨bw_m 748 (by decide +kernel) rfl, bw_m 749 (by decide +kernel) rfl, bw_m 94 (by decide +kernel) rfl, bw_m 750 (by decide +kernel) rfl⟩
theorem dL_law_645 : decode cL_law 645 = .ok (.aload_n 2, 1) := by decide +kernel
theorem dL_law_646 : decode cL_law 646 = .ok (.aload_n 0, 1) := by decide +kernel
theorem dL_law_647 : decode cL_law 647 = .ok (.iload 4, 2) := by decide +kernel
theorem dL_law_649 : decode cL_law 649 = .ok (.iconst 1, 1) := by decide +kernel
theorem dL_law_650 : decode cL_law 650 = .ok (.iadd, 1) := by decide +kernel
theorem dL_law_651 : decode cL_law 651 = .ok (.iaload, 1) := by decide +kernel
theorem dL_law_652 : decode cL_law 652 = .ok (.aload_n 0, 1) := by decide +kernel
theorem dL_law_653 : decode cL_law 653 = .ok (.iload 4, 2) := by decide +kernel
theorem dL_law_655 : decode cL_law 655 = .ok (.iconst 2, 1) := by decide +kernel
theorem dL_law_656 : decode cL_law 656 = .ok (.iadd, 1) := by decide +kernel
theorem dL_law_657 : decode cL_law 657 = .ok (.iaload, 1) := by decide +kernel
theorem dL_law_658 : decode cL_law 658 = .ok (.invokevirtual 79, 3) := by decide +kernel
theorem k_1508 : Cond.methodLink RL 79 yX9_parted ∈ bw_T := bw_m 1508 (by decide +kernel) rfl
theorem kv_X9_parted : bw_KV RX9 yX9_parted (Cond.code yX9_parted cX9_parted 4 (some .int)) := ⟨bw_m 1509 (by decide +kernel) rfl, bw_m 1510 (by decide +kernel) rfl, bw_m 107 (by decide +kernel) rfl, bw_m 1511 (by decide +kernel) rfl⟩
theorem dL_law_661 : decode cL_law 661 = .ok (.if_icmp .eq 822, 3) := by decide +kernel
set_option maxRecDepth 100000 in
set_option maxHeartbeats 4000000 in
theorem lc_13 {p : Program} {l : Launch} {e : Env} {s : State} {m : MethodId} {below : List Frame} {meth : Method} {c : Code} {b : Nat} {xs : Nat → Int32} (C0 : lw_At p s m meth c b 6 xs) {E : (Nat → Prop) → State → Prop} (hO : bw_Ok E) {G : va_G} {cI cB cJ cN cW : ClassId} (hK : va_K G vwCl (bw_kt cI cB cJ cN cW) s) (hE : E (fun q : Nat => s.heap.size ≤ q) s) (x y o : Nat) (q qm : Nat → Nat) (f : Nat → Nat → Int32) {H : Heap} {locs : List Loc} (hP : va_P G vwCl (lc_W cI cB cJ x y o q qm f) H) (hD : va_D (fun q : Nat => s.heap.size ≤ q) (lc_W cI cB cJ x y o q qm f)) (hS : va_S (fun q : Nat => s.heap.size ≤ q) s.heap H locs) {ls : Array Slot} (hl : lv_has ls 7 [(4, .int 0), (3, .ref o), (2, .ref y), (1, .ref x), (0, .ref b)]) : W p l e room_1 s m #[Value.ref b] below meth c H locs 163 8733 (lw_Z below #[Value.ref b] s) (F0 m 629 ls []) := by
  have C1 := C0
  obtain ⟨hx, hb, hr, hml, hown, hts, hX, hbl, hlocks, hgv⟩ := C0
  have hA : ∀ q : Nat, s.heap.size ≤ q → (fun q : Nat => s.heap.size ≤ q) q := fun _ h => h
  have hbA : ¬ (fun q : Nat => s.heap.size ≤ q) b := Nat.not_le.mpr hbl
  have F : CallFix p m c cL_law 7 s #[Value.ref b] bw_T RL := ⟨hx, hb, hml, hown, fun w h => hts w (List.mem_filter.mp h).1⟩
  have hP := bw_subP (isC := [0, 14]) (wc := [(x, .inr (8, [.int 0, .int 0, .ref (q 0), .ref (q 1), .ref (q 2), .ref (q 3), .ref (q 4), .ref (q 5), .ref (q 6), .ref (q 7), .ref (q 8), .ref (q 9), .ref (q 10), .ref (q 11)])), (y, .inr (9, [.int 0, .ref (qm 0), .int 0, .int 0, .int 0, .int 0, .int 0, .int 0, .int 0, .int 0, .int (-1), .int 0, .ref (qm 1), .int 0, .int 0, .ref (qm 2), .ref (qm 3), .ref (qm 4), .ref (qm 5), .ref (qm 6), .ref (qm 7), .ref (qm 8), .ref (qm 9), .ref (qm 10), .ref (qm 11), .ref (qm 12), .ref (qm 13), .ref (qm 14), .ref (qm 15), .ref (qm 16), .int 0, .int 0, .int 0, .int 0, .int 0, .int 0, .ref (qm 17), .ref (qm 18), .ref (qm 19), .ref (qm 20)]))]) hP rfl
  have hD := hD.sub (ws' := [(x, .inr (8, [.int 0, .int 0, .ref (q 0), .ref (q 1), .ref (q 2), .ref (q 3), .ref (q 4), .ref (q 5), .ref (q 6), .ref (q 7), .ref (q 8), .ref (q 9), .ref (q 10), .ref (q 11)])), (y, .inr (9, [.int 0, .ref (qm 0), .int 0, .int 0, .int 0, .int 0, .int 0, .int 0, .int 0, .int 0, .int (-1), .int 0, .ref (qm 1), .int 0, .int 0, .ref (qm 2), .ref (qm 3), .ref (qm 4), .ref (qm 5), .ref (qm 6), .ref (qm 7), .ref (qm 8), .ref (qm 9), .ref (qm 10), .ref (qm 11), .ref (qm 12), .ref (qm 13), .ref (qm 14), .ref (qm 15), .ref (qm 16), .int 0, .int 0, .int 0, .int 0, .int 0, .int 0, .ref (qm 17), .ref (qm 18), .ref (qm 19), .ref (qm 20)]))]) [0, 14] (by decide) rfl
  refine lv_aload_n hx hb dL_law_629 rfl (lv_at hl 3 rfl) ?_
  refine lv_aload_n hx hb dL_law_630 rfl (lv_at hl 4 rfl) ?_
  refine lv_iload hx hb dL_law_631 (lv_at hl 0 rfl) ?_
  refine lv_iconst (v := 1) hx hb dL_law_633 (by decide) ?_
  refine r_iadd (v := 1) F dL_law_634 (by decide) ?_
  refine va_sld hx hb hX hbl hbA hS (bw_vin (by decide)) dL_law_635 ?_
  refine lv_aload_n hx hb dL_law_636 rfl (lv_at hl 4 rfl) ?_
  refine lv_iload hx hb dL_law_637 (lv_at hl 0 rfl) ?_
  refine lv_iconst (v := 2) hx hb dL_law_639 (by decide) ?_
  refine r_iadd (v := 2) F dL_law_640 (by decide) ?_
  refine va_sld hx hb hX hbl hbA hS (bw_vin (by decide)) dL_law_641 ?_
  refine r_callVi (As := [.int (xs (Int32.toNatClampNeg 1)), .int (xs (Int32.toNatClampNeg 2))]) (rest := []) (wr := [(y, .inr (9, [.int 0, .ref (qm 0), .int 0, .int 0, .int 0, .int 0, .int 0, .int 0, .int 0, .int 0, .int (-1), .int 0, .ref (qm 1), .int 0, .int 0, .ref (qm 2), .ref (qm 3), .ref (qm 4), .ref (qm 5), .ref (qm 6), .ref (qm 7), .ref (qm 8), .ref (qm 9), .ref (qm 10), .ref (qm 11), .ref (qm 12), .ref (qm 13), .ref (qm 14), .ref (qm 15), .ref (qm 16), .int 0, .int 0, .int 0, .int 0, .int 0, .int 0, .ref (qm 17), .ref (qm 18), .ref (qm 19), .ref (qm 20)]))]) F hK hP hD hS hA hO hE (c_X8_parted hO x q (xs (Int32.toNatClampNeg 1)) (xs (Int32.toNatClampNeg 2))) k_747 kv_X8_parted 2 rfl (by decide +kernel) ⟨Nat.le_of_ble_eq_true rfl, Nat.le_of_ble_eq_true rfl⟩ [0] [1] rfl rfl (by decide) (by decide) (by decide) 0 8 rfl rfl rfl hl.1 rfl (Nat.le_of_ble_eq_true rfl) dL_law_642 ⟨Nat.le_of_ble_eq_true rfl, Nat.le_of_ble_eq_true rfl⟩ (w1 := fun u1 => [(y, .inr (9, [.int 0, .ref (qm 0), .int 0, .int 0, .int 0, .int 0, .int 0, .int 0, .int 0, .int 0, .int (-1), .int 0, .ref (qm 1), .int 0, .int 0, .ref (qm 2), .ref (qm 3), .ref (qm 4), .ref (qm 5), .ref (qm 6), .ref (qm 7), .ref (qm 8), .ref (qm 9), .ref (qm 10), .ref (qm 11), .ref (qm 12), .ref (qm 13), .ref (qm 14), .ref (qm 15), .ref (qm 16), .int 0, .int 0, .int 0, .int 0, .int 0, .int 0, .ref (qm 17), .ref (qm 18), .ref (qm 19), .ref (qm 20)]))]) (fun _ => rfl) (fun r2 u1 H locs hp hP hD hS => ?_)
  subst hp
  refine lv_aload_n hx hb dL_law_645 rfl (lv_at hl 2 rfl) ?_
  refine lv_aload_n hx hb dL_law_646 rfl (lv_at hl 4 rfl) ?_
  refine lv_iload hx hb dL_law_647 (lv_at hl 0 rfl) ?_
  refine lv_iconst (v := 1) hx hb dL_law_649 (by decide) ?_
  refine r_iadd (v := 1) F dL_law_650 (by decide) ?_
  refine va_sld hx hb hX hbl hbA hS (bw_vin (by decide)) dL_law_651 ?_
  refine lv_aload_n hx hb dL_law_652 rfl (lv_at hl 4 rfl) ?_
  refine lv_iload hx hb dL_law_653 (lv_at hl 0 rfl) ?_
  refine lv_iconst (v := 2) hx hb dL_law_655 (by decide) ?_
  refine r_iadd (v := 2) F dL_law_656 (by decide) ?_
  refine va_sld hx hb hX hbl hbA hS (bw_vin (by decide)) dL_law_657 ?_
  refine r_callVi (As := [.int (xs (Int32.toNatClampNeg 1)), .int (xs (Int32.toNatClampNeg 2))]) (rest := [.int (-1)]) (wr := []) F hK hP hD hS hA hO hE (c_X9_parted hO y qm (xs (Int32.toNatClampNeg 1)) (xs (Int32.toNatClampNeg 2))) k_1508 kv_X9_parted 2 rfl (by decide +kernel) ⟨Nat.le_of_ble_eq_true rfl, Nat.le_of_ble_eq_true rfl⟩ [0] [] rfl rfl (by decide) (by decide) (by decide) 0 9 rfl rfl rfl hl.1 rfl (Nat.le_of_ble_eq_true rfl) dL_law_658 ⟨Nat.le_of_ble_eq_true rfl, Nat.le_of_ble_eq_true rfl⟩ (w1 := fun u3 => []) (fun _ => rfl) (fun r4 u3 H locs hp hP hD hS => ?_)
  subst hp
  refine lv_icmp_eq (tgt := 1483) hx hb dL_law_661 (by decide) (fun _ => ?_) (fun h9 => absurd rfl h9)
  exact lc_end C1 hS (Nat.le_of_ble_eq_true rfl) (Nat.le_of_ble_eq_true rfl) (lv_sub hl [0, 4] rfl)
theorem dL_law_666 : decode cL_law 666 = .ok (.aload_n 1, 1) := by decide +kernel
theorem dL_law_667 : decode cL_law 667 = .ok (.invokevirtual 80, 3) := by decide +kernel
theorem k_766 : Cond.methodLink RL 80 yX8_mark ∈ bw_T := bw_m 766 (by decide +kernel) rfl
theorem kv_X8_mark : bw_KV RX8 yX8_mark (Cond.code yX8_mark cX8_mark 1 (some .int)) := ⟨bw_m 767 (by decide +kernel) rfl, bw_m 768 (by decide +kernel) rfl, bw_m 94 (by decide +kernel) rfl, bw_m 769 (by decide +kernel) rfl⟩
theorem dL_law_670 : decode cL_law 670 = .ok (.aload_n 2, 1) := by decide +kernel
theorem dL_law_671 : decode cL_law 671 = .ok (.invokevirtual 83, 3) := by decide +kernel
theorem k_1518 : Cond.methodLink RL 83 yX9_mark ∈ bw_T := bw_m 1518 (by decide +kernel) rfl
theorem kv_X9_mark : bw_KV RX9 yX9_mark (Cond.code yX9_mark cX9_mark 2 (some .int)) := ⟨bw_m 1519 (by decide +kernel) rfl, bw_m 1520 (by decide +kernel) rfl, bw_m 107 (by decide +kernel) rfl, bw_m 1521 (by decide +kernel) rfl⟩
theorem dL_law_674 : decode cL_law 674 = .ok (.if_icmp .eq 809, 3) := by decide +kernel
set_option maxRecDepth 100000 in
set_option maxHeartbeats 4000000 in
theorem lc_14 {p : Program} {l : Launch} {e : Env} {s : State} {m : MethodId} {below : List Frame} {meth : Method} {c : Code} {b : Nat} {xs : Nat → Int32} (C0 : lw_At p s m meth c b 6 xs) {E : (Nat → Prop) → State → Prop} (hO : bw_Ok E) {G : va_G} {cI cB cJ cN cW : ClassId} (hK : va_K G vwCl (bw_kt cI cB cJ cN cW) s) (hE : E (fun q : Nat => s.heap.size ≤ q) s) (x y o : Nat) (q qm : Nat → Nat) (f : Nat → Nat → Int32) {H : Heap} {locs : List Loc} (hP : va_P G vwCl (lc_W cI cB cJ x y o q qm f) H) (hD : va_D (fun q : Nat => s.heap.size ≤ q) (lc_W cI cB cJ x y o q qm f)) (hS : va_S (fun q : Nat => s.heap.size ≤ q) s.heap H locs) {ls : Array Slot} (hl : lv_has ls 7 [(4, .int 0), (3, .ref o), (2, .ref y), (1, .ref x), (0, .ref b)]) : W p l e room_1 s m #[Value.ref b] below meth c H locs 163 8733 (lw_Z below #[Value.ref b] s) (F0 m 666 ls []) := by
  have C1 := C0
  obtain ⟨hx, hb, hr, hml, hown, hts, hX, hbl, hlocks, hgv⟩ := C0
  have hA : ∀ q : Nat, s.heap.size ≤ q → (fun q : Nat => s.heap.size ≤ q) q := fun _ h => h
  have hbA : ¬ (fun q : Nat => s.heap.size ≤ q) b := Nat.not_le.mpr hbl
  have F : CallFix p m c cL_law 7 s #[Value.ref b] bw_T RL := ⟨hx, hb, hml, hown, fun w h => hts w (List.mem_filter.mp h).1⟩
  have hP := bw_subP (isC := [0, 14]) (wc := [(x, .inr (8, [.int 0, .int 0, .ref (q 0), .ref (q 1), .ref (q 2), .ref (q 3), .ref (q 4), .ref (q 5), .ref (q 6), .ref (q 7), .ref (q 8), .ref (q 9), .ref (q 10), .ref (q 11)])), (y, .inr (9, [.int 0, .ref (qm 0), .int 0, .int 0, .int 0, .int 0, .int 0, .int 0, .int 0, .int 0, .int (-1), .int 0, .ref (qm 1), .int 0, .int 0, .ref (qm 2), .ref (qm 3), .ref (qm 4), .ref (qm 5), .ref (qm 6), .ref (qm 7), .ref (qm 8), .ref (qm 9), .ref (qm 10), .ref (qm 11), .ref (qm 12), .ref (qm 13), .ref (qm 14), .ref (qm 15), .ref (qm 16), .int 0, .int 0, .int 0, .int 0, .int 0, .int 0, .ref (qm 17), .ref (qm 18), .ref (qm 19), .ref (qm 20)]))]) hP rfl
  have hD := hD.sub (ws' := [(x, .inr (8, [.int 0, .int 0, .ref (q 0), .ref (q 1), .ref (q 2), .ref (q 3), .ref (q 4), .ref (q 5), .ref (q 6), .ref (q 7), .ref (q 8), .ref (q 9), .ref (q 10), .ref (q 11)])), (y, .inr (9, [.int 0, .ref (qm 0), .int 0, .int 0, .int 0, .int 0, .int 0, .int 0, .int 0, .int 0, .int (-1), .int 0, .ref (qm 1), .int 0, .int 0, .ref (qm 2), .ref (qm 3), .ref (qm 4), .ref (qm 5), .ref (qm 6), .ref (qm 7), .ref (qm 8), .ref (qm 9), .ref (qm 10), .ref (qm 11), .ref (qm 12), .ref (qm 13), .ref (qm 14), .ref (qm 15), .ref (qm 16), .int 0, .int 0, .int 0, .int 0, .int 0, .int 0, .ref (qm 17), .ref (qm 18), .ref (qm 19), .ref (qm 20)]))]) [0, 14] (by decide) rfl
  refine lv_aload_n hx hb dL_law_666 rfl (lv_at hl 3 rfl) ?_
  refine r_callVi (As := []) (rest := []) (wr := [(y, .inr (9, [.int 0, .ref (qm 0), .int 0, .int 0, .int 0, .int 0, .int 0, .int 0, .int 0, .int 0, .int (-1), .int 0, .ref (qm 1), .int 0, .int 0, .ref (qm 2), .ref (qm 3), .ref (qm 4), .ref (qm 5), .ref (qm 6), .ref (qm 7), .ref (qm 8), .ref (qm 9), .ref (qm 10), .ref (qm 11), .ref (qm 12), .ref (qm 13), .ref (qm 14), .ref (qm 15), .ref (qm 16), .int 0, .int 0, .int 0, .int 0, .int 0, .int 0, .ref (qm 17), .ref (qm 18), .ref (qm 19), .ref (qm 20)]))]) F hK hP hD hS hA hO hE (c_X8_mark hO x q) k_766 kv_X8_mark 0 rfl (by decide +kernel) ⟨Nat.le_of_ble_eq_true rfl, Nat.le_of_ble_eq_true rfl⟩ [0] [1] rfl rfl (by decide) (by decide) (by decide) 0 8 rfl rfl rfl hl.1 rfl (Nat.le_of_ble_eq_true rfl) dL_law_667 ⟨Nat.le_of_ble_eq_true rfl, Nat.le_of_ble_eq_true rfl⟩ (w1 := fun u1 => [(y, .inr (9, [.int 0, .ref (qm 0), .int 0, .int 0, .int 0, .int 0, .int 0, .int 0, .int 0, .int 0, .int (-1), .int 0, .ref (qm 1), .int 0, .int 0, .ref (qm 2), .ref (qm 3), .ref (qm 4), .ref (qm 5), .ref (qm 6), .ref (qm 7), .ref (qm 8), .ref (qm 9), .ref (qm 10), .ref (qm 11), .ref (qm 12), .ref (qm 13), .ref (qm 14), .ref (qm 15), .ref (qm 16), .int 0, .int 0, .int 0, .int 0, .int 0, .int 0, .ref (qm 17), .ref (qm 18), .ref (qm 19), .ref (qm 20)]))]) (fun _ => rfl) (fun r2 u1 H locs hp hP hD hS => ?_)
  subst hp
  refine lv_aload_n hx hb dL_law_670 rfl (lv_at hl 2 rfl) ?_
  refine r_callVi (As := []) (rest := [.int (-1)]) (wr := []) F hK hP hD hS hA hO hE (c_X9_mark hO y qm) k_1518 kv_X9_mark 0 rfl (by decide +kernel) ⟨Nat.le_of_ble_eq_true rfl, Nat.le_of_ble_eq_true rfl⟩ [0] [] rfl rfl (by decide) (by decide) (by decide) 0 9 rfl rfl rfl hl.1 rfl (Nat.le_of_ble_eq_true rfl) dL_law_671 ⟨Nat.le_of_ble_eq_true rfl, Nat.le_of_ble_eq_true rfl⟩ (w1 := fun u3 => []) (fun _ => rfl) (fun r4 u3 H locs hp hP hD hS => ?_)
  subst hp
  refine lv_icmp_eq (tgt := 1483) hx hb dL_law_674 (by decide) (fun _ => ?_) (fun h9 => absurd rfl h9)
  exact lc_end C1 hS (Nat.le_of_ble_eq_true rfl) (Nat.le_of_ble_eq_true rfl) (lv_sub hl [0, 4] rfl)
