theorem dL_law_305 : decode cL_law 305 = .ok (.aload_n 1, 1) := bo_43 (by decide +kernel)
theorem dL_law_306 : decode cL_law 306 = .ok (.aload_n 0, 1) := bo_42 (by decide +kernel)
theorem dL_law_307 : decode cL_law 307 = .ok (.iload 4, 2) := bo_21 (by decide +kernel)
theorem dL_law_309 : decode cL_law 309 = .ok (.iconst 1, 1) := bo_4 (by decide +kernel)
theorem dL_law_310 : decode cL_law 310 = .ok (.iadd, 1) := bo_96 (by decide +kernel)
theorem dL_law_311 : decode cL_law 311 = .ok (.iaload, 1) := bo_46 (by decide +kernel)
theorem dL_law_312 : decode cL_law 312 = .ok (.invokevirtual 24, 3) := bo_182 0 24 (by decide +kernel)
theorem k_546 : Cond.methodLink RL 24 yX8_program ∈ bw_T := bw_m 546 (by decide +kernel) rfl
theorem kv_X8_program : bw_KV RX8 yX8_program (Cond.code yX8_program cX8_program 2 (some .int)) := ⟨bw_m 547 (by decide +kernel) rfl, bw_m 548 (by decide +kernel) rfl, bw_m 94 (by decide +kernel) rfl, bw_m 549 (by decide +kernel) rfl⟩
theorem dL_law_315 : decode cL_law 315 = .ok (.pop, 1) := bo_87 (by decide +kernel)
theorem dL_law_316 : decode cL_law 316 = .ok (.aload_n 2, 1) := bo_44 (by decide +kernel)
theorem dL_law_317 : decode cL_law 317 = .ok (.aload_n 0, 1) := bo_42 (by decide +kernel)
theorem dL_law_318 : decode cL_law 318 = .ok (.iload 4, 2) := bo_21 (by decide +kernel)
theorem dL_law_320 : decode cL_law 320 = .ok (.iconst 1, 1) := bo_4 (by decide +kernel)
theorem dL_law_321 : decode cL_law 321 = .ok (.iadd, 1) := bo_96 (by decide +kernel)
theorem dL_law_322 : decode cL_law 322 = .ok (.iaload, 1) := bo_46 (by decide +kernel)
theorem dL_law_323 : decode cL_law 323 = .ok (.invokevirtual 27, 3) := bo_182 0 27 (by decide +kernel)
theorem k_1292 : Cond.methodLink RL 27 yX9_program ∈ bw_T := bw_m 1292 (by decide +kernel) rfl
theorem kv_X9_program : bw_KV RX9 yX9_program (Cond.code yX9_program cX9_program 3 (some .int)) := ⟨bw_m 1293 (by decide +kernel) rfl, bw_m 1294 (by decide +kernel) rfl, bw_m 107 (by decide +kernel) rfl, bw_m 1295 (by decide +kernel) rfl⟩
theorem dL_law_326 : decode cL_law 326 = .ok (.pop, 1) := bo_87 (by decide +kernel)
theorem dL_law_327 : decode cL_law 327 = .ok (.goto 1156, 3) := bo_167 4 132 (by decide +kernel)
set_option maxRecDepth 100000 in
set_option maxHeartbeats 8000000 in
theorem lc_1 {p : Program} {l : Launch} {e : Env} {s : State} {m : MethodId} {below : List Frame} {meth : Method} {c : Code} {b : Nat} {xs : Nat → Int32} {L : Nat} (C0 : lw_At p s m meth c b L xs) (hL9 : L ≤ 3072) {E : (Nat → Prop) → State → Prop} (hO : bw_Ok E) {sa va : Nat → Nat} {fb : Nat → Nat → Int32} (hWd : bw_Words E sa va fb) (hWb : ∀ j, j < 15 → ∀ k, k < wlen j → fb j k = zI (wch j k)) (hst : l.stackTraces = false) {sth : Nat} (hTh : bw_Thr E sth) {G : va_G} (cI cB cJ cN cW : ClassId) (x y o : Nat) (Q qN qK : Nat → Nat → Nat) (qm : Nat → Nat) (hK : va_K G vwCl (bw_kt cI cB cJ cN cW) s) (hE : E (fun q : Nat => s.heap.size ≤ q) s) (n : Nat) (hn : n + 6 ≤ L) (t : Int) (ld : Int) (i1 : Nat → Int) (g1 : Nat → Nat → Int) (n2 : Int) (g2 : Nat → Nat → Int) (n3 : Int) (g3 : Nat → Nat → Int) (n4 : Int) (g4 : Nat → Nat → Int) (n5 : Int) (g5 : Nat → Nat → Int) (n6 : Int) (g6 : Nat → Nat → Int) (n7 : Int) (g7 : Nat → Nat → Int) (i8 : Nat → Int) (g8 : Nat → Nat → Int) (i9 : Nat → Int) (g9 : Nat → Nat → Int) (i10 : Nat → Int) (g10 : Nat → Nat → Int) (i11 : Nat → Int) (g11 : Nat → Nat → Int) (i12 : Nat → Int) (g12 : Nat → Nat → Int) (i13 : Nat → Int) (g13 : Nat → Nat → Int) (g14 : Nat → Nat → Int) (n15 : Int) (nN : Nat → Int) (gN : Nat → Nat → Nat → Int) (iK : Nat → Nat → Int) (gK : Nat → Nat → Nat → Int) (i : Nat → Int) (a0 : Nat → Int) (a1 : Nat → Int) (a2 : Nat → Int) (a3 : Nat → Int) (a4 : Nat → Int) (a5 : Nat → Int) (a6 : Nat → Int) (a7 : Nat → Int) (a8 : Nat → Int) (a9 : Nat → Int) (a10 : Nat → Int) (a11 : Nat → Int) (a12 : Nat → Int) (a13 : Nat → Int) (a14 : Nat → Int) (a15 : Nat → Int) (a16 : Nat → Int) (a17 : Nat → Int) (a18 : Nat → Int) (a19 : Nat → Int) (a20 : Nat → Int) (go : Nat → Int) (hF : lw_F (1000 * (n : Int)) t ld i1 g1 n2 g2 n3 g3 n4 g4 n5 g5 n6 g6 n7 g7 i8 g8 i9 g9 i10 g10 i11 g11 i12 g12 i13 g13 g14 n15 nN gN iK gK) (hMm : lw_M i a0 a1 a2 a3 a4 a5 a6 a7 a8 a9 a10 a11 a12 a13 a14 a15 a16 a17 a18 a19 a20) (hT : ((i1 0 = i 1 ∧ lw_X t ld i1 g1 n15 i a0) ∧ lw_N n4 g4 n5 g5 n7 g7 i8 g8 i11 g11 n15 nN gN iK gK i a3 a4 a6 a11 a13 a16)) {H : Heap} {locs : List Loc} {ls : Array Slot} (hP : va_P G vwCl (lw_W cI cB cJ cN cW x y o Q qN qK qm t ld i1 g1 n2 g2 n3 g3 n4 g4 n5 g5 n6 g6 n7 g7 i8 g8 i9 g9 i10 g10 i11 g11 i12 g12 i13 g13 g14 n15 nN gN iK gK i a0 a1 a2 a3 a4 a5 a6 a7 a8 a9 a10 a11 a12 a13 a14 a15 a16 a17 a18 a19 a20 go) H) (hD : va_D (fun q : Nat => s.heap.size ≤ q) (lw_W cI cB cJ cN cW x y o Q qN qK qm t ld i1 g1 n2 g2 n3 g3 n4 g4 n5 g5 n6 g6 n7 g7 i8 g8 i9 g9 i10 g10 i11 g11 i12 g12 i13 g13 g14 n15 nN gN iK gK i a0 a1 a2 a3 a4 a5 a6 a7 a8 a9 a10 a11 a12 a13 a14 a15 a16 a17 a18 a19 a20 go)) (hS : va_S (fun q : Nat => s.heap.size ≤ q) s.heap H locs) (hl : lv_has ls 7 [(4, .int (zI (n : Int))), (3, .ref o), (2, .ref y), (1, .ref x), (0, .ref b)]) (IH : lw_End p l e s m below meth c b G cI cB cJ cN cW x y o Q qN qK qm n) : W p l e room_1 s m #[Value.ref b] below meth c H locs (163 + n) (8733 + 6 * n) (lw_Z below #[Value.ref b] s) (F0 m 305 ls []) := by
  have C1 := C0
  obtain ⟨hx, hb, hr, hml, hown, hts, hX, hbl, hlocks, hgv⟩ := C0
  have hA : ∀ q : Nat, s.heap.size ≤ q → (fun q : Nat => s.heap.size ≤ q) q := fun _ h => h
  have hbA : ¬ (fun q : Nat => s.heap.size ≤ q) b := Nat.not_le.mpr hbl
  have F : CallFix p m c cL_law 7 s #[Value.ref b] bw_T RL := ⟨hx, hb, hml, hown, fun w h => hts w (List.mem_filter.mp h).1⟩
  obtain ⟨ht, hL, h1, h2, h3, h4, h5, h6, h7, h8, h9, h10, h11, h12, h13, h14, h15, hN, hK4, hk, hkK⟩ := hF
  obtain ⟨hM, r0, r1, r11, r12, r17, r18, hpn, hpt, hsr, hkp⟩ := hMm
  obtain ⟨⟨hT1, hI1, hI2, hI3, hI4⟩, hNn⟩ := hT
  have hNq := hNn
  obtain ⟨⟨⟨hm1, hm3, hm5⟩, hm7, hm8⟩, ⟨hm2, hm4, hm6⟩, hm9, hm10, hm11⟩ := hNq
  have hm5n : LN a3 n5 := by rw [hm3]; exact hm5
  obtain ⟨e1, he1, hy1⟩ := zI_of (xs (n + 1))
  refine lv_aload_n hx hb dL_law_305 rfl (lv_at hl 3 rfl) ?_
  refine lw_arg (j := 1) F hX hbl hbA hS (lv_at hl 4 rfl) (lv_at hl 0 rfl) (by decide) hy1 (by omega) hL9 dL_law_306 dL_law_307 dL_law_309 dL_law_310 dL_law_311 ?_
  refine lw_callV (As := [.int (zI e1)]) (rest := []) F hK hP hD hS hA hO hE (c_X8z_program hO x (Q 0) t ld hL ht (Q 1) i1 g1 h1 (Q 2) n2 g2 h2 (Q 3) n3 g3 h3 (Q 4) n4 g4 h4 (Q 5) n5 g5 h5 (Q 7) n7 g7 h7 (Q 15) n15 h15 (Q 8) i8 g8 h8 (Q 11) i11 g11 h11 (Q 13) i13 g13 h13 (Q 14) g14 h14 e1 he1 (by omega) a0 hI1.1 hI1.2 (zer a2 200) a12 (fun k hk => zer_in hk)) k_546 kv_X8_program 1 rfl (by decide +kernel) ⟨Nat.le_of_ble_eq_true rfl, Nat.le_of_ble_eq_true rfl⟩ [0, 1, 2, 3, 4, 5, 6, 7, 8, 9, 10, 11, 12, 13, 14, 15, 16, 17, 18, 19, 20, 21, 22, 23, 24, 25, 26, 27, 28, 29, 30, 31, 32, 33, 43, 44, 81, 45, 46, 47, 48, 49, 60, 61, 62, 63, 64, 70, 71, 72, 73, 74, 75, 76, 77, 78, 79, 80] rfl (by decide) (fun _ => rfl) 0 8 rfl rfl rfl hl.1 rfl (Nat.le_of_ble_eq_true rfl) dL_law_312 (lw_hf (by omega) (Nat.le_of_ble_eq_true rfl) (Nat.le_of_ble_eq_true rfl)) [some 0, some 1, some 2, some 3, some 4, some 5, some 6, some 7, some 8, some 9, some 10, some 11, some 12, some 13, some 14, some 15, some 16, some 17, some 18, some 19, some 20, some 21, some 22, some 23, some 24, some 25, some 26, some 27, some 28, some 29, some 30, some 31, some 32, some 33, none, none, none, none, none, none, none, none, none, some 34, some 35, some 37, some 38, some 39, some 40, some 41, none, none, none, none, none, none, none, none, none, none, some 42, some 43, some 44, some 45, some 46, none, none, none, none, none, some 47, some 48, some 49, some 50, some 51, some 52, some 53, some 54, some 55, some 56, some 57, some 36, none, none, none, none, none, none, none, none, none, none, none, none, none, none, none, none, none, none, none, none, none, none, none, none, none, none, none, none, none, none, none, none, none, none, none, none, none, none, none, none, none, none, none, none, none, none, none, none, none, none, none, none, none, none, none, none, none, none, none, none, none, none, none, none, none, none, none, none, none, none, none, none, none, none, none, none, none, none, none, none, none] 163 (by decide +kernel) (w1 := fun u1 => lw_W cI cB cJ cN cW x y o Q qN qK qm ((u1 0).1 0) ((u1 0).1 1) ((u1 1).1) ((u1 1).2) ((u1 2).1 0) ((u1 2).2) ((u1 3).1 0) ((u1 3).2) ((u1 4).1 0) ((u1 4).2) ((u1 5).1 0) ((u1 5).2) n6 g6 ((u1 6).1 0) ((u1 6).2) ((u1 8).1) ((u1 8).2) i9 g9 i10 g10 ((u1 9).1) ((u1 9).2) i12 g12 ((u1 10).1) ((u1 10).2) ((u1 11).2) ((u1 7).1 0) nN gN iK gK i a0 a1 a2 a3 a4 a5 a6 a7 a8 a9 a10 a11 a12 a13 a14 a15 a16 a17 a18 a19 a20 go) (fun _ => rfl) (fun rv1 u1 H locs hp1 hP hD hS => ?_)
  obtain ⟨z1, rfl, hz1⟩ := hp1
  have ht1 : 0 ≤ (u1 0).1 0 ∧ (u1 0).1 0 ≤ 6 := hz1.1.1
  have hL1 : (u1 0).1 1 = 0 ∨ (u1 0).1 1 = 1 := hz1.1.2
  have hx1 := (⟨hz1.2.2.2.2.2.2.2.2.2.2.2.2.1, hz1.2.2.2.2.2.2.2.2.2.2.2.2.2.1⟩ : _ ∧ _)
  have hx1n := hz1.2.2.2.2.2.2.2.2.2.2.2.2.2.2
  refine lv_pop hx hb dL_law_315 rfl ?_
  refine lv_aload_n hx hb dL_law_316 rfl (lv_at hl 2 rfl) ?_
  refine lw_arg (j := 1) F hX hbl hbA hS (lv_at hl 4 rfl) (lv_at hl 0 rfl) (by decide) hy1 (by omega) hL9 dL_law_317 dL_law_318 dL_law_320 dL_law_321 dL_law_322 ?_
  refine lw_callV (As := [.int (zI e1)]) (rest := []) F hK hP hD hS hA hO hE (c_X9_programN hO y qm i hM a0 r0 a1 r1 a2 a3 a4 a7 a8 a9 a10 a11 r11 a12 r12 a13 e1 he1 hWd hpn hpt hsr (g1 2) hWb) k_1292 kv_X9_program 1 rfl (by decide +kernel) ⟨Nat.le_of_ble_eq_true rfl, Nat.le_of_ble_eq_true rfl⟩ [140, 141, 142, 143, 144, 145, 148, 149, 150, 151, 152, 153, 154] rfl (by decide) (fun _ => rfl) 0 9 rfl rfl rfl hl.1 rfl (Nat.le_of_ble_eq_true rfl) dL_law_323 (lw_hf2 (by omega) (Nat.le_of_ble_eq_true rfl) (Nat.le_of_ble_eq_true rfl) (Nat.le_of_ble_eq_true rfl) (Nat.le_of_ble_eq_true rfl)) [none, none, none, none, none, none, none, none, none, none, none, none, none, none, none, none, none, none, none, none, none, none, none, none, none, none, none, none, none, none, none, none, none, none, none, none, none, none, none, none, none, none, none, none, none, none, none, none, none, none, none, none, none, none, none, none, none, none, none, none, none, none, none, none, none, none, none, none, none, none, none, none, none, none, none, none, none, none, none, none, none, none, none, none, none, none, none, none, none, none, none, none, none, none, none, none, none, none, none, none, none, none, none, none, none, none, none, none, none, none, none, none, none, none, none, none, none, none, none, none, none, none, none, none, none, none, none, none, none, none, none, none, none, none, none, none, none, none, none, none, some 0, some 1, some 2, some 3, some 4, some 5, none, none, some 6, some 7, some 8, some 9, some 10, some 11, some 12, none, none, none, none, none, none, none, none] 163 (by decide +kernel) (w1 := fun u2 => lw_W cI cB cJ cN cW x y o Q qN qK qm ((u1 0).1 0) ((u1 0).1 1) ((u1 1).1) ((u1 1).2) ((u1 2).1 0) ((u1 2).2) ((u1 3).1 0) ((u1 3).2) ((u1 4).1 0) ((u1 4).2) ((u1 5).1 0) ((u1 5).2) n6 g6 ((u1 6).1 0) ((u1 6).2) ((u1 8).1) ((u1 8).2) i9 g9 i10 g10 ((u1 9).1) ((u1 9).2) i12 g12 ((u1 10).1) ((u1 10).2) ((u1 11).2) ((u1 7).1 0) nN gN iK gK ((u2 0).1) a0 ((u2 1).2 0) ((u2 2).2 0) ((u2 3).2 0) ((u2 4).2 0) a5 a6 ((u2 5).2 0) ((u2 6).2 0) ((u2 7).2 0) ((u2 8).2 0) ((u2 9).2 0) ((u2 10).2 0) ((u2 11).2 0) a14 a15 a16 a17 a18 a19 a20 go) (fun _ => rfl) (fun rv2 u2 H locs hp2 hP hD hS => ?_)
  obtain ⟨z2, rfl, hz2⟩ := hp2
  have hx2 := hz2.2.2.2.2.1
  have hx3 := hz2.2.2.2.2.2.2.2.2
  have hpr : z1 = z2 ∧ ((u1 1).2 0 = g1 0 ∧ (u1 1).2 1 = g1 1) ∧ ((u1 1).1 1 = (u2 0).1 8 ∧ (u1 0).1 1 = (u2 0).1 12 ∧ (u1 7).1 0 = (u2 0).1 17) ∧ ((u1 0).1 0 = 4 ↔ (u2 0).1 10 = 4) ∧ ((u1 0).1 0 = 4 → (u1 1).1 2 = (u2 0).1 9) := by
    rcases hx1.2 with ⟨a1, a2, a3, a4, a5⟩ | ⟨a1, a2, a3, a4, a5⟩ | ⟨a1, a2, a3, a4, P9, A9, a5, -⟩
    · rcases hx3 with ⟨b1, b2, b3, b4⟩ | ⟨b1, b2, b3, k1, k2, k3, k4, k5, k6, b5⟩ | ⟨b1, b2, b3, nm9, b4, b5⟩
      · exact ⟨by omega, ⟨a4, a5⟩, by omega, by omega, fun q9 => absurd q9 (by omega)⟩
      · exact absurd b1 (by omega)
      · exact absurd b1 (by omega)
    · rcases hx3 with ⟨b1, b2, b3, b4⟩ | ⟨b1, b2, b3, k1, k2, k3, k4, k5, k6, b5⟩ | ⟨b1, b2, b3, nm9, b4, b5⟩
      · exact absurd a1 (by omega)
      · have q1 := Sum.inl.inj (a5.symm.trans b5)
        have q2 : (u1 1).1 1 = (u2 0).1 8 := congrArg Prod.fst q1
        have q3 : (u1 1).1 2 = (u2 0).1 9 := congrArg Prod.snd q1
        exact ⟨by omega, a4, by omega, by omega, fun _ => q3⟩
      · exact absurd (a5.symm.trans b4) (by intro q; cases q)
    · rcases hx3 with ⟨b1, b2, b3, b4⟩ | ⟨b1, b2, b3, k1, k2, k3, k4, k5, k6, b5⟩ | ⟨b1, b2, b3, nm9, b4, b5⟩
      · exact absurd a1 (by omega)
      · exact absurd (a5.symm.trans b5) (by intro q; cases q)
      · have q1 := Sum.inr.inj (a5.symm.trans b4)
        have q2 : (u1 5).1 0 = (u2 0).1 13 := congrArg (fun s : RSt => s.1.1) q1
        exact ⟨by omega, a4, by omega, by omega, fun q9 => absurd q9 (by omega)⟩
  have hx4n : (z2 = -1 ∧ ((u2 0).1 12 = i 12 ∧ (u2 0).1 13 = i 13 ∧ (u2 0).1 15 = i 15) ∧ ((u2 3).2 0) = a3 ∧ ((u2 4).2 0) = a4 ∧ ((u2 9).2 0) = a11 ∧ ((u2 11).2 0) = a13) ∨ (((0 ≤ e1 ∧ e1 ≤ i 1) ∧ (u2 0).1 12 = 1) ∧ 0 ≤ z2 ∧ ∃ nm9 : Nat → Int, readS a0 e1 901 ((0, g1 2), zer a2 200, (0, a12)) 0 = .inr (((u2 0).1 13, nm9), ((u2 2).2 0), ((u2 0).1 15, ((u2 10).2 0))) ∧ (∀ k : Nat, k < 200 → ((u2 3).2 0) k = ((u2 2).2 0) k) ∧ (∀ k : Nat, k < 200 → ((u2 4).2 0) k = ((u2 2).2 0) k) ∧ (∀ k : Nat, k < 30 → ((u2 9).2 0) k = ((u2 10).2 0) k) ∧ E9 (begF ((u2 3).2 0) 0 0 0 0) ((u2 11).2 0)) := by
    rcases hx3 with ⟨b1, b2, b3, k1, k2, k3, k4, k5, k6⟩ | ⟨b1, b2, b3, k1, k2, k3, k4, k5, k6, b5⟩ | ⟨b1, b2, b3, nm9, b4, c1, c2, c3, c4⟩
    · exact Or.inl ⟨b2, by omega, k1, k2, k3, k4⟩
    · exact Or.inl ⟨b2, by omega, k1, k2, k3, k4⟩
    · exact Or.inr ⟨⟨b1, by omega⟩, by omega, nm9, b4, c1, c2, c3, c4⟩
  refine lv_pop hx hb dL_law_326 rfl ?_
  refine lv_goto (tgt := 1483) hx hb dL_law_327 (by decide) ?_
  refine W.widen (k := 164 + n) (n := 8739 + 6 * n) (lw_cl (Nat.le_of_ble_eq_true rfl)) (lw_sl (Nat.le_of_ble_eq_true rfl)) ?_
  exact IH ((u1 0).1 0) ((u1 0).1 1) ((u1 1).1) ((u1 1).2) ((u1 2).1 0) ((u1 2).2) ((u1 3).1 0) ((u1 3).2) ((u1 4).1 0) ((u1 4).2) ((u1 5).1 0) ((u1 5).2) n6 g6 ((u1 6).1 0) ((u1 6).2) ((u1 8).1) ((u1 8).2) i9 g9 i10 g10 ((u1 9).1) ((u1 9).2) i12 g12 ((u1 10).1) ((u1 10).2) ((u1 11).2) ((u1 7).1 0) nN gN iK gK ((u2 0).1) a0 ((u2 1).2 0) ((u2 2).2 0) ((u2 3).2 0) ((u2 4).2 0) a5 a6 ((u2 5).2 0) ((u2 6).2 0) ((u2 7).2 0) ((u2 8).2 0) ((u2 9).2 0) ((u2 10).2 0) ((u2 11).2 0) a14 a15 a16 a17 a18 a19 a20 go H locs ls ⟨ht1, hL1, hz1.2.1, hz1.2.2.1, hz1.2.2.2.1, hz1.2.2.2.2.1, hz1.2.2.2.2.2.1, h6, hz1.2.2.2.2.2.2.1, hz1.2.2.2.2.2.2.2.2.1, h9, h10, hz1.2.2.2.2.2.2.2.2.2.1, h12, hz1.2.2.2.2.2.2.2.2.2.2.1, hz1.2.2.2.2.2.2.2.2.2.2.2.1, hz1.2.2.2.2.2.2.2.1, hN, hK4, (show (u1 8).1 1 ≤ 1000 * (n : Int) + 1000 from by omega), (fun j hj => by have h9 := hkK j hj; omega)⟩ ⟨hz2.1, r0, hz2.2.1, hz2.2.2.1, hz2.2.2.2.1, r17, r18, hz2.2.2.2.2.2.1, hz2.2.2.2.2.2.2.1, hz2.2.2.2.2.2.2.2.1, hkp⟩ ⟨⟨(show ((u1 1).1) 0 = ((u2 0).1) 1 from by omega), ⟨(by rw [hpr.2.1.1]; exact hI1.1), fun j hj => by rw [hpr.2.1.2]; exact hI1.2 j hj⟩, hpr.2.2.1, hpr.2.2.2.1, hpr.2.2.2.2⟩, (lw_N.prog (g1 := g1) (x := e1) hNn (by rw [hT1]) hz1.2.2.2.2.1 hz1.2.2.2.2.2.1 (by omega) hx1n hx4n (by have q8 := hpr.1; omega) hz2.2.2.2.2.2.1)⟩ hP hD hS hl
