theorem dL_law_568 : decode cL_law 568 = .ok (.aload_n 1, 1) := bo_43 (by decide +kernel)
theorem dL_law_569 : decode cL_law 569 = .ok (.aload_n 0, 1) := bo_42 (by decide +kernel)
theorem dL_law_570 : decode cL_law 570 = .ok (.iload 4, 2) := bo_21 (by decide +kernel)
theorem dL_law_572 : decode cL_law 572 = .ok (.iconst 1, 1) := bo_4 (by decide +kernel)
theorem dL_law_573 : decode cL_law 573 = .ok (.iadd, 1) := bo_96 (by decide +kernel)
theorem dL_law_574 : decode cL_law 574 = .ok (.iaload, 1) := bo_46 (by decide +kernel)
theorem dL_law_575 : decode cL_law 575 = .ok (.aload_n 0, 1) := bo_42 (by decide +kernel)
theorem dL_law_576 : decode cL_law 576 = .ok (.iload 4, 2) := bo_21 (by decide +kernel)
theorem dL_law_578 : decode cL_law 578 = .ok (.iconst 2, 1) := bo_5 (by decide +kernel)
theorem dL_law_579 : decode cL_law 579 = .ok (.iadd, 1) := bo_96 (by decide +kernel)
theorem dL_law_580 : decode cL_law 580 = .ok (.iaload, 1) := bo_46 (by decide +kernel)
theorem dL_law_581 : decode cL_law 581 = .ok (.aload_n 0, 1) := bo_42 (by decide +kernel)
theorem dL_law_582 : decode cL_law 582 = .ok (.iload 4, 2) := bo_21 (by decide +kernel)
theorem dL_law_584 : decode cL_law 584 = .ok (.iconst 3, 1) := bo_6 (by decide +kernel)
theorem dL_law_585 : decode cL_law 585 = .ok (.iadd, 1) := bo_96 (by decide +kernel)
theorem dL_law_586 : decode cL_law 586 = .ok (.iaload, 1) := bo_46 (by decide +kernel)
theorem dL_law_587 : decode cL_law 587 = .ok (.aload_n 0, 1) := bo_42 (by decide +kernel)
theorem dL_law_588 : decode cL_law 588 = .ok (.iload 4, 2) := bo_21 (by decide +kernel)
theorem dL_law_590 : decode cL_law 590 = .ok (.iconst 4, 1) := bo_7 (by decide +kernel)
theorem dL_law_591 : decode cL_law 591 = .ok (.iadd, 1) := bo_96 (by decide +kernel)
theorem dL_law_592 : decode cL_law 592 = .ok (.iaload, 1) := bo_46 (by decide +kernel)
theorem dL_law_593 : decode cL_law 593 = .ok (.invokevirtual 70, 3) := bo_182 0 70 (by decide +kernel)
theorem k_743 : Cond.methodLink RL 70 yX8_answer ∈ bw_T := bw_m 743 (by decide +kernel) rfl
theorem kv_X8_answer : bw_KV RX8 yX8_answer (Cond.code yX8_answer cX8_answer 5 (some .int)) := ⟨bw_m 744 (by decide +kernel) rfl, bw_m 745 (by decide +kernel) rfl, bw_m 94 (by decide +kernel) rfl, bw_m 746 (by decide +kernel) rfl⟩
theorem dL_law_596 : decode cL_law 596 = .ok (.pop, 1) := bo_87 (by decide +kernel)
theorem dL_law_597 : decode cL_law 597 = .ok (.aload_n 2, 1) := bo_44 (by decide +kernel)
theorem dL_law_598 : decode cL_law 598 = .ok (.aload_n 0, 1) := bo_42 (by decide +kernel)
theorem dL_law_599 : decode cL_law 599 = .ok (.iload 4, 2) := bo_21 (by decide +kernel)
theorem dL_law_601 : decode cL_law 601 = .ok (.iconst 1, 1) := bo_4 (by decide +kernel)
theorem dL_law_602 : decode cL_law 602 = .ok (.iadd, 1) := bo_96 (by decide +kernel)
theorem dL_law_603 : decode cL_law 603 = .ok (.iaload, 1) := bo_46 (by decide +kernel)
theorem dL_law_604 : decode cL_law 604 = .ok (.aload_n 0, 1) := bo_42 (by decide +kernel)
theorem dL_law_605 : decode cL_law 605 = .ok (.iload 4, 2) := bo_21 (by decide +kernel)
theorem dL_law_607 : decode cL_law 607 = .ok (.iconst 2, 1) := bo_5 (by decide +kernel)
theorem dL_law_608 : decode cL_law 608 = .ok (.iadd, 1) := bo_96 (by decide +kernel)
theorem dL_law_609 : decode cL_law 609 = .ok (.iaload, 1) := bo_46 (by decide +kernel)
theorem dL_law_610 : decode cL_law 610 = .ok (.aload_n 0, 1) := bo_42 (by decide +kernel)
theorem dL_law_611 : decode cL_law 611 = .ok (.iload 4, 2) := bo_21 (by decide +kernel)
theorem dL_law_613 : decode cL_law 613 = .ok (.iconst 3, 1) := bo_6 (by decide +kernel)
theorem dL_law_614 : decode cL_law 614 = .ok (.iadd, 1) := bo_96 (by decide +kernel)
theorem dL_law_615 : decode cL_law 615 = .ok (.iaload, 1) := bo_46 (by decide +kernel)
theorem dL_law_616 : decode cL_law 616 = .ok (.aload_n 0, 1) := bo_42 (by decide +kernel)
theorem dL_law_617 : decode cL_law 617 = .ok (.iload 4, 2) := bo_21 (by decide +kernel)
theorem dL_law_619 : decode cL_law 619 = .ok (.iconst 4, 1) := bo_7 (by decide +kernel)
theorem dL_law_620 : decode cL_law 620 = .ok (.iadd, 1) := bo_96 (by decide +kernel)
theorem dL_law_621 : decode cL_law 621 = .ok (.iaload, 1) := bo_46 (by decide +kernel)
theorem dL_law_622 : decode cL_law 622 = .ok (.invokevirtual 74, 3) := bo_182 0 74 (by decide +kernel)
theorem k_1500 : Cond.methodLink RL 74 yX9_answer ∈ bw_T := bw_m 1500 (by decide +kernel) rfl
theorem kv_X9_answer : bw_KV RX9 yX9_answer (Cond.code yX9_answer cX9_answer 6 (some .int)) := ⟨bw_m 1501 (by decide +kernel) rfl, bw_m 1502 (by decide +kernel) rfl, bw_m 107 (by decide +kernel) rfl, bw_m 1503 (by decide +kernel) rfl⟩
theorem dL_law_625 : decode cL_law 625 = .ok (.pop, 1) := bo_87 (by decide +kernel)
theorem dL_law_626 : decode cL_law 626 = .ok (.goto 829, 3) := bo_167 3 61 (by decide +kernel)
set_option maxRecDepth 100000 in
set_option maxHeartbeats 8000000 in
theorem lc_12 {p : Program} {l : Launch} {e : Env} {s : State} {m : MethodId} {below : List Frame} {meth : Method} {c : Code} {b : Nat} {xs : Nat → Int32} {L : Nat} (C0 : lw_At p s m meth c b L xs) (hL9 : L ≤ 3072) {E : (Nat → Prop) → State → Prop} (hO : bw_Ok E) {sa va : Nat → Nat} {fb : Nat → Nat → Int32} (hWd : bw_Words E sa va fb) (hWb : ∀ j, j < 15 → ∀ k, k < wlen j → fb j k = zI (wch j k)) (hst : l.stackTraces = false) {sth : Nat} (hTh : bw_Thr E sth) {G : va_G} (cI cB cJ cN cW : ClassId) (x y o : Nat) (Q qN qK : Nat → Nat → Nat) (qm : Nat → Nat) (hK : va_K G vwCl (bw_kt cI cB cJ cN cW) s) (hE : E (fun q : Nat => s.heap.size ≤ q) s) (n : Nat) (hn : n + 6 ≤ L) (t : Int) (ld : Int) (i1 : Nat → Int) (g1 : Nat → Nat → Int) (n2 : Int) (g2 : Nat → Nat → Int) (n3 : Int) (g3 : Nat → Nat → Int) (n4 : Int) (g4 : Nat → Nat → Int) (n5 : Int) (g5 : Nat → Nat → Int) (n6 : Int) (g6 : Nat → Nat → Int) (n7 : Int) (g7 : Nat → Nat → Int) (i8 : Nat → Int) (g8 : Nat → Nat → Int) (i9 : Nat → Int) (g9 : Nat → Nat → Int) (i10 : Nat → Int) (g10 : Nat → Nat → Int) (i11 : Nat → Int) (g11 : Nat → Nat → Int) (i12 : Nat → Int) (g12 : Nat → Nat → Int) (i13 : Nat → Int) (g13 : Nat → Nat → Int) (g14 : Nat → Nat → Int) (n15 : Int) (nN : Nat → Int) (gN : Nat → Nat → Nat → Int) (iK : Nat → Nat → Int) (gK : Nat → Nat → Nat → Int) (i : Nat → Int) (a0 : Nat → Int) (a1 : Nat → Int) (a2 : Nat → Int) (a3 : Nat → Int) (a4 : Nat → Int) (a5 : Nat → Int) (a6 : Nat → Int) (a7 : Nat → Int) (a8 : Nat → Int) (a9 : Nat → Int) (a10 : Nat → Int) (a11 : Nat → Int) (a12 : Nat → Int) (a13 : Nat → Int) (a14 : Nat → Int) (a15 : Nat → Int) (a16 : Nat → Int) (a17 : Nat → Int) (a18 : Nat → Int) (a19 : Nat → Int) (a20 : Nat → Int) (go : Nat → Int) (hF : lw_F (1000 * (n : Int)) t ld i1 g1 n2 g2 n3 g3 n4 g4 n5 g5 n6 g6 n7 g7 i8 g8 i9 g9 i10 g10 i11 g11 i12 g12 i13 g13 g14 n15 nN gN iK gK) (hMm : lw_M i a0 a1 a2 a3 a4 a5 a6 a7 a8 a9 a10 a11 a12 a13 a14 a15 a16 a17 a18 a19 a20) (hT : (((i1 0 = i 1 ∧ lw_X t ld i1 g1 n15 i a0) ∧ lw_N n4 g4 n5 g5 n7 g7 i8 g8 i11 g11 n15 nN gN iK gK i a3 a4 a6 a11 a13 a16) ∧ TrC a3 n5.toNat i13 g13)) {H : Heap} {locs : List Loc} {ls : Array Slot} (hP : va_P G vwCl (lw_W cI cB cJ cN cW x y o Q qN qK qm t ld i1 g1 n2 g2 n3 g3 n4 g4 n5 g5 n6 g6 n7 g7 i8 g8 i9 g9 i10 g10 i11 g11 i12 g12 i13 g13 g14 n15 nN gN iK gK i a0 a1 a2 a3 a4 a5 a6 a7 a8 a9 a10 a11 a12 a13 a14 a15 a16 a17 a18 a19 a20 go) H) (hD : va_D (fun q : Nat => s.heap.size ≤ q) (lw_W cI cB cJ cN cW x y o Q qN qK qm t ld i1 g1 n2 g2 n3 g3 n4 g4 n5 g5 n6 g6 n7 g7 i8 g8 i9 g9 i10 g10 i11 g11 i12 g12 i13 g13 g14 n15 nN gN iK gK i a0 a1 a2 a3 a4 a5 a6 a7 a8 a9 a10 a11 a12 a13 a14 a15 a16 a17 a18 a19 a20 go)) (hS : va_S (fun q : Nat => s.heap.size ≤ q) s.heap H locs) (hl : lv_has ls 7 [(4, .int (zI (n : Int))), (3, .ref o), (2, .ref y), (1, .ref x), (0, .ref b)]) (IH : lw_End p l e s m below meth c b G cI cB cJ cN cW x y o Q qN qK qm n) : W p l e room_1 s m #[Value.ref b] below meth c H locs (163 + n) (8733 + 6 * n) (lw_Z below #[Value.ref b] s) (F0 m 568 ls []) := by
  have C1 := C0
  obtain ⟨hx, hb, hr, hml, hown, hts, hX, hbl, hlocks, hgv⟩ := C0
  have hA : ∀ q : Nat, s.heap.size ≤ q → (fun q : Nat => s.heap.size ≤ q) q := fun _ h => h
  have hbA : ¬ (fun q : Nat => s.heap.size ≤ q) b := Nat.not_le.mpr hbl
  have F : CallFix p m c cL_law 7 s #[Value.ref b] bw_T RL := ⟨hx, hb, hml, hown, fun w h => hts w (List.mem_filter.mp h).1⟩
  obtain ⟨ht, hL, h1, h2, h3, h4, h5, h6, h7, h8, h9, h10, h11, h12, h13, h14, h15, hN, hK4, hk, hkK⟩ := hF
  obtain ⟨hM, r0, r1, r11, r12, r17, r18, hpn, hpt, hsr, hkp⟩ := hMm
  obtain ⟨⟨⟨hT1, hI1, hI2, hI3, hI4⟩, hNn⟩, hTr⟩ := hT
  have hNq := hNn
  obtain ⟨⟨⟨hm1, hm3, hm5, hm5d⟩, hm7, hm8⟩, ⟨hm2, hm4, hm6⟩, hm9, hm10, hm11⟩ := hNq
  have hm5n : LN a3 n5 := by rw [hm3]; exact hm5
  have hm5dn : DN a3 n5 := by rw [hm3]; exact hm5d
  obtain ⟨e1, he1, hy1⟩ := zI_of (xs (n + 1))
  obtain ⟨e2, he2, hy2⟩ := zI_of (xs (n + 2))
  obtain ⟨e3, he3, hy3⟩ := zI_of (xs (n + 3))
  obtain ⟨e4, he4, hy4⟩ := zI_of (xs (n + 4))
  refine lv_aload_n hx hb dL_law_568 rfl (lv_at hl 3 rfl) ?_
  refine lw_arg (j := 1) F hX hbl hbA hS (lv_at hl 4 rfl) (lv_at hl 0 rfl) (by decide) hy1 (by omega) hL9 dL_law_569 dL_law_570 dL_law_572 dL_law_573 dL_law_574 ?_
  refine lw_arg (j := 2) F hX hbl hbA hS (lv_at hl 4 rfl) (lv_at hl 0 rfl) (by decide) hy2 (by omega) hL9 dL_law_575 dL_law_576 dL_law_578 dL_law_579 dL_law_580 ?_
  refine lw_arg (j := 3) F hX hbl hbA hS (lv_at hl 4 rfl) (lv_at hl 0 rfl) (by decide) hy3 (by omega) hL9 dL_law_581 dL_law_582 dL_law_584 dL_law_585 dL_law_586 ?_
  refine lw_arg (j := 4) F hX hbl hbA hS (lv_at hl 4 rfl) (lv_at hl 0 rfl) (by decide) hy4 (by omega) hL9 dL_law_587 dL_law_588 dL_law_590 dL_law_591 dL_law_592 ?_
  refine lw_callV (As := [.int (zI e1), .int (zI e2), .int (zI e3), .int (zI e4)]) (rest := []) F hK hP hD hS hA hO hE (c_X8_answer hO x (Q 0) t ld hL ht (Q 5) n5 g5 h5 (Q 9) i9 g9 h9 e1 e2 e3 e4 he1 he2 he3 he4) k_743 kv_X8_answer 4 rfl (by decide +kernel) ⟨Nat.le_of_ble_eq_true rfl, Nat.le_of_ble_eq_true rfl⟩ [0, 25, 26, 27, 28, 29, 30, 31, 32, 33, 50, 51, 52, 53, 54] rfl (by decide) (fun _ => rfl) 0 8 rfl rfl rfl hl.1 rfl (Nat.le_of_ble_eq_true rfl) dL_law_593 (lw_hf (by omega) (Nat.le_of_ble_eq_true rfl) (Nat.le_of_ble_eq_true rfl)) [some 0, none, none, none, none, none, none, none, none, none, none, none, none, none, none, none, none, none, none, none, none, none, none, none, none, some 1, some 2, some 3, some 4, some 5, some 6, some 7, some 8, some 9, none, none, none, none, none, none, none, none, none, none, none, none, none, none, none, none, some 10, some 11, some 12, some 13, some 14, none, none, none, none, none, none, none, none, none, none, none, none, none, none, none, none, none, none, none, none, none, none, none, none, none, none, none, none, none, none, none, none, none, none, none, none, none, none, none, none, none, none, none, none, none, none, none, none, none, none, none, none, none, none, none, none, none, none, none, none, none, none, none, none, none, none, none, none, none, none, none, none, none, none, none, none, none, none, none, none, none, none, none, none, none, none, none, none, none, none, none, none, none, none, none, none, none, none, none, none, none, none, none, none, none, none, none, none] 163 (by decide +kernel) (w1 := fun u1 => lw_W cI cB cJ cN cW x y o Q qN qK qm ((u1 0).1 0) ((u1 0).1 1) i1 g1 n2 g2 n3 g3 n4 g4 n5 g5 n6 g6 n7 g7 i8 g8 ((u1 1).1) ((u1 1).2) i10 g10 i11 g11 i12 g12 i13 g13 g14 n15 nN gN iK gK i a0 a1 a2 a3 a4 a5 a6 a7 a8 a9 a10 a11 a12 a13 a14 a15 a16 a17 a18 a19 a20 go) (fun _ => rfl) (fun rv1 u1 H locs hp1 hP hD hS => ?_)
  obtain ⟨z1, rfl, hz1⟩ := hp1
  have ht1 : 0 ≤ (u1 0).1 0 ∧ (u1 0).1 0 ≤ 6 := hz1.1.1
  have hL1 : (u1 0).1 1 = 0 ∨ (u1 0).1 1 = 1 := hz1.1.2.1
  have hyq := hz1.1.2.2
  have hx1 := hz1.2.2
  refine lv_pop hx hb dL_law_596 rfl ?_
  refine lv_aload_n hx hb dL_law_597 rfl (lv_at hl 2 rfl) ?_
  refine lw_arg (j := 1) F hX hbl hbA hS (lv_at hl 4 rfl) (lv_at hl 0 rfl) (by decide) hy1 (by omega) hL9 dL_law_598 dL_law_599 dL_law_601 dL_law_602 dL_law_603 ?_
  refine lw_arg (j := 2) F hX hbl hbA hS (lv_at hl 4 rfl) (lv_at hl 0 rfl) (by decide) hy2 (by omega) hL9 dL_law_604 dL_law_605 dL_law_607 dL_law_608 dL_law_609 ?_
  refine lw_arg (j := 3) F hX hbl hbA hS (lv_at hl 4 rfl) (lv_at hl 0 rfl) (by decide) hy3 (by omega) hL9 dL_law_610 dL_law_611 dL_law_613 dL_law_614 dL_law_615 ?_
  refine lw_arg (j := 4) F hX hbl hbA hS (lv_at hl 4 rfl) (lv_at hl 0 rfl) (by decide) hy4 (by omega) hL9 dL_law_616 dL_law_617 dL_law_619 dL_law_620 dL_law_621 ?_
  refine lw_callV (As := [.int (zI e1), .int (zI e2), .int (zI e3), .int (zI e4)]) (rest := []) F hK hP hD hS hA hO hE (c_X9_answer hO y qm i hM a3 a14 e1 e2 e3 e4 he1 he2 he3 he4 hpn) k_1500 kv_X9_answer 4 rfl (by decide +kernel) ⟨Nat.le_of_ble_eq_true rfl, Nat.le_of_ble_eq_true rfl⟩ [140, 144, 155] rfl (by decide) (fun _ => rfl) 0 9 rfl rfl rfl hl.1 rfl (Nat.le_of_ble_eq_true rfl) dL_law_622 (lw_hf2 (by omega) (Nat.le_of_ble_eq_true rfl) (Nat.le_of_ble_eq_true rfl) (Nat.le_of_ble_eq_true rfl) (Nat.le_of_ble_eq_true rfl)) [none, none, none, none, none, none, none, none, none, none, none, none, none, none, none, none, none, none, none, none, none, none, none, none, none, none, none, none, none, none, none, none, none, none, none, none, none, none, none, none, none, none, none, none, none, none, none, none, none, none, none, none, none, none, none, none, none, none, none, none, none, none, none, none, none, none, none, none, none, none, none, none, none, none, none, none, none, none, none, none, none, none, none, none, none, none, none, none, none, none, none, none, none, none, none, none, none, none, none, none, none, none, none, none, none, none, none, none, none, none, none, none, none, none, none, none, none, none, none, none, none, none, none, none, none, none, none, none, none, none, none, none, none, none, none, none, none, none, none, none, some 0, none, none, none, some 1, none, none, none, none, none, none, none, none, none, none, some 2, none, none, none, none, none, none, none] 163 (by decide +kernel) (w1 := fun u2 => lw_W cI cB cJ cN cW x y o Q qN qK qm ((u1 0).1 0) ((u1 0).1 1) i1 g1 n2 g2 n3 g3 n4 g4 n5 g5 n6 g6 n7 g7 i8 g8 ((u1 1).1) ((u1 1).2) i10 g10 i11 g11 i12 g12 i13 g13 g14 n15 nN gN iK gK ((u2 0).1) a0 a1 a2 a3 a4 a5 a6 a7 a8 a9 a10 a11 a12 a13 ((u2 1).2 0) a15 a16 a17 a18 a19 a20 go) (fun _ => rfl) (fun rv2 u2 H locs hp2 hP hD hS => ?_)
  obtain ⟨z2, rfl, hz2⟩ := hp2
  have hx2 := hz2.2
  refine lv_pop hx hb dL_law_625 rfl ?_
  refine lv_goto (tgt := 1455) hx hb dL_law_626 (by decide) ?_
  refine W.widen (k := 164 + n) (n := 8739 + 6 * n) (lw_cl (Nat.le_of_ble_eq_true rfl)) (lw_sl (Nat.le_of_ble_eq_true rfl)) ?_
  exact IH ((u1 0).1 0) ((u1 0).1 1) i1 g1 n2 g2 n3 g3 n4 g4 n5 g5 n6 g6 n7 g7 i8 g8 ((u1 1).1) ((u1 1).2) i10 g10 i11 g11 i12 g12 i13 g13 g14 n15 nN gN iK gK ((u2 0).1) a0 a1 a2 a3 a4 a5 a6 a7 a8 a9 a10 a11 a12 a13 ((u2 1).2 0) a15 a16 a17 a18 a19 a20 go H locs ls ⟨ht1, hL1, h1, h2, h3, h4, h5, h6, h7, h8, hz1.2.1, h10, h11, h12, h13, h14, h15, hN, hK4, (show i8 1 ≤ 1000 * (n : Int) + 1000 from by omega), (fun j hj => by have h9 := hkK j hj; omega)⟩ ⟨hz2.1, r0, r1, r11, r12, r17, r18, hpn, hpt, hsr, hkp⟩ ⟨⟨⟨(show i1 0 = ((u2 0).1) 1 from by omega), ⟨hI1.1, hI1.2⟩, (show i1 1 = ((u2 0).1) 8 ∧ ((u1 0).1 1) = ((u2 0).1) 12 ∧ n15 = ((u2 0).1) 17 from by omega), (show ((u1 0).1 0) = 4 ↔ ((u2 0).1) 10 = 4 from by omega), (show ((u1 0).1 0) = 4 → i1 2 = ((u2 0).1) 9 from fun q9 => absurd q9 (by omega))⟩, (lw_N.ii hNn (show ((u2 0).1) 12 = i 12 ∧ ((u2 0).1) 13 = i 13 ∧ ((u2 0).1) 15 = i 15 from by omega))⟩, hTr⟩ hP hD hS hl
theorem dL_law_629 : decode cL_law 629 = .ok (.aload_n 1, 1) := bo_43 (by decide +kernel)
theorem dL_law_630 : decode cL_law 630 = .ok (.aload_n 0, 1) := bo_42 (by decide +kernel)
theorem dL_law_631 : decode cL_law 631 = .ok (.iload 4, 2) := bo_21 (by decide +kernel)
theorem dL_law_633 : decode cL_law 633 = .ok (.iconst 1, 1) := bo_4 (by decide +kernel)
theorem dL_law_634 : decode cL_law 634 = .ok (.iadd, 1) := bo_96 (by decide +kernel)
theorem dL_law_635 : decode cL_law 635 = .ok (.iaload, 1) := bo_46 (by decide +kernel)
theorem dL_law_636 : decode cL_law 636 = .ok (.aload_n 0, 1) := bo_42 (by decide +kernel)
theorem dL_law_637 : decode cL_law 637 = .ok (.iload 4, 2) := bo_21 (by decide +kernel)
theorem dL_law_639 : decode cL_law 639 = .ok (.iconst 2, 1) := bo_5 (by decide +kernel)
theorem dL_law_640 : decode cL_law 640 = .ok (.iadd, 1) := bo_96 (by decide +kernel)
theorem dL_law_641 : decode cL_law 641 = .ok (.iaload, 1) := bo_46 (by decide +kernel)
theorem dL_law_642 : decode cL_law 642 = .ok (.invokevirtual 75, 3) := bo_182 0 75 (by decide +kernel)
theorem k_747 : Cond.methodLink RL 75 yX8_parted ∈ bw_T := bw_m 747 (by decide +kernel) rfl
theorem kv_X8_parted : bw_KV RX8 yX8_parted (Cond.code yX8_parted cX8_parted 3 (some .int)) := ⟨bw_m 748 (by decide +kernel) rfl, bw_m 749 (by decide +kernel) rfl, bw_m 94 (by decide +kernel) rfl, bw_m 750 (by decide +kernel) rfl⟩
theorem dL_law_645 : decode cL_law 645 = .ok (.pop, 1) := bo_87 (by decide +kernel)
theorem dL_law_646 : decode cL_law 646 = .ok (.aload_n 2, 1) := bo_44 (by decide +kernel)
theorem dL_law_647 : decode cL_law 647 = .ok (.aload_n 0, 1) := bo_42 (by decide +kernel)
theorem dL_law_648 : decode cL_law 648 = .ok (.iload 4, 2) := bo_21 (by decide +kernel)
theorem dL_law_650 : decode cL_law 650 = .ok (.iconst 1, 1) := bo_4 (by decide +kernel)
theorem dL_law_651 : decode cL_law 651 = .ok (.iadd, 1) := bo_96 (by decide +kernel)
theorem dL_law_652 : decode cL_law 652 = .ok (.iaload, 1) := bo_46 (by decide +kernel)
theorem dL_law_653 : decode cL_law 653 = .ok (.aload_n 0, 1) := bo_42 (by decide +kernel)
theorem dL_law_654 : decode cL_law 654 = .ok (.iload 4, 2) := bo_21 (by decide +kernel)
theorem dL_law_656 : decode cL_law 656 = .ok (.iconst 2, 1) := bo_5 (by decide +kernel)
theorem dL_law_657 : decode cL_law 657 = .ok (.iadd, 1) := bo_96 (by decide +kernel)
theorem dL_law_658 : decode cL_law 658 = .ok (.iaload, 1) := bo_46 (by decide +kernel)
theorem dL_law_659 : decode cL_law 659 = .ok (.invokevirtual 79, 3) := bo_182 0 79 (by decide +kernel)
theorem k_1504 : Cond.methodLink RL 79 yX9_parted ∈ bw_T := bw_m 1504 (by decide +kernel) rfl
theorem kv_X9_parted : bw_KV RX9 yX9_parted (Cond.code yX9_parted cX9_parted 4 (some .int)) := ⟨bw_m 1505 (by decide +kernel) rfl, bw_m 1506 (by decide +kernel) rfl, bw_m 107 (by decide +kernel) rfl, bw_m 1507 (by decide +kernel) rfl⟩
theorem dL_law_662 : decode cL_law 662 = .ok (.pop, 1) := bo_87 (by decide +kernel)
theorem dL_law_663 : decode cL_law 663 = .ok (.goto 792, 3) := bo_167 3 24 (by decide +kernel)
set_option maxRecDepth 100000 in
set_option maxHeartbeats 8000000 in
theorem lc_13 {p : Program} {l : Launch} {e : Env} {s : State} {m : MethodId} {below : List Frame} {meth : Method} {c : Code} {b : Nat} {xs : Nat → Int32} {L : Nat} (C0 : lw_At p s m meth c b L xs) (hL9 : L ≤ 3072) {E : (Nat → Prop) → State → Prop} (hO : bw_Ok E) {sa va : Nat → Nat} {fb : Nat → Nat → Int32} (hWd : bw_Words E sa va fb) (hWb : ∀ j, j < 15 → ∀ k, k < wlen j → fb j k = zI (wch j k)) (hst : l.stackTraces = false) {sth : Nat} (hTh : bw_Thr E sth) {G : va_G} (cI cB cJ cN cW : ClassId) (x y o : Nat) (Q qN qK : Nat → Nat → Nat) (qm : Nat → Nat) (hK : va_K G vwCl (bw_kt cI cB cJ cN cW) s) (hE : E (fun q : Nat => s.heap.size ≤ q) s) (n : Nat) (hn : n + 6 ≤ L) (t : Int) (ld : Int) (i1 : Nat → Int) (g1 : Nat → Nat → Int) (n2 : Int) (g2 : Nat → Nat → Int) (n3 : Int) (g3 : Nat → Nat → Int) (n4 : Int) (g4 : Nat → Nat → Int) (n5 : Int) (g5 : Nat → Nat → Int) (n6 : Int) (g6 : Nat → Nat → Int) (n7 : Int) (g7 : Nat → Nat → Int) (i8 : Nat → Int) (g8 : Nat → Nat → Int) (i9 : Nat → Int) (g9 : Nat → Nat → Int) (i10 : Nat → Int) (g10 : Nat → Nat → Int) (i11 : Nat → Int) (g11 : Nat → Nat → Int) (i12 : Nat → Int) (g12 : Nat → Nat → Int) (i13 : Nat → Int) (g13 : Nat → Nat → Int) (g14 : Nat → Nat → Int) (n15 : Int) (nN : Nat → Int) (gN : Nat → Nat → Nat → Int) (iK : Nat → Nat → Int) (gK : Nat → Nat → Nat → Int) (i : Nat → Int) (a0 : Nat → Int) (a1 : Nat → Int) (a2 : Nat → Int) (a3 : Nat → Int) (a4 : Nat → Int) (a5 : Nat → Int) (a6 : Nat → Int) (a7 : Nat → Int) (a8 : Nat → Int) (a9 : Nat → Int) (a10 : Nat → Int) (a11 : Nat → Int) (a12 : Nat → Int) (a13 : Nat → Int) (a14 : Nat → Int) (a15 : Nat → Int) (a16 : Nat → Int) (a17 : Nat → Int) (a18 : Nat → Int) (a19 : Nat → Int) (a20 : Nat → Int) (go : Nat → Int) (hF : lw_F (1000 * (n : Int)) t ld i1 g1 n2 g2 n3 g3 n4 g4 n5 g5 n6 g6 n7 g7 i8 g8 i9 g9 i10 g10 i11 g11 i12 g12 i13 g13 g14 n15 nN gN iK gK) (hMm : lw_M i a0 a1 a2 a3 a4 a5 a6 a7 a8 a9 a10 a11 a12 a13 a14 a15 a16 a17 a18 a19 a20) (hT : (((i1 0 = i 1 ∧ lw_X t ld i1 g1 n15 i a0) ∧ lw_N n4 g4 n5 g5 n7 g7 i8 g8 i11 g11 n15 nN gN iK gK i a3 a4 a6 a11 a13 a16) ∧ TrC a3 n5.toNat i13 g13)) {H : Heap} {locs : List Loc} {ls : Array Slot} (hP : va_P G vwCl (lw_W cI cB cJ cN cW x y o Q qN qK qm t ld i1 g1 n2 g2 n3 g3 n4 g4 n5 g5 n6 g6 n7 g7 i8 g8 i9 g9 i10 g10 i11 g11 i12 g12 i13 g13 g14 n15 nN gN iK gK i a0 a1 a2 a3 a4 a5 a6 a7 a8 a9 a10 a11 a12 a13 a14 a15 a16 a17 a18 a19 a20 go) H) (hD : va_D (fun q : Nat => s.heap.size ≤ q) (lw_W cI cB cJ cN cW x y o Q qN qK qm t ld i1 g1 n2 g2 n3 g3 n4 g4 n5 g5 n6 g6 n7 g7 i8 g8 i9 g9 i10 g10 i11 g11 i12 g12 i13 g13 g14 n15 nN gN iK gK i a0 a1 a2 a3 a4 a5 a6 a7 a8 a9 a10 a11 a12 a13 a14 a15 a16 a17 a18 a19 a20 go)) (hS : va_S (fun q : Nat => s.heap.size ≤ q) s.heap H locs) (hl : lv_has ls 7 [(4, .int (zI (n : Int))), (3, .ref o), (2, .ref y), (1, .ref x), (0, .ref b)]) (IH : lw_End p l e s m below meth c b G cI cB cJ cN cW x y o Q qN qK qm n) : W p l e room_1 s m #[Value.ref b] below meth c H locs (163 + n) (8733 + 6 * n) (lw_Z below #[Value.ref b] s) (F0 m 629 ls []) := by
  have C1 := C0
  obtain ⟨hx, hb, hr, hml, hown, hts, hX, hbl, hlocks, hgv⟩ := C0
  have hA : ∀ q : Nat, s.heap.size ≤ q → (fun q : Nat => s.heap.size ≤ q) q := fun _ h => h
  have hbA : ¬ (fun q : Nat => s.heap.size ≤ q) b := Nat.not_le.mpr hbl
  have F : CallFix p m c cL_law 7 s #[Value.ref b] bw_T RL := ⟨hx, hb, hml, hown, fun w h => hts w (List.mem_filter.mp h).1⟩
  obtain ⟨ht, hL, h1, h2, h3, h4, h5, h6, h7, h8, h9, h10, h11, h12, h13, h14, h15, hN, hK4, hk, hkK⟩ := hF
  obtain ⟨hM, r0, r1, r11, r12, r17, r18, hpn, hpt, hsr, hkp⟩ := hMm
  obtain ⟨⟨⟨hT1, hI1, hI2, hI3, hI4⟩, hNn⟩, hTr⟩ := hT
  have hNq := hNn
  obtain ⟨⟨⟨hm1, hm3, hm5, hm5d⟩, hm7, hm8⟩, ⟨hm2, hm4, hm6⟩, hm9, hm10, hm11⟩ := hNq
  have hm5n : LN a3 n5 := by rw [hm3]; exact hm5
  have hm5dn : DN a3 n5 := by rw [hm3]; exact hm5d
  obtain ⟨e1, he1, hy1⟩ := zI_of (xs (n + 1))
  obtain ⟨e2, he2, hy2⟩ := zI_of (xs (n + 2))
  refine lv_aload_n hx hb dL_law_629 rfl (lv_at hl 3 rfl) ?_
  refine lw_arg (j := 1) F hX hbl hbA hS (lv_at hl 4 rfl) (lv_at hl 0 rfl) (by decide) hy1 (by omega) hL9 dL_law_630 dL_law_631 dL_law_633 dL_law_634 dL_law_635 ?_
  refine lw_arg (j := 2) F hX hbl hbA hS (lv_at hl 4 rfl) (lv_at hl 0 rfl) (by decide) hy2 (by omega) hL9 dL_law_636 dL_law_637 dL_law_639 dL_law_640 dL_law_641 ?_
  refine lw_callV (As := [.int (zI e1), .int (zI e2)]) (rest := []) F hK hP hD hS hA hO hE (c_X8_parted hO x (Q 0) t ld hL ht (Q 5) n5 g5 h5 (Q 9) i9 g9 h9 (Q 10) i10 g10 h10 e1 e2 he1 he2) k_747 kv_X8_parted 2 rfl (by decide +kernel) ⟨Nat.le_of_ble_eq_true rfl, Nat.le_of_ble_eq_true rfl⟩ [0, 25, 26, 27, 28, 29, 30, 31, 32, 33, 50, 51, 52, 53, 54, 55, 56, 57, 58, 59] rfl (by decide) (fun _ => rfl) 0 8 rfl rfl rfl hl.1 rfl (Nat.le_of_ble_eq_true rfl) dL_law_642 (lw_hf (by omega) (Nat.le_of_ble_eq_true rfl) (Nat.le_of_ble_eq_true rfl)) [some 0, none, none, none, none, none, none, none, none, none, none, none, none, none, none, none, none, none, none, none, none, none, none, none, none, some 1, some 2, some 3, some 4, some 5, some 6, some 7, some 8, some 9, none, none, none, none, none, none, none, none, none, none, none, none, none, none, none, none, some 10, some 11, some 12, some 13, some 14, some 15, some 16, some 17, some 18, some 19, none, none, none, none, none, none, none, none, none, none, none, none, none, none, none, none, none, none, none, none, none, none, none, none, none, none, none, none, none, none, none, none, none, none, none, none, none, none, none, none, none, none, none, none, none, none, none, none, none, none, none, none, none, none, none, none, none, none, none, none, none, none, none, none, none, none, none, none, none, none, none, none, none, none, none, none, none, none, none, none, none, none, none, none, none, none, none, none, none, none, none, none, none, none, none, none, none, none, none, none, none, none, none] 163 (by decide +kernel) (w1 := fun u1 => lw_W cI cB cJ cN cW x y o Q qN qK qm ((u1 0).1 0) ((u1 0).1 1) i1 g1 n2 g2 n3 g3 n4 g4 n5 g5 n6 g6 n7 g7 i8 g8 ((u1 1).1) ((u1 1).2) ((u1 2).1) ((u1 2).2) i11 g11 i12 g12 i13 g13 g14 n15 nN gN iK gK i a0 a1 a2 a3 a4 a5 a6 a7 a8 a9 a10 a11 a12 a13 a14 a15 a16 a17 a18 a19 a20 go) (fun _ => rfl) (fun rv1 u1 H locs hp1 hP hD hS => ?_)
  obtain ⟨z1, rfl, hz1⟩ := hp1
  have ht1 : 0 ≤ (u1 0).1 0 ∧ (u1 0).1 0 ≤ 6 := hz1.1.1
  have hL1 : (u1 0).1 1 = 0 ∨ (u1 0).1 1 = 1 := hz1.1.2.1
  have hyq := hz1.1.2.2
  have hx1 := hz1.2.2.2
  refine lv_pop hx hb dL_law_645 rfl ?_
  refine lv_aload_n hx hb dL_law_646 rfl (lv_at hl 2 rfl) ?_
  refine lw_arg (j := 1) F hX hbl hbA hS (lv_at hl 4 rfl) (lv_at hl 0 rfl) (by decide) hy1 (by omega) hL9 dL_law_647 dL_law_648 dL_law_650 dL_law_651 dL_law_652 ?_
  refine lw_arg (j := 2) F hX hbl hbA hS (lv_at hl 4 rfl) (lv_at hl 0 rfl) (by decide) hy2 (by omega) hL9 dL_law_653 dL_law_654 dL_law_656 dL_law_657 dL_law_658 ?_
  refine lw_callV (As := [.int (zI e1), .int (zI e2)]) (rest := []) F hK hP hD hS hA hO hE (c_X9_parted hO y qm i hM a3 a14 a15 e1 e2 he1 he2 hpn) k_1504 kv_X9_parted 2 rfl (by decide +kernel) ⟨Nat.le_of_ble_eq_true rfl, Nat.le_of_ble_eq_true rfl⟩ [140, 144, 155, 156] rfl (by decide) (fun _ => rfl) 0 9 rfl rfl rfl hl.1 rfl (Nat.le_of_ble_eq_true rfl) dL_law_659 (lw_hf2 (by omega) (Nat.le_of_ble_eq_true rfl) (Nat.le_of_ble_eq_true rfl) (Nat.le_of_ble_eq_true rfl) (Nat.le_of_ble_eq_true rfl)) [none, none, none, none, none, none, none, none, none, none, none, none, none, none, none, none, none, none, none, none, none, none, none, none, none, none, none, none, none, none, none, none, none, none, none, none, none, none, none, none, none, none, none, none, none, none, none, none, none, none, none, none, none, none, none, none, none, none, none, none, none, none, none, none, none, none, none, none, none, none, none, none, none, none, none, none, none, none, none, none, none, none, none, none, none, none, none, none, none, none, none, none, none, none, none, none, none, none, none, none, none, none, none, none, none, none, none, none, none, none, none, none, none, none, none, none, none, none, none, none, none, none, none, none, none, none, none, none, none, none, none, none, none, none, none, none, none, none, none, none, some 0, none, none, none, some 1, none, none, none, none, none, none, none, none, none, none, some 2, some 3, none, none, none, none, none, none] 163 (by decide +kernel) (w1 := fun u2 => lw_W cI cB cJ cN cW x y o Q qN qK qm ((u1 0).1 0) ((u1 0).1 1) i1 g1 n2 g2 n3 g3 n4 g4 n5 g5 n6 g6 n7 g7 i8 g8 ((u1 1).1) ((u1 1).2) ((u1 2).1) ((u1 2).2) i11 g11 i12 g12 i13 g13 g14 n15 nN gN iK gK ((u2 0).1) a0 a1 a2 a3 a4 a5 a6 a7 a8 a9 a10 a11 a12 a13 ((u2 1).2 0) ((u2 2).2 0) a16 a17 a18 a19 a20 go) (fun _ => rfl) (fun rv2 u2 H locs hp2 hP hD hS => ?_)
  obtain ⟨z2, rfl, hz2⟩ := hp2
  have hx2 := hz2.2
  refine lv_pop hx hb dL_law_662 rfl ?_
  refine lv_goto (tgt := 1455) hx hb dL_law_663 (by decide) ?_
  refine W.widen (k := 164 + n) (n := 8739 + 6 * n) (lw_cl (Nat.le_of_ble_eq_true rfl)) (lw_sl (Nat.le_of_ble_eq_true rfl)) ?_
  exact IH ((u1 0).1 0) ((u1 0).1 1) i1 g1 n2 g2 n3 g3 n4 g4 n5 g5 n6 g6 n7 g7 i8 g8 ((u1 1).1) ((u1 1).2) ((u1 2).1) ((u1 2).2) i11 g11 i12 g12 i13 g13 g14 n15 nN gN iK gK ((u2 0).1) a0 a1 a2 a3 a4 a5 a6 a7 a8 a9 a10 a11 a12 a13 ((u2 1).2 0) ((u2 2).2 0) a16 a17 a18 a19 a20 go H locs ls ⟨ht1, hL1, h1, h2, h3, h4, h5, h6, h7, h8, hz1.2.1, hz1.2.2.1, h11, h12, h13, h14, h15, hN, hK4, (show i8 1 ≤ 1000 * (n : Int) + 1000 from by omega), (fun j hj => by have h9 := hkK j hj; omega)⟩ ⟨hz2.1, r0, r1, r11, r12, r17, r18, hpn, hpt, hsr, hkp⟩ ⟨⟨⟨(show i1 0 = ((u2 0).1) 1 from by omega), ⟨hI1.1, hI1.2⟩, (show i1 1 = ((u2 0).1) 8 ∧ ((u1 0).1 1) = ((u2 0).1) 12 ∧ n15 = ((u2 0).1) 17 from by omega), (show ((u1 0).1 0) = 4 ↔ ((u2 0).1) 10 = 4 from by omega), (show ((u1 0).1 0) = 4 → i1 2 = ((u2 0).1) 9 from fun q9 => absurd q9 (by omega))⟩, (lw_N.ii hNn (show ((u2 0).1) 12 = i 12 ∧ ((u2 0).1) 13 = i 13 ∧ ((u2 0).1) 15 = i 15 from by omega))⟩, hTr⟩ hP hD hS hl
theorem dL_law_666 : decode cL_law 666 = .ok (.aload_n 1, 1) := bo_43 (by decide +kernel)
theorem dL_law_667 : decode cL_law 667 = .ok (.invokevirtual 80, 3) := bo_182 0 80 (by decide +kernel)
theorem k_766 : Cond.methodLink RL 80 yX8_mark ∈ bw_T := bw_m 766 (by decide +kernel) rfl
theorem kv_X8_mark : bw_KV RX8 yX8_mark (Cond.code yX8_mark cX8_mark 1 (some .int)) := ⟨bw_m 767 (by decide +kernel) rfl, bw_m 768 (by decide +kernel) rfl, bw_m 94 (by decide +kernel) rfl, bw_m 769 (by decide +kernel) rfl⟩
theorem dL_law_670 : decode cL_law 670 = .ok (.pop, 1) := bo_87 (by decide +kernel)
theorem dL_law_671 : decode cL_law 671 = .ok (.aload_n 2, 1) := bo_44 (by decide +kernel)
theorem dL_law_672 : decode cL_law 672 = .ok (.invokevirtual 83, 3) := bo_182 0 83 (by decide +kernel)
theorem k_1514 : Cond.methodLink RL 83 yX9_mark ∈ bw_T := bw_m 1514 (by decide +kernel) rfl
theorem kv_X9_mark : bw_KV RX9 yX9_mark (Cond.code yX9_mark cX9_mark 2 (some .int)) := ⟨bw_m 1515 (by decide +kernel) rfl, bw_m 1516 (by decide +kernel) rfl, bw_m 107 (by decide +kernel) rfl, bw_m 1517 (by decide +kernel) rfl⟩
theorem dL_law_675 : decode cL_law 675 = .ok (.pop, 1) := bo_87 (by decide +kernel)
theorem dL_law_676 : decode cL_law 676 = .ok (.goto 779, 3) := bo_167 3 11 (by decide +kernel)
set_option maxRecDepth 100000 in
set_option maxHeartbeats 8000000 in
theorem lc_14 {p : Program} {l : Launch} {e : Env} {s : State} {m : MethodId} {below : List Frame} {meth : Method} {c : Code} {b : Nat} {xs : Nat → Int32} {L : Nat} (C0 : lw_At p s m meth c b L xs) (hL9 : L ≤ 3072) {E : (Nat → Prop) → State → Prop} (hO : bw_Ok E) {sa va : Nat → Nat} {fb : Nat → Nat → Int32} (hWd : bw_Words E sa va fb) (hWb : ∀ j, j < 15 → ∀ k, k < wlen j → fb j k = zI (wch j k)) (hst : l.stackTraces = false) {sth : Nat} (hTh : bw_Thr E sth) {G : va_G} (cI cB cJ cN cW : ClassId) (x y o : Nat) (Q qN qK : Nat → Nat → Nat) (qm : Nat → Nat) (hK : va_K G vwCl (bw_kt cI cB cJ cN cW) s) (hE : E (fun q : Nat => s.heap.size ≤ q) s) (n : Nat) (hn : n + 6 ≤ L) (t : Int) (ld : Int) (i1 : Nat → Int) (g1 : Nat → Nat → Int) (n2 : Int) (g2 : Nat → Nat → Int) (n3 : Int) (g3 : Nat → Nat → Int) (n4 : Int) (g4 : Nat → Nat → Int) (n5 : Int) (g5 : Nat → Nat → Int) (n6 : Int) (g6 : Nat → Nat → Int) (n7 : Int) (g7 : Nat → Nat → Int) (i8 : Nat → Int) (g8 : Nat → Nat → Int) (i9 : Nat → Int) (g9 : Nat → Nat → Int) (i10 : Nat → Int) (g10 : Nat → Nat → Int) (i11 : Nat → Int) (g11 : Nat → Nat → Int) (i12 : Nat → Int) (g12 : Nat → Nat → Int) (i13 : Nat → Int) (g13 : Nat → Nat → Int) (g14 : Nat → Nat → Int) (n15 : Int) (nN : Nat → Int) (gN : Nat → Nat → Nat → Int) (iK : Nat → Nat → Int) (gK : Nat → Nat → Nat → Int) (i : Nat → Int) (a0 : Nat → Int) (a1 : Nat → Int) (a2 : Nat → Int) (a3 : Nat → Int) (a4 : Nat → Int) (a5 : Nat → Int) (a6 : Nat → Int) (a7 : Nat → Int) (a8 : Nat → Int) (a9 : Nat → Int) (a10 : Nat → Int) (a11 : Nat → Int) (a12 : Nat → Int) (a13 : Nat → Int) (a14 : Nat → Int) (a15 : Nat → Int) (a16 : Nat → Int) (a17 : Nat → Int) (a18 : Nat → Int) (a19 : Nat → Int) (a20 : Nat → Int) (go : Nat → Int) (hF : lw_F (1000 * (n : Int)) t ld i1 g1 n2 g2 n3 g3 n4 g4 n5 g5 n6 g6 n7 g7 i8 g8 i9 g9 i10 g10 i11 g11 i12 g12 i13 g13 g14 n15 nN gN iK gK) (hMm : lw_M i a0 a1 a2 a3 a4 a5 a6 a7 a8 a9 a10 a11 a12 a13 a14 a15 a16 a17 a18 a19 a20) (hT : (((i1 0 = i 1 ∧ lw_X t ld i1 g1 n15 i a0) ∧ lw_N n4 g4 n5 g5 n7 g7 i8 g8 i11 g11 n15 nN gN iK gK i a3 a4 a6 a11 a13 a16) ∧ TrC a3 n5.toNat i13 g13)) {H : Heap} {locs : List Loc} {ls : Array Slot} (hP : va_P G vwCl (lw_W cI cB cJ cN cW x y o Q qN qK qm t ld i1 g1 n2 g2 n3 g3 n4 g4 n5 g5 n6 g6 n7 g7 i8 g8 i9 g9 i10 g10 i11 g11 i12 g12 i13 g13 g14 n15 nN gN iK gK i a0 a1 a2 a3 a4 a5 a6 a7 a8 a9 a10 a11 a12 a13 a14 a15 a16 a17 a18 a19 a20 go) H) (hD : va_D (fun q : Nat => s.heap.size ≤ q) (lw_W cI cB cJ cN cW x y o Q qN qK qm t ld i1 g1 n2 g2 n3 g3 n4 g4 n5 g5 n6 g6 n7 g7 i8 g8 i9 g9 i10 g10 i11 g11 i12 g12 i13 g13 g14 n15 nN gN iK gK i a0 a1 a2 a3 a4 a5 a6 a7 a8 a9 a10 a11 a12 a13 a14 a15 a16 a17 a18 a19 a20 go)) (hS : va_S (fun q : Nat => s.heap.size ≤ q) s.heap H locs) (hl : lv_has ls 7 [(4, .int (zI (n : Int))), (3, .ref o), (2, .ref y), (1, .ref x), (0, .ref b)]) (IH : lw_End p l e s m below meth c b G cI cB cJ cN cW x y o Q qN qK qm n) : W p l e room_1 s m #[Value.ref b] below meth c H locs (163 + n) (8733 + 6 * n) (lw_Z below #[Value.ref b] s) (F0 m 666 ls []) := by
  have C1 := C0
  obtain ⟨hx, hb, hr, hml, hown, hts, hX, hbl, hlocks, hgv⟩ := C0
  have hA : ∀ q : Nat, s.heap.size ≤ q → (fun q : Nat => s.heap.size ≤ q) q := fun _ h => h
  have hbA : ¬ (fun q : Nat => s.heap.size ≤ q) b := Nat.not_le.mpr hbl
  have F : CallFix p m c cL_law 7 s #[Value.ref b] bw_T RL := ⟨hx, hb, hml, hown, fun w h => hts w (List.mem_filter.mp h).1⟩
  obtain ⟨ht, hL, h1, h2, h3, h4, h5, h6, h7, h8, h9, h10, h11, h12, h13, h14, h15, hN, hK4, hk, hkK⟩ := hF
  obtain ⟨hM, r0, r1, r11, r12, r17, r18, hpn, hpt, hsr, hkp⟩ := hMm
  obtain ⟨⟨⟨hT1, hI1, hI2, hI3, hI4⟩, hNn⟩, hTr⟩ := hT
  have hNq := hNn
  obtain ⟨⟨⟨hm1, hm3, hm5, hm5d⟩, hm7, hm8⟩, ⟨hm2, hm4, hm6⟩, hm9, hm10, hm11⟩ := hNq
  have hm5n : LN a3 n5 := by rw [hm3]; exact hm5
  have hm5dn : DN a3 n5 := by rw [hm3]; exact hm5d
  refine lv_aload_n hx hb dL_law_666 rfl (lv_at hl 3 rfl) ?_
  refine lw_callV (As := []) (rest := []) F hK hP hD hS hA hO hE (c_X8z_mark hO x (Q 0) t ld hL ht (Q 15) n15 h15 qN nN gN hN qK iK gK hK4 (Q 5) n5 g5 h5 (Q 8) i8 g8 h8 (1000 * (n : Int)) hkK hk) k_766 kv_X8_mark 0 rfl (by decide +kernel) ⟨Nat.le_of_ble_eq_true rfl, Nat.le_of_ble_eq_true rfl⟩ [0, 81, 82, 83, 84, 85, 86, 87, 88, 89, 90, 91, 92, 93, 94, 95, 96, 97, 98, 99, 100, 101, 102, 103, 104, 105, 106, 107, 108, 109, 110, 111, 112, 113, 114, 115, 116, 117, 118, 119, 120, 121, 122, 123, 124, 125, 126, 127, 128, 129, 130, 131, 132, 133, 134, 135, 136, 137, 138, 139, 25, 26, 27, 28, 29, 30, 31, 32, 33, 45, 46, 47, 48, 49] rfl (by decide) (fun _ => rfl) 0 8 rfl rfl rfl hl.1 rfl (Nat.le_of_ble_eq_true rfl) dL_law_667 (lw_hf (by omega) (Nat.le_of_ble_eq_true rfl) (Nat.le_of_ble_eq_true rfl)) [some 0, none, none, none, none, none, none, none, none, none, none, none, none, none, none, none, none, none, none, none, none, none, none, none, none, some 60, some 61, some 62, some 63, some 64, some 65, some 66, some 67, some 68, none, none, none, none, none, none, none, none, none, none, none, some 69, some 70, some 71, some 72, some 73, none, none, none, none, none, none, none, none, none, none, none, none, none, none, none, none, none, none, none, none, none, none, none, none, none, none, none, none, none, none, none, some 1, some 2, some 3, some 4, some 5, some 6, some 7, some 8, some 9, some 10, some 11, some 12, some 13, some 14, some 15, some 16, some 17, some 18, some 19, some 20, some 21, some 22, some 23, some 24, some 25, some 26, some 27, some 28, some 29, some 30, some 31, some 32, some 33, some 34, some 35, some 36, some 37, some 38, some 39, some 40, some 41, some 42, some 43, some 44, some 45, some 46, some 47, some 48, some 49, some 50, some 51, some 52, some 53, some 54, some 55, some 56, some 57, some 58, some 59, none, none, none, none, none, none, none, none, none, none, none, none, none, none, none, none, none, none, none, none, none, none, none] 163 (by decide +kernel) (w1 := fun u1 => lw_W cI cB cJ cN cW x y o Q qN qK qm ((u1 0).1 0) ((u1 0).1 1) i1 g1 n2 g2 n3 g3 n4 g4 n5 g5 n6 g6 n7 g7 i8 g8 i9 g9 i10 g10 i11 g11 i12 g12 i13 g13 g14 ((u1 1).1 0) (fun k => (u1 (2 + k)).1 0) (fun k => (u1 (2 + k)).2) (fun k => (u1 (6 + k)).1) (fun k => (u1 (6 + k)).2) i a0 a1 a2 a3 a4 a5 a6 a7 a8 a9 a10 a11 a12 a13 a14 a15 a16 a17 a18 a19 a20 go) (fun _ => rfl) (fun rv1 u1 H locs hp1 hP hD hS => ?_)
  obtain ⟨z1, rfl, hz1⟩ := hp1
  have ht1 : 0 ≤ (u1 0).1 0 ∧ (u1 0).1 0 ≤ 6 := hz1.1.1
  have hL1 : (u1 0).1 1 = 0 ∨ (u1 0).1 1 = 1 := hz1.1.2.1
  have hyq := hz1.1.2.2
  have hx1 := hz1.2.2.2.2.2.2.2.2.2.2.1
  have hx1n := hz1.2.2.2.2.2.2.2.2.2.2.2
  refine lv_pop hx hb dL_law_670 rfl ?_
  refine lv_aload_n hx hb dL_law_671 rfl (lv_at hl 2 rfl) ?_
  refine lw_callV (As := []) (rest := []) F hK hP hD hS hA hO hE (c_X9_markX hO y qm i hM a3 a13 a6 a16 hpn hsr hkp) k_1514 kv_X9_mark 0 rfl (by decide +kernel) ⟨Nat.le_of_ble_eq_true rfl, Nat.le_of_ble_eq_true rfl⟩ [140, 144, 154, 147, 157] rfl (by decide) (fun _ => rfl) 0 9 rfl rfl rfl hl.1 rfl (Nat.le_of_ble_eq_true rfl) dL_law_672 (lw_hf2 (by omega) (Nat.le_of_ble_eq_true rfl) (Nat.le_of_ble_eq_true rfl) (Nat.le_of_ble_eq_true rfl) (Nat.le_of_ble_eq_true rfl)) [none, none, none, none, none, none, none, none, none, none, none, none, none, none, none, none, none, none, none, none, none, none, none, none, none, none, none, none, none, none, none, none, none, none, none, none, none, none, none, none, none, none, none, none, none, none, none, none, none, none, none, none, none, none, none, none, none, none, none, none, none, none, none, none, none, none, none, none, none, none, none, none, none, none, none, none, none, none, none, none, none, none, none, none, none, none, none, none, none, none, none, none, none, none, none, none, none, none, none, none, none, none, none, none, none, none, none, none, none, none, none, none, none, none, none, none, none, none, none, none, none, none, none, none, none, none, none, none, none, none, none, none, none, none, none, none, none, none, none, none, some 0, none, none, none, some 1, none, none, some 3, none, none, none, none, none, none, some 2, none, none, some 4, none, none, none, none, none] 163 (by decide +kernel) (w1 := fun u2 => lw_W cI cB cJ cN cW x y o Q qN qK qm ((u1 0).1 0) ((u1 0).1 1) i1 g1 n2 g2 n3 g3 n4 g4 n5 g5 n6 g6 n7 g7 i8 g8 i9 g9 i10 g10 i11 g11 i12 g12 i13 g13 g14 ((u1 1).1 0) (fun k => (u1 (2 + k)).1 0) (fun k => (u1 (2 + k)).2) (fun k => (u1 (6 + k)).1) (fun k => (u1 (6 + k)).2) ((u2 0).1) a0 a1 a2 a3 a4 a5 ((u2 1).2 0) a7 a8 a9 a10 a11 a12 a13 a14 a15 ((u2 2).2 0) a17 a18 a19 a20 go) (fun _ => rfl) (fun rv2 u2 H locs hp2 hP hD hS => ?_)
  obtain ⟨z2, rfl, hz2⟩ := hp2
  have hx3n := hz2.2.2
  have hx2 := hz2.2.1.1
  have hx3 := hz2.2.1.2.1
  refine lv_pop hx hb dL_law_675 rfl ?_
  refine lv_goto (tgt := 1455) hx hb dL_law_676 (by decide) ?_
  refine W.widen (k := 164 + n) (n := 8739 + 6 * n) (lw_cl (Nat.le_of_ble_eq_true rfl)) (lw_sl (Nat.le_of_ble_eq_true rfl)) ?_
  exact IH ((u1 0).1 0) ((u1 0).1 1) i1 g1 n2 g2 n3 g3 n4 g4 n5 g5 n6 g6 n7 g7 i8 g8 i9 g9 i10 g10 i11 g11 i12 g12 i13 g13 g14 ((u1 1).1 0) (fun k => (u1 (2 + k)).1 0) (fun k => (u1 (2 + k)).2) (fun k => (u1 (6 + k)).1) (fun k => (u1 (6 + k)).2) ((u2 0).1) a0 a1 a2 a3 a4 a5 ((u2 1).2 0) a7 a8 a9 a10 a11 a12 a13 a14 a15 ((u2 2).2 0) a17 a18 a19 a20 go H locs ls ⟨ht1, hL1, h1, h2, h3, h4, h5, h6, h7, h8, h9, h10, h11, h12, h13, h14, hz1.2.1, (lw_all4 hz1.2.2.1 hz1.2.2.2.1 hz1.2.2.2.2.1 hz1.2.2.2.2.2.1), (lw_all4 hz1.2.2.2.2.2.2.1 hz1.2.2.2.2.2.2.2.1 hz1.2.2.2.2.2.2.2.2.1 hz1.2.2.2.2.2.2.2.2.2.1), (show i8 1 ≤ 1000 * (n : Int) + 1000 from by omega), (lw_all4 (show (u1 6).1 1 ≤ 1000 * (n : Int) + 1000 from by omega) (show (u1 7).1 1 ≤ 1000 * (n : Int) + 1000 from by omega) (show (u1 8).1 1 ≤ 1000 * (n : Int) + 1000 from by omega) (show (u1 9).1 1 ≤ 1000 * (n : Int) + 1000 from by omega))⟩ ⟨hz2.1, r0, r1, r11, r12, r17, r18, hpn, hpt, hsr, hz2.2.1.2.2⟩ ⟨⟨⟨(show i1 0 = ((u2 0).1) 1 from by omega), ⟨hI1.1, hI1.2⟩, (show i1 1 = ((u2 0).1) 8 ∧ ((u1 0).1 1) = ((u2 0).1) 12 ∧ ((u1 1).1 0) = ((u2 0).1) 17 from by omega), (show ((u1 0).1 0) = 4 ↔ ((u2 0).1) 10 = 4 from by omega), (show ((u1 0).1 0) = 4 → i1 2 = ((u2 0).1) 9 from fun q9 => absurd q9 (by omega))⟩, (lw_N.mark hNn (show ((u2 0).1) 12 = i 12 ∧ ((u2 0).1) 13 = i 13 ∧ ((u2 0).1) 15 = i 15 from by omega) (by omega) (by omega) (by omega) (by omega) hsr hkp hN (lw_all4 hz1.2.2.1 hz1.2.2.2.1 hz1.2.2.2.2.1 hz1.2.2.2.2.2.1) hx1n hx3n)⟩, hTr⟩ hP hD hS hl
theorem dL_law_679 : decode cL_law 679 = .ok (.aload_n 1, 1) := bo_43 (by decide +kernel)
theorem dL_law_680 : decode cL_law 680 = .ok (.aload_n 0, 1) := bo_42 (by decide +kernel)
theorem dL_law_681 : decode cL_law 681 = .ok (.iload 4, 2) := bo_21 (by decide +kernel)
theorem dL_law_683 : decode cL_law 683 = .ok (.iconst 1, 1) := bo_4 (by decide +kernel)
theorem dL_law_684 : decode cL_law 684 = .ok (.iadd, 1) := bo_96 (by decide +kernel)
theorem dL_law_685 : decode cL_law 685 = .ok (.iaload, 1) := bo_46 (by decide +kernel)
theorem dL_law_686 : decode cL_law 686 = .ok (.invokevirtual 84, 3) := bo_182 0 84 (by decide +kernel)
theorem k_780 : Cond.methodLink RL 84 yX8_back ∈ bw_T := bw_m 780 (by decide +kernel) rfl
theorem kv_X8_back : bw_KV RX8 yX8_back (Cond.code yX8_back cX8_back 2 (some .boolean)) := ⟨bw_m 781 (by decide +kernel) rfl, bw_m 782 (by decide +kernel) rfl, bw_m 94 (by decide +kernel) rfl, bw_m 783 (by decide +kernel) rfl⟩
theorem dL_law_689 : decode cL_law 689 = .ok (.pop, 1) := bo_87 (by decide +kernel)
theorem dL_law_690 : decode cL_law 690 = .ok (.aload_n 2, 1) := bo_44 (by decide +kernel)
theorem dL_law_691 : decode cL_law 691 = .ok (.aload_n 0, 1) := bo_42 (by decide +kernel)
theorem dL_law_692 : decode cL_law 692 = .ok (.iload 4, 2) := bo_21 (by decide +kernel)
theorem dL_law_694 : decode cL_law 694 = .ok (.iconst 1, 1) := bo_4 (by decide +kernel)
theorem dL_law_695 : decode cL_law 695 = .ok (.iadd, 1) := bo_96 (by decide +kernel)
theorem dL_law_696 : decode cL_law 696 = .ok (.iaload, 1) := bo_46 (by decide +kernel)
theorem dL_law_697 : decode cL_law 697 = .ok (.invokevirtual 88, 3) := bo_182 0 88 (by decide +kernel)
theorem k_1518 : Cond.methodLink RL 88 yX9_back ∈ bw_T := bw_m 1518 (by decide +kernel) rfl
theorem kv_X9_back : bw_KV RX9 yX9_back (Cond.code yX9_back cX9_back 3 (some .boolean)) := ⟨bw_m 1519 (by decide +kernel) rfl, bw_m 1520 (by decide +kernel) rfl, bw_m 107 (by decide +kernel) rfl, bw_m 1521 (by decide +kernel) rfl⟩
theorem dL_law_700 : decode cL_law 700 = .ok (.pop, 1) := bo_87 (by decide +kernel)
theorem dL_law_701 : decode cL_law 701 = .ok (.goto 754, 3) := bo_167 2 242 (by decide +kernel)
set_option maxRecDepth 100000 in
set_option maxHeartbeats 8000000 in
theorem lc_15 {p : Program} {l : Launch} {e : Env} {s : State} {m : MethodId} {below : List Frame} {meth : Method} {c : Code} {b : Nat} {xs : Nat → Int32} {L : Nat} (C0 : lw_At p s m meth c b L xs) (hL9 : L ≤ 3072) {E : (Nat → Prop) → State → Prop} (hO : bw_Ok E) {sa va : Nat → Nat} {fb : Nat → Nat → Int32} (hWd : bw_Words E sa va fb) (hWb : ∀ j, j < 15 → ∀ k, k < wlen j → fb j k = zI (wch j k)) (hst : l.stackTraces = false) {sth : Nat} (hTh : bw_Thr E sth) {G : va_G} (cI cB cJ cN cW : ClassId) (x y o : Nat) (Q qN qK : Nat → Nat → Nat) (qm : Nat → Nat) (hK : va_K G vwCl (bw_kt cI cB cJ cN cW) s) (hE : E (fun q : Nat => s.heap.size ≤ q) s) (n : Nat) (hn : n + 6 ≤ L) (t : Int) (ld : Int) (i1 : Nat → Int) (g1 : Nat → Nat → Int) (n2 : Int) (g2 : Nat → Nat → Int) (n3 : Int) (g3 : Nat → Nat → Int) (n4 : Int) (g4 : Nat → Nat → Int) (n5 : Int) (g5 : Nat → Nat → Int) (n6 : Int) (g6 : Nat → Nat → Int) (n7 : Int) (g7 : Nat → Nat → Int) (i8 : Nat → Int) (g8 : Nat → Nat → Int) (i9 : Nat → Int) (g9 : Nat → Nat → Int) (i10 : Nat → Int) (g10 : Nat → Nat → Int) (i11 : Nat → Int) (g11 : Nat → Nat → Int) (i12 : Nat → Int) (g12 : Nat → Nat → Int) (i13 : Nat → Int) (g13 : Nat → Nat → Int) (g14 : Nat → Nat → Int) (n15 : Int) (nN : Nat → Int) (gN : Nat → Nat → Nat → Int) (iK : Nat → Nat → Int) (gK : Nat → Nat → Nat → Int) (i : Nat → Int) (a0 : Nat → Int) (a1 : Nat → Int) (a2 : Nat → Int) (a3 : Nat → Int) (a4 : Nat → Int) (a5 : Nat → Int) (a6 : Nat → Int) (a7 : Nat → Int) (a8 : Nat → Int) (a9 : Nat → Int) (a10 : Nat → Int) (a11 : Nat → Int) (a12 : Nat → Int) (a13 : Nat → Int) (a14 : Nat → Int) (a15 : Nat → Int) (a16 : Nat → Int) (a17 : Nat → Int) (a18 : Nat → Int) (a19 : Nat → Int) (a20 : Nat → Int) (go : Nat → Int) (hF : lw_F (1000 * (n : Int)) t ld i1 g1 n2 g2 n3 g3 n4 g4 n5 g5 n6 g6 n7 g7 i8 g8 i9 g9 i10 g10 i11 g11 i12 g12 i13 g13 g14 n15 nN gN iK gK) (hMm : lw_M i a0 a1 a2 a3 a4 a5 a6 a7 a8 a9 a10 a11 a12 a13 a14 a15 a16 a17 a18 a19 a20) (hT : (((i1 0 = i 1 ∧ lw_X t ld i1 g1 n15 i a0) ∧ lw_N n4 g4 n5 g5 n7 g7 i8 g8 i11 g11 n15 nN gN iK gK i a3 a4 a6 a11 a13 a16) ∧ TrC a3 n5.toNat i13 g13)) {H : Heap} {locs : List Loc} {ls : Array Slot} (hP : va_P G vwCl (lw_W cI cB cJ cN cW x y o Q qN qK qm t ld i1 g1 n2 g2 n3 g3 n4 g4 n5 g5 n6 g6 n7 g7 i8 g8 i9 g9 i10 g10 i11 g11 i12 g12 i13 g13 g14 n15 nN gN iK gK i a0 a1 a2 a3 a4 a5 a6 a7 a8 a9 a10 a11 a12 a13 a14 a15 a16 a17 a18 a19 a20 go) H) (hD : va_D (fun q : Nat => s.heap.size ≤ q) (lw_W cI cB cJ cN cW x y o Q qN qK qm t ld i1 g1 n2 g2 n3 g3 n4 g4 n5 g5 n6 g6 n7 g7 i8 g8 i9 g9 i10 g10 i11 g11 i12 g12 i13 g13 g14 n15 nN gN iK gK i a0 a1 a2 a3 a4 a5 a6 a7 a8 a9 a10 a11 a12 a13 a14 a15 a16 a17 a18 a19 a20 go)) (hS : va_S (fun q : Nat => s.heap.size ≤ q) s.heap H locs) (hl : lv_has ls 7 [(4, .int (zI (n : Int))), (3, .ref o), (2, .ref y), (1, .ref x), (0, .ref b)]) (IH : lw_End p l e s m below meth c b G cI cB cJ cN cW x y o Q qN qK qm n) : W p l e room_1 s m #[Value.ref b] below meth c H locs (163 + n) (8733 + 6 * n) (lw_Z below #[Value.ref b] s) (F0 m 679 ls []) := by
  have C1 := C0
  obtain ⟨hx, hb, hr, hml, hown, hts, hX, hbl, hlocks, hgv⟩ := C0
  have hA : ∀ q : Nat, s.heap.size ≤ q → (fun q : Nat => s.heap.size ≤ q) q := fun _ h => h
  have hbA : ¬ (fun q : Nat => s.heap.size ≤ q) b := Nat.not_le.mpr hbl
  have F : CallFix p m c cL_law 7 s #[Value.ref b] bw_T RL := ⟨hx, hb, hml, hown, fun w h => hts w (List.mem_filter.mp h).1⟩
  obtain ⟨ht, hL, h1, h2, h3, h4, h5, h6, h7, h8, h9, h10, h11, h12, h13, h14, h15, hN, hK4, hk, hkK⟩ := hF
  obtain ⟨hM, r0, r1, r11, r12, r17, r18, hpn, hpt, hsr, hkp⟩ := hMm
  obtain ⟨⟨⟨hT1, hI1, hI2, hI3, hI4⟩, hNn⟩, hTr⟩ := hT
  have hNq := hNn
  obtain ⟨⟨⟨hm1, hm3, hm5, hm5d⟩, hm7, hm8⟩, ⟨hm2, hm4, hm6⟩, hm9, hm10, hm11⟩ := hNq
  have hm5n : LN a3 n5 := by rw [hm3]; exact hm5
  have hm5dn : DN a3 n5 := by rw [hm3]; exact hm5d
  obtain ⟨e1, he1, hy1⟩ := zI_of (xs (n + 1))
  refine lv_aload_n hx hb dL_law_679 rfl (lv_at hl 3 rfl) ?_
  refine lw_arg (j := 1) F hX hbl hbA hS (lv_at hl 4 rfl) (lv_at hl 0 rfl) (by decide) hy1 (by omega) hL9 dL_law_680 dL_law_681 dL_law_683 dL_law_684 dL_law_685 ?_
  refine lw_callV (As := [.int (zI e1)]) (rest := []) F hK hP hD hS hA hO hE (c_X8z_back hO x (Q 0) t ld hL ht (Q 15) n15 h15 qN nN gN hN qK iK gK hK4 (Q 5) n5 g5 h5 (Q 8) i8 g8 h8 (Q 11) i11 g11 h11 (Q 13) i13 g13 h13 e1 he1 (1000 * (n : Int)) hkK hk) k_780 kv_X8_back 1 rfl (by decide +kernel) ⟨Nat.le_of_ble_eq_true rfl, Nat.le_of_ble_eq_true rfl⟩ [0, 81, 82, 83, 84, 85, 86, 87, 88, 89, 90, 91, 92, 93, 94, 95, 96, 97, 98, 99, 100, 101, 102, 103, 104, 105, 106, 107, 108, 109, 110, 111, 112, 113, 114, 115, 116, 117, 118, 119, 120, 121, 122, 123, 124, 125, 126, 127, 128, 129, 130, 131, 132, 133, 134, 135, 136, 137, 138, 139, 25, 26, 27, 28, 29, 30, 31, 32, 33, 45, 46, 47, 48, 49, 60, 61, 62, 63, 64, 70, 71, 72] rfl (by decide) (fun _ => rfl) 0 8 rfl rfl rfl hl.1 rfl (Nat.le_of_ble_eq_true rfl) dL_law_686 (lw_hf (by omega) (Nat.le_of_ble_eq_true rfl) (Nat.le_of_ble_eq_true rfl)) [some 0, none, none, none, none, none, none, none, none, none, none, none, none, none, none, none, none, none, none, none, none, none, none, none, none, some 60, some 61, some 62, some 63, some 64, some 65, some 66, some 67, some 68, none, none, none, none, none, none, none, none, none, none, none, some 69, some 70, some 71, some 72, some 73, none, none, none, none, none, none, none, none, none, none, some 74, some 75, some 76, some 77, some 78, none, none, none, none, none, some 79, some 80, some 81, none, none, none, none, none, none, none, none, some 1, some 2, some 3, some 4, some 5, some 6, some 7, some 8, some 9, some 10, some 11, some 12, some 13, some 14, some 15, some 16, some 17, some 18, some 19, some 20, some 21, some 22, some 23, some 24, some 25, some 26, some 27, some 28, some 29, some 30, some 31, some 32, some 33, some 34, some 35, some 36, some 37, some 38, some 39, some 40, some 41, some 42, some 43, some 44, some 45, some 46, some 47, some 48, some 49, some 50, some 51, some 52, some 53, some 54, some 55, some 56, some 57, some 58, some 59, none, none, none, none, none, none, none, none, none, none, none, none, none, none, none, none, none, none, none, none, none, none, none] 163 (by decide +kernel) (w1 := fun u1 => lw_W cI cB cJ cN cW x y o Q qN qK qm ((u1 0).1 0) ((u1 0).1 1) i1 g1 n2 g2 n3 g3 n4 g4 ((u1 1).1 0) ((u1 1).2) n6 g6 n7 g7 ((u1 2).1) ((u1 2).2) i9 g9 i10 g10 ((u1 3).1) ((u1 3).2) i12 g12 ((u1 4).1) ((u1 4).2) g14 n15 nN gN iK gK i a0 a1 a2 a3 a4 a5 a6 a7 a8 a9 a10 a11 a12 a13 a14 a15 a16 a17 a18 a19 a20 go) (fun _ => rfl) (fun rv1 u1 H locs hp1 hP hD hS => ?_)
  obtain ⟨z1, rfl, hz1⟩ := hp1
  have ht1 : 0 ≤ (u1 0).1 0 ∧ (u1 0).1 0 ≤ 6 := hz1.1.1
  have hL1 : (u1 0).1 1 = 0 ∨ (u1 0).1 1 = 1 := hz1.1.2.1
  have hyq := hz1.1.2.2
  have hx1 := hz1.2.2.2.2.2.1
  have hx1n := hz1.2.2.2.2.2.2
  have hxt := hx1n.2
  have hx1n := hx1n.1
  refine lv_pop hx hb dL_law_689 rfl ?_
  refine lv_aload_n hx hb dL_law_690 rfl (lv_at hl 2 rfl) ?_
  refine lw_arg (j := 1) F hX hbl hbA hS (lv_at hl 4 rfl) (lv_at hl 0 rfl) (by decide) hy1 (by omega) hL9 dL_law_691 dL_law_692 dL_law_694 dL_law_695 dL_law_696 ?_
  refine lw_callV (As := [.int (zI e1)]) (rest := []) F hK hP hD hS hA hO hE (c_X9_backX hO y qm i hM a3 a13 a6 a16 e1 he1 hpn hsr hkp) k_1518 kv_X9_back 1 rfl (by decide +kernel) ⟨Nat.le_of_ble_eq_true rfl, Nat.le_of_ble_eq_true rfl⟩ [140, 144, 154, 147, 157] rfl (by decide) (fun _ => rfl) 0 9 rfl rfl rfl hl.1 rfl (Nat.le_of_ble_eq_true rfl) dL_law_697 (lw_hf2 (by omega) (Nat.le_of_ble_eq_true rfl) (Nat.le_of_ble_eq_true rfl) (Nat.le_of_ble_eq_true rfl) (Nat.le_of_ble_eq_true rfl)) [none, none, none, none, none, none, none, none, none, none, none, none, none, none, none, none, none, none, none, none, none, none, none, none, none, none, none, none, none, none, none, none, none, none, none, none, none, none, none, none, none, none, none, none, none, none, none, none, none, none, none, none, none, none, none, none, none, none, none, none, none, none, none, none, none, none, none, none, none, none, none, none, none, none, none, none, none, none, none, none, none, none, none, none, none, none, none, none, none, none, none, none, none, none, none, none, none, none, none, none, none, none, none, none, none, none, none, none, none, none, none, none, none, none, none, none, none, none, none, none, none, none, none, none, none, none, none, none, none, none, none, none, none, none, none, none, none, none, none, none, some 0, none, none, none, some 1, none, none, some 3, none, none, none, none, none, none, some 2, none, none, some 4, none, none, none, none, none] 163 (by decide +kernel) (w1 := fun u2 => lw_W cI cB cJ cN cW x y o Q qN qK qm ((u1 0).1 0) ((u1 0).1 1) i1 g1 n2 g2 n3 g3 n4 g4 ((u1 1).1 0) ((u1 1).2) n6 g6 n7 g7 ((u1 2).1) ((u1 2).2) i9 g9 i10 g10 ((u1 3).1) ((u1 3).2) i12 g12 ((u1 4).1) ((u1 4).2) g14 n15 nN gN iK gK ((u2 0).1) a0 a1 a2 ((u2 1).2 0) a4 a5 a6 a7 a8 a9 a10 a11 a12 ((u2 2).2 0) a14 a15 a16 a17 a18 a19 a20 go) (fun _ => rfl) (fun rv2 u2 H locs hp2 hP hD hS => ?_)
  obtain ⟨z2, rfl, hz2⟩ := hp2
  have hx3n := hz2.2.2
  have hx2 := hz2.2.1.1
  have hx3 := hz2.2.1.2.1
  refine lv_pop hx hb dL_law_700 rfl ?_
  refine lv_goto (tgt := 1455) hx hb dL_law_701 (by decide) ?_
  refine W.widen (k := 164 + n) (n := 8739 + 6 * n) (lw_cl (Nat.le_of_ble_eq_true rfl)) (lw_sl (Nat.le_of_ble_eq_true rfl)) ?_
  have hzz : z1 = z2 := by omega
  have hTr2 : TrC ((u2 1).2 0) (((u1 1).1 0)).toNat ((u1 4).1) ((u1 4).2) := by
    refine TrC.mv hTr hxt (fun q9 => ⟨?_, ?_⟩)
    · rcases hx3n with ⟨b0, b2⟩ | ⟨b0, b2, b3⟩
      · omega
      · exact b2
    · rcases hx1n with ⟨b0, b2⟩ | ⟨b0, b2, b3, b4⟩
      · omega
      · exact b3
  exact IH ((u1 0).1 0) ((u1 0).1 1) i1 g1 n2 g2 n3 g3 n4 g4 ((u1 1).1 0) ((u1 1).2) n6 g6 n7 g7 ((u1 2).1) ((u1 2).2) i9 g9 i10 g10 ((u1 3).1) ((u1 3).2) i12 g12 ((u1 4).1) ((u1 4).2) g14 n15 nN gN iK gK ((u2 0).1) a0 a1 a2 ((u2 1).2 0) a4 a5 a6 a7 a8 a9 a10 a11 a12 ((u2 2).2 0) a14 a15 a16 a17 a18 a19 a20 go H locs ls ⟨ht1, hL1, h1, h2, h3, h4, hz1.2.1, h6, h7, hz1.2.2.1, h9, h10, hz1.2.2.2.1, h12, hz1.2.2.2.2.1, h14, h15, hN, hK4, (show (u1 2).1 1 ≤ 1000 * (n : Int) + 1000 from by omega), (fun j hj => by have h9 := hkK j hj; omega)⟩ ⟨hz2.1, r0, r1, r11, r12, r17, r18, hz2.2.1.2.2.1, hpt, hz2.2.1.2.2.2, hkp⟩ ⟨⟨⟨(show i1 0 = ((u2 0).1) 1 from by omega), ⟨hI1.1, hI1.2⟩, (show i1 1 = ((u2 0).1) 8 ∧ ((u1 0).1 1) = ((u2 0).1) 12 ∧ n15 = ((u2 0).1) 17 from by omega), (show ((u1 0).1 0) = 4 ↔ ((u2 0).1) 10 = 4 from by omega), (show ((u1 0).1 0) = 4 → i1 2 = ((u2 0).1) 9 from fun q9 => absurd q9 (by omega))⟩, (lw_N.back hNn (show ((u2 0).1) 12 = i 12 ∧ ((u2 0).1) 13 = i 13 ∧ ((u2 0).1) 15 = i 15 from by omega) (by omega) (fun q9 => by omega) (by omega) hkp hz1.2.1 hx1n hx3n)⟩, hTr2⟩ hP hD hS hl
