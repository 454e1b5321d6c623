theorem dL_law_679 : decode cL_law 679 = .ok (.aload_n 1, 1) := by decide +kernel
theorem dL_law_680 : decode cL_law 680 = .ok (.aload_n 0, 1) := by decide +kernel
theorem dL_law_681 : decode cL_law 681 = .ok (.iload 4, 2) := by decide +kernel
theorem dL_law_683 : decode cL_law 683 = .ok (.iconst 1, 1) := by decide +kernel
theorem dL_law_684 : decode cL_law 684 = .ok (.iadd, 1) := by decide +kernel
theorem dL_law_685 : decode cL_law 685 = .ok (.iaload, 1) := by decide +kernel
theorem dL_law_686 : decode cL_law 686 = .ok (.invokevirtual 84, 3) := by decide +kernel
theorem k_780 : Cond.methodLink RL 84 yX8_back ∈ bw_T := bw_m 780 (by decide +kernel) rfl
theorem kv_X8_back : bw_KV RX8 yX8_back (Cond.code yX8_back cX8_back 2 (some .boolean)) := ⟨bw_m 781 (by decide +kernel) rfl, bw_m 782 (by decide +kernel) rfl, bw_m 94 (by decide +kernel) rfl, bw_m 783 (by decide +kernel) rfl⟩
theorem dL_law_689 : decode cL_law 689 = .ok (.aload_n 2, 1) := by decide +kernel
theorem dL_law_690 : decode cL_law 690 = .ok (.aload_n 0, 1) := by decide +kernel
theorem dL_law_691 : decode cL_law 691 = .ok (.iload 4, 2) := by decide +kernel
theorem dL_law_693 : decode cL_law 693 = .ok (.iconst 1, 1) := by decide +kernel
theorem dL_law_694 : decode cL_law 694 = .ok (.iadd, 1) := by decide +kernel
theorem dL_law_695 : decode cL_law 695 = .ok (.iaload, 1) := by decide +kernel
theorem dL_law_696 : decode cL_law 696 = .ok (.invokevirtual 88, 3) := by decide +kernel
theorem k_1522 : Cond.methodLink RL 88 yX9_back ∈ bw_T := bw_m 1522 (by decide +kernel) rfl
theorem kv_X9_back : bw_KV RX9 yX9_back (Cond.code yX9_back cX9_back 3 (some .boolean)) := ⟨bw_m 1523 (by decide +kernel) rfl, bw_m 1524 (by decide +kernel) rfl, bw_m 107 (by decide +kernel) rfl, bw_m 1525 (by decide +kernel) rfl⟩
theorem dL_law_699 : decode cL_law 699 = .ok (.if_icmp .eq 784, 3) := by decide +kernel
set_option maxRecDepth 100000 in
set_option maxHeartbeats 4000000 in
theorem lc_15 {p : Program} {l : Launch} {e : Env} {s : State} {m : MethodId} {below : List Frame} {meth : Method} {c : Code} {b : Nat} {xs : Nat → Int32} (C0 : lw_At p s m meth c b 6 xs) {E : (Nat → Prop) → State → Prop} (hO : bw_Ok E) {G : va_G} {cI cB cJ cN cW : ClassId} (hK : va_K G vwCl (bw_kt cI cB cJ cN cW) s) (hE : E (fun q : Nat => s.heap.size ≤ q) s) (x y o : Nat) (q qm : Nat → Nat) (f : Nat → Nat → Int32) {H : Heap} {locs : List Loc} (hP : va_P G vwCl (lc_W cI cB cJ x y o q qm f) H) (hD : va_D (fun q : Nat => s.heap.size ≤ q) (lc_W cI cB cJ x y o q qm f)) (hS : va_S (fun q : Nat => s.heap.size ≤ q) s.heap H locs) {ls : Array Slot} (hl : lv_has ls 7 [(4, .int 0), (3, .ref o), (2, .ref y), (1, .ref x), (0, .ref b)]) : W p l e room_1 s m #[Value.ref b] below meth c H locs 163 8733 (lw_Z below #[Value.ref b] s) (F0 m 679 ls []) := by
  have C1 := C0
  obtain ⟨hx, hb, hr, hml, hown, hts, hX, hbl, hlocks, hgv⟩ := C0
  have hA : ∀ q : Nat, s.heap.size ≤ q → (fun q : Nat => s.heap.size ≤ q) q := fun _ h => h
  have hbA : ¬ (fun q : Nat => s.heap.size ≤ q) b := Nat.not_le.mpr hbl
  have F : CallFix p m c cL_law 7 s #[Value.ref b] bw_T RL := ⟨hx, hb, hml, hown, fun w h => hts w (List.mem_filter.mp h).1⟩
  have hP := bw_subP (isC := [0, 13, 14]) (wc := [(x, .inr (8, [.int 0, .int 0, .ref (q 0), .ref (q 1), .ref (q 2), .ref (q 3), .ref (q 4), .ref (q 5), .ref (q 6), .ref (q 7), .ref (q 8), .ref (q 9), .ref (q 10), .ref (q 11)])), ((q 11), .inr (1, [.int 0, .ref (q 51), .ref (q 52)])), (y, .inr (9, [.int 0, .ref (qm 0), .int 0, .int 0, .int 0, .int 0, .int 0, .int 0, .int 0, .int 0, .int (-1), .int 0, .ref (qm 1), .int 0, .int 0, .ref (qm 2), .ref (qm 3), .ref (qm 4), .ref (qm 5), .ref (qm 6), .ref (qm 7), .ref (qm 8), .ref (qm 9), .ref (qm 10), .ref (qm 11), .ref (qm 12), .ref (qm 13), .ref (qm 14), .ref (qm 15), .ref (qm 16), .int 0, .int 0, .int 0, .int 0, .int 0, .int 0, .ref (qm 17), .ref (qm 18), .ref (qm 19), .ref (qm 20)]))]) hP rfl
  have hD := hD.sub (ws' := [(x, .inr (8, [.int 0, .int 0, .ref (q 0), .ref (q 1), .ref (q 2), .ref (q 3), .ref (q 4), .ref (q 5), .ref (q 6), .ref (q 7), .ref (q 8), .ref (q 9), .ref (q 10), .ref (q 11)])), ((q 11), .inr (1, [.int 0, .ref (q 51), .ref (q 52)])), (y, .inr (9, [.int 0, .ref (qm 0), .int 0, .int 0, .int 0, .int 0, .int 0, .int 0, .int 0, .int 0, .int (-1), .int 0, .ref (qm 1), .int 0, .int 0, .ref (qm 2), .ref (qm 3), .ref (qm 4), .ref (qm 5), .ref (qm 6), .ref (qm 7), .ref (qm 8), .ref (qm 9), .ref (qm 10), .ref (qm 11), .ref (qm 12), .ref (qm 13), .ref (qm 14), .ref (qm 15), .ref (qm 16), .int 0, .int 0, .int 0, .int 0, .int 0, .int 0, .ref (qm 17), .ref (qm 18), .ref (qm 19), .ref (qm 20)]))]) [0, 13, 14] (by decide) rfl
  refine lv_aload_n hx hb dL_law_679 rfl (lv_at hl 3 rfl) ?_
  refine lv_aload_n hx hb dL_law_680 rfl (lv_at hl 4 rfl) ?_
  refine lv_iload hx hb dL_law_681 (lv_at hl 0 rfl) ?_
  refine lv_iconst (v := 1) hx hb dL_law_683 (by decide) ?_
  refine r_iadd (v := 1) F dL_law_684 (by decide) ?_
  refine va_sld hx hb hX hbl hbA hS (bw_vin (by decide)) dL_law_685 ?_
  refine r_callVi (As := [.int (xs (Int32.toNatClampNeg 1))]) (rest := []) (wr := [(y, .inr (9, [.int 0, .ref (qm 0), .int 0, .int 0, .int 0, .int 0, .int 0, .int 0, .int 0, .int 0, .int (-1), .int 0, .ref (qm 1), .int 0, .int 0, .ref (qm 2), .ref (qm 3), .ref (qm 4), .ref (qm 5), .ref (qm 6), .ref (qm 7), .ref (qm 8), .ref (qm 9), .ref (qm 10), .ref (qm 11), .ref (qm 12), .ref (qm 13), .ref (qm 14), .ref (qm 15), .ref (qm 16), .int 0, .int 0, .int 0, .int 0, .int 0, .int 0, .ref (qm 17), .ref (qm 18), .ref (qm 19), .ref (qm 20)]))]) F hK hP hD hS hA hO hE (c_X8_back hO x q (xs (Int32.toNatClampNeg 1))) k_780 kv_X8_back 1 rfl (by decide +kernel) ⟨Nat.le_of_ble_eq_true rfl, Nat.le_of_ble_eq_true rfl⟩ [0, 1] [2] rfl rfl (by decide) (by decide) (by decide) 0 8 rfl rfl rfl hl.1 rfl (Nat.le_of_ble_eq_true rfl) dL_law_686 ⟨Nat.le_of_ble_eq_true rfl, Nat.le_of_ble_eq_true rfl⟩ (w1 := fun u1 => [(y, .inr (9, [.int 0, .ref (qm 0), .int 0, .int 0, .int 0, .int 0, .int 0, .int 0, .int 0, .int 0, .int (-1), .int 0, .ref (qm 1), .int 0, .int 0, .ref (qm 2), .ref (qm 3), .ref (qm 4), .ref (qm 5), .ref (qm 6), .ref (qm 7), .ref (qm 8), .ref (qm 9), .ref (qm 10), .ref (qm 11), .ref (qm 12), .ref (qm 13), .ref (qm 14), .ref (qm 15), .ref (qm 16), .int 0, .int 0, .int 0, .int 0, .int 0, .int 0, .ref (qm 17), .ref (qm 18), .ref (qm 19), .ref (qm 20)]))]) (fun _ => rfl) (fun r2 u1 H locs hp hP hD hS => ?_)
  subst hp
  refine lv_aload_n hx hb dL_law_689 rfl (lv_at hl 2 rfl) ?_
  refine lv_aload_n hx hb dL_law_690 rfl (lv_at hl 4 rfl) ?_
  refine lv_iload hx hb dL_law_691 (lv_at hl 0 rfl) ?_
  refine lv_iconst (v := 1) hx hb dL_law_693 (by decide) ?_
  refine r_iadd (v := 1) F dL_law_694 (by decide) ?_
  refine va_sld hx hb hX hbl hbA hS (bw_vin (by decide)) dL_law_695 ?_
  refine r_callVi (As := [.int (xs (Int32.toNatClampNeg 1))]) (rest := [.int 0]) (wr := []) F hK hP hD hS hA hO hE (c_X9_back hO y qm (xs (Int32.toNatClampNeg 1))) k_1522 kv_X9_back 1 rfl (by decide +kernel) ⟨Nat.le_of_ble_eq_true rfl, Nat.le_of_ble_eq_true rfl⟩ [0] [] rfl rfl (by decide) (by decide) (by decide) 0 9 rfl rfl rfl hl.1 rfl (Nat.le_of_ble_eq_true rfl) dL_law_696 ⟨Nat.le_of_ble_eq_true rfl, Nat.le_of_ble_eq_true rfl⟩ (w1 := fun u3 => []) (fun _ => rfl) (fun r4 u3 H locs hp hP hD hS => ?_)
  subst hp
  refine lv_icmp_eq (tgt := 1483) hx hb dL_law_699 (by decide) (fun _ => ?_) (fun h9 => absurd rfl h9)
  exact lc_end C1 hS (Nat.le_of_ble_eq_true rfl) (Nat.le_of_ble_eq_true rfl) (lv_sub hl [0, 4] rfl)
theorem dL_law_704 : decode cL_law 704 = .ok (.aload_n 1, 1) := by decide +kernel
theorem dL_law_705 : decode cL_law 705 = .ok (.aload_n 0, 1) := by decide +kernel
theorem dL_law_706 : decode cL_law 706 = .ok (.iload 4, 2) := by decide +kernel
theorem dL_law_708 : decode cL_law 708 = .ok (.iconst 1, 1) := by decide +kernel
theorem dL_law_709 : decode cL_law 709 = .ok (.iadd, 1) := by decide +kernel
theorem dL_law_710 : decode cL_law 710 = .ok (.iaload, 1) := by decide +kernel
theorem dL_law_711 : decode cL_law 711 = .ok (.invokevirtual 89, 3) := by decide +kernel
theorem k_785 : Cond.methodLink RL 89 yX8_must ∈ bw_T := bw_m 785 (by decide +kernel) rfl
theorem kv_X8_must : bw_KV RX8 yX8_must (Cond.code yX8_must cX8_must 2 (some .int)) := ⟨bw_m 786 (by decide +kernel) rfl, bw_m 787 (by decide +kernel) rfl, bw_m 94 (by decide +kernel) rfl, bw_m 788 (by decide +kernel) rfl⟩
theorem dL_law_714 : decode cL_law 714 = .ok (.aload_n 2, 1) := by decide +kernel
theorem dL_law_715 : decode cL_law 715 = .ok (.aload_n 0, 1) := by decide +kernel
theorem dL_law_716 : decode cL_law 716 = .ok (.iload 4, 2) := by decide +kernel
theorem dL_law_718 : decode cL_law 718 = .ok (.iconst 1, 1) := by decide +kernel
theorem dL_law_719 : decode cL_law 719 = .ok (.iadd, 1) := by decide +kernel
theorem dL_law_720 : decode cL_law 720 = .ok (.iaload, 1) := by decide +kernel
theorem dL_law_721 : decode cL_law 721 = .ok (.invokevirtual 92, 3) := by decide +kernel
theorem k_1526 : Cond.methodLink RL 92 yX9_must ∈ bw_T := bw_m 1526 (by decide +kernel) rfl
theorem kv_X9_must : bw_KV RX9 yX9_must (Cond.code yX9_must cX9_must 5 (some .int)) := ⟨bw_m 1527 (by decide +kernel) rfl, bw_m 1528 (by decide +kernel) rfl, bw_m 107 (by decide +kernel) rfl, bw_m 1529 (by decide +kernel) rfl⟩
theorem dL_law_724 : decode cL_law 724 = .ok (.if_icmp .eq 759, 3) := by decide +kernel
set_option maxRecDepth 100000 in
set_option maxHeartbeats 4000000 in
theorem lc_16 {p : Program} {l : Launch} {e : Env} {s : State} {m : MethodId} {below : List Frame} {meth : Method} {c : Code} {b : Nat} {xs : Nat → Int32} (C0 : lw_At p s m meth c b 6 xs) {E : (Nat → Prop) → State → Prop} (hO : bw_Ok E) {G : va_G} {cI cB cJ cN cW : ClassId} (hK : va_K G vwCl (bw_kt cI cB cJ cN cW) s) (hE : E (fun q : Nat => s.heap.size ≤ q) s) (x y o : Nat) (q qm : Nat → Nat) (f : Nat → Nat → Int32) {H : Heap} {locs : List Loc} (hP : va_P G vwCl (lc_W cI cB cJ x y o q qm f) H) (hD : va_D (fun q : Nat => s.heap.size ≤ q) (lc_W cI cB cJ x y o q qm f)) (hS : va_S (fun q : Nat => s.heap.size ≤ q) s.heap H locs) {ls : Array Slot} (hl : lv_has ls 7 [(4, .int 0), (3, .ref o), (2, .ref y), (1, .ref x), (0, .ref b)]) : W p l e room_1 s m #[Value.ref b] below meth c H locs 163 8733 (lw_Z below #[Value.ref b] s) (F0 m 704 ls []) := by
  have C1 := C0
  obtain ⟨hx, hb, hr, hml, hown, hts, hX, hbl, hlocks, hgv⟩ := C0
  have hA : ∀ q : Nat, s.heap.size ≤ q → (fun q : Nat => s.heap.size ≤ q) q := fun _ h => h
  have hbA : ¬ (fun q : Nat => s.heap.size ≤ q) b := Nat.not_le.mpr hbl
  have F : CallFix p m c cL_law 7 s #[Value.ref b] bw_T RL := ⟨hx, hb, hml, hown, fun w h => hts w (List.mem_filter.mp h).1⟩
  have hP := bw_subP (isC := [0, 14]) (wc := [(x, .inr (8, [.int 0, .int 0, .ref (q 0), .ref (q 1), .ref (q 2), .ref (q 3), .ref (q 4), .ref (q 5), .ref (q 6), .ref (q 7), .ref (q 8), .ref (q 9), .ref (q 10), .ref (q 11)])), (y, .inr (9, [.int 0, .ref (qm 0), .int 0, .int 0, .int 0, .int 0, .int 0, .int 0, .int 0, .int 0, .int (-1), .int 0, .ref (qm 1), .int 0, .int 0, .ref (qm 2), .ref (qm 3), .ref (qm 4), .ref (qm 5), .ref (qm 6), .ref (qm 7), .ref (qm 8), .ref (qm 9), .ref (qm 10), .ref (qm 11), .ref (qm 12), .ref (qm 13), .ref (qm 14), .ref (qm 15), .ref (qm 16), .int 0, .int 0, .int 0, .int 0, .int 0, .int 0, .ref (qm 17), .ref (qm 18), .ref (qm 19), .ref (qm 20)]))]) hP rfl
  have hD := hD.sub (ws' := [(x, .inr (8, [.int 0, .int 0, .ref (q 0), .ref (q 1), .ref (q 2), .ref (q 3), .ref (q 4), .ref (q 5), .ref (q 6), .ref (q 7), .ref (q 8), .ref (q 9), .ref (q 10), .ref (q 11)])), (y, .inr (9, [.int 0, .ref (qm 0), .int 0, .int 0, .int 0, .int 0, .int 0, .int 0, .int 0, .int 0, .int (-1), .int 0, .ref (qm 1), .int 0, .int 0, .ref (qm 2), .ref (qm 3), .ref (qm 4), .ref (qm 5), .ref (qm 6), .ref (qm 7), .ref (qm 8), .ref (qm 9), .ref (qm 10), .ref (qm 11), .ref (qm 12), .ref (qm 13), .ref (qm 14), .ref (qm 15), .ref (qm 16), .int 0, .int 0, .int 0, .int 0, .int 0, .int 0, .ref (qm 17), .ref (qm 18), .ref (qm 19), .ref (qm 20)]))]) [0, 14] (by decide) rfl
  refine lv_aload_n hx hb dL_law_704 rfl (lv_at hl 3 rfl) ?_
  refine lv_aload_n hx hb dL_law_705 rfl (lv_at hl 4 rfl) ?_
  refine lv_iload hx hb dL_law_706 (lv_at hl 0 rfl) ?_
  refine lv_iconst (v := 1) hx hb dL_law_708 (by decide) ?_
  refine r_iadd (v := 1) F dL_law_709 (by decide) ?_
  refine va_sld hx hb hX hbl hbA hS (bw_vin (by decide)) dL_law_710 ?_
  refine r_callVi (As := [.int (xs (Int32.toNatClampNeg 1))]) (rest := []) (wr := [(y, .inr (9, [.int 0, .ref (qm 0), .int 0, .int 0, .int 0, .int 0, .int 0, .int 0, .int 0, .int 0, .int (-1), .int 0, .ref (qm 1), .int 0, .int 0, .ref (qm 2), .ref (qm 3), .ref (qm 4), .ref (qm 5), .ref (qm 6), .ref (qm 7), .ref (qm 8), .ref (qm 9), .ref (qm 10), .ref (qm 11), .ref (qm 12), .ref (qm 13), .ref (qm 14), .ref (qm 15), .ref (qm 16), .int 0, .int 0, .int 0, .int 0, .int 0, .int 0, .ref (qm 17), .ref (qm 18), .ref (qm 19), .ref (qm 20)]))]) F hK hP hD hS hA hO hE (c_X8_must hO x q (xs (Int32.toNatClampNeg 1))) k_785 kv_X8_must 1 rfl (by decide +kernel) ⟨Nat.le_of_ble_eq_true rfl, Nat.le_of_ble_eq_true rfl⟩ [0] [1] rfl rfl (by decide) (by decide) (by decide) 0 8 rfl rfl rfl hl.1 rfl (Nat.le_of_ble_eq_true rfl) dL_law_711 ⟨Nat.le_of_ble_eq_true rfl, Nat.le_of_ble_eq_true rfl⟩ (w1 := fun u1 => [(y, .inr (9, [.int 0, .ref (qm 0), .int 0, .int 0, .int 0, .int 0, .int 0, .int 0, .int 0, .int 0, .int (-1), .int 0, .ref (qm 1), .int 0, .int 0, .ref (qm 2), .ref (qm 3), .ref (qm 4), .ref (qm 5), .ref (qm 6), .ref (qm 7), .ref (qm 8), .ref (qm 9), .ref (qm 10), .ref (qm 11), .ref (qm 12), .ref (qm 13), .ref (qm 14), .ref (qm 15), .ref (qm 16), .int 0, .int 0, .int 0, .int 0, .int 0, .int 0, .ref (qm 17), .ref (qm 18), .ref (qm 19), .ref (qm 20)]))]) (fun _ => rfl) (fun r2 u1 H locs hp hP hD hS => ?_)
  subst hp
  refine lv_aload_n hx hb dL_law_714 rfl (lv_at hl 2 rfl) ?_
  refine lv_aload_n hx hb dL_law_715 rfl (lv_at hl 4 rfl) ?_
  refine lv_iload hx hb dL_law_716 (lv_at hl 0 rfl) ?_
  refine lv_iconst (v := 1) hx hb dL_law_718 (by decide) ?_
  refine r_iadd (v := 1) F dL_law_719 (by decide) ?_
  refine va_sld hx hb hX hbl hbA hS (bw_vin (by decide)) dL_law_720 ?_
  refine r_callVi (As := [.int (xs (Int32.toNatClampNeg 1))]) (rest := [.int (-1)]) (wr := []) F hK hP hD hS hA hO hE (c_X9_must hO y qm (xs (Int32.toNatClampNeg 1))) k_1526 kv_X9_must 1 rfl (by decide +kernel) ⟨Nat.le_of_ble_eq_true rfl, Nat.le_of_ble_eq_true rfl⟩ [0] [] rfl rfl (by decide) (by decide) (by decide) 0 9 rfl rfl rfl hl.1 rfl (Nat.le_of_ble_eq_true rfl) dL_law_721 ⟨Nat.le_of_ble_eq_true rfl, Nat.le_of_ble_eq_true rfl⟩ (w1 := fun u3 => []) (fun _ => rfl) (fun r4 u3 H locs hp hP hD hS => ?_)
  subst hp
  refine lv_icmp_eq (tgt := 1483) hx hb dL_law_724 (by decide) (fun _ => ?_) (fun h9 => absurd rfl h9)
  exact lc_end C1 hS (Nat.le_of_ble_eq_true rfl) (Nat.le_of_ble_eq_true rfl) (lv_sub hl [0, 4] rfl)
theorem dL_law_729 : decode cL_law 729 = .ok (.aload_n 1, 1) := by decide +kernel
theorem dL_law_730 : decode cL_law 730 = .ok (.aload_n 0, 1) := by decide +kernel
theorem dL_law_731 : decode cL_law 731 = .ok (.iload 4, 2) := by decide +kernel
theorem dL_law_733 : decode cL_law 733 = .ok (.iconst 1, 1) := by decide +kernel
theorem dL_law_734 : decode cL_law 734 = .ok (.iadd, 1) := by decide +kernel
theorem dL_law_735 : decode cL_law 735 = .ok (.iaload, 1) := by decide +kernel
theorem dL_law_736 : decode cL_law 736 = .ok (.invokevirtual 93, 3) := by decide +kernel
theorem k_823 : Cond.methodLink RL 93 yX8_unburnt ∈ bw_T := bw_m 823 (by decide +kernel) rfl
theorem kv_X8_unburnt : bw_KV RX8 yX8_unburnt (Cond.code yX8_unburnt cX8_unburnt 2 (some .int)) := ⟨bw_m 824 (by decide +kernel) rfl, bw_m 825 (by decide +kernel) rfl, bw_m 94 (by decide +kernel) rfl, bw_m 826 (by decide +kernel) rfl⟩
theorem dL_law_739 : decode cL_law 739 = .ok (.aload_n 2, 1) := by decide +kernel
theorem dL_law_740 : decode cL_law 740 = .ok (.aload_n 0, 1) := by decide +kernel
theorem dL_law_741 : decode cL_law 741 = .ok (.iload 4, 2) := by decide +kernel
theorem dL_law_743 : decode cL_law 743 = .ok (.iconst 1, 1) := by decide +kernel
theorem dL_law_744 : decode cL_law 744 = .ok (.iadd, 1) := by decide +kernel
theorem dL_law_745 : decode cL_law 745 = .ok (.iaload, 1) := by decide +kernel
theorem dL_law_746 : decode cL_law 746 = .ok (.invokevirtual 96, 3) := by decide +kernel
theorem k_1542 : Cond.methodLink RL 96 yX9_unburnt ∈ bw_T := bw_m 1542 (by decide +kernel) rfl
theorem kv_X9_unburnt : bw_KV RX9 yX9_unburnt (Cond.code yX9_unburnt cX9_unburnt 5 (some .int)) := ⟨bw_m 1543 (by decide +kernel) rfl, bw_m 1544 (by decide +kernel) rfl, bw_m 107 (by decide +kernel) rfl, bw_m 1545 (by decide +kernel) rfl⟩
theorem dL_law_749 : decode cL_law 749 = .ok (.if_icmp .eq 734, 3) := by decide +kernel
set_option maxRecDepth 100000 in
set_option maxHeartbeats 4000000 in
theorem lc_17 {p : Program} {l : Launch} {e : Env} {s : State} {m : MethodId} {below : List Frame} {meth : Method} {c : Code} {b : Nat} {xs : Nat → Int32} (C0 : lw_At p s m meth c b 6 xs) {E : (Nat → Prop) → State → Prop} (hO : bw_Ok E) {G : va_G} {cI cB cJ cN cW : ClassId} (hK : va_K G vwCl (bw_kt cI cB cJ cN cW) s) (hE : E (fun q : Nat => s.heap.size ≤ q) s) (x y o : Nat) (q qm : Nat → Nat) (f : Nat → Nat → Int32) {H : Heap} {locs : List Loc} (hP : va_P G vwCl (lc_W cI cB cJ x y o q qm f) H) (hD : va_D (fun q : Nat => s.heap.size ≤ q) (lc_W cI cB cJ x y o q qm f)) (hS : va_S (fun q : Nat => s.heap.size ≤ q) s.heap H locs) {ls : Array Slot} (hl : lv_has ls 7 [(4, .int 0), (3, .ref o), (2, .ref y), (1, .ref x), (0, .ref b)]) : W p l e room_1 s m #[Value.ref b] below meth c H locs 163 8733 (lw_Z below #[Value.ref b] s) (F0 m 729 ls []) := by
  have C1 := C0
  obtain ⟨hx, hb, hr, hml, hown, hts, hX, hbl, hlocks, hgv⟩ := C0
  have hA : ∀ q : Nat, s.heap.size ≤ q → (fun q : Nat => s.heap.size ≤ q) q := fun _ h => h
  have hbA : ¬ (fun q : Nat => s.heap.size ≤ q) b := Nat.not_le.mpr hbl
  have F : CallFix p m c cL_law 7 s #[Value.ref b] bw_T RL := ⟨hx, hb, hml, hown, fun w h => hts w (List.mem_filter.mp h).1⟩
  have hP := bw_subP (isC := [0, 14]) (wc := [(x, .inr (8, [.int 0, .int 0, .ref (q 0), .ref (q 1), .ref (q 2), .ref (q 3), .ref (q 4), .ref (q 5), .ref (q 6), .ref (q 7), .ref (q 8), .ref (q 9), .ref (q 10), .ref (q 11)])), (y, .inr (9, [.int 0, .ref (qm 0), .int 0, .int 0, .int 0, .int 0, .int 0, .int 0, .int 0, .int 0, .int (-1), .int 0, .ref (qm 1), .int 0, .int 0, .ref (qm 2), .ref (qm 3), .ref (qm 4), .ref (qm 5), .ref (qm 6), .ref (qm 7), .ref (qm 8), .ref (qm 9), .ref (qm 10), .ref (qm 11), .ref (qm 12), .ref (qm 13), .ref (qm 14), .ref (qm 15), .ref (qm 16), .int 0, .int 0, .int 0, .int 0, .int 0, .int 0, .ref (qm 17), .ref (qm 18), .ref (qm 19), .ref (qm 20)]))]) hP rfl
  have hD := hD.sub (ws' := [(x, .inr (8, [.int 0, .int 0, .ref (q 0), .ref (q 1), .ref (q 2), .ref (q 3), .ref (q 4), .ref (q 5), .ref (q 6), .ref (q 7), .ref (q 8), .ref (q 9), .ref (q 10), .ref (q 11)])), (y, .inr (9, [.int 0, .ref (qm 0), .int 0, .int 0, .int 0, .int 0, .int 0, .int 0, .int 0, .int 0, .int (-1), .int 0, .ref (qm 1), .int 0, .int 0, .ref (qm 2), .ref (qm 3), .ref (qm 4), .ref (qm 5), .ref (qm 6), .ref (qm 7), .ref (qm 8), .ref (qm 9), .ref (qm 10), .ref (qm 11), .ref (qm 12), .ref (qm 13), .ref (qm 14), .ref (qm 15), .ref (qm 16), .int 0, .int 0, .int 0, .int 0, .int 0, .int 0, .ref (qm 17), .ref (qm 18), .ref (qm 19), .ref (qm 20)]))]) [0, 14] (by decide) rfl
  refine lv_aload_n hx hb dL_law_729 rfl (lv_at hl 3 rfl) ?_
  refine lv_aload_n hx hb dL_law_730 rfl (lv_at hl 4 rfl) ?_
  refine lv_iload hx hb dL_law_731 (lv_at hl 0 rfl) ?_
  refine lv_iconst (v := 1) hx hb dL_law_733 (by decide) ?_
  refine r_iadd (v := 1) F dL_law_734 (by decide) ?_
  refine va_sld hx hb hX hbl hbA hS (bw_vin (by decide)) dL_law_735 ?_
  refine r_callVi (As := [.int (xs (Int32.toNatClampNeg 1))]) (rest := []) (wr := [(y, .inr (9, [.int 0, .ref (qm 0), .int 0, .int 0, .int 0, .int 0, .int 0, .int 0, .int 0, .int 0, .int (-1), .int 0, .ref (qm 1), .int 0, .int 0, .ref (qm 2), .ref (qm 3), .ref (qm 4), .ref (qm 5), .ref (qm 6), .ref (qm 7), .ref (qm 8), .ref (qm 9), .ref (qm 10), .ref (qm 11), .ref (qm 12), .ref (qm 13), .ref (qm 14), .ref (qm 15), .ref (qm 16), .int 0, .int 0, .int 0, .int 0, .int 0, .int 0, .ref (qm 17), .ref (qm 18), .ref (qm 19), .ref (qm 20)]))]) F hK hP hD hS hA hO hE (c_X8_unburnt hO x q (xs (Int32.toNatClampNeg 1))) k_823 kv_X8_unburnt 1 rfl (by decide +kernel) ⟨Nat.le_of_ble_eq_true rfl, Nat.le_of_ble_eq_true rfl⟩ [0] [1] rfl rfl (by decide) (by decide) (by decide) 0 8 rfl rfl rfl hl.1 rfl (Nat.le_of_ble_eq_true rfl) dL_law_736 ⟨Nat.le_of_ble_eq_true rfl, Nat.le_of_ble_eq_true rfl⟩ (w1 := fun u1 => [(y, .inr (9, [.int 0, .ref (qm 0), .int 0, .int 0, .int 0, .int 0, .int 0, .int 0, .int 0, .int 0, .int (-1), .int 0, .ref (qm 1), .int 0, .int 0, .ref (qm 2), .ref (qm 3), .ref (qm 4), .ref (qm 5), .ref (qm 6), .ref (qm 7), .ref (qm 8), .ref (qm 9), .ref (qm 10), .ref (qm 11), .ref (qm 12), .ref (qm 13), .ref (qm 14), .ref (qm 15), .ref (qm 16), .int 0, .int 0, .int 0, .int 0, .int 0, .int 0, .ref (qm 17), .ref (qm 18), .ref (qm 19), .ref (qm 20)]))]) (fun _ => rfl) (fun r2 u1 H locs hp hP hD hS => ?_)
  subst hp
  refine lv_aload_n hx hb dL_law_739 rfl (lv_at hl 2 rfl) ?_
  refine lv_aload_n hx hb dL_law_740 rfl (lv_at hl 4 rfl) ?_
  refine lv_iload hx hb dL_law_741 (lv_at hl 0 rfl) ?_
  refine lv_iconst (v := 1) hx hb dL_law_743 (by decide) ?_
  refine r_iadd (v := 1) F dL_law_744 (by decide) ?_
  refine va_sld hx hb hX hbl hbA hS (bw_vin (by decide)) dL_law_745 ?_
  refine r_callVi (As := [.int (xs (Int32.toNatClampNeg 1))]) (rest := [.int (-1)]) (wr := []) F hK hP hD hS hA hO hE (c_X9_unburnt hO y qm (xs (Int32.toNatClampNeg 1))) k_1542 kv_X9_unburnt 1 rfl (by decide +kernel) ⟨Nat.le_of_ble_eq_true rfl, Nat.le_of_ble_eq_true rfl⟩ [0] [] rfl rfl (by decide) (by decide) (by decide) 0 9 rfl rfl rfl hl.1 rfl (Nat.le_of_ble_eq_true rfl) dL_law_746 ⟨Nat.le_of_ble_eq_true rfl, Nat.le_of_ble_eq_true rfl⟩ (w1 := fun u3 => []) (fun _ => rfl) (fun r4 u3 H locs hp hP hD hS => ?_)
  subst hp
  refine lv_icmp_eq (tgt := 1483) hx hb dL_law_749 (by decide) (fun _ => ?_) (fun h9 => absurd rfl h9)
  exact lc_end C1 hS (Nat.le_of_ble_eq_true rfl) (Nat.le_of_ble_eq_true rfl) (lv_sub hl [0, 4] rfl)
theorem dL_law_754 : decode cL_law 754 = .ok (.aload_n 1, 1) := by decide +kernel
theorem dL_law_755 : decode cL_law 755 = .ok (.aload_n 0, 1) := by decide +kernel
theorem dL_law_756 : decode cL_law 756 = .ok (.iload 4, 2) := by decide +kernel
theorem dL_law_758 : decode cL_law 758 = .ok (.iconst 1, 1) := by decide +kernel
theorem dL_law_759 : decode cL_law 759 = .ok (.iadd, 1) := by decide +kernel
theorem dL_law_760 : decode cL_law 760 = .ok (.iaload, 1) := by decide +kernel
theorem dL_law_761 : decode cL_law 761 = .ok (.invokevirtual 97, 3) := by decide +kernel
theorem k_827 : Cond.methodLink RL 97 yX8_whole ∈ bw_T := bw_m 827 (by decide +kernel) rfl
theorem kv_X8_whole : bw_KV RX8 yX8_whole (Cond.code yX8_whole cX8_whole 2 (some .int)) := ⟨bw_m 828 (by decide +kernel) rfl, bw_m 829 (by decide +kernel) rfl, bw_m 94 (by decide +kernel) rfl, bw_m 830 (by decide +kernel) rfl⟩
theorem dL_law_764 : decode cL_law 764 = .ok (.aload_n 2, 1) := by decide +kernel
theorem dL_law_765 : decode cL_law 765 = .ok (.aload_n 0, 1) := by decide +kernel
theorem dL_law_766 : decode cL_law 766 = .ok (.iload 4, 2) := by decide +kernel
theorem dL_law_768 : decode cL_law 768 = .ok (.iconst 1, 1) := by decide +kernel
theorem dL_law_769 : decode cL_law 769 = .ok (.iadd, 1) := by decide +kernel
theorem dL_law_770 : decode cL_law 770 = .ok (.iaload, 1) := by decide +kernel
theorem dL_law_771 : decode cL_law 771 = .ok (.invokevirtual 100, 3) := by decide +kernel
theorem k_1546 : Cond.methodLink RL 100 yX9_whole ∈ bw_T := bw_m 1546 (by decide +kernel) rfl
theorem kv_X9_whole : bw_KV RX9 yX9_whole (Cond.code yX9_whole cX9_whole 4 (some .int)) := ⟨bw_m 1547 (by decide +kernel) rfl, bw_m 1548 (by decide +kernel) rfl, bw_m 107 (by decide +kernel) rfl, bw_m 1549 (by decide +kernel) rfl⟩
theorem dL_law_774 : decode cL_law 774 = .ok (.if_icmp .eq 709, 3) := by decide +kernel
set_option maxRecDepth 100000 in
set_option maxHeartbeats 4000000 in
theorem lc_18 {p : Program} {l : Launch} {e : Env} {s : State} {m : MethodId} {below : List Frame} {meth : Method} {c : Code} {b : Nat} {xs : Nat → Int32} (C0 : lw_At p s m meth c b 6 xs) {E : (Nat → Prop) → State → Prop} (hO : bw_Ok E) {G : va_G} {cI cB cJ cN cW : ClassId} (hK : va_K G vwCl (bw_kt cI cB cJ cN cW) s) (hE : E (fun q : Nat => s.heap.size ≤ q) s) (x y o : Nat) (q qm : Nat → Nat) (f : Nat → Nat → Int32) {H : Heap} {locs : List Loc} (hP : va_P G vwCl (lc_W cI cB cJ x y o q qm f) H) (hD : va_D (fun q : Nat => s.heap.size ≤ q) (lc_W cI cB cJ x y o q qm f)) (hS : va_S (fun q : Nat => s.heap.size ≤ q) s.heap H locs) {ls : Array Slot} (hl : lv_has ls 7 [(4, .int 0), (3, .ref o), (2, .ref y), (1, .ref x), (0, .ref b)]) : W p l e room_1 s m #[Value.ref b] below meth c H locs 163 8733 (lw_Z below #[Value.ref b] s) (F0 m 754 ls []) := by
  have C1 := C0
  obtain ⟨hx, hb, hr, hml, hown, hts, hX, hbl, hlocks, hgv⟩ := C0
  have hA : ∀ q : Nat, s.heap.size ≤ q → (fun q : Nat => s.heap.size ≤ q) q := fun _ h => h
  have hbA : ¬ (fun q : Nat => s.heap.size ≤ q) b := Nat.not_le.mpr hbl
  have F : CallFix p m c cL_law 7 s #[Value.ref b] bw_T RL := ⟨hx, hb, hml, hown, fun w h => hts w (List.mem_filter.mp h).1⟩
  have hP := bw_subP (isC := [0, 14]) (wc := [(x, .inr (8, [.int 0, .int 0, .ref (q 0), .ref (q 1), .ref (q 2), .ref (q 3), .ref (q 4), .ref (q 5), .ref (q 6), .ref (q 7), .ref (q 8), .ref (q 9), .ref (q 10), .ref (q 11)])), (y, .inr (9, [.int 0, .ref (qm 0), .int 0, .int 0, .int 0, .int 0, .int 0, .int 0, .int 0, .int 0, .int (-1), .int 0, .ref (qm 1), .int 0, .int 0, .ref (qm 2), .ref (qm 3), .ref (qm 4), .ref (qm 5), .ref (qm 6), .ref (qm 7), .ref (qm 8), .ref (qm 9), .ref (qm 10), .ref (qm 11), .ref (qm 12), .ref (qm 13), .ref (qm 14), .ref (qm 15), .ref (qm 16), .int 0, .int 0, .int 0, .int 0, .int 0, .int 0, .ref (qm 17), .ref (qm 18), .ref (qm 19), .ref (qm 20)]))]) hP rfl
  have hD := hD.sub (ws' := [(x, .inr (8, [.int 0, .int 0, .ref (q 0), .ref (q 1), .ref (q 2), .ref (q 3), .ref (q 4), .ref (q 5), .ref (q 6), .ref (q 7), .ref (q 8), .ref (q 9), .ref (q 10), .ref (q 11)])), (y, .inr (9, [.int 0, .ref (qm 0), .int 0, .int 0, .int 0, .int 0, .int 0, .int 0, .int 0, .int 0, .int (-1), .int 0, .ref (qm 1), .int 0, .int 0, .ref (qm 2), .ref (qm 3), .ref (qm 4), .ref (qm 5), .ref (qm 6), .ref (qm 7), .ref (qm 8), .ref (qm 9), .ref (qm 10), .ref (qm 11), .ref (qm 12), .ref (qm 13), .ref (qm 14), .ref (qm 15), .ref (qm 16), .int 0, .int 0, .int 0, .int 0, .int 0, .int 0, .ref (qm 17), .ref (qm 18), .ref (qm 19), .ref (qm 20)]))]) [0, 14] (by decide) rfl
  refine lv_aload_n hx hb dL_law_754 rfl (lv_at hl 3 rfl) ?_
  refine lv_aload_n hx hb dL_law_755 rfl (lv_at hl 4 rfl) ?_
  refine lv_iload hx hb dL_law_756 (lv_at hl 0 rfl) ?_
  refine lv_iconst (v := 1) hx hb dL_law_758 (by decide) ?_
  refine r_iadd (v := 1) F dL_law_759 (by decide) ?_
  refine va_sld hx hb hX hbl hbA hS (bw_vin (by decide)) dL_law_760 ?_
  refine r_callVi (As := [.int (xs (Int32.toNatClampNeg 1))]) (rest := []) (wr := [(y, .inr (9, [.int 0, .ref (qm 0), .int 0, .int 0, .int 0, .int 0, .int 0, .int 0, .int 0, .int 0, .int (-1), .int 0, .ref (qm 1), .int 0, .int 0, .ref (qm 2), .ref (qm 3), .ref (qm 4), .ref (qm 5), .ref (qm 6), .ref (qm 7), .ref (qm 8), .ref (qm 9), .ref (qm 10), .ref (qm 11), .ref (qm 12), .ref (qm 13), .ref (qm 14), .ref (qm 15), .ref (qm 16), .int 0, .int 0, .int 0, .int 0, .int 0, .int 0, .ref (qm 17), .ref (qm 18), .ref (qm 19), .ref (qm 20)]))]) F hK hP hD hS hA hO hE (c_X8_whole hO x q (xs (Int32.toNatClampNeg 1))) k_827 kv_X8_whole 1 rfl (by decide +kernel) ⟨Nat.le_of_ble_eq_true rfl, Nat.le_of_ble_eq_true rfl⟩ [0] [1] rfl rfl (by decide) (by decide) (by decide) 0 8 rfl rfl rfl hl.1 rfl (Nat.le_of_ble_eq_true rfl) dL_law_761 ⟨Nat.le_of_ble_eq_true rfl, Nat.le_of_ble_eq_true rfl⟩ (w1 := fun u1 => [(y, .inr (9, [.int 0, .ref (qm 0), .int 0, .int 0, .int 0, .int 0, .int 0, .int 0, .int 0, .int 0, .int (-1), .int 0, .ref (qm 1), .int 0, .int 0, .ref (qm 2), .ref (qm 3), .ref (qm 4), .ref (qm 5), .ref (qm 6), .ref (qm 7), .ref (qm 8), .ref (qm 9), .ref (qm 10), .ref (qm 11), .ref (qm 12), .ref (qm 13), .ref (qm 14), .ref (qm 15), .ref (qm 16), .int 0, .int 0, .int 0, .int 0, .int 0, .int 0, .ref (qm 17), .ref (qm 18), .ref (qm 19), .ref (qm 20)]))]) (fun _ => rfl) (fun r2 u1 H locs hp hP hD hS => ?_)
  subst hp
  refine lv_aload_n hx hb dL_law_764 rfl (lv_at hl 2 rfl) ?_
  refine lv_aload_n hx hb dL_law_765 rfl (lv_at hl 4 rfl) ?_
  refine lv_iload hx hb dL_law_766 (lv_at hl 0 rfl) ?_
  refine lv_iconst (v := 1) hx hb dL_law_768 (by decide) ?_
  refine r_iadd (v := 1) F dL_law_769 (by decide) ?_
  refine va_sld hx hb hX hbl hbA hS (bw_vin (by decide)) dL_law_770 ?_
  refine r_callVi (As := [.int (xs (Int32.toNatClampNeg 1))]) (rest := [.int (-1)]) (wr := []) F hK hP hD hS hA hO hE (c_X9_whole hO y qm (xs (Int32.toNatClampNeg 1))) k_1546 kv_X9_whole 1 rfl (by decide +kernel) ⟨Nat.le_of_ble_eq_true rfl, Nat.le_of_ble_eq_true rfl⟩ [0] [] rfl rfl (by decide) (by decide) (by decide) 0 9 rfl rfl rfl hl.1 rfl (Nat.le_of_ble_eq_true rfl) dL_law_771 ⟨Nat.le_of_ble_eq_true rfl, Nat.le_of_ble_eq_true rfl⟩ (w1 := fun u3 => []) (fun _ => rfl) (fun r4 u3 H locs hp hP hD hS => ?_)
  subst hp
  refine lv_icmp_eq (tgt := 1483) hx hb dL_law_774 (by decide) (fun _ => ?_) (fun h9 => absurd rfl h9)
  exact lc_end C1 hS (Nat.le_of_ble_eq_true rfl) (Nat.le_of_ble_eq_true rfl) (lv_sub hl [0, 4] rfl)
theorem dL_law_779 : decode cL_law 779 = .ok (.aload_n 1, 1) := by decide +kernel
theorem dL_law_780 : decode cL_law 780 = .ok (.aload_n 0, 1) := by decide +kernel
theorem dL_law_781 : decode cL_law 781 = .ok (.iload 4, 2) := by decide +kernel
theorem dL_law_783 : decode cL_law 783 = .ok (.iconst 1, 1) := by decide +kernel
theorem dL_law_784 : decode cL_law 784 = .ok (.iadd, 1) := by decide +kernel
theorem dL_law_785 : decode cL_law 785 = .ok (.iaload, 1) := by decide +kernel
theorem dL_law_786 : decode cL_law 786 = .ok (.invokevirtual 101, 3) := by decide +kernel
theorem k_831 : Cond.methodLink RL 101 yX8_longest ∈ bw_T := bw_m 831 (by decide +kernel) rfl
theorem kv_X8_longest : bw_KV RX8 yX8_longest (Cond.code yX8_longest cX8_longest 2 (some .int)) := ⟨bw_m 832 (by decide +kernel) rfl, bw_m 833 (by decide +kernel) rfl, bw_m 94 (by decide +kernel) rfl, bw_m 834 (by decide +kernel) rfl⟩
theorem dL_law_789 : decode cL_law 789 = .ok (.aload_n 2, 1) := by decide +kernel
theorem dL_law_790 : decode cL_law 790 = .ok (.aload_n 0, 1) := by decide +kernel
theorem dL_law_791 : decode cL_law 791 = .ok (.iload 4, 2) := by decide +kernel
theorem dL_law_793 : decode cL_law 793 = .ok (.iconst 1, 1) := by decide +kernel
theorem dL_law_794 : decode cL_law 794 = .ok (.iadd, 1) := by decide +kernel
theorem dL_law_795 : decode cL_law 795 = .ok (.iaload, 1) := by decide +kernel
theorem dL_law_796 : decode cL_law 796 = .ok (.invokevirtual 104, 3) := by decide +kernel
theorem k_1550 : Cond.methodLink RL 104 yX9_longest ∈ bw_T := bw_m 1550 (by decide +kernel) rfl
theorem kv_X9_longest : bw_KV RX9 yX9_longest (Cond.code yX9_longest cX9_longest 3 (some .int)) := ⟨bw_m 1551 (by decide +kernel) rfl, bw_m 1552 (by decide +kernel) rfl, bw_m 107 (by decide +kernel) rfl, bw_m 1553 (by decide +kernel) rfl⟩
theorem dL_law_799 : decode cL_law 799 = .ok (.if_icmp .eq 684, 3) := by decide +kernel
set_option maxRecDepth 100000 in
set_option maxHeartbeats 4000000 in
theorem lc_19 {p : Program} {l : Launch} {e : Env} {s : State} {m : MethodId} {below : List Frame} {meth : Method} {c : Code} {b : Nat} {xs : Nat → Int32} (C0 : lw_At p s m meth c b 6 xs) {E : (Nat → Prop) → State → Prop} (hO : bw_Ok E) {G : va_G} {cI cB cJ cN cW : ClassId} (hK : va_K G vwCl (bw_kt cI cB cJ cN cW) s) (hE : E (fun q : Nat => s.heap.size ≤ q) s) (x y o : Nat) (q qm : Nat → Nat) (f : Nat → Nat → Int32) {H : Heap} {locs : List Loc} (hP : va_P G vwCl (lc_W cI cB cJ x y o q qm f) H) (hD : va_D (fun q : Nat => s.heap.size ≤ q) (lc_W cI cB cJ x y o q qm f)) (hS : va_S (fun q : Nat => s.heap.size ≤ q) s.heap H locs) {ls : Array Slot} (hl : lv_has ls 7 [(4, .int 0), (3, .ref o), (2, .ref y), (1, .ref x), (0, .ref b)]) : W p l e room_1 s m #[Value.ref b] below meth c H locs 163 8733 (lw_Z below #[Value.ref b] s) (F0 m 779 ls []) := by
  have C1 := C0
  obtain ⟨hx, hb, hr, hml, hown, hts, hX, hbl, hlocks, hgv⟩ := C0
  have hA : ∀ q : Nat, s.heap.size ≤ q → (fun q : Nat => s.heap.size ≤ q) q := fun _ h => h
  have hbA : ¬ (fun q : Nat => s.heap.size ≤ q) b := Nat.not_le.mpr hbl
  have F : CallFix p m c cL_law 7 s #[Value.ref b] bw_T RL := ⟨hx, hb, hml, hown, fun w h => hts w (List.mem_filter.mp h).1⟩
  have hP := bw_subP (isC := [0, 14]) (wc := [(x, .inr (8, [.int 0, .int 0, .ref (q 0), .ref (q 1), .ref (q 2), .ref (q 3), .ref (q 4), .ref (q 5), .ref (q 6), .ref (q 7), .ref (q 8), .ref (q 9), .ref (q 10), .ref (q 11)])), (y, .inr (9, [.int 0, .ref (qm 0), .int 0, .int 0, .int 0, .int 0, .int 0, .int 0, .int 0, .int 0, .int (-1), .int 0, .ref (qm 1), .int 0, .int 0, .ref (qm 2), .ref (qm 3), .ref (qm 4), .ref (qm 5), .ref (qm 6), .ref (qm 7), .ref (qm 8), .ref (qm 9), .ref (qm 10), .ref (qm 11), .ref (qm 12), .ref (qm 13), .ref (qm 14), .ref (qm 15), .ref (qm 16), .int 0, .int 0, .int 0, .int 0, .int 0, .int 0, .ref (qm 17), .ref (qm 18), .ref (qm 19), .ref (qm 20)]))]) hP rfl
  have hD := hD.sub (ws' := [(x, .inr (8, [.int 0, .int 0, .ref (q 0), .ref (q 1), .ref (q 2), .ref (q 3), .ref (q 4), .ref (q 5), .ref (q 6), .ref (q 7), .ref (q 8), .ref (q 9), .ref (q 10), .ref (q 11)])), (y, .inr (9, [.int 0, .ref (qm 0), .int 0, .int 0, .int 0, .int 0, .int 0, .int 0, .int 0, .int 0, .int (-1), .int 0, .ref (qm 1), .int 0, .int 0, .ref (qm 2), .ref (qm 3), .ref (qm 4), .ref (qm 5), .ref (qm 6), .ref (qm 7), .ref (qm 8), .ref (qm 9), .ref (qm 10), .ref (qm 11), .ref (qm 12), .ref (qm 13), .ref (qm 14), .ref (qm 15), .ref (qm 16), .int 0, .int 0, .int 0, .int 0, .int 0, .int 0, .ref (qm 17), .ref (qm 18), .ref (qm 19), .ref (qm 20)]))]) [0, 14] (by decide) rfl
  refine lv_aload_n hx hb dL_law_779 rfl (lv_at hl 3 rfl) ?_
  refine lv_aload_n hx hb dL_law_780 rfl (lv_at hl 4 rfl) ?_
  refine lv_iload hx hb dL_law_781 (lv_at hl 0 rfl) ?_
  refine lv_iconst (v := 1) hx hb dL_law_783 (by decide) ?_
  refine r_iadd (v := 1) F dL_law_784 (by decide) ?_
  refine va_sld hx hb hX hbl hbA hS (bw_vin (by decide)) dL_law_785 ?_
  refine r_callVi (As := [.int (xs (Int32.toNatClampNeg 1))]) (rest := []) (wr := [(y, .inr (9, [.int 0, .ref (qm 0), .int 0, .int 0, .int 0, .int 0, .int 0, .int 0, .int 0, .int 0, .int (-1), .int 0, .ref (qm 1), .int 0, .int 0, .ref (qm 2), .ref (qm 3), .ref (qm 4), .ref (qm 5), .ref (qm 6), .ref (qm 7), .ref (qm 8), .ref (qm 9), .ref (qm 10), .ref (qm 11), .ref (qm 12), .ref (qm 13), .ref (qm 14), .ref (qm 15), .ref (qm 16), .int 0, .int 0, .int 0, .int 0, .int 0, .int 0, .ref (qm 17), .ref (qm 18), .ref (qm 19), .ref (qm 20)]))]) F hK hP hD hS hA hO hE (c_X8_longest hO x q (xs (Int32.toNatClampNeg 1))) k_831 kv_X8_longest 1 rfl (by decide +kernel) ⟨Nat.le_of_ble_eq_true rfl, Nat.le_of_ble_eq_true rfl⟩ [0] [1] rfl rfl (by decide) (by decide) (by decide) 0 8 rfl rfl rfl hl.1 rfl (Nat.le_of_ble_eq_true rfl) dL_law_786 ⟨Nat.le_of_ble_eq_true rfl, Nat.le_of_ble_eq_true rfl⟩ (w1 := fun u1 => [(y, .inr (9, [.int 0, .ref (qm 0), .int 0, .int 0, .int 0, .int 0, .int 0, .int 0, .int 0, .int 0, .int (-1), .int 0, .ref (qm 1), .int 0, .int 0, .ref (qm 2), .ref (qm 3), .ref (qm 4), .ref (qm 5), .ref (qm 6), .ref (qm 7), .ref (qm 8), .ref (qm 9), .ref (qm 10), .ref (qm 11), .ref (qm 12), .ref (qm 13), .ref (qm 14), .ref (qm 15), .ref (qm 16), .int 0, .int 0, .int 0, .int 0, .int 0, .int 0, .ref (qm 17), .ref (qm 18), .ref (qm 19), .ref (qm 20)]))]) (fun _ => rfl) (fun r2 u1 H locs hp hP hD hS => ?_)
  subst hp
  refine lv_aload_n hx hb dL_law_789 rfl (lv_at hl 2 rfl) ?_
  refine lv_aload_n hx hb dL_law_790 rfl (lv_at hl 4 rfl) ?_
  refine lv_iload hx hb dL_law_791 (lv_at hl 0 rfl) ?_
  refine lv_iconst (v := 1) hx hb dL_law_793 (by decide) ?_
  refine r_iadd (v := 1) F dL_law_794 (by decide) ?_
  refine va_sld hx hb hX hbl hbA hS (bw_vin (by decide)) dL_law_795 ?_
  refine r_callVi (As := [.int (xs (Int32.toNatClampNeg 1))]) (rest := [.int (-1)]) (wr := []) F hK hP hD hS hA hO hE (c_X9_longest hO y qm (xs (Int32.toNatClampNeg 1))) k_1550 kv_X9_longest 1 rfl (by decide +kernel) ⟨Nat.le_of_ble_eq_true rfl, Nat.le_of_ble_eq_true rfl⟩ [0] [] rfl rfl (by decide) (by decide) (by decide) 0 9 rfl rfl rfl hl.1 rfl (Nat.le_of_ble_eq_true rfl) dL_law_796 ⟨Nat.le_of_ble_eq_true rfl, Nat.le_of_ble_eq_true rfl⟩ (w1 := fun u3 => []) (fun _ => rfl) (fun r4 u3 H locs hp hP hD hS => ?_)
  subst hp
  refine lv_icmp_eq (tgt := 1483) hx hb dL_law_799 (by decide) (fun _ => ?_) (fun h9 => absurd rfl h9)
  exact lc_end C1 hS (Nat.le_of_ble_eq_true rfl) (Nat.le_of_ble_eq_true rfl) (lv_sub hl [0, 4] rfl)
theorem dL_law_804 : decode cL_law 804 = .ok (.aload_n 1, 1) := by decide +kernel
theorem dL_law_805 : decode cL_law 805 = .ok (.aload_n 0, 1) := by decide +kernel
theorem dL_law_806 : decode cL_law 806 = .ok (.iload 4, 2) := by decide +kernel
theorem dL_law_808 : decode cL_law 808 = .ok (.iconst 1, 1) := by decide +kernel
theorem dL_law_809 : decode cL_law 809 = .ok (.iadd, 1) := by decide +kernel
theorem dL_law_810 : decode cL_law 810 = .ok (.iaload, 1) := by decide +kernel
theorem dL_law_811 : decode cL_law 811 = .ok (.invokevirtual 105, 3) := by decide +kernel
theorem k_835 : Cond.methodLink RL 105 yX8_longestAt ∈ bw_T := bw_m 835 (by decide +kernel) rfl
theorem kv_X8_longestAt : bw_KV RX8 yX8_longestAt (Cond.code yX8_longestAt cX8_longestAt 2 (some .int)) := ⟨bw_m 836 (by decide +kernel) rfl, bw_m 837 (by decide +kernel) rfl, bw_m 94 (by decide +kernel) rfl, bw_m 838 (by decide +kernel) rfl⟩
theorem dL_law_814 : decode cL_law 814 = .ok (.aload_n 2, 1) := by decide +kernel
theorem dL_law_815 : decode cL_law 815 = .ok (.aload_n 0, 1) := by decide +kernel
theorem dL_law_816 : decode cL_law 816 = .ok (.iload 4, 2) := by decide +kernel
theorem dL_law_818 : decode cL_law 818 = .ok (.iconst 1, 1) := by decide +kernel
theorem dL_law_819 : decode cL_law 819 = .ok (.iadd, 1) := by decide +kernel
theorem dL_law_820 : decode cL_law 820 = .ok (.iaload, 1) := by decide +kernel
theorem dL_law_821 : decode cL_law 821 = .ok (.invokevirtual 108, 3) := by decide +kernel
theorem k_1558 : Cond.methodLink RL 108 yX9_longestAt ∈ bw_T := bw_m 1558 (by decide +kernel) rfl
theorem kv_X9_longestAt : bw_KV RX9 yX9_longestAt (Cond.code yX9_longestAt cX9_longestAt 3 (some .int)) := ⟨bw_m 1559 (by decide +kernel) rfl, bw_m 1560 (by decide +kernel) rfl, bw_m 107 (by decide +kernel) rfl, bw_m 1561 (by decide +kernel) rfl⟩
theorem dL_law_824 : decode cL_law 824 = .ok (.if_icmp .eq 659, 3) := by decide +kernel
set_option maxRecDepth 100000 in
set_option maxHeartbeats 4000000 in
theorem lc_20 {p : Program} {l : Launch} {e : Env} {s : State} {m : MethodId} {below : List Frame} {meth : Method} {c : Code} {b : Nat} {xs : Nat → Int32} (C0 : lw_At p s m meth c b 6 xs) {E : (Nat → Prop) → State → Prop} (hO : bw_Ok E) {G : va_G} {cI cB cJ cN cW : ClassId} (hK : va_K G vwCl (bw_kt cI cB cJ cN cW) s) (hE : E (fun q : Nat => s.heap.size ≤ q) s) (x y o : Nat) (q qm : Nat → Nat) (f : Nat → Nat → Int32) {H : Heap} {locs : List Loc} (hP : va_P G vwCl (lc_W cI cB cJ x y o q qm f) H) (hD : va_D (fun q : Nat => s.heap.size ≤ q) (lc_W cI cB cJ x y o q qm f)) (hS : va_S (fun q : Nat => s.heap.size ≤ q) s.heap H locs) {ls : Array Slot} (hl : lv_has ls 7 [(4, .int 0), (3, .ref o), (2, .ref y), (1, .ref x), (0, .ref b)]) : W p l e room_1 s m #[Value.ref b] below meth c H locs 163 8733 (lw_Z below #[Value.ref b] s) (F0 m 804 ls []) := by
  have C1 := C0
  obtain ⟨hx, hb, hr, hml, hown, hts, hX, hbl, hlocks, hgv⟩ := C0
  have hA : ∀ q : Nat, s.heap.size ≤ q → (fun q : Nat => s.heap.size ≤ q) q := fun _ h => h
  have hbA : ¬ (fun q : Nat => s.heap.size ≤ q) b := Nat.not_le.mpr hbl
  have F : CallFix p m c cL_law 7 s #[Value.ref b] bw_T RL := ⟨hx, hb, hml, hown, fun w h => hts w (List.mem_filter.mp h).1⟩
  have hP := bw_subP (isC := [0, 14]) (wc := [(x, .inr (8, [.int 0, .int 0, .ref (q 0), .ref (q 1), .ref (q 2), .ref (q 3), .ref (q 4), .ref (q 5), .ref (q 6), .ref (q 7), .ref (q 8), .ref (q 9), .ref (q 10), .ref (q 11)])), (y, .inr (9, [.int 0, .ref (qm 0), .int 0, .int 0, .int 0, .int 0, .int 0, .int 0, .int 0, .int 0, .int (-1), .int 0, .ref (qm 1), .int 0, .int 0, .ref (qm 2), .ref (qm 3), .ref (qm 4), .ref (qm 5), .ref (qm 6), .ref (qm 7), .ref (qm 8), .ref (qm 9), .ref (qm 10), .ref (qm 11), .ref (qm 12), .ref (qm 13), .ref (qm 14), .ref (qm 15), .ref (qm 16), .int 0, .int 0, .int 0, .int 0, .int 0, .int 0, .ref (qm 17), .ref (qm 18), .ref (qm 19), .ref (qm 20)]))]) hP rfl
  have hD := hD.sub (ws' := [(x, .inr (8, [.int 0, .int 0, .ref (q 0), .ref (q 1), .ref (q 2), .ref (q 3), .ref (q 4), .ref (q 5), .ref (q 6), .ref (q 7), .ref (q 8), .ref (q 9), .ref (q 10), .ref (q 11)])), (y, .inr (9, [.int 0, .ref (qm 0), .int 0, .int 0, .int 0, .int 0, .int 0, .int 0, .int 0, .int 0, .int (-1), .int 0, .ref (qm 1), .int 0, .int 0, .ref (qm 2), .ref (qm 3), .ref (qm 4), .ref (qm 5), .ref (qm 6), .ref (qm 7), .ref (qm 8), .ref (qm 9), .ref (qm 10), .ref (qm 11), .ref (qm 12), .ref (qm 13), .ref (qm 14), .ref (qm 15), .ref (qm 16), .int 0, .int 0, .int 0, .int 0, .int 0, .int 0, .ref (qm 17), .ref (qm 18), .ref (qm 19), .ref (qm 20)]))]) [0, 14] (by decide) rfl
  refine lv_aload_n hx hb dL_law_804 rfl (lv_at hl 3 rfl) ?_
  refine lv_aload_n hx hb dL_law_805 rfl (lv_at hl 4 rfl) ?_
  refine lv_iload hx hb dL_law_806 (lv_at hl 0 rfl) ?_
  refine lv_iconst (v := 1) hx hb dL_law_808 (by decide) ?_
  refine r_iadd (v := 1) F dL_law_809 (by decide) ?_
  refine va_sld hx hb hX hbl hbA hS (bw_vin (by decide)) dL_law_810 ?_
  refine r_callVi (As := [.int (xs (Int32.toNatClampNeg 1))]) (rest := []) (wr := [(y, .inr (9, [.int 0, .ref (qm 0), .int 0, .int 0, .int 0, .int 0, .int 0, .int 0, .int 0, .int 0, .int (-1), .int 0, .ref (qm 1), .int 0, .int 0, .ref (qm 2), .ref (qm 3), .ref (qm 4), .ref (qm 5), .ref (qm 6), .ref (qm 7), .ref (qm 8), .ref (qm 9), .ref (qm 10), .ref (qm 11), .ref (qm 12), .ref (qm 13), .ref (qm 14), .ref (qm 15), .ref (qm 16), .int 0, .int 0, .int 0, .int 0, .int 0, .int 0, .ref (qm 17), .ref (qm 18), .ref (qm 19), .ref (qm 20)]))]) F hK hP hD hS hA hO hE (c_X8_longestAt hO x q (xs (Int32.toNatClampNeg 1))) k_835 kv_X8_longestAt 1 rfl (by decide +kernel) ⟨Nat.le_of_ble_eq_true rfl, Nat.le_of_ble_eq_true rfl⟩ [0] [1] rfl rfl (by decide) (by decide) (by decide) 0 8 rfl rfl rfl hl.1 rfl (Nat.le_of_ble_eq_true rfl) dL_law_811 ⟨Nat.le_of_ble_eq_true rfl, Nat.le_of_ble_eq_true rfl⟩ (w1 := fun u1 => [(y, .inr (9, [.int 0, .ref (qm 0), .int 0, .int 0, .int 0, .int 0, .int 0, .int 0, .int 0, .int 0, .int (-1), .int 0, .ref (qm 1), .int 0, .int 0, .ref (qm 2), .ref (qm 3), .ref (qm 4), .ref (qm 5), .ref (qm 6), .ref (qm 7), .ref (qm 8), .ref (qm 9), .ref (qm 10), .ref (qm 11), .ref (qm 12), .ref (qm 13), .ref (qm 14), .ref (qm 15), .ref (qm 16), .int 0, .int 0, .int 0, .int 0, .int 0, .int 0, .ref (qm 17), .ref (qm 18), .ref (qm 19), .ref (qm 20)]))]) (fun _ => rfl) (fun r2 u1 H locs hp hP hD hS => ?_)
  subst hp
  refine lv_aload_n hx hb dL_law_814 rfl (lv_at hl 2 rfl) ?_
  refine lv_aload_n hx hb dL_law_815 rfl (lv_at hl 4 rfl) ?_
  refine lv_iload hx hb dL_law_816 (lv_at hl 0 rfl) ?_
  refine lv_iconst (v := 1) hx hb dL_law_818 (by decide) ?_
  refine r_iadd (v := 1) F dL_law_819 (by decide) ?_
  refine va_sld hx hb hX hbl hbA hS (bw_vin (by decide)) dL_law_820 ?_
  refine r_callVi (As := [.int (xs (Int32.toNatClampNeg 1))]) (rest := [.int (-1)]) (wr := []) F hK hP hD hS hA hO hE (c_X9_longestAt hO y qm (xs (Int32.toNatClampNeg 1))) k_1558 kv_X9_longestAt 1 rfl (by decide +kernel) ⟨Nat.le_of_ble_eq_true rfl, Nat.le_of_ble_eq_true rfl⟩ [0] [] rfl rfl (by decide) (by decide) (by decide) 0 9 rfl rfl rfl hl.1 rfl (Nat.le_of_ble_eq_true rfl) dL_law_821 ⟨Nat.le_of_ble_eq_true rfl, Nat.le_of_ble_eq_true rfl⟩ (w1 := fun u3 => []) (fun _ => rfl) (fun r4 u3 H locs hp hP hD hS => ?_)
  subst hp
  refine lv_icmp_eq (tgt := 1483) hx hb dL_law_824 (by decide) (fun _ => ?_) (fun h9 => absurd rfl h9)
  exact lc_end C1 hS (Nat.le_of_ble_eq_true rfl) (Nat.le_of_ble_eq_true rfl) (lv_sub hl [0, 4] rfl)
theorem dL_law_829 : decode cL_law 829 = .ok (.aload_n 1, 1) := by decide +kernel
theorem dL_law_830 : decode cL_law 830 = .ok (.aload_n 0, 1) := by decide +kernel
theorem dL_law_831 : decode cL_law 831 = .ok (.iload 4, 2) := by decide +kernel
theorem dL_law_833 : decode cL_law 833 = .ok (.iconst 1, 1) := by decide +kernel
theorem dL_law_834 : decode cL_law 834 = .ok (.iadd, 1) := by decide +kernel
theorem dL_law_835 : decode cL_law 835 = .ok (.iaload, 1) := by decide +kernel
theorem dL_law_836 : decode cL_law 836 = .ok (.aload_n 0, 1) := by decide +kernel
theorem dL_law_837 : decode cL_law 837 = .ok (.iload 4, 2) := by decide +kernel
theorem dL_law_839 : decode cL_law 839 = .ok (.iconst 2, 1) := by decide +kernel
theorem dL_law_840 : decode cL_law 840 = .ok (.iadd, 1) := by decide +kernel
theorem dL_law_841 : decode cL_law 841 = .ok (.iaload, 1) := by decide +kernel
theorem dL_law_842 : decode cL_law 842 = .ok (.invokevirtual 109, 3) := by decide +kernel
theorem k_839 : Cond.methodLink RL 109 yX8_ends ∈ bw_T := bw_m 839 (by decide +kernel) rfl
theorem kv_X8_ends : bw_KV RX8 yX8_ends (Cond.code yX8_ends cX8_ends 3 (some .int)) := ⟨bw_m 840 (by decide +kernel) rfl, bw_m 841 (by decide +kernel) rfl, bw_m 94 (by decide +kernel) rfl, bw_m 842 (by decide +kernel) rfl⟩
theorem dL_law_845 : decode cL_law 845 = .ok (.aload_n 2, 1) := by decide +kernel
theorem dL_law_846 : decode cL_law 846 = .ok (.aload_n 0, 1) := by decide +kernel
theorem dL_law_847 : decode cL_law 847 = .ok (.iload 4, 2) := by decide +kernel
theorem dL_law_849 : decode cL_law 849 = .ok (.iconst 1, 1) := by decide +kernel
theorem dL_law_850 : decode cL_law 850 = .ok (.iadd, 1) := by decide +kernel
theorem dL_law_851 : decode cL_law 851 = .ok (.iaload, 1) := by decide +kernel
theorem dL_law_852 : decode cL_law 852 = .ok (.aload_n 0, 1) := by decide +kernel
theorem dL_law_853 : decode cL_law 853 = .ok (.iload 4, 2) := by decide +kernel
theorem dL_law_855 : decode cL_law 855 = .ok (.iconst 2, 1) := by decide +kernel
theorem dL_law_856 : decode cL_law 856 = .ok (.iadd, 1) := by decide +kernel
theorem dL_law_857 : decode cL_law 857 = .ok (.iaload, 1) := by decide +kernel
theorem dL_law_858 : decode cL_law 858 = .ok (.invokevirtual 112, 3) := by decide +kernel
theorem k_1562 : Cond.methodLink RL 112 yX9_ends ∈ bw_T := bw_m 1562 (by decide +kernel) rfl
theorem kv_X9_ends : bw_KV RX9 yX9_ends (Cond.code yX9_ends cX9_ends 5 (some .int)) := ⟨bw_m 1563 (by decide +kernel) rfl, bw_m 1564 (by decide +kernel) rfl, bw_m 107 (by decide +kernel) rfl, bw_m 1565 (by decide +kernel) rfl⟩
theorem dL_law_861 : decode cL_law 861 = .ok (.if_icmp .eq 622, 3) := by decide +kernel
set_option maxRecDepth 100000 in
set_option maxHeartbeats 4000000 in
theorem lc_21 {p : Program} {l : Launch} {e : Env} {s : State} {m : MethodId} {below : List Frame} {meth : Method} {c : Code} {b : Nat} {xs : Nat → Int32} (C0 : lw_At p s m meth c b 6 xs) {E : (Nat → Prop) → State → Prop} (hO : bw_Ok E) {G : va_G} {cI cB cJ cN cW : ClassId} (hK : va_K G vwCl (bw_kt cI cB cJ cN cW) s) (hE : E (fun q : Nat => s.heap.size ≤ q) s) (x y o : Nat) (q qm : Nat → Nat) (f : Nat → Nat → Int32) {H : Heap} {locs : List Loc} (hP : va_P G vwCl (lc_W cI cB cJ x y o q qm f) H) (hD : va_D (fun q : Nat => s.heap.size ≤ q) (lc_W cI cB cJ x y o q qm f)) (hS : va_S (fun q : Nat => s.heap.size ≤ q) s.heap H locs) {ls : Array Slot} (hl : lv_has ls 7 [(4, .int 0), (3, .ref o), (2, .ref y), (1, .ref x), (0, .ref b)]) : W p l e room_1 s m #[Value.ref b] below meth c H locs 163 8733 (lw_Z below #[Value.ref b] s) (F0 m 829 ls []) := by
  have C1 := C0
  obtain ⟨hx, hb, hr, hml, hown, hts, hX, hbl, hlocks, hgv⟩ := C0
  have hA : ∀ q : Nat, s.heap.size ≤ q → (fun q : Nat => s.heap.size ≤ q) q := fun _ h => h
  have hbA : ¬ (fun q : Nat => s.heap.size ≤ q) b := Nat.not_le.mpr hbl
  have F : CallFix p m c cL_law 7 s #[Value.ref b] bw_T RL := ⟨hx, hb, hml, hown, fun w h => hts w (List.mem_filter.mp h).1⟩
  have hP := bw_subP (isC := [0, 14]) (wc := [(x, .inr (8, [.int 0, .int 0, .ref (q 0), .ref (q 1), .ref (q 2), .ref (q 3), .ref (q 4), .ref (q 5), .ref (q 6), .ref (q 7), .ref (q 8), .ref (q 9), .ref (q 10), .ref (q 11)])), (y, .inr (9, [.int 0, .ref (qm 0), .int 0, .int 0, .int 0, .int 0, .int 0, .int 0, .int 0, .int 0, .int (-1), .int 0, .ref (qm 1), .int 0, .int 0, .ref (qm 2), .ref (qm 3), .ref (qm 4), .ref (qm 5), .ref (qm 6), .ref (qm 7), .ref (qm 8), .ref (qm 9), .ref (qm 10), .ref (qm 11), .ref (qm 12), .ref (qm 13), .ref (qm 14), .ref (qm 15), .ref (qm 16), .int 0, .int 0, .int 0, .int 0, .int 0, .int 0, .ref (qm 17), .ref (qm 18), .ref (qm 19), .ref (qm 20)]))]) hP rfl
  have hD := hD.sub (ws' := [(x, .inr (8, [.int 0, .int 0, .ref (q 0), .ref (q 1), .ref (q 2), .ref (q 3), .ref (q 4), .ref (q 5), .ref (q 6), .ref (q 7), .ref (q 8), .ref (q 9), .ref (q 10), .ref (q 11)])), (y, .inr (9, [.int 0, .ref (qm 0), .int 0, .int 0, .int 0, .int 0, .int 0, .int 0, .int 0, .int 0, .int (-1), .int 0, .ref (qm 1), .int 0, .int 0, .ref (qm 2), .ref (qm 3), .ref (qm 4), .ref (qm 5), .ref (qm 6), .ref (qm 7), .ref (qm 8), .ref (qm 9), .ref (qm 10), .ref (qm 11), .ref (qm 12), .ref (qm 13), .ref (qm 14), .ref (qm 15), .ref (qm 16), .int 0, .int 0, .int 0, .int 0, .int 0, .int 0, .ref (qm 17), .ref (qm 18), .ref (qm 19), .ref (qm 20)]))]) [0, 14] (by decide) rfl
  refine lv_aload_n hx hb dL_law_829 rfl (lv_at hl 3 rfl) ?_
  refine lv_aload_n hx hb dL_law_830 rfl (lv_at hl 4 rfl) ?_
  refine lv_iload hx hb dL_law_831 (lv_at hl 0 rfl) ?_
  refine lv_iconst (v := 1) hx hb dL_law_833 (by decide) ?_
  refine r_iadd (v := 1) F dL_law_834 (by decide) ?_
  refine va_sld hx hb hX hbl hbA hS (bw_vin (by decide)) dL_law_835 ?_
  refine lv_aload_n hx hb dL_law_836 rfl (lv_at hl 4 rfl) ?_
  refine lv_iload hx hb dL_law_837 (lv_at hl 0 rfl) ?_
  refine lv_iconst (v := 2) hx hb dL_law_839 (by decide) ?_
  refine r_iadd (v := 2) F dL_law_840 (by decide) ?_
  refine va_sld hx hb hX hbl hbA hS (bw_vin (by decide)) dL_law_841 ?_
  refine r_callVi (As := [.int (xs (Int32.toNatClampNeg 1)), .int (xs (Int32.toNatClampNeg 2))]) (rest := []) (wr := [(y, .inr (9, [.int 0, .ref (qm 0), .int 0, .int 0, .int 0, .int 0, .int 0, .int 0, .int 0, .int 0, .int (-1), .int 0, .ref (qm 1), .int 0, .int 0, .ref (qm 2), .ref (qm 3), .ref (qm 4), .ref (qm 5), .ref (qm 6), .ref (qm 7), .ref (qm 8), .ref (qm 9), .ref (qm 10), .ref (qm 11), .ref (qm 12), .ref (qm 13), .ref (qm 14), .ref (qm 15), .ref (qm 16), .int 0, .int 0, .int 0, .int 0, .int 0, .int 0, .ref (qm 17), .ref (qm 18), .ref (qm 19), .ref (qm 20)]))]) F hK hP hD hS hA hO hE (c_X8_ends hO x q (xs (Int32.toNatClampNeg 1)) (xs (Int32.toNatClampNeg 2))) k_839 kv_X8_ends 2 rfl (by decide +kernel) ⟨Nat.le_of_ble_eq_true rfl, Nat.le_of_ble_eq_true rfl⟩ [0] [1] rfl rfl (by decide) (by decide) (by decide) 0 8 rfl rfl rfl hl.1 rfl (Nat.le_of_ble_eq_true rfl) dL_law_842 ⟨Nat.le_of_ble_eq_true rfl, Nat.le_of_ble_eq_true rfl⟩ (w1 := fun u1 => [(y, .inr (9, [.int 0, .ref (qm 0), .int 0, .int 0, .int 0, .int 0, .int 0, .int 0, .int 0, .int 0, .int (-1), .int 0, .ref (qm 1), .int 0, .int 0, .ref (qm 2), .ref (qm 3), .ref (qm 4), .ref (qm 5), .ref (qm 6), .ref (qm 7), .ref (qm 8), .ref (qm 9), .ref (qm 10), .ref (qm 11), .ref (qm 12), .ref (qm 13), .ref (qm 14), .ref (qm 15), .ref (qm 16), .int 0, .int 0, .int 0, .int 0, .int 0, .int 0, .ref (qm 17), .ref (qm 18), .ref (qm 19), .ref (qm 20)]))]) (fun _ => rfl) (fun r2 u1 H locs hp hP hD hS => ?_)
  subst hp
  refine lv_aload_n hx hb dL_law_845 rfl (lv_at hl 2 rfl) ?_
  refine lv_aload_n hx hb dL_law_846 rfl (lv_at hl 4 rfl) ?_
  refine lv_iload hx hb dL_law_847 (lv_at hl 0 rfl) ?_
  refine lv_iconst (v := 1) hx hb dL_law_849 (by decide) ?_
  refine r_iadd (v := 1) F dL_law_850 (by decide) ?_
  refine va_sld hx hb hX hbl hbA hS (bw_vin (by decide)) dL_law_851 ?_
  refine lv_aload_n hx hb dL_law_852 rfl (lv_at hl 4 rfl) ?_
  refine lv_iload hx hb dL_law_853 (lv_at hl 0 rfl) ?_
  refine lv_iconst (v := 2) hx hb dL_law_855 (by decide) ?_
  refine r_iadd (v := 2) F dL_law_856 (by decide) ?_
  refine va_sld hx hb hX hbl hbA hS (bw_vin (by decide)) dL_law_857 ?_
  refine r_callVi (As := [.int (xs (Int32.toNatClampNeg 1)), .int (xs (Int32.toNatClampNeg 2))]) (rest := [.int (-1)]) (wr := []) F hK hP hD hS hA hO hE (c_X9_ends hO y qm (xs (Int32.toNatClampNeg 1)) (xs (Int32.toNatClampNeg 2))) k_1562 kv_X9_ends 2 rfl (by decide +kernel) ⟨Nat.le_of_ble_eq_true rfl, Nat.le_of_ble_eq_true rfl⟩ [0] [] rfl rfl (by decide) (by decide) (by decide) 0 9 rfl rfl rfl hl.1 rfl (Nat.le_of_ble_eq_true rfl) dL_law_858 ⟨Nat.le_of_ble_eq_true rfl, Nat.le_of_ble_eq_true rfl⟩ (w1 := fun u3 => []) (fun _ => rfl) (fun r4 u3 H locs hp hP hD hS => ?_)
  subst hp
  refine lv_icmp_eq (tgt := 1483) hx hb dL_law_861 (by decide) (fun _ => ?_) (fun h9 => absurd rfl h9)
  exact lc_end C1 hS (Nat.le_of_ble_eq_true rfl) (Nat.le_of_ble_eq_true rfl) (lv_sub hl [0, 4] rfl)
theorem dL_law_866 : decode cL_law 866 = .ok (.aload_n 1, 1) := by decide +kernel
theorem dL_law_867 : decode cL_law 867 = .ok (.invokevirtual 113, 3) := by decide +kernel
theorem k_843 : Cond.methodLink RL 113 yX8_wanted ∈ bw_T := bw_m 843 (by decide +kernel) rfl
theorem kv_X8_wanted : bw_KV RX8 yX8_wanted (Cond.code yX8_wanted cX8_wanted 3 (some .int)) := ⟨bw_m 844 (by decide +kernel) rfl, bw_m 845 (by decide +kernel) rfl, bw_m 94 (by decide +kernel) rfl, bw_m 846 (by decide +kernel) rfl⟩
theorem dL_law_870 : decode cL_law 870 = .ok (.aload_n 2, 1) := by decide +kernel
theorem dL_law_871 : decode cL_law 871 = .ok (.invokevirtual 116, 3) := by decide +kernel
theorem k_1566 : Cond.methodLink RL 116 yX9_wanted ∈ bw_T := bw_m 1566 (by decide +kernel) rfl
theorem kv_X9_wanted : bw_KV RX9 yX9_wanted (Cond.code yX9_wanted cX9_wanted 3 (some .int)) := ⟨bw_m 1567 (by decide +kernel) rfl, bw_m 1568 (by decide +kernel) rfl, bw_m 107 (by decide +kernel) rfl, bw_m 1569 (by decide +kernel) rfl⟩
theorem dL_law_874 : decode cL_law 874 = .ok (.if_icmp .eq 609, 3) := by decide +kernel
set_option maxRecDepth 100000 in
set_option maxHeartbeats 4000000 in
theorem lc_22 {p : Program} {l : Launch} {e : Env} {s : State} {m : MethodId} {below : List Frame} {meth : Method} {c : Code} {b : Nat} {xs : Nat → Int32} (C0 : lw_At p s m meth c b 6 xs) {E : (Nat → Prop) → State → Prop} (hO : bw_Ok E) {G : va_G} {cI cB cJ cN cW : ClassId} (hK : va_K G vwCl (bw_kt cI cB cJ cN cW) s) (hE : E (fun q : Nat => s.heap.size ≤ q) s) (x y o : Nat) (q qm : Nat → Nat) (f : Nat → Nat → Int32) {H : Heap} {locs : List Loc} (hP : va_P G vwCl (lc_W cI cB cJ x y o q qm f) H) (hD : va_D (fun q : Nat => s.heap.size ≤ q) (lc_W cI cB cJ x y o q qm f)) (hS : va_S (fun q : Nat => s.heap.size ≤ q) s.heap H locs) {ls : Array Slot} (hl : lv_has ls 7 [(4, .int 0), (3, .ref o), (2, .ref y), (1, .ref x), (0, .ref b)]) : W p l e room_1 s m #[Value.ref b] below meth c H locs 163 8733 (lw_Z below #[Value.ref b] s) (F0 m 866 ls []) := by
  have C1 := C0
  obtain ⟨hx, hb, hr, hml, hown, hts, hX, hbl, hlocks, hgv⟩ := C0
  have hA : ∀ q : Nat, s.heap.size ≤ q → (fun q : Nat => s.heap.size ≤ q) q := fun _ h => h
  have hbA : ¬ (fun q : Nat => s.heap.size ≤ q) b := Nat.not_le.mpr hbl
  have F : CallFix p m c cL_law 7 s #[Value.ref b] bw_T RL := ⟨hx, hb, hml, hown, fun w h => hts w (List.mem_filter.mp h).1⟩
  have hP := bw_subP (isC := [0, 14]) (wc := [(x, .inr (8, [.int 0, .int 0, .ref (q 0), .ref (q 1), .ref (q 2), .ref (q 3), .ref (q 4), .ref (q 5), .ref (q 6), .ref (q 7), .ref (q 8), .ref (q 9), .ref (q 10), .ref (q 11)])), (y, .inr (9, [.int 0, .ref (qm 0), .int 0, .int 0, .int 0, .int 0, .int 0, .int 0, .int 0, .int 0, .int (-1), .int 0, .ref (qm 1), .int 0, .int 0, .ref (qm 2), .ref (qm 3), .ref (qm 4), .ref (qm 5), .ref (qm 6), .ref (qm 7), .ref (qm 8), .ref (qm 9), .ref (qm 10), .ref (qm 11), .ref (qm 12), .ref (qm 13), .ref (qm 14), .ref (qm 15), .ref (qm 16), .int 0, .int 0, .int 0, .int 0, .int 0, .int 0, .ref (qm 17), .ref (qm 18), .ref (qm 19), .ref (qm 20)]))]) hP rfl
  have hD := hD.sub (ws' := [(x, .inr (8, [.int 0, .int 0, .ref (q 0), .ref (q 1), .ref (q 2), .ref (q 3), .ref (q 4), .ref (q 5), .ref (q 6), .ref (q 7), .ref (q 8), .ref (q 9), .ref (q 10), .ref (q 11)])), (y, .inr (9, [.int 0, .ref (qm 0), .int 0, .int 0, .int 0, .int 0, .int 0, .int 0, .int 0, .int 0, .int (-1), .int 0, .ref (qm 1), .int 0, .int 0, .ref (qm 2), .ref (qm 3), .ref (qm 4), .ref (qm 5), .ref (qm 6), .ref (qm 7), .ref (qm 8), .ref (qm 9), .ref (qm 10), .ref (qm 11), .ref (qm 12), .ref (qm 13), .ref (qm 14), .ref (qm 15), .ref (qm 16), .int 0, .int 0, .int 0, .int 0, .int 0, .int 0, .ref (qm 17), .ref (qm 18), .ref (qm 19), .ref (qm 20)]))]) [0, 14] (by decide) rfl
  refine lv_aload_n hx hb dL_law_866 rfl (lv_at hl 3 rfl) ?_
  refine r_callVi (As := []) (rest := []) (wr := [(y, .inr (9, [.int 0, .ref (qm 0), .int 0, .int 0, .int 0, .int 0, .int 0, .int 0, .int 0, .int 0, .int (-1), .int 0, .ref (qm 1), .int 0, .int 0, .ref (qm 2), .ref (qm 3), .ref (qm 4), .ref (qm 5), .ref (qm 6), .ref (qm 7), .ref (qm 8), .ref (qm 9), .ref (qm 10), .ref (qm 11), .ref (qm 12), .ref (qm 13), .ref (qm 14), .ref (qm 15), .ref (qm 16), .int 0, .int 0, .int 0, .int 0, .int 0, .int 0, .ref (qm 17), .ref (qm 18), .ref (qm 19), .ref (qm 20)]))]) F hK hP hD hS hA hO hE (c_X8_wanted hO x q) k_843 kv_X8_wanted 0 rfl (by decide +kernel) ⟨Nat.le_of_ble_eq_true rfl, Nat.le_of_ble_eq_true rfl⟩ [0] [1] rfl rfl (by decide) (by decide) (by decide) 0 8 rfl rfl rfl hl.1 rfl (Nat.le_of_ble_eq_true rfl) dL_law_867 ⟨Nat.le_of_ble_eq_true rfl, Nat.le_of_ble_eq_true rfl⟩ (w1 := fun u1 => [(y, .inr (9, [.int 0, .ref (qm 0), .int 0, .int 0, .int 0, .int 0, .int 0, .int 0, .int 0, .int 0, .int (-1), .int 0, .ref (qm 1), .int 0, .int 0, .ref (qm 2), .ref (qm 3), .ref (qm 4), .ref (qm 5), .ref (qm 6), .ref (qm 7), .ref (qm 8), .ref (qm 9), .ref (qm 10), .ref (qm 11), .ref (qm 12), .ref (qm 13), .ref (qm 14), .ref (qm 15), .ref (qm 16), .int 0, .int 0, .int 0, .int 0, .int 0, .int 0, .ref (qm 17), .ref (qm 18), .ref (qm 19), .ref (qm 20)]))]) (fun _ => rfl) (fun r2 u1 H locs hp hP hD hS => ?_)
  subst hp
  refine lv_aload_n hx hb dL_law_870 rfl (lv_at hl 2 rfl) ?_
  refine r_callVi (As := []) (rest := [.int (-1)]) (wr := []) F hK hP hD hS hA hO hE (c_X9_wanted hO y qm) k_1566 kv_X9_wanted 0 rfl (by decide +kernel) ⟨Nat.le_of_ble_eq_true rfl, Nat.le_of_ble_eq_true rfl⟩ [0] [] rfl rfl (by decide) (by decide) (by decide) 0 9 rfl rfl rfl hl.1 rfl (Nat.le_of_ble_eq_true rfl) dL_law_871 ⟨Nat.le_of_ble_eq_true rfl, Nat.le_of_ble_eq_true rfl⟩ (w1 := fun u3 => []) (fun _ => rfl) (fun r4 u3 H locs hp hP hD hS => ?_)
  subst hp
  refine lv_icmp_eq (tgt := 1483) hx hb dL_law_874 (by decide) (fun _ => ?_) (fun h9 => absurd rfl h9)
  exact lc_end C1 hS (Nat.le_of_ble_eq_true rfl) (Nat.le_of_ble_eq_true rfl) (lv_sub hl [0, 4] rfl)
theorem dL_law_879 : decode cL_law 879 = .ok (.aload_n 1, 1) := by decide +kernel
theorem dL_law_880 : decode cL_law 880 = .ok (.invokevirtual 117, 3) := by decide +kernel
theorem k_851 : Cond.methodLink RL 117 yX8_come ∈ bw_T := bw_m 851 (by decide +kernel) rfl
theorem kv_X8_come : bw_KV RX8 yX8_come (Cond.code yX8_come cX8_come 1 (some .int)) := ⟨bw_m 852 (by decide +kernel) rfl, bw_m 853 (by decide +kernel) rfl, bw_m 94 (by decide +kernel) rfl, bw_m 854 (by decide +kernel) rfl⟩
theorem dL_law_883 : decode cL_law 883 = .ok (.aload_n 2, 1) := by decide +kernel
theorem dL_law_884 : decode cL_law 884 = .ok (.invokevirtual 120, 3) := by decide +kernel
theorem k_1574 : Cond.methodLink RL 120 yX9_come ∈ bw_T := bw_m 1574 (by decide +kernel) rfl
theorem kv_X9_come : bw_KV RX9 yX9_come (Cond.code yX9_come cX9_come 1 (some .int)) := ⟨bw_m 1575 (by decide +kernel) rfl, bw_m 1576 (by decide +kernel) rfl, bw_m 107 (by decide +kernel) rfl, bw_m 1577 (by decide +kernel) rfl⟩
theorem dL_law_887 : decode cL_law 887 = .ok (.if_icmp .eq 596, 3) := by decide +kernel
set_option maxRecDepth 100000 in
set_option maxHeartbeats 4000000 in
theorem lc_23 {p : Program} {l : Launch} {e : Env} {s : State} {m : MethodId} {below : List Frame} {meth : Method} {c : Code} {b : Nat} {xs : Nat → Int32} (C0 : lw_At p s m meth c b 6 xs) {E : (Nat → Prop) → State → Prop} (hO : bw_Ok E) {G : va_G} {cI cB cJ cN cW : ClassId} (hK : va_K G vwCl (bw_kt cI cB cJ cN cW) s) (hE : E (fun q : Nat => s.heap.size ≤ q) s) (x y o : Nat) (q qm : Nat → Nat) (f : Nat → Nat → Int32) {H : Heap} {locs : List Loc} (hP : va_P G vwCl (lc_W cI cB cJ x y o q qm f) H) (hD : va_D (fun q : Nat => s.heap.size ≤ q) (lc_W cI cB cJ x y o q qm f)) (hS : va_S (fun q : Nat => s.heap.size ≤ q) s.heap H locs) {ls : Array Slot} (hl : lv_has ls 7 [(4, .int 0), (3, .ref o), (2, .ref y), (1, .ref x), (0, .ref b)]) : W p l e room_1 s m #[Value.ref b] below meth c H locs 163 8733 (lw_Z below #[Value.ref b] s) (F0 m 879 ls []) := by
  have C1 := C0
  obtain ⟨hx, hb, hr, hml, hown, hts, hX, hbl, hlocks, hgv⟩ := C0
  have hA : ∀ q : Nat, s.heap.size ≤ q → (fun q : Nat => s.heap.size ≤ q) q := fun _ h => h
  have hbA : ¬ (fun q : Nat => s.heap.size ≤ q) b := Nat.not_le.mpr hbl
  have F : CallFix p m c cL_law 7 s #[Value.ref b] bw_T RL := ⟨hx, hb, hml, hown, fun w h => hts w (List.mem_filter.mp h).1⟩
  have hP := bw_subP (isC := [0, 14]) (wc := [(x, .inr (8, [.int 0, .int 0, .ref (q 0), .ref (q 1), .ref (q 2), .ref (q 3), .ref (q 4), .ref (q 5), .ref (q 6), .ref (q 7), .ref (q 8), .ref (q 9), .ref (q 10), .ref (q 11)])), (y, .inr (9, [.int 0, .ref (qm 0), .int 0, .int 0, .int 0, .int 0, .int 0, .int 0, .int 0, .int 0, .int (-1), .int 0, .ref (qm 1), .int 0, .int 0, .ref (qm 2), .ref (qm 3), .ref (qm 4), .ref (qm 5), .ref (qm 6), .ref (qm 7), .ref (qm 8), .ref (qm 9), .ref (qm 10), .ref (qm 11), .ref (qm 12), .ref (qm 13), .ref (qm 14), .ref (qm 15), .ref (qm 16), .int 0, .int 0, .int 0, .int 0, .int 0, .int 0, .ref (qm 17), .ref (qm 18), .ref (qm 19), .ref (qm 20)]))]) hP rfl
  have hD := hD.sub (ws' := [(x, .inr (8, [.int 0, .int 0, .ref (q 0), .ref (q 1), .ref (q 2), .ref (q 3), .ref (q 4), .ref (q 5), .ref (q 6), .ref (q 7), .ref (q 8), .ref (q 9), .ref (q 10), .ref (q 11)])), (y, .inr (9, [.int 0, .ref (qm 0), .int 0, .int 0, .int 0, .int 0, .int 0, .int 0, .int 0, .int 0, .int (-1), .int 0, .ref (qm 1), .int 0, .int 0, .ref (qm 2), .ref (qm 3), .ref (qm 4), .ref (qm 5), .ref (qm 6), .ref (qm 7), .ref (qm 8), .ref (qm 9), .ref (qm 10), .ref (qm 11), .ref (qm 12), .ref (qm 13), .ref (qm 14), .ref (qm 15), .ref (qm 16), .int 0, .int 0, .int 0, .int 0, .int 0, .int 0, .ref (qm 17), .ref (qm 18), .ref (qm 19), .ref (qm 20)]))]) [0, 14] (by decide) rfl
  refine lv_aload_n hx hb dL_law_879 rfl (lv_at hl 3 rfl) ?_
  refine r_callVi (As := []) (rest := []) (wr := [(y, .inr (9, [.int 0, .ref (qm 0), .int 0, .int 0, .int 0, .int 0, .int 0, .int 0, .int 0, .int 0, .int (-1), .int 0, .ref (qm 1), .int 0, .int 0, .ref (qm 2), .ref (qm 3), .ref (qm 4), .ref (qm 5), .ref (qm 6), .ref (qm 7), .ref (qm 8), .ref (qm 9), .ref (qm 10), .ref (qm 11), .ref (qm 12), .ref (qm 13), .ref (qm 14), .ref (qm 15), .ref (qm 16), .int 0, .int 0, .int 0, .int 0, .int 0, .int 0, .ref (qm 17), .ref (qm 18), .ref (qm 19), .ref (qm 20)]))]) F hK hP hD hS hA hO hE (c_X8_come hO x q) k_851 kv_X8_come 0 rfl (by decide +kernel) ⟨Nat.le_of_ble_eq_true rfl, Nat.le_of_ble_eq_true rfl⟩ [0] [1] rfl rfl (by decide) (by decide) (by decide) 0 8 rfl rfl rfl hl.1 rfl (Nat.le_of_ble_eq_true rfl) dL_law_880 ⟨Nat.le_of_ble_eq_true rfl, Nat.le_of_ble_eq_true rfl⟩ (w1 := fun u1 => [(y, .inr (9, [.int 0, .ref (qm 0), .int 0, .int 0, .int 0, .int 0, .int 0, .int 0, .int 0, .int 0, .int (-1), .int 0, .ref (qm 1), .int 0, .int 0, .ref (qm 2), .ref (qm 3), .ref (qm 4), .ref (qm 5), .ref (qm 6), .ref (qm 7), .ref (qm 8), .ref (qm 9), .ref (qm 10), .ref (qm 11), .ref (qm 12), .ref (qm 13), .ref (qm 14), .ref (qm 15), .ref (qm 16), .int 0, .int 0, .int 0, .int 0, .int 0, .int 0, .ref (qm 17), .ref (qm 18), .ref (qm 19), .ref (qm 20)]))]) (fun _ => rfl) (fun r2 u1 H locs hp hP hD hS => ?_)
  subst hp
  refine lv_aload_n hx hb dL_law_883 rfl (lv_at hl 2 rfl) ?_
  refine r_callVi (As := []) (rest := [.int (-1)]) (wr := []) F hK hP hD hS hA hO hE (c_X9_come hO y qm) k_1574 kv_X9_come 0 rfl (by decide +kernel) ⟨Nat.le_of_ble_eq_true rfl, Nat.le_of_ble_eq_true rfl⟩ [0] [] rfl rfl (by decide) (by decide) (by decide) 0 9 rfl rfl rfl hl.1 rfl (Nat.le_of_ble_eq_true rfl) dL_law_884 ⟨Nat.le_of_ble_eq_true rfl, Nat.le_of_ble_eq_true rfl⟩ (w1 := fun u3 => []) (fun _ => rfl) (fun r4 u3 H locs hp hP hD hS => ?_)
  subst hp
  refine lv_icmp_eq (tgt := 1483) hx hb dL_law_887 (by decide) (fun _ => ?_) (fun h9 => absurd rfl h9)
  exact lc_end C1 hS (Nat.le_of_ble_eq_true rfl) (Nat.le_of_ble_eq_true rfl) (lv_sub hl [0, 4] rfl)
theorem dL_law_892 : decode cL_law 892 = .ok (.aload_n 1, 1) := by decide +kernel
theorem dL_law_893 : decode cL_law 893 = .ok (.invokevirtual 121, 3) := by decide +kernel
theorem k_859 : Cond.methodLink RL 121 yX8_even ∈ bw_T := bw_m 859 (by decide +kernel) rfl
theorem kv_X8_even : bw_KV RX8 yX8_even (Cond.code yX8_even cX8_even 1 (some .int)) := ⟨bw_m 860 (by decide +kernel) rfl, bw_m 861 (by decide +kernel) rfl, bw_m 94 (by decide +kernel) rfl, bw_m 862 (by decide +kernel) rfl⟩
theorem dL_law_896 : decode cL_law 896 = .ok (.aload_n 2, 1) := by decide +kernel
theorem dL_law_897 : decode cL_law 897 = .ok (.invokevirtual 124, 3) := by decide +kernel
theorem k_1585 : Cond.methodLink RL 124 yX9_even ∈ bw_T := bw_m 1585 (by decide +kernel) rfl
theorem kv_X9_even : bw_KV RX9 yX9_even (Cond.code yX9_even cX9_even 1 (some .int)) := ⟨bw_m 1586 (by decide +kernel) rfl, bw_m 1587 (by decide +kernel) rfl, bw_m 107 (by decide +kernel) rfl, bw_m 1588 (by decide +kernel) rfl⟩
theorem dL_law_900 : decode cL_law 900 = .ok (.if_icmp .eq 583, 3) := by decide +kernel
set_option maxRecDepth 100000 in
set_option maxHeartbeats 4000000 in
theorem lc_24 {p : Program} {l : Launch} {e : Env} {s : State} {m : MethodId} {below : List Frame} {meth : Method} {c : Code} {b : Nat} {xs : Nat → Int32} (C0 : lw_At p s m meth c b 6 xs) {E : (Nat → Prop) → State → Prop} (hO : bw_Ok E) {G : va_G} {cI cB cJ cN cW : ClassId} (hK : va_K G vwCl (bw_kt cI cB cJ cN cW) s) (hE : E (fun q : Nat => s.heap.size ≤ q) s) (x y o : Nat) (q qm : Nat → Nat) (f : Nat → Nat → Int32) {H : Heap} {locs : List Loc} (hP : va_P G vwCl (lc_W cI cB cJ x y o q qm f) H) (hD : va_D (fun q : Nat => s.heap.size ≤ q) (lc_W cI cB cJ x y o q qm f)) (hS : va_S (fun q : Nat => s.heap.size ≤ q) s.heap H locs) {ls : Array Slot} (hl : lv_has ls 7 [(4, .int 0), (3, .ref o), (2, .ref y), (1, .ref x), (0, .ref b)]) : W p l e room_1 s m #[Value.ref b] below meth c H locs 163 8733 (lw_Z below #[Value.ref b] s) (F0 m 892 ls []) := by
  have C1 := C0
  obtain ⟨hx, hb, hr, hml, hown, hts, hX, hbl, hlocks, hgv⟩ := C0
  have hA : ∀ q : Nat, s.heap.size ≤ q → (fun q : Nat => s.heap.size ≤ q) q := fun _ h => h
  have hbA : ¬ (fun q : Nat => s.heap.size ≤ q) b := Nat.not_le.mpr hbl
  have F : CallFix p m c cL_law 7 s #[Value.ref b] bw_T RL := ⟨hx, hb, hml, hown, fun w h => hts w (List.mem_filter.mp h).1⟩
  have hP := bw_subP (isC := [0, 14]) (wc := [(x, .inr (8, [.int 0, .int 0, .ref (q 0), .ref (q 1), .ref (q 2), .ref (q 3), .ref (q 4), .ref (q 5), .ref (q 6), .ref (q 7), .ref (q 8), .ref (q 9), .ref (q 10), .ref (q 11)])), (y, .inr (9, [.int 0, .ref (qm 0), .int 0, .int 0, .int 0, .int 0, .int 0, .int 0, .int 0, .int 0, .int (-1), .int 0, .ref (qm 1), .int 0, .int 0, .ref (qm 2), .ref (qm 3), .ref (qm 4), .ref (qm 5), .ref (qm 6), .ref (qm 7), .ref (qm 8), .ref (qm 9), .ref (qm 10), .ref (qm 11), .ref (qm 12), .ref (qm 13), .ref (qm 14), .ref (qm 15), .ref (qm 16), .int 0, .int 0, .int 0, .int 0, .int 0, .int 0, .ref (qm 17), .ref (qm 18), .ref (qm 19), .ref (qm 20)]))]) hP rfl
  have hD := hD.sub (ws' := [(x, .inr (8, [.int 0, .int 0, .ref (q 0), .ref (q 1), .ref (q 2), .ref (q 3), .ref (q 4), .ref (q 5), .ref (q 6), .ref (q 7), .ref (q 8), .ref (q 9), .ref (q 10), .ref (q 11)])), (y, .inr (9, [.int 0, .ref (qm 0), .int 0, .int 0, .int 0, .int 0, .int 0, .int 0, .int 0, .int 0, .int (-1), .int 0, .ref (qm 1), .int 0, .int 0, .ref (qm 2), .ref (qm 3), .ref (qm 4), .ref (qm 5), .ref (qm 6), .ref (qm 7), .ref (qm 8), .ref (qm 9), .ref (qm 10), .ref (qm 11), .ref (qm 12), .ref (qm 13), .ref (qm 14), .ref (qm 15), .ref (qm 16), .int 0, .int 0, .int 0, .int 0, .int 0, .int 0, .ref (qm 17), .ref (qm 18), .ref (qm 19), .ref (qm 20)]))]) [0, 14] (by decide) rfl
  refine lv_aload_n hx hb dL_law_892 rfl (lv_at hl 3 rfl) ?_
  refine r_callVi (As := []) (rest := []) (wr := [(y, .inr (9, [.int 0, .ref (qm 0), .int 0, .int 0, .int 0, .int 0, .int 0, .int 0, .int 0, .int 0, .int (-1), .int 0, .ref (qm 1), .int 0, .int 0, .ref (qm 2), .ref (qm 3), .ref (qm 4), .ref (qm 5), .ref (qm 6), .ref (qm 7), .ref (qm 8), .ref (qm 9), .ref (qm 10), .ref (qm 11), .ref (qm 12), .ref (qm 13), .ref (qm 14), .ref (qm 15), .ref (qm 16), .int 0, .int 0, .int 0, .int 0, .int 0, .int 0, .ref (qm 17), .ref (qm 18), .ref (qm 19), .ref (qm 20)]))]) F hK hP hD hS hA hO hE (c_X8_even hO x q) k_859 kv_X8_even 0 rfl (by decide +kernel) ⟨Nat.le_of_ble_eq_true rfl, Nat.le_of_ble_eq_true rfl⟩ [0] [1] rfl rfl (by decide) (by decide) (by decide) 0 8 rfl rfl rfl hl.1 rfl (Nat.le_of_ble_eq_true rfl) dL_law_893 ⟨Nat.le_of_ble_eq_true rfl, Nat.le_of_ble_eq_true rfl⟩ (w1 := fun u1 => [(y, .inr (9, [.int 0, .ref (qm 0), .int 0, .int 0, .int 0, .int 0, .int 0, .int 0, .int 0, .int 0, .int (-1), .int 0, .ref (qm 1), .int 0, .int 0, .ref (qm 2), .ref (qm 3), .ref (qm 4), .ref (qm 5), .ref (qm 6), .ref (qm 7), .ref (qm 8), .ref (qm 9), .ref (qm 10), .ref (qm 11), .ref (qm 12), .ref (qm 13), .ref (qm 14), .ref (qm 15), .ref (qm 16), .int 0, .int 0, .int 0, .int 0, .int 0, .int 0, .ref (qm 17), .ref (qm 18), .ref (qm 19), .ref (qm 20)]))]) (fun _ => rfl) (fun r2 u1 H locs hp hP hD hS => ?_)
  subst hp
  refine lv_aload_n hx hb dL_law_896 rfl (lv_at hl 2 rfl) ?_
  refine r_callVi (As := []) (rest := [.int (-1)]) (wr := []) F hK hP hD hS hA hO hE (c_X9_even hO y qm) k_1585 kv_X9_even 0 rfl (by decide +kernel) ⟨Nat.le_of_ble_eq_true rfl, Nat.le_of_ble_eq_true rfl⟩ [0] [] rfl rfl (by decide) (by decide) (by decide) 0 9 rfl rfl rfl hl.1 rfl (Nat.le_of_ble_eq_true rfl) dL_law_897 ⟨Nat.le_of_ble_eq_true rfl, Nat.le_of_ble_eq_true rfl⟩ (w1 := fun u3 => []) (fun _ => rfl) (fun r4 u3 H locs hp hP hD hS => ?_)
  subst hp
  refine lv_icmp_eq (tgt := 1483) hx hb dL_law_900 (by decide) (fun _ => ?_) (fun h9 => absurd rfl h9)
  exact lc_end C1 hS (Nat.le_of_ble_eq_true rfl) (Nat.le_of_ble_eq_true rfl) (lv_sub hl [0, 4] rfl)
theorem dL_law_905 : decode cL_law 905 = .ok (.aload_n 1, 1) := by decide +kernel
theorem dL_law_906 : decode cL_law 906 = .ok (.aload_n 0, 1) := by decide +kernel
theorem dL_law_907 : decode cL_law 907 = .ok (.iload 4, 2) := by decide +kernel
theorem dL_law_909 : decode cL_law 909 = .ok (.iconst 1, 1) := by decide +kernel
theorem dL_law_910 : decode cL_law 910 = .ok (.iadd, 1) := by decide +kernel
theorem dL_law_911 : decode cL_law 911 = .ok (.iaload, 1) := by decide +kernel
theorem dL_law_912 : decode cL_law 912 = .ok (.invokevirtual 125, 3) := by decide +kernel
theorem k_879 : Cond.methodLink RL 125 yX8_degree ∈ bw_T := bw_m 879 (by decide +kernel) rfl
theorem kv_X8_degree : bw_KV RX8 yX8_degree (Cond.code yX8_degree cX8_degree 2 (some .int)) := ⟨bw_m 880 (by decide +kernel) rfl, bw_m 881 (by decide +kernel) rfl, bw_m 94 (by decide +kernel) rfl, bw_m 882 (by decide +kernel) rfl⟩
theorem dL_law_915 : decode cL_law 915 = .ok (.aload_n 2, 1) := by decide +kernel
theorem dL_law_916 : decode cL_law 916 = .ok (.aload_n 0, 1) := by decide +kernel
theorem dL_law_917 : decode cL_law 917 = .ok (.iload 4, 2) := by decide +kernel
theorem dL_law_919 : decode cL_law 919 = .ok (.iconst 1, 1) := by decide +kernel
theorem dL_law_920 : decode cL_law 920 = .ok (.iadd, 1) := by decide +kernel
theorem dL_law_921 : decode cL_law 921 = .ok (.iaload, 1) := by decide +kernel
theorem dL_law_922 : decode cL_law 922 = .ok (.invokevirtual 128, 3) := by decide +kernel
theorem k_1597 : Cond.methodLink RL 128 yX9_degree ∈ bw_T := bw_m 1597 (by decide +kernel) rfl
theorem kv_X9_degree : bw_KV RX9 yX9_degree (Cond.code yX9_degree cX9_degree 5 (some .int)) := ⟨bw_m 1598 (by decide +kernel) rfl, bw_m 1599 (by decide +kernel) rfl, bw_m 107 (by decide +kernel) rfl, bw_m 1600 (by decide +kernel) rfl⟩
theorem dL_law_925 : decode cL_law 925 = .ok (.if_icmp .eq 558, 3) := by decide +kernel
set_option maxRecDepth 100000 in
set_option maxHeartbeats 4000000 in
theorem lc_25 {p : Program} {l : Launch} {e : Env} {s : State} {m : MethodId} {below : List Frame} {meth : Method} {c : Code} {b : Nat} {xs : Nat → Int32} (C0 : lw_At p s m meth c b 6 xs) {E : (Nat → Prop) → State → Prop} (hO : bw_Ok E) {G : va_G} {cI cB cJ cN cW : ClassId} (hK : va_K G vwCl (bw_kt cI cB cJ cN cW) s) (hE : E (fun q : Nat => s.heap.size ≤ q) s) (x y o : Nat) (q qm : Nat → Nat) (f : Nat → Nat → Int32) {H : Heap} {locs : List Loc} (hP : va_P G vwCl (lc_W cI cB cJ x y o q qm f) H) (hD : va_D (fun q : Nat => s.heap.size ≤ q) (lc_W cI cB cJ x y o q qm f)) (hS : va_S (fun q : Nat => s.heap.size ≤ q) s.heap H locs) {ls : Array Slot} (hl : lv_has ls 7 [(4, .int 0), (3, .ref o), (2, .ref y), (1, .ref x), (0, .ref b)]) : W p l e room_1 s m #[Value.ref b] below meth c H locs 163 8733 (lw_Z below #[Value.ref b] s) (F0 m 905 ls []) := by
  have C1 := C0
  obtain ⟨hx, hb, hr, hml, hown, hts, hX, hbl, hlocks, hgv⟩ := C0
  have hA : ∀ q : Nat, s.heap.size ≤ q → (fun q : Nat => s.heap.size ≤ q) q := fun _ h => h
  have hbA : ¬ (fun q : Nat => s.heap.size ≤ q) b := Nat.not_le.mpr hbl
  have F : CallFix p m c cL_law 7 s #[Value.ref b] bw_T RL := ⟨hx, hb, hml, hown, fun w h => hts w (List.mem_filter.mp h).1⟩
  have hP := bw_subP (isC := [0, 10, 14]) (wc := [(x, .inr (8, [.int 0, .int 0, .ref (q 0), .ref (q 1), .ref (q 2), .ref (q 3), .ref (q 4), .ref (q 5), .ref (q 6), .ref (q 7), .ref (q 8), .ref (q 9), .ref (q 10), .ref (q 11)])), ((q 2), .inr (2, [.int 0, .ref (q 40), .ref (q 41), .ref (q 42), .ref (q 43), .ref (q 44), .ref (q 45), .ref (q 46), .ref (q 47)])), (y, .inr (9, [.int 0, .ref (qm 0), .int 0, .int 0, .int 0, .int 0, .int 0, .int 0, .int 0, .int 0, .int (-1), .int 0, .ref (qm 1), .int 0, .int 0, .ref (qm 2), .ref (qm 3), .ref (qm 4), .ref (qm 5), .ref (qm 6), .ref (qm 7), .ref (qm 8), .ref (qm 9), .ref (qm 10), .ref (qm 11), .ref (qm 12), .ref (qm 13), .ref (qm 14), .ref (qm 15), .ref (qm 16), .int 0, .int 0, .int 0, .int 0, .int 0, .int 0, .ref (qm 17), .ref (qm 18), .ref (qm 19), .ref (qm 20)]))]) hP rfl
  have hD := hD.sub (ws' := [(x, .inr (8, [.int 0, .int 0, .ref (q 0), .ref (q 1), .ref (q 2), .ref (q 3), .ref (q 4), .ref (q 5), .ref (q 6), .ref (q 7), .ref (q 8), .ref (q 9), .ref (q 10), .ref (q 11)])), ((q 2), .inr (2, [.int 0, .ref (q 40), .ref (q 41), .ref (q 42), .ref (q 43), .ref (q 44), .ref (q 45), .ref (q 46), .ref (q 47)])), (y, .inr (9, [.int 0, .ref (qm 0), .int 0, .int 0, .int 0, .int 0, .int 0, .int 0, .int 0, .int 0, .int (-1), .int 0, .ref (qm 1), .int 0, .int 0, .ref (qm 2), .ref (qm 3), .ref (qm 4), .ref (qm 5), .ref (qm 6), .ref (qm 7), .ref (qm 8), .ref (qm 9), .ref (qm 10), .ref (qm 11), .ref (qm 12), .ref (qm 13), .ref (qm 14), .ref (qm 15), .ref (qm 16), .int 0, .int 0, .int 0, .int 0, .int 0, .int 0, .ref (qm 17), .ref (qm 18), .ref (qm 19), .ref (qm 20)]))]) [0, 10, 14] (by decide) rfl
  refine lv_aload_n hx hb dL_law_905 rfl (lv_at hl 3 rfl) ?_
  refine lv_aload_n hx hb dL_law_906 rfl (lv_at hl 4 rfl) ?_
  refine lv_iload hx hb dL_law_907 (lv_at hl 0 rfl) ?_
  refine lv_iconst (v := 1) hx hb dL_law_909 (by decide) ?_
  refine r_iadd (v := 1) F dL_law_910 (by decide) ?_
  refine va_sld hx hb hX hbl hbA hS (bw_vin (by decide)) dL_law_911 ?_
  refine r_callVi (As := [.int (xs (Int32.toNatClampNeg 1))]) (rest := []) (wr := [(y, .inr (9, [.int 0, .ref (qm 0), .int 0, .int 0, .int 0, .int 0, .int 0, .int 0, .int 0, .int 0, .int (-1), .int 0, .ref (qm 1), .int 0, .int 0, .ref (qm 2), .ref (qm 3), .ref (qm 4), .ref (qm 5), .ref (qm 6), .ref (qm 7), .ref (qm 8), .ref (qm 9), .ref (qm 10), .ref (qm 11), .ref (qm 12), .ref (qm 13), .ref (qm 14), .ref (qm 15), .ref (qm 16), .int 0, .int 0, .int 0, .int 0, .int 0, .int 0, .ref (qm 17), .ref (qm 18), .ref (qm 19), .ref (qm 20)]))]) F hK hP hD hS hA hO hE (c_X8_degree hO x q (xs (Int32.toNatClampNeg 1))) k_879 kv_X8_degree 1 rfl (by decide +kernel) ⟨Nat.le_of_ble_eq_true rfl, Nat.le_of_ble_eq_true rfl⟩ [0, 1] [2] rfl rfl (by decide) (by decide) (by decide) 0 8 rfl rfl rfl hl.1 rfl (Nat.le_of_ble_eq_true rfl) dL_law_912 ⟨Nat.le_of_ble_eq_true rfl, Nat.le_of_ble_eq_true rfl⟩ (w1 := fun u1 => [(y, .inr (9, [.int 0, .ref (qm 0), .int 0, .int 0, .int 0, .int 0, .int 0, .int 0, .int 0, .int 0, .int (-1), .int 0, .ref (qm 1), .int 0, .int 0, .ref (qm 2), .ref (qm 3), .ref (qm 4), .ref (qm 5), .ref (qm 6), .ref (qm 7), .ref (qm 8), .ref (qm 9), .ref (qm 10), .ref (qm 11), .ref (qm 12), .ref (qm 13), .ref (qm 14), .ref (qm 15), .ref (qm 16), .int 0, .int 0, .int 0, .int 0, .int 0, .int 0, .ref (qm 17), .ref (qm 18), .ref (qm 19), .ref (qm 20)]))]) (fun _ => rfl) (fun r2 u1 H locs hp hP hD hS => ?_)
  subst hp
  refine lv_aload_n hx hb dL_law_915 rfl (lv_at hl 2 rfl) ?_
  refine lv_aload_n hx hb dL_law_916 rfl (lv_at hl 4 rfl) ?_
  refine lv_iload hx hb dL_law_917 (lv_at hl 0 rfl) ?_
  refine lv_iconst (v := 1) hx hb dL_law_919 (by decide) ?_
  refine r_iadd (v := 1) F dL_law_920 (by decide) ?_
  refine va_sld hx hb hX hbl hbA hS (bw_vin (by decide)) dL_law_921 ?_
  refine r_callVi (As := [.int (xs (Int32.toNatClampNeg 1))]) (rest := [.int (-1000)]) (wr := []) F hK hP hD hS hA hO hE (c_X9_degree hO y qm (xs (Int32.toNatClampNeg 1))) k_1597 kv_X9_degree 1 rfl (by decide +kernel) ⟨Nat.le_of_ble_eq_true rfl, Nat.le_of_ble_eq_true rfl⟩ [0] [] rfl rfl (by decide) (by decide) (by decide) 0 9 rfl rfl rfl hl.1 rfl (Nat.le_of_ble_eq_true rfl) dL_law_922 ⟨Nat.le_of_ble_eq_true rfl, Nat.le_of_ble_eq_true rfl⟩ (w1 := fun u3 => []) (fun _ => rfl) (fun r4 u3 H locs hp hP hD hS => ?_)
  subst hp
  refine lv_icmp_eq (tgt := 1483) hx hb dL_law_925 (by decide) (fun _ => ?_) (fun h9 => absurd rfl h9)
  exact lc_end C1 hS (Nat.le_of_ble_eq_true rfl) (Nat.le_of_ble_eq_true rfl) (lv_sub hl [0, 4] rfl)
theorem dL_law_930 : decode cL_law 930 = .ok (.aload_n 1, 1) := by decide +kernel
theorem dL_law_931 : decode cL_law 931 = .ok (.invokevirtual 129, 3) := by decide +kernel
theorem k_888 : Cond.methodLink RL 129 yX8_trails ∈ bw_T := bw_m 888 (by decide +kernel) rfl
theorem kv_X8_trails : bw_KV RX8 yX8_trails (Cond.code yX8_trails cX8_trails 1 (some .int)) := ⟨bw_m 889 (by decide +kernel) rfl, bw_m 890 (by decide +kernel) rfl, bw_m 94 (by decide +kernel) rfl, bw_m 891 (by decide +kernel) rfl⟩
theorem dL_law_934 : decode cL_law 934 = .ok (.aload_n 2, 1) := by decide +kernel
theorem dL_law_935 : decode cL_law 935 = .ok (.invokevirtual 132, 3) := by decide +kernel
theorem k_1601 : Cond.methodLink RL 132 yX9_trails ∈ bw_T := bw_m 1601 (by decide +kernel) rfl
theorem kv_X9_trails : bw_KV RX9 yX9_trails (Cond.code yX9_trails cX9_trails 1 (some .int)) := ⟨bw_m 1602 (by decide +kernel) rfl, bw_m 1603 (by decide +kernel) rfl, bw_m 107 (by decide +kernel) rfl, bw_m 1604 (by decide +kernel) rfl⟩
theorem dL_law_938 : decode cL_law 938 = .ok (.if_icmp .eq 545, 3) := by decide +kernel
set_option maxRecDepth 100000 in
set_option maxHeartbeats 4000000 in
theorem lc_26 {p : Program} {l : Launch} {e : Env} {s : State} {m : MethodId} {below : List Frame} {meth : Method} {c : Code} {b : Nat} {xs : Nat → Int32} (C0 : lw_At p s m meth c b 6 xs) {E : (Nat → Prop) → State → Prop} (hO : bw_Ok E) {G : va_G} {cI cB cJ cN cW : ClassId} (hK : va_K G vwCl (bw_kt cI cB cJ cN cW) s) (hE : E (fun q : Nat => s.heap.size ≤ q) s) (x y o : Nat) (q qm : Nat → Nat) (f : Nat → Nat → Int32) {H : Heap} {locs : List Loc} (hP : va_P G vwCl (lc_W cI cB cJ x y o q qm f) H) (hD : va_D (fun q : Nat => s.heap.size ≤ q) (lc_W cI cB cJ x y o q qm f)) (hS : va_S (fun q : Nat => s.heap.size ≤ q) s.heap H locs) {ls : Array Slot} (hl : lv_has ls 7 [(4, .int 0), (3, .ref o), (2, .ref y), (1, .ref x), (0, .ref b)]) : W p l e room_1 s m #[Value.ref b] below meth c H locs 163 8733 (lw_Z below #[Value.ref b] s) (F0 m 930 ls []) := by
  have C1 := C0
  obtain ⟨hx, hb, hr, hml, hown, hts, hX, hbl, hlocks, hgv⟩ := C0
  have hA : ∀ q : Nat, s.heap.size ≤ q → (fun q : Nat => s.heap.size ≤ q) q := fun _ h => h
  have hbA : ¬ (fun q : Nat => s.heap.size ≤ q) b := Nat.not_le.mpr hbl
  have F : CallFix p m c cL_law 7 s #[Value.ref b] bw_T RL := ⟨hx, hb, hml, hown, fun w h => hts w (List.mem_filter.mp h).1⟩
  have hP := bw_subP (isC := [0, 14]) (wc := [(x, .inr (8, [.int 0, .int 0, .ref (q 0), .ref (q 1), .ref (q 2), .ref (q 3), .ref (q 4), .ref (q 5), .ref (q 6), .ref (q 7), .ref (q 8), .ref (q 9), .ref (q 10), .ref (q 11)])), (y, .inr (9, [.int 0, .ref (qm 0), .int 0, .int 0, .int 0, .int 0, .int 0, .int 0, .int 0, .int 0, .int (-1), .int 0, .ref (qm 1), .int 0, .int 0, .ref (qm 2), .ref (qm 3), .ref (qm 4), .ref (qm 5), .ref (qm 6), .ref (qm 7), .ref (qm 8), .ref (qm 9), .ref (qm 10), .ref (qm 11), .ref (qm 12), .ref (qm 13), .ref (qm 14), .ref (qm 15), .ref (qm 16), .int 0, .int 0, .int 0, .int 0, .int 0, .int 0, .ref (qm 17), .ref (qm 18), .ref (qm 19), .ref (qm 20)]))]) hP rfl
  have hD := hD.sub (ws' := [(x, .inr (8, [.int 0, .int 0, .ref (q 0), .ref (q 1), .ref (q 2), .ref (q 3), .ref (q 4), .ref (q 5), .ref (q 6), .ref (q 7), .ref (q 8), .ref (q 9), .ref (q 10), .ref (q 11)])), (y, .inr (9, [.int 0, .ref (qm 0), .int 0, .int 0, .int 0, .int 0, .int 0, .int 0, .int 0, .int 0, .int (-1), .int 0, .ref (qm 1), .int 0, .int 0, .ref (qm 2), .ref (qm 3), .ref (qm 4), .ref (qm 5), .ref (qm 6), .ref (qm 7), .ref (qm 8), .ref (qm 9), .ref (qm 10), .ref (qm 11), .ref (qm 12), .ref (qm 13), .ref (qm 14), .ref (qm 15), .ref (qm 16), .int 0, .int 0, .int 0, .int 0, .int 0, .int 0, .ref (qm 17), .ref (qm 18), .ref (qm 19), .ref (qm 20)]))]) [0, 14] (by decide) rfl
  refine lv_aload_n hx hb dL_law_930 rfl (lv_at hl 3 rfl) ?_
  refine r_callVi (As := []) (rest := []) (wr := [(y, .inr (9, [.int 0, .ref (qm 0), .int 0, .int 0, .int 0, .int 0, .int 0, .int 0, .int 0, .int 0, .int (-1), .int 0, .ref (qm 1), .int 0, .int 0, .ref (qm 2), .ref (qm 3), .ref (qm 4), .ref (qm 5), .ref (qm 6), .ref (qm 7), .ref (qm 8), .ref (qm 9), .ref (qm 10), .ref (qm 11), .ref (qm 12), .ref (qm 13), .ref (qm 14), .ref (qm 15), .ref (qm 16), .int 0, .int 0, .int 0, .int 0, .int 0, .int 0, .ref (qm 17), .ref (qm 18), .ref (qm 19), .ref (qm 20)]))]) F hK hP hD hS hA hO hE (c_X8_trails hO x q) k_888 kv_X8_trails 0 rfl (by decide +kernel) ⟨Nat.le_of_ble_eq_true rfl, Nat.le_of_ble_eq_true rfl⟩ [0] [1] rfl rfl (by decide) (by decide) (by decide) 0 8 rfl rfl rfl hl.1 rfl (Nat.le_of_ble_eq_true rfl) dL_law_931 ⟨Nat.le_of_ble_eq_true rfl, Nat.le_of_ble_eq_true rfl⟩ (w1 := fun u1 => [(y, .inr (9, [.int 0, .ref (qm 0), .int 0, .int 0, .int 0, .int 0, .int 0, .int 0, .int 0, .int 0, .int (-1), .int 0, .ref (qm 1), .int 0, .int 0, .ref (qm 2), .ref (qm 3), .ref (qm 4), .ref (qm 5), .ref (qm 6), .ref (qm 7), .ref (qm 8), .ref (qm 9), .ref (qm 10), .ref (qm 11), .ref (qm 12), .ref (qm 13), .ref (qm 14), .ref (qm 15), .ref (qm 16), .int 0, .int 0, .int 0, .int 0, .int 0, .int 0, .ref (qm 17), .ref (qm 18), .ref (qm 19), .ref (qm 20)]))]) (fun _ => rfl) (fun r2 u1 H locs hp hP hD hS => ?_)
  subst hp
  refine lv_aload_n hx hb dL_law_934 rfl (lv_at hl 2 rfl) ?_
  refine r_callVi (As := []) (rest := [.int (-1)]) (wr := []) F hK hP hD hS hA hO hE (c_X9_trails hO y qm) k_1601 kv_X9_trails 0 rfl (by decide +kernel) ⟨Nat.le_of_ble_eq_true rfl, Nat.le_of_ble_eq_true rfl⟩ [0] [] rfl rfl (by decide) (by decide) (by decide) 0 9 rfl rfl rfl hl.1 rfl (Nat.le_of_ble_eq_true rfl) dL_law_935 ⟨Nat.le_of_ble_eq_true rfl, Nat.le_of_ble_eq_true rfl⟩ (w1 := fun u3 => []) (fun _ => rfl) (fun r4 u3 H locs hp hP hD hS => ?_)
  subst hp
  refine lv_icmp_eq (tgt := 1483) hx hb dL_law_938 (by decide) (fun _ => ?_) (fun h9 => absurd rfl h9)
  exact lc_end C1 hS (Nat.le_of_ble_eq_true rfl) (Nat.le_of_ble_eq_true rfl) (lv_sub hl [0, 4] rfl)
theorem dL_law_943 : decode cL_law 943 = .ok (.aload_n 1, 1) := by decide +kernel
theorem dL_law_944 : decode cL_law 944 = .ok (.aload_n 0, 1) := by decide +kernel
theorem dL_law_945 : decode cL_law 945 = .ok (.iload 4, 2) := by decide +kernel
theorem dL_law_947 : decode cL_law 947 = .ok (.iconst 1, 1) := by decide +kernel
theorem dL_law_948 : decode cL_law 948 = .ok (.iadd, 1) := by decide +kernel
theorem dL_law_949 : decode cL_law 949 = .ok (.iaload, 1) := by decide +kernel
theorem dL_law_950 : decode cL_law 950 = .ok (.invokevirtual 133, 3) := by decide +kernel
theorem k_912 : Cond.methodLink RL 133 yX8_trail ∈ bw_T := bw_m 912 (by decide +kernel) rfl
theorem kv_X8_trail : bw_KV RX8 yX8_trail (Cond.code yX8_trail cX8_trail 2 (some .int)) := ⟨bw_m 913 (by decide +kernel) rfl, bw_m 914 (by decide +kernel) rfl, bw_m 94 (by decide +kernel) rfl, bw_m 915 (by decide +kernel) rfl⟩
theorem dL_law_953 : decode cL_law 953 = .ok (.aload_n 2, 1) := by decide +kernel
theorem dL_law_954 : decode cL_law 954 = .ok (.aload_n 0, 1) := by decide +kernel
theorem dL_law_955 : decode cL_law 955 = .ok (.iload 4, 2) := by decide +kernel
theorem dL_law_957 : decode cL_law 957 = .ok (.iconst 1, 1) := by decide +kernel
theorem dL_law_958 : decode cL_law 958 = .ok (.iadd, 1) := by decide +kernel
theorem dL_law_959 : decode cL_law 959 = .ok (.iaload, 1) := by decide +kernel
theorem dL_law_960 : decode cL_law 960 = .ok (.invokevirtual 136, 3) := by decide +kernel
theorem k_1609 : Cond.methodLink RL 136 yX9_trail ∈ bw_T := bw_m 1609 (by decide +kernel) rfl
theorem kv_X9_trail : bw_KV RX9 yX9_trail (Cond.code yX9_trail cX9_trail 3 (some .int)) := ⟨bw_m 1610 (by decide +kernel) rfl, bw_m 1611 (by decide +kernel) rfl, bw_m 107 (by decide +kernel) rfl, bw_m 1612 (by decide +kernel) rfl⟩
theorem dL_law_963 : decode cL_law 963 = .ok (.if_icmp .eq 520, 3) := by decide +kernel
set_option maxRecDepth 100000 in
set_option maxHeartbeats 4000000 in
theorem lc_27 {p : Program} {l : Launch} {e : Env} {s : State} {m : MethodId} {below : List Frame} {meth : Method} {c : Code} {b : Nat} {xs : Nat → Int32} (C0 : lw_At p s m meth c b 6 xs) {E : (Nat → Prop) → State → Prop} (hO : bw_Ok E) {G : va_G} {cI cB cJ cN cW : ClassId} (hK : va_K G vwCl (bw_kt cI cB cJ cN cW) s) (hE : E (fun q : Nat => s.heap.size ≤ q) s) (x y o : Nat) (q qm : Nat → Nat) (f : Nat → Nat → Int32) {H : Heap} {locs : List Loc} (hP : va_P G vwCl (lc_W cI cB cJ x y o q qm f) H) (hD : va_D (fun q : Nat => s.heap.size ≤ q) (lc_W cI cB cJ x y o q qm f)) (hS : va_S (fun q : Nat => s.heap.size ≤ q) s.heap H locs) {ls : Array Slot} (hl : lv_has ls 7 [(4, .int 0), (3, .ref o), (2, .ref y), (1, .ref x), (0, .ref b)]) : W p l e room_1 s m #[Value.ref b] below meth c H locs 163 8733 (lw_Z below #[Value.ref b] s) (F0 m 943 ls []) := by
  have C1 := C0
  obtain ⟨hx, hb, hr, hml, hown, hts, hX, hbl, hlocks, hgv⟩ := C0
  have hA : ∀ q : Nat, s.heap.size ≤ q → (fun q : Nat => s.heap.size ≤ q) q := fun _ h => h
  have hbA : ¬ (fun q : Nat => s.heap.size ≤ q) b := Nat.not_le.mpr hbl
  have F : CallFix p m c cL_law 7 s #[Value.ref b] bw_T RL := ⟨hx, hb, hml, hown, fun w h => hts w (List.mem_filter.mp h).1⟩
  have hP := bw_subP (isC := [0, 14]) (wc := [(x, .inr (8, [.int 0, .int 0, .ref (q 0), .ref (q 1), .ref (q 2), .ref (q 3), .ref (q 4), .ref (q 5), .ref (q 6), .ref (q 7), .ref (q 8), .ref (q 9), .ref (q 10), .ref (q 11)])), (y, .inr (9, [.int 0, .ref (qm 0), .int 0, .int 0, .int 0, .int 0, .int 0, .int 0, .int 0, .int 0, .int (-1), .int 0, .ref (qm 1), .int 0, .int 0, .ref (qm 2), .ref (qm 3), .ref (qm 4), .ref (qm 5), .ref (qm 6), .ref (qm 7), .ref (qm 8), .ref (qm 9), .ref (qm 10), .ref (qm 11), .ref (qm 12), .ref (qm 13), .ref (qm 14), .ref (qm 15), .ref (qm 16), .int 0, .int 0, .int 0, .int 0, .int 0, .int 0, .ref (qm 17), .ref (qm 18), .ref (qm 19), .ref (qm 20)]))]) hP rfl
  have hD := hD.sub (ws' := [(x, .inr (8, [.int 0, .int 0, .ref (q 0), .ref (q 1), .ref (q 2), .ref (q 3), .ref (q 4), .ref (q 5), .ref (q 6), .ref (q 7), .ref (q 8), .ref (q 9), .ref (q 10), .ref (q 11)])), (y, .inr (9, [.int 0, .ref (qm 0), .int 0, .int 0, .int 0, .int 0, .int 0, .int 0, .int 0, .int 0, .int (-1), .int 0, .ref (qm 1), .int 0, .int 0, .ref (qm 2), .ref (qm 3), .ref (qm 4), .ref (qm 5), .ref (qm 6), .ref (qm 7), .ref (qm 8), .ref (qm 9), .ref (qm 10), .ref (qm 11), .ref (qm 12), .ref (qm 13), .ref (qm 14), .ref (qm 15), .ref (qm 16), .int 0, .int 0, .int 0, .int 0, .int 0, .int 0, .ref (qm 17), .ref (qm 18), .ref (qm 19), .ref (qm 20)]))]) [0, 14] (by decide) rfl
  refine lv_aload_n hx hb dL_law_943 rfl (lv_at hl 3 rfl) ?_
  refine lv_aload_n hx hb dL_law_944 rfl (lv_at hl 4 rfl) ?_
  refine lv_iload hx hb dL_law_945 (lv_at hl 0 rfl) ?_
  refine lv_iconst (v := 1) hx hb dL_law_947 (by decide) ?_
  refine r_iadd (v := 1) F dL_law_948 (by decide) ?_
  refine va_sld hx hb hX hbl hbA hS (bw_vin (by decide)) dL_law_949 ?_
  refine r_callVi (As := [.int (xs (Int32.toNatClampNeg 1))]) (rest := []) (wr := [(y, .inr (9, [.int 0, .ref (qm 0), .int 0, .int 0, .int 0, .int 0, .int 0, .int 0, .int 0, .int 0, .int (-1), .int 0, .ref (qm 1), .int 0, .int 0, .ref (qm 2), .ref (qm 3), .ref (qm 4), .ref (qm 5), .ref (qm 6), .ref (qm 7), .ref (qm 8), .ref (qm 9), .ref (qm 10), .ref (qm 11), .ref (qm 12), .ref (qm 13), .ref (qm 14), .ref (qm 15), .ref (qm 16), .int 0, .int 0, .int 0, .int 0, .int 0, .int 0, .ref (qm 17), .ref (qm 18), .ref (qm 19), .ref (qm 20)]))]) F hK hP hD hS hA hO hE (c_X8_trail hO x q (xs (Int32.toNatClampNeg 1))) k_912 kv_X8_trail 1 rfl (by decide +kernel) ⟨Nat.le_of_ble_eq_true rfl, Nat.le_of_ble_eq_true rfl⟩ [0] [1] rfl rfl (by decide) (by decide) (by decide) 0 8 rfl rfl rfl hl.1 rfl (Nat.le_of_ble_eq_true rfl) dL_law_950 ⟨Nat.le_of_ble_eq_true rfl, Nat.le_of_ble_eq_true rfl⟩ (w1 := fun u1 => [(y, .inr (9, [.int 0, .ref (qm 0), .int 0, .int 0, .int 0, .int 0, .int 0, .int 0, .int 0, .int 0, .int (-1), .int 0, .ref (qm 1), .int 0, .int 0, .ref (qm 2), .ref (qm 3), .ref (qm 4), .ref (qm 5), .ref (qm 6), .ref (qm 7), .ref (qm 8), .ref (qm 9), .ref (qm 10), .ref (qm 11), .ref (qm 12), .ref (qm 13), .ref (qm 14), .ref (qm 15), .ref (qm 16), .int 0, .int 0, .int 0, .int 0, .int 0, .int 0, .ref (qm 17), .ref (qm 18), .ref (qm 19), .ref (qm 20)]))]) (fun _ => rfl) (fun r2 u1 H locs hp hP hD hS => ?_)
  subst hp
  refine lv_aload_n hx hb dL_law_953 rfl (lv_at hl 2 rfl) ?_
  refine lv_aload_n hx hb dL_law_954 rfl (lv_at hl 4 rfl) ?_
  refine lv_iload hx hb dL_law_955 (lv_at hl 0 rfl) ?_
  refine lv_iconst (v := 1) hx hb dL_law_957 (by decide) ?_
  refine r_iadd (v := 1) F dL_law_958 (by decide) ?_
  refine va_sld hx hb hX hbl hbA hS (bw_vin (by decide)) dL_law_959 ?_
  refine r_callVi (As := [.int (xs (Int32.toNatClampNeg 1))]) (rest := [.int (-1)]) (wr := []) F hK hP hD hS hA hO hE (c_X9_trail hO y qm (xs (Int32.toNatClampNeg 1))) k_1609 kv_X9_trail 1 rfl (by decide +kernel) ⟨Nat.le_of_ble_eq_true rfl, Nat.le_of_ble_eq_true rfl⟩ [0] [] rfl rfl (by decide) (by decide) (by decide) 0 9 rfl rfl rfl hl.1 rfl (Nat.le_of_ble_eq_true rfl) dL_law_960 ⟨Nat.le_of_ble_eq_true rfl, Nat.le_of_ble_eq_true rfl⟩ (w1 := fun u3 => []) (fun _ => rfl) (fun r4 u3 H locs hp hP hD hS => ?_)
  subst hp
  refine lv_icmp_eq (tgt := 1483) hx hb dL_law_963 (by decide) (fun _ => ?_) (fun h9 => absurd rfl h9)
  exact lc_end C1 hS (Nat.le_of_ble_eq_true rfl) (Nat.le_of_ble_eq_true rfl) (lv_sub hl [0, 4] rfl)
theorem dL_law_968 : decode cL_law 968 = .ok (.aload_n 1, 1) := by decide +kernel
theorem dL_law_969 : decode cL_law 969 = .ok (.invokevirtual 137, 3) := by decide +kernel
theorem k_916 : Cond.methodLink RL 137 yX8_keys ∈ bw_T := bw_m 916 (by decide +kernel) rfl
theorem kv_X8_keys : bw_KV RX8 yX8_keys (Cond.code yX8_keys cX8_keys 1 (some .int)) := ⟨bw_m 917 (by decide +kernel) rfl, bw_m 918 (by decide +kernel) rfl, bw_m 94 (by decide +kernel) rfl, bw_m 919 (by decide +kernel) rfl⟩
theorem dL_law_972 : decode cL_law 972 = .ok (.aload_n 2, 1) := by decide +kernel
theorem dL_law_973 : decode cL_law 973 = .ok (.invokevirtual 140, 3) := by decide +kernel
theorem k_1613 : Cond.methodLink RL 140 yX9_keys ∈ bw_T := bw_m 1613 (by decide +kernel) rfl
theorem kv_X9_keys : bw_KV RX9 yX9_keys (Cond.code yX9_keys cX9_keys 3 (some .int)) := ⟨bw_m 1614 (by decide +kernel) rfl, bw_m 1615 (by decide +kernel) rfl, bw_m 107 (by decide +kernel) rfl, bw_m 1616 (by decide +kernel) rfl⟩
theorem dL_law_976 : decode cL_law 976 = .ok (.if_icmp .eq 507, 3) := by decide +kernel
set_option maxRecDepth 100000 in
set_option maxHeartbeats 4000000 in
theorem lc_28 {p : Program} {l : Launch} {e : Env} {s : State} {m : MethodId} {below : List Frame} {meth : Method} {c : Code} {b : Nat} {xs : Nat → Int32} (C0 : lw_At p s m meth c b 6 xs) {E : (Nat → Prop) → State → Prop} (hO : bw_Ok E) {G : va_G} {cI cB cJ cN cW : ClassId} (hK : va_K G vwCl (bw_kt cI cB cJ cN cW) s) (hE : E (fun q : Nat => s.heap.size ≤ q) s) (x y o : Nat) (q qm : Nat → Nat) (f : Nat → Nat → Int32) {H : Heap} {locs : List Loc} (hP : va_P G vwCl (lc_W cI cB cJ x y o q qm f) H) (hD : va_D (fun q : Nat => s.heap.size ≤ q) (lc_W cI cB cJ x y o q qm f)) (hS : va_S (fun q : Nat => s.heap.size ≤ q) s.heap H locs) {ls : Array Slot} (hl : lv_has ls 7 [(4, .int 0), (3, .ref o), (2, .ref y), (1, .ref x), (0, .ref b)]) : W p l e room_1 s m #[Value.ref b] below meth c H locs 163 8733 (lw_Z below #[Value.ref b] s) (F0 m 968 ls []) := by
  have C1 := C0
  obtain ⟨hx, hb, hr, hml, hown, hts, hX, hbl, hlocks, hgv⟩ := C0
  have hA : ∀ q : Nat, s.heap.size ≤ q → (fun q : Nat => s.heap.size ≤ q) q := fun _ h => h
  have hbA : ¬ (fun q : Nat => s.heap.size ≤ q) b := Nat.not_le.mpr hbl
  have F : CallFix p m c cL_law 7 s #[Value.ref b] bw_T RL := ⟨hx, hb, hml, hown, fun w h => hts w (List.mem_filter.mp h).1⟩
  have hP := bw_subP (isC := [0, 14]) (wc := [(x, .inr (8, [.int 0, .int 0, .ref (q 0), .ref (q 1), .ref (q 2), .ref (q 3), .ref (q 4), .ref (q 5), .ref (q 6), .ref (q 7), .ref (q 8), .ref (q 9), .ref (q 10), .ref (q 11)])), (y, .inr (9, [.int 0, .ref (qm 0), .int 0, .int 0, .int 0, .int 0, .int 0, .int 0, .int 0, .int 0, .int (-1), .int 0, .ref (qm 1), .int 0, .int 0, .ref (qm 2), .ref (qm 3), .ref (qm 4), .ref (qm 5), .ref (qm 6), .ref (qm 7), .ref (qm 8), .ref (qm 9), .ref (qm 10), .ref (qm 11), .ref (qm 12), .ref (qm 13), .ref (qm 14), .ref (qm 15), .ref (qm 16), .int 0, .int 0, .int 0, .int 0, .int 0, .int 0, .ref (qm 17), .ref (qm 18), .ref (qm 19), .ref (qm 20)]))]) hP rfl
  have hD := hD.sub (ws' := [(x, .inr (8, [.int 0, .int 0, .ref (q 0), .ref (q 1), .ref (q 2), .ref (q 3), .ref (q 4), .ref (q 5), .ref (q 6), .ref (q 7), .ref (q 8), .ref (q 9), .ref (q 10), .ref (q 11)])), (y, .inr (9, [.int 0, .ref (qm 0), .int 0, .int 0, .int 0, .int 0, .int 0, .int 0, .int 0, .int 0, .int (-1), .int 0, .ref (qm 1), .int 0, .int 0, .ref (qm 2), .ref (qm 3), .ref (qm 4), .ref (qm 5), .ref (qm 6), .ref (qm 7), .ref (qm 8), .ref (qm 9), .ref (qm 10), .ref (qm 11), .ref (qm 12), .ref (qm 13), .ref (qm 14), .ref (qm 15), .ref (qm 16), .int 0, .int 0, .int 0, .int 0, .int 0, .int 0, .ref (qm 17), .ref (qm 18), .ref (qm 19), .ref (qm 20)]))]) [0, 14] (by decide) rfl
  refine lv_aload_n hx hb dL_law_968 rfl (lv_at hl 3 rfl) ?_
  refine r_callVi (As := []) (rest := []) (wr := [(y, .inr (9, [.int 0, .ref (qm 0), .int 0, .int 0, .int 0, .int 0, .int 0, .int 0, .int 0, .int 0, .int (-1), .int 0, .ref (qm 1), .int 0, .int 0, .ref (qm 2), .ref (qm 3), .ref (qm 4), .ref (qm 5), .ref (qm 6), .ref (qm 7), .ref (qm 8), .ref (qm 9), .ref (qm 10), .ref (qm 11), .ref (qm 12), .ref (qm 13), .ref (qm 14), .ref (qm 15), .ref (qm 16), .int 0, .int 0, .int 0, .int 0, .int 0, .int 0, .ref (qm 17), .ref (qm 18), .ref (qm 19), .ref (qm 20)]))]) F hK hP hD hS hA hO hE (c_X8_keys hO x q) k_916 kv_X8_keys 0 rfl (by decide +kernel) ⟨Nat.le_of_ble_eq_true rfl, Nat.le_of_ble_eq_true rfl⟩ [0] [1] rfl rfl (by decide) (by decide) (by decide) 0 8 rfl rfl rfl hl.1 rfl (Nat.le_of_ble_eq_true rfl) dL_law_969 ⟨Nat.le_of_ble_eq_true rfl, Nat.le_of_ble_eq_true rfl⟩ (w1 := fun u1 => [(y, .inr (9, [.int 0, .ref (qm 0), .int 0, .int 0, .int 0, .int 0, .int 0, .int 0, .int 0, .int 0, .int (-1), .int 0, .ref (qm 1), .int 0, .int 0, .ref (qm 2), .ref (qm 3), .ref (qm 4), .ref (qm 5), .ref (qm 6), .ref (qm 7), .ref (qm 8), .ref (qm 9), .ref (qm 10), .ref (qm 11), .ref (qm 12), .ref (qm 13), .ref (qm 14), .ref (qm 15), .ref (qm 16), .int 0, .int 0, .int 0, .int 0, .int 0, .int 0, .ref (qm 17), .ref (qm 18), .ref (qm 19), .ref (qm 20)]))]) (fun _ => rfl) (fun r2 u1 H locs hp hP hD hS => ?_)
  subst hp
  refine lv_aload_n hx hb dL_law_972 rfl (lv_at hl 2 rfl) ?_
  refine r_callVi (As := []) (rest := [.int (-1)]) (wr := []) F hK hP hD hS hA hO hE (c_X9_keys hO y qm) k_1613 kv_X9_keys 0 rfl (by decide +kernel) ⟨Nat.le_of_ble_eq_true rfl, Nat.le_of_ble_eq_true rfl⟩ [0] [] rfl rfl (by decide) (by decide) (by decide) 0 9 rfl rfl rfl hl.1 rfl (Nat.le_of_ble_eq_true rfl) dL_law_973 ⟨Nat.le_of_ble_eq_true rfl, Nat.le_of_ble_eq_true rfl⟩ (w1 := fun u3 => []) (fun _ => rfl) (fun r4 u3 H locs hp hP hD hS => ?_)
  subst hp
  refine lv_icmp_eq (tgt := 1483) hx hb dL_law_976 (by decide) (fun _ => ?_) (fun h9 => absurd rfl h9)
  exact lc_end C1 hS (Nat.le_of_ble_eq_true rfl) (Nat.le_of_ble_eq_true rfl) (lv_sub hl [0, 4] rfl)
theorem dL_law_981 : decode cL_law 981 = .ok (.aload_n 1, 1) := by decide +kernel
theorem dL_law_982 : decode cL_law 982 = .ok (.aload_n 0, 1) := by decide +kernel
theorem dL_law_983 : decode cL_law 983 = .ok (.iload 4, 2) := by decide +kernel
theorem dL_law_985 : decode cL_law 985 = .ok (.iconst 1, 1) := by decide +kernel
theorem dL_law_986 : decode cL_law 986 = .ok (.iadd, 1) := by decide +kernel
theorem dL_law_987 : decode cL_law 987 = .ok (.iaload, 1) := by decide +kernel
theorem dL_law_988 : decode cL_law 988 = .ok (.invokevirtual 141, 3) := by decide +kernel
theorem k_925 : Cond.methodLink RL 141 yX8_seen ∈ bw_T := bw_m 925 (by decide +kernel) rfl
theorem kv_X8_seen : bw_KV RX8 yX8_seen (Cond.code yX8_seen cX8_seen 2 (some .int)) := ⟨bw_m 926 (by decide +kernel) rfl, bw_m 927 (by decide +kernel) rfl, bw_m 94 (by decide +kernel) rfl, bw_m 928 (by decide +kernel) rfl⟩
theorem dL_law_991 : decode cL_law 991 = .ok (.aload_n 2, 1) := by decide +kernel
theorem dL_law_992 : decode cL_law 992 = .ok (.aload_n 0, 1) := by decide +kernel
theorem dL_law_993 : decode cL_law 993 = .ok (.iload 4, 2) := by decide +kernel
theorem dL_law_995 : decode cL_law 995 = .ok (.iconst 1, 1) := by decide +kernel
theorem dL_law_996 : decode cL_law 996 = .ok (.iadd, 1) := by decide +kernel
theorem dL_law_997 : decode cL_law 997 = .ok (.iaload, 1) := by decide +kernel
theorem dL_law_998 : decode cL_law 998 = .ok (.invokevirtual 144, 3) := by decide +kernel
theorem k_1617 : Cond.methodLink RL 144 yX9_seen ∈ bw_T := bw_m 1617 (by decide +kernel) rfl
theorem kv_X9_seen : bw_KV RX9 yX9_seen (Cond.code yX9_seen cX9_seen 5 (some .int)) := ⟨bw_m 1618 (by decide +kernel) rfl, bw_m 1619 (by decide +kernel) rfl, bw_m 107 (by decide +kernel) rfl, bw_m 1620 (by decide +kernel) rfl⟩
theorem dL_law_1001 : decode cL_law 1001 = .ok (.if_icmp .eq 482, 3) := by decide +kernel
set_option maxRecDepth 100000 in
set_option maxHeartbeats 4000000 in
theorem lc_29 {p : Program} {l : Launch} {e : Env} {s : State} {m : MethodId} {below : List Frame} {meth : Method} {c : Code} {b : Nat} {xs : Nat → Int32} (C0 : lw_At p s m meth c b 6 xs) {E : (Nat → Prop) → State → Prop} (hO : bw_Ok E) {G : va_G} {cI cB cJ cN cW : ClassId} (hK : va_K G vwCl (bw_kt cI cB cJ cN cW) s) (hE : E (fun q : Nat => s.heap.size ≤ q) s) (x y o : Nat) (q qm : Nat → Nat) (f : Nat → Nat → Int32) {H : Heap} {locs : List Loc} (hP : va_P G vwCl (lc_W cI cB cJ x y o q qm f) H) (hD : va_D (fun q : Nat => s.heap.size ≤ q) (lc_W cI cB cJ x y o q qm f)) (hS : va_S (fun q : Nat => s.heap.size ≤ q) s.heap H locs) {ls : Array Slot} (hl : lv_has ls 7 [(4, .int 0), (3, .ref o), (2, .ref y), (1, .ref x), (0, .ref b)]) : W p l e room_1 s m #[Value.ref b] below meth c H locs 163 8733 (lw_Z below #[Value.ref b] s) (F0 m 981 ls []) := by
  have C1 := C0
  obtain ⟨hx, hb, hr, hml, hown, hts, hX, hbl, hlocks, hgv⟩ := C0
  have hA : ∀ q : Nat, s.heap.size ≤ q → (fun q : Nat => s.heap.size ≤ q) q := fun _ h => h
  have hbA : ¬ (fun q : Nat => s.heap.size ≤ q) b := Nat.not_le.mpr hbl
  have F : CallFix p m c cL_law 7 s #[Value.ref b] bw_T RL := ⟨hx, hb, hml, hown, fun w h => hts w (List.mem_filter.mp h).1⟩
  have hP := bw_subP (isC := [0, 14]) (wc := [(x, .inr (8, [.int 0, .int 0, .ref (q 0), .ref (q 1), .ref (q 2), .ref (q 3), .ref (q 4), .ref (q 5), .ref (q 6), .ref (q 7), .ref (q 8), .ref (q 9), .ref (q 10), .ref (q 11)])), (y, .inr (9, [.int 0, .ref (qm 0), .int 0, .int 0, .int 0, .int 0, .int 0, .int 0, .int 0, .int 0, .int (-1), .int 0, .ref (qm 1), .int 0, .int 0, .ref (qm 2), .ref (qm 3), .ref (qm 4), .ref (qm 5), .ref (qm 6), .ref (qm 7), .ref (qm 8), .ref (qm 9), .ref (qm 10), .ref (qm 11), .ref (qm 12), .ref (qm 13), .ref (qm 14), .ref (qm 15), .ref (qm 16), .int 0, .int 0, .int 0, .int 0, .int 0, .int 0, .ref (qm 17), .ref (qm 18), .ref (qm 19), .ref (qm 20)]))]) hP rfl
  have hD := hD.sub (ws' := [(x, .inr (8, [.int 0, .int 0, .ref (q 0), .ref (q 1), .ref (q 2), .ref (q 3), .ref (q 4), .ref (q 5), .ref (q 6), .ref (q 7), .ref (q 8), .ref (q 9), .ref (q 10), .ref (q 11)])), (y, .inr (9, [.int 0, .ref (qm 0), .int 0, .int 0, .int 0, .int 0, .int 0, .int 0, .int 0, .int 0, .int (-1), .int 0, .ref (qm 1), .int 0, .int 0, .ref (qm 2), .ref (qm 3), .ref (qm 4), .ref (qm 5), .ref (qm 6), .ref (qm 7), .ref (qm 8), .ref (qm 9), .ref (qm 10), .ref (qm 11), .ref (qm 12), .ref (qm 13), .ref (qm 14), .ref (qm 15), .ref (qm 16), .int 0, .int 0, .int 0, .int 0, .int 0, .int 0, .ref (qm 17), .ref (qm 18), .ref (qm 19), .ref (qm 20)]))]) [0, 14] (by decide) rfl
  refine lv_aload_n hx hb dL_law_981 rfl (lv_at hl 3 rfl) ?_
  refine lv_aload_n hx hb dL_law_982 rfl (lv_at hl 4 rfl) ?_
  refine lv_iload hx hb dL_law_983 (lv_at hl 0 rfl) ?_
  refine lv_iconst (v := 1) hx hb dL_law_985 (by decide) ?_
  refine r_iadd (v := 1) F dL_law_986 (by decide) ?_
  refine va_sld hx hb hX hbl hbA hS (bw_vin (by decide)) dL_law_987 ?_
  refine r_callVi (As := [.int (xs (Int32.toNatClampNeg 1))]) (rest := []) (wr := [(y, .inr (9, [.int 0, .ref (qm 0), .int 0, .int 0, .int 0, .int 0, .int 0, .int 0, .int 0, .int 0, .int (-1), .int 0, .ref (qm 1), .int 0, .int 0, .ref (qm 2), .ref (qm 3), .ref (qm 4), .ref (qm 5), .ref (qm 6), .ref (qm 7), .ref (qm 8), .ref (qm 9), .ref (qm 10), .ref (qm 11), .ref (qm 12), .ref (qm 13), .ref (qm 14), .ref (qm 15), .ref (qm 16), .int 0, .int 0, .int 0, .int 0, .int 0, .int 0, .ref (qm 17), .ref (qm 18), .ref (qm 19), .ref (qm 20)]))]) F hK hP hD hS hA hO hE (c_X8_seen hO x q (xs (Int32.toNatClampNeg 1))) k_925 kv_X8_seen 1 rfl (by decide +kernel) ⟨Nat.le_of_ble_eq_true rfl, Nat.le_of_ble_eq_true rfl⟩ [0] [1] rfl rfl (by decide) (by decide) (by decide) 0 8 rfl rfl rfl hl.1 rfl (Nat.le_of_ble_eq_true rfl) dL_law_988 ⟨Nat.le_of_ble_eq_true rfl, Nat.le_of_ble_eq_true rfl⟩ (w1 := fun u1 => [(y, .inr (9, [.int 0, .ref (qm 0), .int 0, .int 0, .int 0, .int 0, .int 0, .int 0, .int 0, .int 0, .int (-1), .int 0, .ref (qm 1), .int 0, .int 0, .ref (qm 2), .ref (qm 3), .ref (qm 4), .ref (qm 5), .ref (qm 6), .ref (qm 7), .ref (qm 8), .ref (qm 9), .ref (qm 10), .ref (qm 11), .ref (qm 12), .ref (qm 13), .ref (qm 14), .ref (qm 15), .ref (qm 16), .int 0, .int 0, .int 0, .int 0, .int 0, .int 0, .ref (qm 17), .ref (qm 18), .ref (qm 19), .ref (qm 20)]))]) (fun _ => rfl) (fun r2 u1 H locs hp hP hD hS => ?_)
  subst hp
  refine lv_aload_n hx hb dL_law_991 rfl (lv_at hl 2 rfl) ?_
  refine lv_aload_n hx hb dL_law_992 rfl (lv_at hl 4 rfl) ?_
  refine lv_iload hx hb dL_law_993 (lv_at hl 0 rfl) ?_
  refine lv_iconst (v := 1) hx hb dL_law_995 (by decide) ?_
  refine r_iadd (v := 1) F dL_law_996 (by decide) ?_
  refine va_sld hx hb hX hbl hbA hS (bw_vin (by decide)) dL_law_997 ?_
  refine r_callVi (As := [.int (xs (Int32.toNatClampNeg 1))]) (rest := [.int (-1)]) (wr := []) F hK hP hD hS hA hO hE (c_X9_seen hO y qm (xs (Int32.toNatClampNeg 1))) k_1617 kv_X9_seen 1 rfl (by decide +kernel) ⟨Nat.le_of_ble_eq_true rfl, Nat.le_of_ble_eq_true rfl⟩ [0] [] rfl rfl (by decide) (by decide) (by decide) 0 9 rfl rfl rfl hl.1 rfl (Nat.le_of_ble_eq_true rfl) dL_law_998 ⟨Nat.le_of_ble_eq_true rfl, Nat.le_of_ble_eq_true rfl⟩ (w1 := fun u3 => []) (fun _ => rfl) (fun r4 u3 H locs hp hP hD hS => ?_)
  subst hp
  refine lv_icmp_eq (tgt := 1483) hx hb dL_law_1001 (by decide) (fun _ => ?_) (fun h9 => absurd rfl h9)
  exact lc_end C1 hS (Nat.le_of_ble_eq_true rfl) (Nat.le_of_ble_eq_true rfl) (lv_sub hl [0, 4] rfl)
