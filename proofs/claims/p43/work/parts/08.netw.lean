theorem NetOk.untell {n : Int} {g : Nat → Nat → Int} (h : NetOk n g) {x : Int} (hx : 0 ≤ x ∧ x < 10) {g0 g1 g2 a6 g6 a7 g7 : Nat → Int} (e0 : g0 = uZ (g 0) x.toNat (-1)) (e1 : g1 = uZ (g 1) x.toNat (-2)) (e2 : g2 = uZ (g 2) x.toNat 0) (e6 : a6 = uZ (g 6) (2 * x).toNat (-2)) (e6b : g6 = uZ a6 (2 * x + 1).toNat (-2)) (e7 : a7 = uZ (g 7) (2 * x).toNat 0) (e7b : g7 = uZ a7 (2 * x + 1).toNat 0) : NetOk n (fun k => [g0, g1, g2, g 3, g 4, g 5, g6, g7].getD k (fun _ => 0)) := by
  obtain ⟨h0, h1, h2, h3, h4, h5, h6, h7, h8⟩ := h
  subst e0 e1 e2 e6 e6b e7 e7b
  refine ⟨h0, ?_, ?_, ?_, h4, h5, h6, ?_, ?_⟩
  · exact uZ_all (P := fun _ y => -1 ≤ y ∧ y ≤ 2) h1 (fun _ => by omega)
  · intro k hk
    have z := h2 k hk
    show -2 ≤ uZ (g 1) x.toNat (-2) k ∧ uZ (g 1) x.toNat (-2) k ≤ 3 ∧ (uZ (g 0) x.toNat (-1) k = 2 → 0 ≤ uZ (g 1) x.toNat (-2) k)
    by_cases e : k = x.toNat
    · simp only [uZ, if_pos e]; omega
    · simp only [uZ, if_neg e]; exact z
  · exact uZ_all (P := fun _ y => 0 ≤ y ∧ y ≤ 4) h3 (fun _ => by omega)
  · intro k hk
    have z := h7 k hk
    show -2 ≤ uZ (uZ (g 6) (2 * x).toNat (-2)) (2 * x + 1).toNat (-2) k ∧ uZ (uZ (g 6) (2 * x).toNat (-2)) (2 * x + 1).toNat (-2) k ≤ 9 ∧ (0 < uZ (uZ (g 7) (2 * x).toNat 0) (2 * x + 1).toNat 0 k → 0 ≤ uZ (uZ (g 6) (2 * x).toNat (-2)) (2 * x + 1).toNat (-2) k)
    by_cases e : k = (2 * x + 1).toNat
    · simp only [uZ, if_pos e]; omega
    · by_cases e2 : k = (2 * x).toNat
      · simp only [uZ, if_neg e, if_pos e2]; omega
      · simp only [uZ, if_neg e, if_neg e2]; exact z
  · exact uZ_all (P := fun _ y => 0 ≤ y ∧ y ≤ 9) (uZ_all (P := fun _ y => 0 ≤ y ∧ y ≤ 9) h8 (fun _ => by omega)) (fun _ => by omega)
theorem dX2_untell_0 : decode cX2_untell 0 = .ok (.aload_n 0, 1) := bo_42 (by decide +kernel)
theorem dX2_untell_1 : decode cX2_untell 1 = .ok (.getfield 15, 3) := bo_180 0 15 (by decide +kernel)
theorem dX2_untell_4 : decode cX2_untell 4 = .ok (.iload_n 1, 1) := bo_27 (by decide +kernel)
theorem dX2_untell_5 : decode cX2_untell 5 = .ok (.iconst (-1), 1) := bo_2 (by decide +kernel)
theorem dX2_untell_6 : decode cX2_untell 6 = .ok (.iastore, 1) := bo_79 (by decide +kernel)
theorem dX2_untell_7 : decode cX2_untell 7 = .ok (.aload_n 0, 1) := bo_42 (by decide +kernel)
theorem dX2_untell_8 : decode cX2_untell 8 = .ok (.getfield 19, 3) := bo_180 0 19 (by decide +kernel)
theorem dX2_untell_11 : decode cX2_untell 11 = .ok (.iload_n 1, 1) := bo_27 (by decide +kernel)
theorem dX2_untell_12 : decode cX2_untell 12 = .ok (.bipush (-2), 2) := bo_16 254 (by decide +kernel)
theorem dX2_untell_14 : decode cX2_untell 14 = .ok (.iastore, 1) := bo_79 (by decide +kernel)
theorem dX2_untell_15 : decode cX2_untell 15 = .ok (.aload_n 0, 1) := bo_42 (by decide +kernel)
theorem dX2_untell_16 : decode cX2_untell 16 = .ok (.getfield 22, 3) := bo_180 0 22 (by decide +kernel)
theorem dX2_untell_19 : decode cX2_untell 19 = .ok (.iload_n 1, 1) := bo_27 (by decide +kernel)
theorem dX2_untell_20 : decode cX2_untell 20 = .ok (.iconst 0, 1) := bo_3 (by decide +kernel)
theorem dX2_untell_21 : decode cX2_untell 21 = .ok (.iastore, 1) := bo_79 (by decide +kernel)
theorem dX2_untell_22 : decode cX2_untell 22 = .ok (.iconst 2, 1) := bo_5 (by decide +kernel)
theorem dX2_untell_23 : decode cX2_untell 23 = .ok (.iload_n 1, 1) := bo_27 (by decide +kernel)
theorem dX2_untell_24 : decode cX2_untell 24 = .ok (.imul, 1) := bo_104 (by decide +kernel)
theorem dX2_untell_25 : decode cX2_untell 25 = .ok (.istore_n 2, 1) := bo_61 (by decide +kernel)
theorem dX2_untell_26 : decode cX2_untell 26 = .ok (.iload_n 2, 1) := bo_28 (by decide +kernel)
theorem dX2_untell_27 : decode cX2_untell 27 = .ok (.iconst 2, 1) := bo_5 (by decide +kernel)
theorem dX2_untell_28 : decode cX2_untell 28 = .ok (.iload_n 1, 1) := bo_27 (by decide +kernel)
theorem dX2_untell_29 : decode cX2_untell 29 = .ok (.imul, 1) := bo_104 (by decide +kernel)
theorem dX2_untell_30 : decode cX2_untell 30 = .ok (.iconst 1, 1) := bo_4 (by decide +kernel)
theorem dX2_untell_31 : decode cX2_untell 31 = .ok (.iadd, 1) := bo_96 (by decide +kernel)
theorem dX2_untell_32 : decode cX2_untell 32 = .ok (.if_icmp .gt 24, 3) := bo_163 0 24 (by decide +kernel)
theorem dX2_untell_35 : decode cX2_untell 35 = .ok (.aload_n 0, 1) := bo_42 (by decide +kernel)
theorem dX2_untell_36 : decode cX2_untell 36 = .ok (.getfield 34, 3) := bo_180 0 34 (by decide +kernel)
theorem dX2_untell_39 : decode cX2_untell 39 = .ok (.iload_n 2, 1) := bo_28 (by decide +kernel)
theorem dX2_untell_40 : decode cX2_untell 40 = .ok (.bipush (-2), 2) := bo_16 254 (by decide +kernel)
theorem dX2_untell_42 : decode cX2_untell 42 = .ok (.iastore, 1) := bo_79 (by decide +kernel)
theorem dX2_untell_43 : decode cX2_untell 43 = .ok (.aload_n 0, 1) := bo_42 (by decide +kernel)
theorem dX2_untell_44 : decode cX2_untell 44 = .ok (.getfield 37, 3) := bo_180 0 37 (by decide +kernel)
theorem dX2_untell_47 : decode cX2_untell 47 = .ok (.iload_n 2, 1) := bo_28 (by decide +kernel)
theorem dX2_untell_48 : decode cX2_untell 48 = .ok (.iconst 0, 1) := bo_3 (by decide +kernel)
theorem dX2_untell_49 : decode cX2_untell 49 = .ok (.iastore, 1) := bo_79 (by decide +kernel)
theorem dX2_untell_50 : decode cX2_untell 50 = .ok (.iinc 2 1, 3) := bo_132 2 1 (by decide +kernel)
theorem dX2_untell_53 : decode cX2_untell 53 = .ok (.goto (-27), 3) := bo_167 255 229 (by decide +kernel)
theorem dX2_untell_56 : decode cX2_untell 56 = .ok (.return_, 1) := bo_177 (by decide +kernel)
abbrev rm_X2_untell : Room := { frames := 0, cells := 0, slots := 0, locals := 0 }
set_option maxRecDepth 100000 in
set_option maxHeartbeats 8000000 in
theorem c_X2_untell {l : Launch} {E : (Nat → Prop) → State → Prop} (hO : bw_Ok E) {G : va_G} {cI cB cJ cN cW : ClassId} (b : Nat) (q : Nat → Nat) (n : Int) (g : Nat → Nat → Int) (hN : NetOk n g) (x : Int) (hx9 : 0 ≤ x ∧ x < 10) : bw_Cv (S := zU) l yX2_untell (bw_ws (Cond.code yX2_untell cX2_untell 3 none)) rm_X2_untell E G (bw_kt cI cB cJ cN cW) [.ref b, .int (zI x)] [(b, .inr (2, [.int (zI n), .ref (q 0), .ref (q 1), .ref (q 2), .ref (q 3), .ref (q 4), .ref (q 5), .ref (q 6), .ref (q 7)])), ((q 0), .inl (cI, 10, .inl (fun k => zI ((g 0) k)))), ((q 1), .inl (cI, 10, .inl (fun k => zI ((g 1) k)))), ((q 2), .inl (cI, 10, .inl (fun k => zI ((g 2) k)))), ((q 3), .inl (cI, 40, .inl (fun k => zI ((g 3) k)))), ((q 4), .inl (cI, 40, .inl (fun k => zI ((g 4) k)))), ((q 5), .inl (cI, 40, .inl (fun k => zI ((g 5) k)))), ((q 6), .inl (cI, 20, .inl (fun k => zI ((g 6) k)))), ((q 7), .inl (cI, 20, .inl (fun k => zI ((g 7) k))))] (fun u => NetOk n u.2) (fun u => [(b, .inr (2, [.int (zI n), .ref (q 0), .ref (q 1), .ref (q 2), .ref (q 3), .ref (q 4), .ref (q 5), .ref (q 6), .ref (q 7)])), ((q 0), .inl (cI, 10, .inl (fun k => zI ((u.2 0) k)))), ((q 1), .inl (cI, 10, .inl (fun k => zI ((u.2 1) k)))), ((q 2), .inl (cI, 10, .inl (fun k => zI ((u.2 2) k)))), ((q 3), .inl (cI, 40, .inl (fun k => zI ((u.2 3) k)))), ((q 4), .inl (cI, 40, .inl (fun k => zI ((u.2 4) k)))), ((q 5), .inl (cI, 40, .inl (fun k => zI ((u.2 5) k)))), ((q 6), .inl (cI, 20, .inl (fun k => zI ((u.2 6) k)))), ((q 7), .inl (cI, 20, .inl (fun k => zI ((u.2 7) k))))]) := by
  refine bw_Cv.of (cc := cX2_untell) (maxL := 3) (by decide) rfl (Nat.le_of_ble_eq_true rfl) ?_
  intro p e s m below meth c A Q hx hb hml hts hown hin hK hA hS hP hD hE ret ls hl
  have F : CallFix p m c cX2_untell 3 s ([.ref b, .int (zI x)] : List Value).toArray bw_T RX2 := ⟨hx, hb, hml, hown, fun w h => hts w (List.mem_cons_of_mem _ h)⟩
  replace hl : lv_has ls 3 [(0, .ref b), (1, .int (zI x))] := hl
  have hN0 := hN.1
  refine lv_aload_n hx hb dX2_untell_0 rfl (lv_at hl 0 rfl) ?_
  refine r_get F hK hP 0 1 rfl rfl in_X2 (by decide) k_147 rfl dX2_untell_1 ?_
  refine lv_iload_n hx hb dX2_untell_4 rfl (lv_at hl 1 rfl) ?_
  refine lv_iconst (v := zI (-1)) hx hb dX2_untell_5 rfl ?_
  refine rz_iastG F hK hP hD hS 1 0 rfl rfl (by omega) (by omega) dX2_untell_6 (w1 := fun g1 => [(b, .inr (2, [.int (zI n), .ref (q 0), .ref (q 1), .ref (q 2), .ref (q 3), .ref (q 4), .ref (q 5), .ref (q 6), .ref (q 7)])), ((q 0), .inl (cI, 10, .inl (fun k => zI (g1 k)))), ((q 1), .inl (cI, 10, .inl (fun k => zI ((g 1) k)))), ((q 2), .inl (cI, 10, .inl (fun k => zI ((g 2) k)))), ((q 3), .inl (cI, 40, .inl (fun k => zI ((g 3) k)))), ((q 4), .inl (cI, 40, .inl (fun k => zI ((g 4) k)))), ((q 5), .inl (cI, 40, .inl (fun k => zI ((g 5) k)))), ((q 6), .inl (cI, 20, .inl (fun k => zI ((g 6) k)))), ((q 7), .inl (cI, 20, .inl (fun k => zI ((g 7) k))))]) (fun _ => rfl) (fun g1 e_g1 H locs hP hD hS => ?_)
  refine lv_aload_n hx hb dX2_untell_7 rfl (lv_at hl 0 rfl) ?_
  refine r_get F hK hP 0 2 rfl rfl in_X2 (by decide) k_150 rfl dX2_untell_8 ?_
  refine lv_iload_n hx hb dX2_untell_11 rfl (lv_at hl 1 rfl) ?_
  refine lv_bipush (v := zI (-2)) hx hb dX2_untell_12 (by decide) ?_
  refine rz_iastG F hK hP hD hS 2 0 rfl rfl (by omega) (by omega) dX2_untell_14 (w1 := fun g2 => [(b, .inr (2, [.int (zI n), .ref (q 0), .ref (q 1), .ref (q 2), .ref (q 3), .ref (q 4), .ref (q 5), .ref (q 6), .ref (q 7)])), ((q 0), .inl (cI, 10, .inl (fun k => zI (g1 k)))), ((q 1), .inl (cI, 10, .inl (fun k => zI (g2 k)))), ((q 2), .inl (cI, 10, .inl (fun k => zI ((g 2) k)))), ((q 3), .inl (cI, 40, .inl (fun k => zI ((g 3) k)))), ((q 4), .inl (cI, 40, .inl (fun k => zI ((g 4) k)))), ((q 5), .inl (cI, 40, .inl (fun k => zI ((g 5) k)))), ((q 6), .inl (cI, 20, .inl (fun k => zI ((g 6) k)))), ((q 7), .inl (cI, 20, .inl (fun k => zI ((g 7) k))))]) (fun _ => rfl) (fun g2 e_g2 H locs hP hD hS => ?_)
  refine lv_aload_n hx hb dX2_untell_15 rfl (lv_at hl 0 rfl) ?_
  refine r_get F hK hP 0 3 rfl rfl in_X2 (by decide) k_153 rfl dX2_untell_16 ?_
  refine lv_iload_n hx hb dX2_untell_19 rfl (lv_at hl 1 rfl) ?_
  refine lv_iconst (v := zI 0) hx hb dX2_untell_20 rfl ?_
  refine rz_iastG F hK hP hD hS 3 0 rfl rfl (by omega) (by omega) dX2_untell_21 (w1 := fun g3 => [(b, .inr (2, [.int (zI n), .ref (q 0), .ref (q 1), .ref (q 2), .ref (q 3), .ref (q 4), .ref (q 5), .ref (q 6), .ref (q 7)])), ((q 0), .inl (cI, 10, .inl (fun k => zI (g1 k)))), ((q 1), .inl (cI, 10, .inl (fun k => zI (g2 k)))), ((q 2), .inl (cI, 10, .inl (fun k => zI (g3 k)))), ((q 3), .inl (cI, 40, .inl (fun k => zI ((g 3) k)))), ((q 4), .inl (cI, 40, .inl (fun k => zI ((g 4) k)))), ((q 5), .inl (cI, 40, .inl (fun k => zI ((g 5) k)))), ((q 6), .inl (cI, 20, .inl (fun k => zI ((g 6) k)))), ((q 7), .inl (cI, 20, .inl (fun k => zI ((g 7) k))))]) (fun _ => rfl) (fun g3 e_g3 H locs hP hD hS => ?_)
  refine lv_iconst (v := zI 2) hx hb dX2_untell_22 rfl ?_
  refine lv_iload_n hx hb dX2_untell_23 rfl (lv_at hl 1 rfl) ?_
  refine r_imul (v := zI (2 * x)) F dX2_untell_24 (zI_mul _ _) ?_
  refine lv_istore_n (lv' := [(2, .int (zI (2 * x))), (0, .ref b), (1, .int (zI x))]) hx hb dX2_untell_25 rfl hl (by decide) rfl (fun ls hl => ?_)
  refine lv_iload_n hx hb dX2_untell_26 rfl (lv_at hl 0 rfl) ?_
  refine lv_iconst (v := zI 2) hx hb dX2_untell_27 rfl ?_
  refine lv_iload_n hx hb dX2_untell_28 rfl (lv_at hl 2 rfl) ?_
  refine r_imul (v := zI (2 * x)) F dX2_untell_29 (zI_mul _ _) ?_
  refine lv_iconst (v := zI 1) hx hb dX2_untell_30 rfl ?_
  refine r_iadd (v := zI ((2 * x) + 1)) F dX2_untell_31 (zI_add _ _) ?_
  refine rz_icmp_gt (tgt := 56) F (by omega) (by omega) dX2_untell_32 (by decide) (fun h32_3 => by omega) (fun h32_3 => ?_)
  refine lv_aload_n hx hb dX2_untell_35 rfl (lv_at hl 1 rfl) ?_
  refine r_get F hK hP 0 7 rfl rfl in_X2 (by decide) k_165 rfl dX2_untell_36 ?_
  refine lv_iload_n hx hb dX2_untell_39 rfl (lv_at hl 0 rfl) ?_
  refine lv_bipush (v := zI (-2)) hx hb dX2_untell_40 (by decide) ?_
  refine rz_iastG F hK hP hD hS 7 0 rfl rfl (by omega) (by omega) dX2_untell_42 (w1 := fun g5 => [(b, .inr (2, [.int (zI n), .ref (q 0), .ref (q 1), .ref (q 2), .ref (q 3), .ref (q 4), .ref (q 5), .ref (q 6), .ref (q 7)])), ((q 0), .inl (cI, 10, .inl (fun k => zI (g1 k)))), ((q 1), .inl (cI, 10, .inl (fun k => zI (g2 k)))), ((q 2), .inl (cI, 10, .inl (fun k => zI (g3 k)))), ((q 3), .inl (cI, 40, .inl (fun k => zI ((g 3) k)))), ((q 4), .inl (cI, 40, .inl (fun k => zI ((g 4) k)))), ((q 5), .inl (cI, 40, .inl (fun k => zI ((g 5) k)))), ((q 6), .inl (cI, 20, .inl (fun k => zI (g5 k)))), ((q 7), .inl (cI, 20, .inl (fun k => zI ((g 7) k))))]) (fun _ => rfl) (fun g5 e_g5 H locs hP hD hS => ?_)
  refine lv_aload_n hx hb dX2_untell_43 rfl (lv_at hl 1 rfl) ?_
  refine r_get F hK hP 0 8 rfl rfl in_X2 (by decide) k_169 rfl dX2_untell_44 ?_
  refine lv_iload_n hx hb dX2_untell_47 rfl (lv_at hl 0 rfl) ?_
  refine lv_iconst (v := zI 0) hx hb dX2_untell_48 rfl ?_
  refine rz_iastG F hK hP hD hS 8 0 rfl rfl (by omega) (by omega) dX2_untell_49 (w1 := fun g6 => [(b, .inr (2, [.int (zI n), .ref (q 0), .ref (q 1), .ref (q 2), .ref (q 3), .ref (q 4), .ref (q 5), .ref (q 6), .ref (q 7)])), ((q 0), .inl (cI, 10, .inl (fun k => zI (g1 k)))), ((q 1), .inl (cI, 10, .inl (fun k => zI (g2 k)))), ((q 2), .inl (cI, 10, .inl (fun k => zI (g3 k)))), ((q 3), .inl (cI, 40, .inl (fun k => zI ((g 3) k)))), ((q 4), .inl (cI, 40, .inl (fun k => zI ((g 4) k)))), ((q 5), .inl (cI, 40, .inl (fun k => zI ((g 5) k)))), ((q 6), .inl (cI, 20, .inl (fun k => zI (g5 k)))), ((q 7), .inl (cI, 20, .inl (fun k => zI (g6 k))))]) (fun _ => rfl) (fun g6 e_g6 H locs hP hD hS => ?_)
  refine lv_iinc (v := zI ((2 * x) + 1)) (lv' := [(2, .int (zI ((2 * x) + 1))), (0, .ref b), (1, .int (zI x))]) hx hb dX2_untell_50 hl (k := 0) rfl (zI_add _ _) (by decide) rfl (fun ls hl => ?_)
  refine lv_goto (tgt := 26) hx hb dX2_untell_53 (by decide) ?_
  refine lv_iload_n hx hb dX2_untell_26 rfl (lv_at hl 0 rfl) ?_
  refine lv_iconst (v := zI 2) hx hb dX2_untell_27 rfl ?_
  refine lv_iload_n hx hb dX2_untell_28 rfl (lv_at hl 2 rfl) ?_
  refine r_imul (v := zI (2 * x)) F dX2_untell_29 (zI_mul _ _) ?_
  refine lv_iconst (v := zI 1) hx hb dX2_untell_30 rfl ?_
  refine r_iadd (v := zI ((2 * x) + 1)) F dX2_untell_31 (zI_add _ _) ?_
  refine rz_icmp_gt (tgt := 56) F (by omega) (by omega) dX2_untell_32 (by decide) (fun h32_6 => by omega) (fun h32_6 => ?_)
  refine lv_aload_n hx hb dX2_untell_35 rfl (lv_at hl 1 rfl) ?_
  refine r_get F hK hP 0 7 rfl rfl in_X2 (by decide) k_165 rfl dX2_untell_36 ?_
  refine lv_iload_n hx hb dX2_untell_39 rfl (lv_at hl 0 rfl) ?_
  refine lv_bipush (v := zI (-2)) hx hb dX2_untell_40 (by decide) ?_
  refine rz_iastG F hK hP hD hS 7 0 rfl rfl (by omega) (by omega) dX2_untell_42 (w1 := fun g8 => [(b, .inr (2, [.int (zI n), .ref (q 0), .ref (q 1), .ref (q 2), .ref (q 3), .ref (q 4), .ref (q 5), .ref (q 6), .ref (q 7)])), ((q 0), .inl (cI, 10, .inl (fun k => zI (g1 k)))), ((q 1), .inl (cI, 10, .inl (fun k => zI (g2 k)))), ((q 2), .inl (cI, 10, .inl (fun k => zI (g3 k)))), ((q 3), .inl (cI, 40, .inl (fun k => zI ((g 3) k)))), ((q 4), .inl (cI, 40, .inl (fun k => zI ((g 4) k)))), ((q 5), .inl (cI, 40, .inl (fun k => zI ((g 5) k)))), ((q 6), .inl (cI, 20, .inl (fun k => zI (g8 k)))), ((q 7), .inl (cI, 20, .inl (fun k => zI (g6 k))))]) (fun _ => rfl) (fun g8 e_g8 H locs hP hD hS => ?_)
  refine lv_aload_n hx hb dX2_untell_43 rfl (lv_at hl 1 rfl) ?_
  refine r_get F hK hP 0 8 rfl rfl in_X2 (by decide) k_169 rfl dX2_untell_44 ?_
  refine lv_iload_n hx hb dX2_untell_47 rfl (lv_at hl 0 rfl) ?_
  refine lv_iconst (v := zI 0) hx hb dX2_untell_48 rfl ?_
  refine rz_iastG F hK hP hD hS 8 0 rfl rfl (by omega) (by omega) dX2_untell_49 (w1 := fun g9 => [(b, .inr (2, [.int (zI n), .ref (q 0), .ref (q 1), .ref (q 2), .ref (q 3), .ref (q 4), .ref (q 5), .ref (q 6), .ref (q 7)])), ((q 0), .inl (cI, 10, .inl (fun k => zI (g1 k)))), ((q 1), .inl (cI, 10, .inl (fun k => zI (g2 k)))), ((q 2), .inl (cI, 10, .inl (fun k => zI (g3 k)))), ((q 3), .inl (cI, 40, .inl (fun k => zI ((g 3) k)))), ((q 4), .inl (cI, 40, .inl (fun k => zI ((g 4) k)))), ((q 5), .inl (cI, 40, .inl (fun k => zI ((g 5) k)))), ((q 6), .inl (cI, 20, .inl (fun k => zI (g8 k)))), ((q 7), .inl (cI, 20, .inl (fun k => zI (g9 k))))]) (fun _ => rfl) (fun g9 e_g9 H locs hP hD hS => ?_)
  refine lv_iinc (v := zI (((2 * x) + 1) + 1)) (lv' := [(2, .int (zI (((2 * x) + 1) + 1))), (0, .ref b), (1, .int (zI x))]) hx hb dX2_untell_50 hl (k := 0) rfl (zI_add _ _) (by decide) rfl (fun ls hl => ?_)
  refine lv_goto (tgt := 26) hx hb dX2_untell_53 (by decide) ?_
  refine lv_iload_n hx hb dX2_untell_26 rfl (lv_at hl 0 rfl) ?_
  refine lv_iconst (v := zI 2) hx hb dX2_untell_27 rfl ?_
  refine lv_iload_n hx hb dX2_untell_28 rfl (lv_at hl 2 rfl) ?_
  refine r_imul (v := zI (2 * x)) F dX2_untell_29 (zI_mul _ _) ?_
  refine lv_iconst (v := zI 1) hx hb dX2_untell_30 rfl ?_
  refine r_iadd (v := zI ((2 * x) + 1)) F dX2_untell_31 (zI_add _ _) ?_
  refine rz_icmp_gt (tgt := 56) F (by omega) (by omega) dX2_untell_32 (by decide) (fun h32_9 => ?_) (fun h32_9 => by omega)
  exact ret (fun _ => 0, fun k => [g1, g2, g3, (g 3), (g 4), (g 5), g8, g9].getD k (fun _ => 0)) _ _ _ _ _ _ (NetOk.untell hN hx9 e_g1 e_g2 e_g3 e_g5 e_g8 e_g6 e_g9) (bw_subP (isC := [0, 1, 2, 3, 4, 5, 6, 7, 8]) hP rfl) (hD.sub [0, 1, 2, 3, 4, 5, 6, 7, 8] (by decide) rfl) hS (Nat.le_of_ble_eq_true rfl) (Nat.le_of_ble_eq_true rfl) dX2_untell_56
theorem dX2_clear_0 : decode cX2_clear 0 = .ok (.aload_n 0, 1) := bo_42 (by decide +kernel)
theorem dX2_clear_1 : decode cX2_clear 1 = .ok (.iconst 0, 1) := bo_3 (by decide +kernel)
theorem dX2_clear_2 : decode cX2_clear 2 = .ok (.putfield 9, 3) := bo_181 0 9 (by decide +kernel)
theorem dX2_clear_5 : decode cX2_clear 5 = .ok (.iconst 0, 1) := bo_3 (by decide +kernel)
theorem dX2_clear_6 : decode cX2_clear 6 = .ok (.istore_n 1, 1) := bo_60 (by decide +kernel)
theorem dX2_clear_7 : decode cX2_clear 7 = .ok (.iload_n 1, 1) := bo_27 (by decide +kernel)
theorem dX2_clear_8 : decode cX2_clear 8 = .ok (.bipush 10, 2) := bo_16 10 (by decide +kernel)
theorem dX2_clear_10 : decode cX2_clear 10 = .ok (.if_icmp .ge 14, 3) := bo_162 0 14 (by decide +kernel)
theorem dX2_clear_24 : decode cX2_clear 24 = .ok (.return_, 1) := bo_177 (by decide +kernel)
theorem dX2_clear_13 : decode cX2_clear 13 = .ok (.aload_n 0, 1) := bo_42 (by decide +kernel)
theorem dX2_clear_14 : decode cX2_clear 14 = .ok (.iload_n 1, 1) := bo_27 (by decide +kernel)
theorem dX2_clear_15 : decode cX2_clear 15 = .ok (.invokevirtual 43, 3) := bo_182 0 43 (by decide +kernel)
theorem k_140 : Cond.methodLink RX2 43 yX2_untell ∈ bw_T := bw_m 140 (by decide +kernel) rfl
theorem kv_X2_untell : bw_KV RX2 yX2_untell (Cond.code yX2_untell cX2_untell 3 none) := ⟨bw_m 142 (by decide +kernel) rfl, bw_m 0 (by decide +kernel) rfl, bw_m 96 (by decide +kernel) rfl, bw_m 143 (by decide +kernel) rfl⟩
theorem dX2_clear_18 : decode cX2_clear 18 = .ok (.iinc 1 1, 3) := bo_132 1 1 (by decide +kernel)
theorem dX2_clear_21 : decode cX2_clear 21 = .ok (.goto (-14), 3) := bo_167 255 242 (by decide +kernel)
abbrev rm_X2_clear : Room := { frames := 1, cells := 0, slots := 0, locals := 22 }
set_option maxRecDepth 100000 in
set_option maxHeartbeats 8000000 in
theorem c_X2_clear {l : Launch} {E : (Nat → Prop) → State → Prop} (hO : bw_Ok E) {G : va_G} {cI cB cJ cN cW : ClassId} (b : Nat) (q : Nat → Nat) (n : Int) (g : Nat → Nat → Int) (hN : NetOk n g) : bw_Cv (S := zU) l yX2_clear (bw_ws (Cond.code yX2_clear cX2_clear 2 none)) rm_X2_clear E G (bw_kt cI cB cJ cN cW) [.ref b] [(b, .inr (2, [.int (zI n), .ref (q 0), .ref (q 1), .ref (q 2), .ref (q 3), .ref (q 4), .ref (q 5), .ref (q 6), .ref (q 7)])), ((q 0), .inl (cI, 10, .inl (fun k => zI ((g 0) k)))), ((q 1), .inl (cI, 10, .inl (fun k => zI ((g 1) k)))), ((q 2), .inl (cI, 10, .inl (fun k => zI ((g 2) k)))), ((q 3), .inl (cI, 40, .inl (fun k => zI ((g 3) k)))), ((q 4), .inl (cI, 40, .inl (fun k => zI ((g 4) k)))), ((q 5), .inl (cI, 40, .inl (fun k => zI ((g 5) k)))), ((q 6), .inl (cI, 20, .inl (fun k => zI ((g 6) k)))), ((q 7), .inl (cI, 20, .inl (fun k => zI ((g 7) k))))] (fun u => NetOk 0 u.2) (fun u => [(b, .inr (2, [.int (zI 0), .ref (q 0), .ref (q 1), .ref (q 2), .ref (q 3), .ref (q 4), .ref (q 5), .ref (q 6), .ref (q 7)])), ((q 0), .inl (cI, 10, .inl (fun k => zI ((u.2 0) k)))), ((q 1), .inl (cI, 10, .inl (fun k => zI ((u.2 1) k)))), ((q 2), .inl (cI, 10, .inl (fun k => zI ((u.2 2) k)))), ((q 3), .inl (cI, 40, .inl (fun k => zI ((u.2 3) k)))), ((q 4), .inl (cI, 40, .inl (fun k => zI ((u.2 4) k)))), ((q 5), .inl (cI, 40, .inl (fun k => zI ((u.2 5) k)))), ((q 6), .inl (cI, 20, .inl (fun k => zI ((u.2 6) k)))), ((q 7), .inl (cI, 20, .inl (fun k => zI ((u.2 7) k))))]) := by
  refine bw_Cv.of (cc := cX2_clear) (maxL := 2) (by decide) rfl (Nat.le_of_ble_eq_true rfl) ?_
  intro p e s m below meth c A Q hx hb hml hts hown hin hK hA hS hP hD hE ret ls hl
  have F : CallFix p m c cX2_clear 2 s ([.ref b] : List Value).toArray bw_T RX2 := ⟨hx, hb, hml, hown, fun w h => hts w (List.mem_cons_of_mem _ h)⟩
  replace hl : lv_has ls 2 [(0, .ref b)] := hl
  have hN0 := hN.1
  refine lv_aload_n hx hb dX2_clear_0 rfl (lv_at hl 0 rfl) ?_
  refine lv_iconst (v := zI 0) hx hb dX2_clear_1 rfl ?_
  refine r_put F hK hP hD hS 0 0 rfl rfl in_X2 tyX2 tyX2_ok nmX2 (by decide) k_144 rfl rfl rfl (Nat.le_of_ble_eq_true rfl) dX2_clear_2 (w1 := [(b, .inr (2, [.int (zI 0), .ref (q 0), .ref (q 1), .ref (q 2), .ref (q 3), .ref (q 4), .ref (q 5), .ref (q 6), .ref (q 7)])), ((q 0), .inl (cI, 10, .inl (fun k => zI ((g 0) k)))), ((q 1), .inl (cI, 10, .inl (fun k => zI ((g 1) k)))), ((q 2), .inl (cI, 10, .inl (fun k => zI ((g 2) k)))), ((q 3), .inl (cI, 40, .inl (fun k => zI ((g 3) k)))), ((q 4), .inl (cI, 40, .inl (fun k => zI ((g 4) k)))), ((q 5), .inl (cI, 40, .inl (fun k => zI ((g 5) k)))), ((q 6), .inl (cI, 20, .inl (fun k => zI ((g 6) k)))), ((q 7), .inl (cI, 20, .inl (fun k => zI ((g 7) k))))]) rfl (fun H locs hP hD hS => ?_)
  have hN9 : NetOk 0 g := ⟨by omega, hN.2⟩
  refine lv_iconst (v := zI 0) hx hb dX2_clear_5 rfl ?_
  refine lv_istore_n (lv' := [(1, .int (zI 0)), (0, .ref b)]) hx hb dX2_clear_6 rfl hl (by decide) rfl (fun ls hl => ?_)
  refine W.widen (k := 0) (n := 0) (Nat.le_of_ble_eq_true rfl) (Nat.le_of_ble_eq_true rfl) ?_
  refine (?_ : ∀ (n9_1 : Nat) (v1 : Int) (gg : Nat → Nat → Int) (H : Heap) (locs : List Loc), (0 ≤ v1 ∧ v1 ≤ 10) → (10 - v1 : Int).toNat < n9_1 → (NetOk 0 gg) → va_P G vwCl [(b, .inr (2, [.int (zI 0), .ref (q 0), .ref (q 1), .ref (q 2), .ref (q 3), .ref (q 4), .ref (q 5), .ref (q 6), .ref (q 7)])), ((q 0), .inl (cI, 10, .inl (fun k => zI ((gg 0) k)))), ((q 1), .inl (cI, 10, .inl (fun k => zI ((gg 1) k)))), ((q 2), .inl (cI, 10, .inl (fun k => zI ((gg 2) k)))), ((q 3), .inl (cI, 40, .inl (fun k => zI ((gg 3) k)))), ((q 4), .inl (cI, 40, .inl (fun k => zI ((gg 4) k)))), ((q 5), .inl (cI, 40, .inl (fun k => zI ((gg 5) k)))), ((q 6), .inl (cI, 20, .inl (fun k => zI ((gg 6) k)))), ((q 7), .inl (cI, 20, .inl (fun k => zI ((gg 7) k))))] H → va_D A [(b, .inr (2, [.int (zI 0), .ref (q 0), .ref (q 1), .ref (q 2), .ref (q 3), .ref (q 4), .ref (q 5), .ref (q 6), .ref (q 7)])), ((q 0), .inl (cI, 10, .inl (fun k => zI ((gg 0) k)))), ((q 1), .inl (cI, 10, .inl (fun k => zI ((gg 1) k)))), ((q 2), .inl (cI, 10, .inl (fun k => zI ((gg 2) k)))), ((q 3), .inl (cI, 40, .inl (fun k => zI ((gg 3) k)))), ((q 4), .inl (cI, 40, .inl (fun k => zI ((gg 4) k)))), ((q 5), .inl (cI, 40, .inl (fun k => zI ((gg 5) k)))), ((q 6), .inl (cI, 20, .inl (fun k => zI ((gg 6) k)))), ((q 7), .inl (cI, 20, .inl (fun k => zI ((gg 7) k))))] → va_S A s.heap H locs → ∀ ls : Array Slot, lv_has ls 2 [(1, .int (zI v1)), (0, .ref b)] → W p l e rm_X2_clear s m ([.ref b] : List Value).toArray below meth c H locs 0 0 Q (F0 m 7 ls [])) ((10 - 0 : Int).toNat + 1) 0 g _ _ (by omega) (by omega) hN9 hP hD hS ls hl
  clear hP hD hS hl ls
  intro n9_1
  induction n9_1 with
  | zero =>
    intro v1 gg H locs hI hM
    exact absurd hM (by omega)
  | succ n9_1 ih1 =>
    intro v1 gg H locs hI1 hM1 hG hP hD hS ls hl
    refine lv_iload_n hx hb dX2_clear_7 rfl (lv_at hl 0 rfl) ?_
    refine lv_bipush (v := zI 10) hx hb dX2_clear_8 (by decide) ?_
    refine rz_icmp_ge (tgt := 24) F (by omega) (by omega) dX2_clear_10 (by decide) (fun h10_0 => ?_) (fun h10_0 => ?_)
    · exact ret (fun _ => 0, gg) _ _ _ _ _ _ hG (bw_subP (isC := [0, 1, 2, 3, 4, 5, 6, 7, 8]) hP rfl) (hD.sub [0, 1, 2, 3, 4, 5, 6, 7, 8] (by decide) rfl) hS (Nat.le_of_ble_eq_true rfl) (Nat.le_of_ble_eq_true rfl) dX2_clear_24
    · refine lv_aload_n hx hb dX2_clear_13 rfl (lv_at hl 1 rfl) ?_
      refine lv_iload_n hx hb dX2_clear_14 rfl (lv_at hl 0 rfl) ?_
      refine r_callVv (As := [.int (zI v1)]) (rest := []) (wr := []) F hK hP hD hS hA hO hE (c_X2_untell hO b q 0 gg hG v1 (by omega)) k_140 kv_X2_untell 1 rfl (by decide +kernel) ⟨Nat.le_of_ble_eq_true rfl, Nat.le_of_ble_eq_true rfl⟩ [0, 1, 2, 3, 4, 5, 6, 7, 8] [] rfl rfl (by decide) (by decide) (by decide) 0 2 rfl rfl rfl hl.1 rfl (Nat.le_of_ble_eq_true rfl) dX2_clear_15 ⟨Nat.le_of_ble_eq_true rfl, Nat.le_of_ble_eq_true rfl⟩ (w1 := fun u2 => [(b, .inr (2, [.int (zI 0), .ref (q 0), .ref (q 1), .ref (q 2), .ref (q 3), .ref (q 4), .ref (q 5), .ref (q 6), .ref (q 7)])), ((q 0), .inl (cI, 10, .inl (fun k => zI ((u2.2 0) k)))), ((q 1), .inl (cI, 10, .inl (fun k => zI ((u2.2 1) k)))), ((q 2), .inl (cI, 10, .inl (fun k => zI ((u2.2 2) k)))), ((q 3), .inl (cI, 40, .inl (fun k => zI ((u2.2 3) k)))), ((q 4), .inl (cI, 40, .inl (fun k => zI ((u2.2 4) k)))), ((q 5), .inl (cI, 40, .inl (fun k => zI ((u2.2 5) k)))), ((q 6), .inl (cI, 20, .inl (fun k => zI ((u2.2 6) k)))), ((q 7), .inl (cI, 20, .inl (fun k => zI ((u2.2 7) k))))]) (fun _ => rfl) (fun  u2 H locs hp3 hP hD hS => ?_)
      refine lv_iinc (v := zI (v1 + 1)) (lv' := [(1, .int (zI (v1 + 1))), (0, .ref b)]) hx hb dX2_clear_18 hl (k := 0) rfl (zI_add _ _) (by decide) rfl (fun ls hl => ?_)
      refine lv_goto (tgt := 7) hx hb dX2_clear_21 (by decide) ?_
      exact ih1 (v1 + 1) u2.2 _ _ (by omega) (by omega) hp3 hP hD hS ls (lv_sub hl [0, 1] rfl)
