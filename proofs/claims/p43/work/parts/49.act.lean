theorem dX9_isTold_0 : decode cX9_isTold 0 = .ok (.aload_n 0, 1) := bo_42 (by decide +kernel)
theorem dX9_isTold_1 : decode cX9_isTold 1 = .ok (.bipush 20, 2) := bo_16 20 (by decide +kernel)
theorem dX9_isTold_3 : decode cX9_isTold 3 = .ok (.iload_n 1, 1) := bo_27 (by decide +kernel)
theorem dX9_isTold_4 : decode cX9_isTold 4 = .ok (.imul, 1) := bo_104 (by decide +kernel)
theorem dX9_isTold_5 : decode cX9_isTold 5 = .ok (.iconst 0, 1) := bo_3 (by decide +kernel)
theorem dX9_isTold_6 : decode cX9_isTold 6 = .ok (.iadd, 1) := bo_96 (by decide +kernel)
theorem dX9_isTold_7 : decode cX9_isTold 7 = .ok (.iaload, 1) := bo_46 (by decide +kernel)
theorem dX9_isTold_8 : decode cX9_isTold 8 = .ok (.iconst 1, 1) := bo_4 (by decide +kernel)
theorem dX9_isTold_9 : decode cX9_isTold 9 = .ok (.if_icmp .ne 7, 3) := bo_160 0 7 (by decide +kernel)
theorem dX9_isTold_16 : decode cX9_isTold 16 = .ok (.iconst 0, 1) := bo_3 (by decide +kernel)
theorem dX9_isTold_17 : decode cX9_isTold 17 = .ok (.ireturn, 1) := bo_172 (by decide +kernel)
theorem dX9_isTold_12 : decode cX9_isTold 12 = .ok (.iconst 1, 1) := bo_4 (by decide +kernel)
theorem dX9_isTold_13 : decode cX9_isTold 13 = .ok (.goto 4, 3) := bo_167 0 4 (by decide +kernel)
abbrev rm_X9_isTold : Room := { frames := 0, cells := 0, slots := 0, locals := 0 }
set_option maxRecDepth 100000 in
set_option maxHeartbeats 8000000 in
theorem c_X9_isTold {l : Launch} {E : (Nat → Prop) → State → Prop} (hO : bw_Ok E) {G : va_G} {cI cB cJ cN cW : ClassId} (a : Nat) (g_p : Nat → Int) (x : Int) (hx9 : zR x) (hp : ProgOk g_p) (hx8 : 0 ≤ x ∧ x < 10) : bw_Ci (S := zV) l yX9_isTold (bw_ws (Cond.code yX9_isTold cX9_isTold 2 (some .boolean))) rm_X9_isTold E G (bw_kt cI cB cJ cN cW) [.ref a, .int (zI x)] [(a, .inl (cI, 200, .inl (fun k => zI (g_p k))))] (fun r u => ∃ z : Int, r = zI z ∧ ((0 ≤ z ∧ z ≤ 1) ∧ Imp (z = 1) (g_p (20 * x + 0).toNat = 1))) (fun u => [(a, .inl (cI, 200, .inl (fun k => zI (g_p k))))]) := by
  refine bw_Ci.of (cc := cX9_isTold) (maxL := 2) (ty := .boolean) (by decide) rfl (Nat.le_of_ble_eq_true rfl) ?_
  intro p e s m below meth c A Q hx hb hml hts hown hin hK hA hS hP hD hE ret ls hl
  have F : CallFix p m c cX9_isTold 2 s ([.ref a, .int (zI x)] : List Value).toArray bw_T RX9 := ⟨hx, hb, hml, hown, fun w h => hts w (List.mem_cons_of_mem _ h)⟩
  replace hl : lv_has ls 2 [(0, .ref a), (1, .int (zI x))] := hl
  refine lv_aload_n hx hb dX9_isTold_0 rfl (lv_at hl 0 rfl) ?_
  refine lv_bipush (v := zI 20) hx hb dX9_isTold_1 (by decide) ?_
  refine lv_iload_n hx hb dX9_isTold_3 rfl (lv_at hl 1 rfl) ?_
  refine r_imul (v := zI (20 * x)) F dX9_isTold_4 (zI_mul _ _) ?_
  refine lv_iconst (v := zI 0) hx hb dX9_isTold_5 rfl ?_
  refine r_iadd (v := zI ((20 * x) + 0)) F dX9_isTold_6 (zI_add _ _) ?_
  refine rz_iald F hK hP 0 0 rfl rfl (by omega) (by omega) dX9_isTold_7 ?_
  have hpl1 : 0 ≤ (g_p (((20 * x) + 0)).toNat) ∧ (g_p (((20 * x) + 0)).toNat) ≤ 1 := ProgR.at hp.1 (e := ((20 * x) + 0)) x 0 (by omega) (by omega) (by decide) rfl
  refine lv_iconst (v := zI 1) hx hb dX9_isTold_8 rfl ?_
  refine rz_icmp_ne (tgt := 16) F (by omega) (by omega) dX9_isTold_9 (by decide) (fun h9_1 => ?_) (fun h9_1 => ?_)
  · refine lv_iconst (v := zI 0) hx hb dX9_isTold_16 rfl ?_
    exact ret (zI 0) (fun k => [((fun _ => 0), fun _ _ => 0)].getD k (fun _ => 0, fun _ _ => 0)) _ _ _ _ _ _ rfl ⟨0, rfl, ⟨(show 0 ≤ (0 : Int) ∧ (0 : Int) ≤ 1 from by omega), (show Imp ((0 : Int) = 1) (g_p (20 * x + 0).toNat = 1) from fun q9 => by omega)⟩⟩ (bw_subP (isC := [0]) hP rfl) (hD.sub [0] (by decide) rfl) hS (Nat.le_of_ble_eq_true rfl) (Nat.le_of_ble_eq_true rfl) dX9_isTold_17
  · refine lv_iconst (v := zI 1) hx hb dX9_isTold_12 rfl ?_
    refine lv_goto (tgt := 17) hx hb dX9_isTold_13 (by decide) ?_
    exact ret (zI 1) (fun k => [((fun _ => 0), fun _ _ => 0)].getD k (fun _ => 0, fun _ _ => 0)) _ _ _ _ _ _ rfl ⟨1, rfl, ⟨(show 0 ≤ (1 : Int) ∧ (1 : Int) ≤ 1 from by omega), (show Imp ((1 : Int) = 1) (g_p (20 * x + 0).toNat = 1) from fun q9 => by omega)⟩⟩ (bw_subP (isC := [0]) hP rfl) (hD.sub [0] (by decide) rfl) hS (Nat.le_of_ble_eq_true rfl) (Nat.le_of_ble_eq_true rfl) dX9_isTold_17
theorem dX9_begins_0 : decode cX9_begins 0 = .ok (.iconst 0, 1) := bo_3 (by decide +kernel)
theorem dX9_begins_1 : decode cX9_begins 1 = .ok (.istore 6, 2) := bo_54 (by decide +kernel)
theorem dX9_begins_3 : decode cX9_begins 3 = .ok (.iload 6, 2) := bo_21 (by decide +kernel)
theorem dX9_begins_5 : decode cX9_begins 5 = .ok (.sipush 159, 3) := bo_17 0 159 (by decide +kernel)
theorem dX9_begins_8 : decode cX9_begins 8 = .ok (.if_icmp .ge 14, 3) := bo_162 0 14 (by decide +kernel)
theorem dX9_begins_22 : decode cX9_begins 22 = .ok (.aload_n 1, 1) := bo_43 (by decide +kernel)
theorem dX9_begins_23 : decode cX9_begins 23 = .ok (.iconst 0, 1) := bo_3 (by decide +kernel)
theorem dX9_begins_24 : decode cX9_begins 24 = .ok (.iload_n 2, 1) := bo_28 (by decide +kernel)
theorem dX9_begins_25 : decode cX9_begins 25 = .ok (.iastore, 1) := bo_79 (by decide +kernel)
theorem dX9_begins_26 : decode cX9_begins 26 = .ok (.aload_n 1, 1) := bo_43 (by decide +kernel)
theorem dX9_begins_27 : decode cX9_begins 27 = .ok (.iconst 1, 1) := bo_4 (by decide +kernel)
theorem dX9_begins_28 : decode cX9_begins 28 = .ok (.iload_n 3, 1) := bo_29 (by decide +kernel)
theorem dX9_begins_29 : decode cX9_begins 29 = .ok (.iastore, 1) := bo_79 (by decide +kernel)
theorem dX9_begins_30 : decode cX9_begins 30 = .ok (.aload_n 1, 1) := bo_43 (by decide +kernel)
theorem dX9_begins_31 : decode cX9_begins 31 = .ok (.iconst 2, 1) := bo_5 (by decide +kernel)
theorem dX9_begins_32 : decode cX9_begins 32 = .ok (.iload 4, 2) := bo_21 (by decide +kernel)
theorem dX9_begins_34 : decode cX9_begins 34 = .ok (.iastore, 1) := bo_79 (by decide +kernel)
theorem dX9_begins_35 : decode cX9_begins 35 = .ok (.aload_n 1, 1) := bo_43 (by decide +kernel)
theorem dX9_begins_36 : decode cX9_begins 36 = .ok (.iconst 3, 1) := bo_6 (by decide +kernel)
theorem dX9_begins_37 : decode cX9_begins 37 = .ok (.iload 5, 2) := bo_21 (by decide +kernel)
theorem dX9_begins_39 : decode cX9_begins 39 = .ok (.iastore, 1) := bo_79 (by decide +kernel)
theorem dX9_begins_40 : decode cX9_begins 40 = .ok (.aload_n 1, 1) := bo_43 (by decide +kernel)
theorem dX9_begins_41 : decode cX9_begins 41 = .ok (.bipush 6, 2) := bo_16 6 (by decide +kernel)
theorem dX9_begins_43 : decode cX9_begins 43 = .ok (.aload_n 0, 1) := bo_42 (by decide +kernel)
theorem dX9_begins_44 : decode cX9_begins 44 = .ok (.iconst 0, 1) := bo_3 (by decide +kernel)
theorem dX9_begins_45 : decode cX9_begins 45 = .ok (.invokestatic 265, 3) := bo_184 1 9 (by decide +kernel)
theorem k_1424 : Cond.methodLink RX9 265 yX9_isTold ∈ bw_T := bw_m 1424 (by decide +kernel) rfl
theorem ks_X9_isTold : bw_KS RX9 yX9_isTold (Cond.code yX9_isTold cX9_isTold 2 (some .boolean)) := ⟨bw_m 1425 (by decide +kernel) rfl, bw_m 107 (by decide +kernel) rfl, bw_m 1426 (by decide +kernel) rfl⟩
theorem dX9_begins_48 : decode cX9_begins 48 = .ok (.ifCond .eq 7, 3) := bo_153 0 7 (by decide +kernel)
theorem dX9_begins_55 : decode cX9_begins 55 = .ok (.iconst 3, 1) := bo_6 (by decide +kernel)
theorem dX9_begins_56 : decode cX9_begins 56 = .ok (.iastore, 1) := bo_79 (by decide +kernel)
theorem dX9_begins_57 : decode cX9_begins 57 = .ok (.return_, 1) := bo_177 (by decide +kernel)
theorem dX9_begins_51 : decode cX9_begins 51 = .ok (.iconst 0, 1) := bo_3 (by decide +kernel)
theorem dX9_begins_52 : decode cX9_begins 52 = .ok (.goto 4, 3) := bo_167 0 4 (by decide +kernel)
theorem dX9_begins_11 : decode cX9_begins 11 = .ok (.aload_n 1, 1) := bo_43 (by decide +kernel)
theorem dX9_begins_12 : decode cX9_begins 12 = .ok (.iload 6, 2) := bo_21 (by decide +kernel)
theorem dX9_begins_14 : decode cX9_begins 14 = .ok (.iconst 0, 1) := bo_3 (by decide +kernel)
theorem dX9_begins_15 : decode cX9_begins 15 = .ok (.iastore, 1) := bo_79 (by decide +kernel)
theorem dX9_begins_16 : decode cX9_begins 16 = .ok (.iinc 6 1, 3) := bo_132 6 1 (by decide +kernel)
theorem dX9_begins_19 : decode cX9_begins 19 = .ok (.goto (-16), 3) := bo_167 255 240 (by decide +kernel)
abbrev rm_X9_begins : Room := { frames := 1, cells := 0, slots := 0, locals := 21 }
set_option maxRecDepth 100000 in
set_option maxHeartbeats 8000000 in
theorem c_X9_begins {l : Launch} {E : (Nat → Prop) → State → Prop} (hO : bw_Ok E) {G : va_G} {cI cB cJ cN cW : ClassId} (a : Nat) (g_p : Nat → Int) (d : Nat) (g_s : Nat → Int) (x0 : Int) (x1 : Int) (x2 : Int) (x3 : Int) (hx09 : zR x0) (hx19 : zR x1) (hx29 : zR x2) (hx39 : zR x3) (hp : ProgOk g_p) (h09 : 0 ≤ x0 ∧ x0 ≤ 99) (h19 : 0 ≤ x1 ∧ x1 ≤ 99) (h29 : 0 ≤ x2 ∧ x2 ≤ 99) (h39 : 0 ≤ x3 ∧ x3 ≤ 99) : bw_Cv (S := zV) l yX9_begins (bw_ws (Cond.code yX9_begins cX9_begins 7 none)) rm_X9_begins E G (bw_kt cI cB cJ cN cW) [.ref a, .ref d, .int (zI x0), .int (zI x1), .int (zI x2), .int (zI x3)] [(a, .inl (cI, 200, .inl (fun k => zI (g_p k)))), (d, .inl (cI, 159, .inl (fun k => zI (g_s k))))] (fun u => (StOk g_p ((u 1).2 0))) (fun u => [(a, .inl (cI, 200, .inl (fun k => zI (g_p k)))), (d, .inl (cI, 159, .inl (fun k => zI (((u 1).2 0) k))))]) := by
  refine bw_Cv.of (cc := cX9_begins) (maxL := 7) (by decide) rfl (Nat.le_of_ble_eq_true rfl) ?_
  intro p e s m below meth c A Q hx hb hml hts hown hin hK hA hS hP hD hE ret ls hl
  have F : CallFix p m c cX9_begins 7 s ([.ref a, .ref d, .int (zI x0), .int (zI x1), .int (zI x2), .int (zI x3)] : List Value).toArray bw_T RX9 := ⟨hx, hb, hml, hown, fun w h => hts w (List.mem_cons_of_mem _ h)⟩
  replace hl : lv_has ls 7 [(0, .ref a), (1, .ref d), (2, .int (zI x0)), (3, .int (zI x1)), (4, .int (zI x2)), (5, .int (zI x3))] := hl
  refine lv_iconst (v := zI 0) hx hb dX9_begins_0 rfl ?_
  refine lv_istore (lv' := [(6, .int (zI 0)), (0, .ref a), (1, .ref d), (2, .int (zI x0)), (3, .int (zI x1)), (4, .int (zI x2)), (5, .int (zI x3))]) hx hb dX9_begins_1 hl (by decide) rfl (fun ls hl => ?_)
  refine W.widen (k := 0) (n := 0) (Nat.le_of_ble_eq_true rfl) (Nat.le_of_ble_eq_true rfl) ?_
  refine (?_ : ∀ (n9_1 : Nat) (v6 : Int) (gs9 : Nat → Int) (H : Heap) (locs : List Loc), (0 ≤ v6 ∧ v6 ≤ 159) → (159 - v6 : Int).toNat < n9_1 → (∀ k : Nat, (k : Int) < v6 → gs9 k = 0) → va_P G vwCl [(a, .inl (cI, 200, .inl (fun k => zI (g_p k)))), (d, .inl (cI, 159, .inl (fun k => zI (gs9 k))))] H → va_D A [(a, .inl (cI, 200, .inl (fun k => zI (g_p k)))), (d, .inl (cI, 159, .inl (fun k => zI (gs9 k))))] → va_S A s.heap H locs → ∀ ls : Array Slot, lv_has ls 7 [(6, .int (zI v6)), (0, .ref a), (1, .ref d), (2, .int (zI x0)), (3, .int (zI x1)), (4, .int (zI x2)), (5, .int (zI x3))] → W p l e rm_X9_begins s m ([.ref a, .ref d, .int (zI x0), .int (zI x1), .int (zI x2), .int (zI x3)] : List Value).toArray below meth c H locs 0 0 Q (F0 m 3 ls [])) ((159 - 0 : Int).toNat + 1) 0 g_s _ _ (by omega) (by omega) (fun k hk => absurd hk (by omega)) hP hD hS ls hl
  clear hP hD hS hl ls
  intro n9_1
  induction n9_1 with
  | zero =>
    intro v6 gs9 H locs hI hM
    exact absurd hM (by omega)
  | succ n9_1 ih1 =>
    intro v6 gs9 H locs hI1 hM1 hz hP hD hS ls hl
    refine lv_iload hx hb dX9_begins_3 (lv_at hl 0 rfl) ?_
    refine lv_sipush (v := zI 159) hx hb dX9_begins_5 (by decide) ?_
    refine rz_icmp_ge (tgt := 22) F (by omega) (by omega) dX9_begins_8 (by decide) (fun h8_0 => ?_) (fun h8_0 => ?_)
    · refine lv_aload_n hx hb dX9_begins_22 rfl (lv_at hl 2 rfl) ?_
      refine lv_iconst (v := zI 0) hx hb dX9_begins_23 rfl ?_
      refine lv_iload_n hx hb dX9_begins_24 rfl (lv_at hl 3 rfl) ?_
      refine rz_iastN F hK hP hD hS 1 0 rfl rfl (by omega) (by omega) dX9_begins_25 0 rfl (w1 := fun g2 => [(a, .inl (cI, 200, .inl (fun k => zI (g_p k)))), (d, .inl (cI, 159, .inl (fun k => zI (g2 k))))]) (fun _ => rfl) (fun g2 e_g2 H locs hP hD hS => ?_)
      refine lv_aload_n hx hb dX9_begins_26 rfl (lv_at hl 2 rfl) ?_
      refine lv_iconst (v := zI 1) hx hb dX9_begins_27 rfl ?_
      refine lv_iload_n hx hb dX9_begins_28 rfl (lv_at hl 4 rfl) ?_
      refine rz_iastN F hK hP hD hS 1 0 rfl rfl (by omega) (by omega) dX9_begins_29 1 rfl (w1 := fun g3 => [(a, .inl (cI, 200, .inl (fun k => zI (g_p k)))), (d, .inl (cI, 159, .inl (fun k => zI (g3 k))))]) (fun _ => rfl) (fun g3 e_g3 H locs hP hD hS => ?_)
      refine lv_aload_n hx hb dX9_begins_30 rfl (lv_at hl 2 rfl) ?_
      refine lv_iconst (v := zI 2) hx hb dX9_begins_31 rfl ?_
      refine lv_iload hx hb dX9_begins_32 (lv_at hl 5 rfl) ?_
      refine rz_iastN F hK hP hD hS 1 0 rfl rfl (by omega) (by omega) dX9_begins_34 2 rfl (w1 := fun g4 => [(a, .inl (cI, 200, .inl (fun k => zI (g_p k)))), (d, .inl (cI, 159, .inl (fun k => zI (g4 k))))]) (fun _ => rfl) (fun g4 e_g4 H locs hP hD hS => ?_)
      refine lv_aload_n hx hb dX9_begins_35 rfl (lv_at hl 2 rfl) ?_
      refine lv_iconst (v := zI 3) hx hb dX9_begins_36 rfl ?_
      refine lv_iload hx hb dX9_begins_37 (lv_at hl 6 rfl) ?_
      refine rz_iastN F hK hP hD hS 1 0 rfl rfl (by omega) (by omega) dX9_begins_39 3 rfl (w1 := fun g5 => [(a, .inl (cI, 200, .inl (fun k => zI (g_p k)))), (d, .inl (cI, 159, .inl (fun k => zI (g5 k))))]) (fun _ => rfl) (fun g5 e_g5 H locs hP hD hS => ?_)
      refine lv_aload_n hx hb dX9_begins_40 rfl (lv_at hl 2 rfl) ?_
      refine lv_bipush (v := zI 6) hx hb dX9_begins_41 (by decide) ?_
      refine lv_aload_n hx hb dX9_begins_43 rfl (lv_at hl 1 rfl) ?_
      refine lv_iconst (v := zI 0) hx hb dX9_begins_44 rfl ?_
      refine r_callSi (As := [.ref a, .int (zI 0)]) (rest := [.int (zI 6), .ref d]) (wr := [(d, .inl (cI, 159, .inl (fun k => zI (g5 k))))]) F hK hP hD hS hA hO hE (c_X9_isTold hO a g_p 0 (by omega) hp (by omega)) k_1424 ks_X9_isTold 2 rfl (by decide +kernel) ⟨Nat.le_of_ble_eq_true rfl, Nat.le_of_ble_eq_true rfl⟩ [0] [1] rfl rfl (by decide) (by decide) (by decide) hl.1 rfl (Nat.le_of_ble_eq_true rfl) dX9_begins_45 ⟨Nat.le_of_ble_eq_true rfl, Nat.le_of_ble_eq_true rfl⟩ (w1 := fun u6 => [(d, .inl (cI, 159, .inl (fun k => zI (g5 k)))), (a, .inl (cI, 200, .inl (fun k => zI (g_p k))))]) (fun _ => rfl) (fun r7 u6 H locs hp8 hP hD hS => ?_)
      obtain ⟨z9, rfl, h_z9⟩ := hp8
      refine rz_ifb_eq (tgt := 55) F (by omega) dX9_begins_48 (by decide) (fun h48_9 => ?_) (fun h48_9 => ?_)
      · refine lv_iconst (v := zI 3) hx hb dX9_begins_55 rfl ?_
        refine rz_iastN F hK hP hD hS 0 0 rfl rfl (by omega) (by omega) dX9_begins_56 6 rfl (w1 := fun g11 => [(d, .inl (cI, 159, .inl (fun k => zI (g11 k)))), (a, .inl (cI, 200, .inl (fun k => zI (g_p k))))]) (fun _ => rfl) (fun g11 e_g11 H locs hP hD hS => ?_)
        exact ret (fun k => [((fun _ => 0), fun _ _ => 0), (fun _ => 0, fun _ => g11)].getD k (fun _ => 0, fun _ _ => 0)) _ _ _ _ _ _ (StOk.begun hp.1.pos (fun k hk => hz k (by omega)) e_g2 e_g3 e_g4 e_g5 e_g11 (by omega) (by omega) (by omega) (by omega) (by omega)) (bw_subP (isC := [1, 0]) hP rfl) (hD.sub [1, 0] (by decide) rfl) hS (Nat.le_of_ble_eq_true rfl) (Nat.le_of_ble_eq_true rfl) dX9_begins_57
      · refine lv_iconst (v := zI 0) hx hb dX9_begins_51 rfl ?_
        refine lv_goto (tgt := 56) hx hb dX9_begins_52 (by decide) ?_
        refine rz_iastN F hK hP hD hS 0 0 rfl rfl (by omega) (by omega) dX9_begins_56 6 rfl (w1 := fun g12 => [(d, .inl (cI, 159, .inl (fun k => zI (g12 k)))), (a, .inl (cI, 200, .inl (fun k => zI (g_p k))))]) (fun _ => rfl) (fun g12 e_g12 H locs hP hD hS => ?_)
        exact ret (fun k => [((fun _ => 0), fun _ _ => 0), (fun _ => 0, fun _ => g12)].getD k (fun _ => 0, fun _ _ => 0)) _ _ _ _ _ _ (StOk.begun hp.1.pos (fun k hk => hz k (by omega)) e_g2 e_g3 e_g4 e_g5 e_g12 (by omega) (by omega) (by omega) (by omega) (by omega)) (bw_subP (isC := [1, 0]) hP rfl) (hD.sub [1, 0] (by decide) rfl) hS (Nat.le_of_ble_eq_true rfl) (Nat.le_of_ble_eq_true rfl) dX9_begins_57
    · refine lv_aload_n hx hb dX9_begins_11 rfl (lv_at hl 2 rfl) ?_
      refine lv_iload hx hb dX9_begins_12 (lv_at hl 0 rfl) ?_
      refine lv_iconst (v := zI 0) hx hb dX9_begins_14 rfl ?_
      refine rz_iastG F hK hP hD hS 1 0 rfl rfl (by omega) (by omega) dX9_begins_15 (w1 := fun g13 => [(a, .inl (cI, 200, .inl (fun k => zI (g_p k)))), (d, .inl (cI, 159, .inl (fun k => zI (g13 k))))]) (fun _ => rfl) (fun g13 e_g13 H locs hP hD hS => ?_)
      refine lv_iinc (v := zI (v6 + 1)) (lv' := [(6, .int (zI (v6 + 1))), (0, .ref a), (1, .ref d), (2, .int (zI x0)), (3, .int (zI x1)), (4, .int (zI x2)), (5, .int (zI x3))]) hx hb dX9_begins_16 hl (k := 0) rfl (zI_add _ _) (by decide) rfl (fun ls hl => ?_)
      refine lv_goto (tgt := 3) hx hb dX9_begins_19 (by decide) ?_
      exact ih1 (v6 + 1) g13 _ _ (by omega) (by omega) (uZ_fill (by omega) e_g13 hz) hP hD hS ls (lv_sub hl [0, 1, 2, 3, 4, 5, 6] rfl)
theorem dX9_act_0 : decode cX9_act 0 = .ok (.bipush 20, 2) := bo_16 20 (by decide +kernel)
theorem dX9_act_2 : decode cX9_act 2 = .ok (.iload_n 2, 1) := bo_28 (by decide +kernel)
theorem dX9_act_3 : decode cX9_act 3 = .ok (.imul, 1) := bo_104 (by decide +kernel)
theorem dX9_act_4 : decode cX9_act 4 = .ok (.iconst 2, 1) := bo_5 (by decide +kernel)
theorem dX9_act_5 : decode cX9_act 5 = .ok (.iadd, 1) := bo_96 (by decide +kernel)
theorem dX9_act_6 : decode cX9_act 6 = .ok (.iconst 3, 1) := bo_6 (by decide +kernel)
theorem dX9_act_7 : decode cX9_act 7 = .ok (.iload_n 3, 1) := bo_29 (by decide +kernel)
theorem dX9_act_8 : decode cX9_act 8 = .ok (.imul, 1) := bo_104 (by decide +kernel)
theorem dX9_act_9 : decode cX9_act 9 = .ok (.iadd, 1) := bo_96 (by decide +kernel)
theorem dX9_act_10 : decode cX9_act 10 = .ok (.istore 4, 2) := bo_54 (by decide +kernel)
theorem dX9_act_12 : decode cX9_act 12 = .ok (.aload_n 0, 1) := bo_42 (by decide +kernel)
theorem dX9_act_13 : decode cX9_act 13 = .ok (.iload 4, 2) := bo_21 (by decide +kernel)
theorem dX9_act_15 : decode cX9_act 15 = .ok (.iconst 1, 1) := bo_4 (by decide +kernel)
theorem dX9_act_16 : decode cX9_act 16 = .ok (.iadd, 1) := bo_96 (by decide +kernel)
theorem dX9_act_17 : decode cX9_act 17 = .ok (.iaload, 1) := bo_46 (by decide +kernel)
theorem dX9_act_18 : decode cX9_act 18 = .ok (.istore 5, 2) := bo_54 (by decide +kernel)
theorem dX9_act_20 : decode cX9_act 20 = .ok (.aload_n 0, 1) := bo_42 (by decide +kernel)
theorem dX9_act_21 : decode cX9_act 21 = .ok (.iload 4, 2) := bo_21 (by decide +kernel)
theorem dX9_act_23 : decode cX9_act 23 = .ok (.iaload, 1) := bo_46 (by decide +kernel)
theorem dX9_act_24 : decode cX9_act 24 = .ok (.tableswitch 83 0 2 #[28, 46, 70], 28) := by decide +kernel
theorem dX9_act_52 : decode cX9_act 52 = .ok (.aload_n 1, 1) := bo_43 (by decide +kernel)
theorem dX9_act_53 : decode cX9_act 53 = .ok (.iload 5, 2) := bo_21 (by decide +kernel)
theorem dX9_act_55 : decode cX9_act 55 = .ok (.bipush 99, 2) := bo_16 99 (by decide +kernel)
theorem dX9_act_57 : decode cX9_act 57 = .ok (.aload_n 1, 1) := bo_43 (by decide +kernel)
theorem dX9_act_58 : decode cX9_act 58 = .ok (.iload 5, 2) := bo_21 (by decide +kernel)
theorem dX9_act_60 : decode cX9_act 60 = .ok (.iaload, 1) := bo_46 (by decide +kernel)
theorem dX9_act_61 : decode cX9_act 61 = .ok (.iconst 1, 1) := bo_4 (by decide +kernel)
theorem dX9_act_62 : decode cX9_act 62 = .ok (.iadd, 1) := bo_96 (by decide +kernel)
theorem dX9_act_63 : decode cX9_act 63 = .ok (.invokestatic 269, 3) := bo_184 1 13 (by decide +kernel)
theorem k_1460 : Cond.methodLink RX9 269 yX9_less ∈ bw_T := bw_m 1460 (by decide +kernel) rfl
theorem ks_X9_less : bw_KS RX9 yX9_less (Cond.code yX9_less cX9_less 2 (some .int)) := ⟨bw_m 1461 (by decide +kernel) rfl, bw_m 107 (by decide +kernel) rfl, bw_m 1462 (by decide +kernel) rfl⟩
theorem dX9_act_66 : decode cX9_act 66 = .ok (.iastore, 1) := bo_79 (by decide +kernel)
theorem dX9_act_67 : decode cX9_act 67 = .ok (.goto 88, 3) := bo_167 0 88 (by decide +kernel)
theorem dX9_act_155 : decode cX9_act 155 = .ok (.return_, 1) := bo_177 (by decide +kernel)
theorem dX9_act_70 : decode cX9_act 70 = .ok (.aload_n 1, 1) := bo_43 (by decide +kernel)
theorem dX9_act_71 : decode cX9_act 71 = .ok (.iload 5, 2) := bo_21 (by decide +kernel)
theorem dX9_act_73 : decode cX9_act 73 = .ok (.aload_n 1, 1) := bo_43 (by decide +kernel)
theorem dX9_act_74 : decode cX9_act 74 = .ok (.iload 5, 2) := bo_21 (by decide +kernel)
theorem dX9_act_76 : decode cX9_act 76 = .ok (.iaload, 1) := bo_46 (by decide +kernel)
theorem dX9_act_77 : decode cX9_act 77 = .ok (.ifCond .le 12, 3) := bo_158 0 12 (by decide +kernel)
theorem dX9_act_89 : decode cX9_act 89 = .ok (.iconst 0, 1) := bo_3 (by decide +kernel)
theorem dX9_act_90 : decode cX9_act 90 = .ok (.iastore, 1) := bo_79 (by decide +kernel)
theorem dX9_act_91 : decode cX9_act 91 = .ok (.goto 64, 3) := bo_167 0 64 (by decide +kernel)
theorem dX9_act_80 : decode cX9_act 80 = .ok (.aload_n 1, 1) := bo_43 (by decide +kernel)
theorem dX9_act_81 : decode cX9_act 81 = .ok (.iload 5, 2) := bo_21 (by decide +kernel)
theorem dX9_act_83 : decode cX9_act 83 = .ok (.iaload, 1) := bo_46 (by decide +kernel)
theorem dX9_act_84 : decode cX9_act 84 = .ok (.iconst 1, 1) := bo_4 (by decide +kernel)
theorem dX9_act_85 : decode cX9_act 85 = .ok (.isub, 1) := bo_100 (by decide +kernel)
theorem dX9_act_86 : decode cX9_act 86 = .ok (.goto 4, 3) := bo_167 0 4 (by decide +kernel)
theorem dX9_act_94 : decode cX9_act 94 = .ok (.aload_n 1, 1) := bo_43 (by decide +kernel)
theorem dX9_act_95 : decode cX9_act 95 = .ok (.iload 5, 2) := bo_21 (by decide +kernel)
theorem dX9_act_97 : decode cX9_act 97 = .ok (.aload_n 0, 1) := bo_42 (by decide +kernel)
theorem dX9_act_98 : decode cX9_act 98 = .ok (.iload 4, 2) := bo_21 (by decide +kernel)
theorem dX9_act_100 : decode cX9_act 100 = .ok (.iconst 2, 1) := bo_5 (by decide +kernel)
theorem dX9_act_101 : decode cX9_act 101 = .ok (.iadd, 1) := bo_96 (by decide +kernel)
theorem dX9_act_102 : decode cX9_act 102 = .ok (.iaload, 1) := bo_46 (by decide +kernel)
theorem dX9_act_103 : decode cX9_act 103 = .ok (.iastore, 1) := bo_79 (by decide +kernel)
theorem dX9_act_104 : decode cX9_act 104 = .ok (.goto 51, 3) := bo_167 0 51 (by decide +kernel)
theorem dX9_act_107 : decode cX9_act 107 = .ok (.aload_n 1, 1) := bo_43 (by decide +kernel)
theorem dX9_act_108 : decode cX9_act 108 = .ok (.bipush 28, 2) := bo_16 28 (by decide +kernel)
theorem dX9_act_110 : decode cX9_act 110 = .ok (.iload_n 2, 1) := bo_28 (by decide +kernel)
theorem dX9_act_111 : decode cX9_act 111 = .ok (.iadd, 1) := bo_96 (by decide +kernel)
theorem dX9_act_112 : decode cX9_act 112 = .ok (.iaload, 1) := bo_46 (by decide +kernel)
theorem dX9_act_113 : decode cX9_act 113 = .ok (.iload_n 3, 1) := bo_29 (by decide +kernel)
theorem dX9_act_114 : decode cX9_act 114 = .ok (.invokestatic 272, 3) := bo_184 1 16 (by decide +kernel)
theorem k_1463 : Cond.methodLink RX9 272 yX9_has ∈ bw_T := bw_m 1463 (by decide +kernel) rfl
theorem ks_X9_has : bw_KS RX9 yX9_has (Cond.code yX9_has cX9_has 2 (some .boolean)) := ⟨bw_m 1464 (by decide +kernel) rfl, bw_m 107 (by decide +kernel) rfl, bw_m 1465 (by decide +kernel) rfl⟩
theorem dX9_act_117 : decode cX9_act 117 = .ok (.ifCond .eq 4, 3) := bo_153 0 4 (by decide +kernel)
theorem dX9_act_121 : decode cX9_act 121 = .ok (.aload_n 1, 1) := bo_43 (by decide +kernel)
theorem dX9_act_122 : decode cX9_act 122 = .ok (.bipush 28, 2) := bo_16 28 (by decide +kernel)
theorem dX9_act_124 : decode cX9_act 124 = .ok (.iload_n 2, 1) := bo_28 (by decide +kernel)
theorem dX9_act_125 : decode cX9_act 125 = .ok (.iadd, 1) := bo_96 (by decide +kernel)
theorem dX9_act_126 : decode cX9_act 126 = .ok (.dup2, 1) := bo_92 (by decide +kernel)
theorem dX9_act_127 : decode cX9_act 127 = .ok (.iaload, 1) := bo_46 (by decide +kernel)
theorem dX9_act_128 : decode cX9_act 128 = .ok (.iconst 1, 1) := bo_4 (by decide +kernel)
theorem dX9_act_129 : decode cX9_act 129 = .ok (.iload_n 3, 1) := bo_29 (by decide +kernel)
theorem dX9_act_130 : decode cX9_act 130 = .ok (.ishl, 1) := bo_120 (by decide +kernel)
theorem dX9_act_131 : decode cX9_act 131 = .ok (.ior, 1) := bo_128 (by decide +kernel)
theorem dX9_act_132 : decode cX9_act 132 = .ok (.iastore, 1) := bo_79 (by decide +kernel)
theorem dX9_act_133 : decode cX9_act 133 = .ok (.aload_n 1, 1) := bo_43 (by decide +kernel)
theorem dX9_act_134 : decode cX9_act 134 = .ok (.bipush 8, 2) := bo_16 8 (by decide +kernel)
theorem dX9_act_136 : decode cX9_act 136 = .ok (.iconst 2, 1) := bo_5 (by decide +kernel)
theorem dX9_act_137 : decode cX9_act 137 = .ok (.iload 5, 2) := bo_21 (by decide +kernel)
theorem dX9_act_139 : decode cX9_act 139 = .ok (.imul, 1) := bo_104 (by decide +kernel)
theorem dX9_act_140 : decode cX9_act 140 = .ok (.iadd, 1) := bo_96 (by decide +kernel)
theorem dX9_act_141 : decode cX9_act 141 = .ok (.iconst 0, 1) := bo_3 (by decide +kernel)
theorem dX9_act_142 : decode cX9_act 142 = .ok (.iastore, 1) := bo_79 (by decide +kernel)
theorem dX9_act_143 : decode cX9_act 143 = .ok (.aload_n 1, 1) := bo_43 (by decide +kernel)
theorem dX9_act_144 : decode cX9_act 144 = .ok (.bipush 8, 2) := bo_16 8 (by decide +kernel)
theorem dX9_act_146 : decode cX9_act 146 = .ok (.iconst 2, 1) := bo_5 (by decide +kernel)
theorem dX9_act_147 : decode cX9_act 147 = .ok (.iload 5, 2) := bo_21 (by decide +kernel)
theorem dX9_act_149 : decode cX9_act 149 = .ok (.imul, 1) := bo_104 (by decide +kernel)
theorem dX9_act_150 : decode cX9_act 150 = .ok (.iadd, 1) := bo_96 (by decide +kernel)
theorem dX9_act_151 : decode cX9_act 151 = .ok (.iconst 1, 1) := bo_4 (by decide +kernel)
theorem dX9_act_152 : decode cX9_act 152 = .ok (.iadd, 1) := bo_96 (by decide +kernel)
theorem dX9_act_153 : decode cX9_act 153 = .ok (.iconst 0, 1) := bo_3 (by decide +kernel)
theorem dX9_act_154 : decode cX9_act 154 = .ok (.iastore, 1) := bo_79 (by decide +kernel)
theorem dX9_act_120 : decode cX9_act 120 = .ok (.return_, 1) := bo_177 (by decide +kernel)
abbrev rm_X9_act : Room := { frames := 1, cells := 0, slots := 0, locals := 21 }
set_option maxRecDepth 100000 in
set_option maxHeartbeats 8000000 in
theorem c_X9_act {l : Launch} {E : (Nat → Prop) → State → Prop} (hO : bw_Ok E) {G : va_G} {cI cB cJ cN cW : ClassId} (a : Nat) (g_p : Nat → Int) (d : Nat) (g_s : Nat → Int) (x : Int) (w : Int) (hx9 : zR x) (hw9 : zR w) (hp : ProgOk g_p) (hs : SI g_p g_s) (hx8 : 0 ≤ x ∧ x < 10) (hw8 : 0 ≤ w ∧ w < 4) : bw_Cv (S := zV) l yX9_act (bw_ws (Cond.code yX9_act cX9_act 6 none)) rm_X9_act E G (bw_kt cI cB cJ cN cW) [.ref a, .ref d, .int (zI x), .int (zI w)] [(a, .inl (cI, 200, .inl (fun k => zI (g_p k)))), (d, .inl (cI, 159, .inl (fun k => zI (g_s k))))] (fun u => (SI g_p ((u 1).2 0) ∧ rM ((u 1).2 0) ≤ rM g_s ∧ ((u 1).2 0) 4 = g_s 4 ∧ ((u 1).2 0) 5 = g_s 5 ∧ ((u 1).2 0) 6 = g_s 6)) (fun u => [(a, .inl (cI, 200, .inl (fun k => zI (g_p k)))), (d, .inl (cI, 159, .inl (fun k => zI (((u 1).2 0) k))))]) := by
  refine bw_Cv.of (cc := cX9_act) (maxL := 6) (by decide) rfl (Nat.le_of_ble_eq_true rfl) ?_
  intro p e s m below meth c A Q hx hb hml hts hown hin hK hA hS hP hD hE ret ls hl
  have F : CallFix p m c cX9_act 6 s ([.ref a, .ref d, .int (zI x), .int (zI w)] : List Value).toArray bw_T RX9 := ⟨hx, hb, hml, hown, fun w h => hts w (List.mem_cons_of_mem _ h)⟩
  replace hl : lv_has ls 6 [(0, .ref a), (1, .ref d), (2, .int (zI x)), (3, .int (zI w))] := hl
  have ha9 := ProgOk.act hp (i := x) (n := w) (k := (((20 * x) + 2) + (3 * w))) hx8 hw8 (by omega)
  refine lv_bipush (v := zI 20) hx hb dX9_act_0 (by decide) ?_
  refine lv_iload_n hx hb dX9_act_2 rfl (lv_at hl 2 rfl) ?_
  refine r_imul (v := zI (20 * x)) F dX9_act_3 (zI_mul _ _) ?_
  refine lv_iconst (v := zI 2) hx hb dX9_act_4 rfl ?_
  refine r_iadd (v := zI ((20 * x) + 2)) F dX9_act_5 (zI_add _ _) ?_
  refine lv_iconst (v := zI 3) hx hb dX9_act_6 rfl ?_
  refine lv_iload_n hx hb dX9_act_7 rfl (lv_at hl 3 rfl) ?_
  refine r_imul (v := zI (3 * w)) F dX9_act_8 (zI_mul _ _) ?_
  refine r_iadd (v := zI (((20 * x) + 2) + (3 * w))) F dX9_act_9 (zI_add _ _) ?_
  refine lv_istore (lv' := [(4, .int (zI (((20 * x) + 2) + (3 * w)))), (0, .ref a), (1, .ref d), (2, .int (zI x)), (3, .int (zI w))]) hx hb dX9_act_10 hl (by decide) rfl (fun ls hl => ?_)
  refine lv_aload_n hx hb dX9_act_12 rfl (lv_at hl 1 rfl) ?_
  refine lv_iload hx hb dX9_act_13 (lv_at hl 0 rfl) ?_
  refine lv_iconst (v := zI 1) hx hb dX9_act_15 rfl ?_
  refine r_iadd (v := zI ((((20 * x) + 2) + (3 * w)) + 1)) F dX9_act_16 (zI_add _ _) ?_
  refine rz_iald F hK hP 0 0 rfl rfl (by omega) (by omega) dX9_act_17 ?_
  refine lv_istore (lv' := [(5, .int (zI (g_p (((((20 * x) + 2) + (3 * w)) + 1)).toNat))), (4, .int (zI (((20 * x) + 2) + (3 * w)))), (0, .ref a), (1, .ref d), (2, .int (zI x)), (3, .int (zI w))]) hx hb dX9_act_18 hl (by decide) rfl (fun ls hl => ?_)
  refine lv_aload_n hx hb dX9_act_20 rfl (lv_at hl 2 rfl) ?_
  refine lv_iload hx hb dX9_act_21 (lv_at hl 1 rfl) ?_
  refine rz_iald F hK hP 0 0 rfl rfl (by omega) (by omega) dX9_act_23 ?_
  by_cases h_in : 0 ≤ (g_p ((((20 * x) + 2) + (3 * w))).toNat) ∧ (g_p ((((20 * x) + 2) + (3 * w))).toNat) ≤ 2
  · rcases (show (g_p ((((20 * x) + 2) + (3 * w))).toNat) = 0 ∨ (g_p ((((20 * x) + 2) + (3 * w))).toNat) = 1 ∨ (g_p ((((20 * x) + 2) + (3 * w))).toNat) = 2 by omega) with h_e | h_e | h_e
    · refine lv_tableIn (off := 28) (tgt := 52) hx hb dX9_act_24 (by rw [h_e]; decide) (by rw [h_e]; decide) (by rw [h_e]; decide) (by decide) ?_
      refine lv_aload_n hx hb dX9_act_52 rfl (lv_at hl 3 rfl) ?_
      refine lv_iload hx hb dX9_act_53 (lv_at hl 0 rfl) ?_
      refine lv_bipush (v := zI 99) hx hb dX9_act_55 (by decide) ?_
      refine lv_aload_n hx hb dX9_act_57 rfl (lv_at hl 3 rfl) ?_
      refine lv_iload hx hb dX9_act_58 (lv_at hl 0 rfl) ?_
      refine rz_iald F hK hP 1 0 rfl rfl (by omega) (by omega) dX9_act_60 ?_
      have hc1 := hs.1 ((g_p (((((20 * x) + 2) + (3 * w)) + 1)).toNat)).toNat (by omega)
      refine lv_iconst (v := zI 1) hx hb dX9_act_61 rfl ?_
      refine r_iadd (v := zI ((g_s ((g_p (((((20 * x) + 2) + (3 * w)) + 1)).toNat)).toNat) + 1)) F dX9_act_62 (zI_add _ _) ?_
      refine r_callSi (As := [.int (zI 99), .int (zI ((g_s ((g_p (((((20 * x) + 2) + (3 * w)) + 1)).toNat)).toNat) + 1))]) (rest := [.int (zI (g_p (((((20 * x) + 2) + (3 * w)) + 1)).toNat)), .ref d]) (wr := [(a, .inl (cI, 200, .inl (fun k => zI (g_p k)))), (d, .inl (cI, 159, .inl (fun k => zI (g_s k))))]) F hK hP hD hS hA hO hE (c_X9_less hO 99 ((g_s ((g_p (((((20 * x) + 2) + (3 * w)) + 1)).toNat)).toNat) + 1) (by omega) (by omega)) k_1460 ks_X9_less 2 rfl (by decide +kernel) ⟨Nat.le_of_ble_eq_true rfl, Nat.le_of_ble_eq_true rfl⟩ [] [0, 1] rfl rfl (by decide) (by decide) (by decide) hl.1 rfl (Nat.le_of_ble_eq_true rfl) dX9_act_63 ⟨Nat.le_of_ble_eq_true rfl, Nat.le_of_ble_eq_true rfl⟩ (w1 := fun u2 => [(a, .inl (cI, 200, .inl (fun k => zI (g_p k)))), (d, .inl (cI, 159, .inl (fun k => zI (g_s k))))]) (fun _ => rfl) (fun r3 u2 H locs hp4 hP hD hS => ?_)
      obtain ⟨z5, rfl, h_z5⟩ := hp4
      refine rz_iastG F hK hP hD hS 1 0 rfl rfl (by omega) (by omega) dX9_act_66 (w1 := fun g6 => [(a, .inl (cI, 200, .inl (fun k => zI (g_p k)))), (d, .inl (cI, 159, .inl (fun k => zI (g6 k))))]) (fun _ => rfl) (fun g6 e_g6 H locs hP hD hS => ?_)
      obtain ⟨hsi7, hr_hsi7⟩ := SI.cnt hs e_g6 (by omega) (by omega)
      have ht8 : g6 4 = g_s 4 := uZ_off e_g6 (by omega)
      have ht9 : g6 5 = g_s 5 := uZ_off e_g6 (by omega)
      have ht10 : g6 6 = g_s 6 := uZ_off e_g6 (by omega)
      refine lv_goto (tgt := 155) hx hb dX9_act_67 (by decide) ?_
      exact ret (fun k => [((fun _ => 0), fun _ _ => 0), (fun _ => 0, fun _ => g6)].getD k (fun _ => 0, fun _ _ => 0)) _ _ _ _ _ _ (show SI g_p g6 ∧ rM g6 ≤ rM g_s ∧ g6 4 = g_s 4 ∧ g6 5 = g_s 5 ∧ g6 6 = g_s 6 from ⟨hsi7, by omega, by omega, by omega, by omega⟩) (bw_subP (isC := [0, 1]) hP rfl) (hD.sub [0, 1] (by decide) rfl) hS (Nat.le_of_ble_eq_true rfl) (Nat.le_of_ble_eq_true rfl) dX9_act_155
    · refine lv_tableIn (off := 46) (tgt := 70) hx hb dX9_act_24 (by rw [h_e]; decide) (by rw [h_e]; decide) (by rw [h_e]; decide) (by decide) ?_
      refine lv_aload_n hx hb dX9_act_70 rfl (lv_at hl 3 rfl) ?_
      refine lv_iload hx hb dX9_act_71 (lv_at hl 0 rfl) ?_
      refine lv_aload_n hx hb dX9_act_73 rfl (lv_at hl 3 rfl) ?_
      refine lv_iload hx hb dX9_act_74 (lv_at hl 0 rfl) ?_
      refine rz_iald F hK hP 1 0 rfl rfl (by omega) (by omega) dX9_act_76 ?_
      have hc11 := hs.1 ((g_p (((((20 * x) + 2) + (3 * w)) + 1)).toNat)).toNat (by omega)
      refine rz_if_le (tgt := 89) F (by omega) dX9_act_77 (by decide) (fun h77_11 => ?_) (fun h77_11 => ?_)
      · refine lv_iconst (v := zI 0) hx hb dX9_act_89 rfl ?_
        refine rz_iastG F hK hP hD hS 1 0 rfl rfl (by omega) (by omega) dX9_act_90 (w1 := fun g13 => [(a, .inl (cI, 200, .inl (fun k => zI (g_p k)))), (d, .inl (cI, 159, .inl (fun k => zI (g13 k))))]) (fun _ => rfl) (fun g13 e_g13 H locs hP hD hS => ?_)
        obtain ⟨hsi14, hr_hsi14⟩ := SI.cnt hs e_g13 (by omega) (by omega)
        have ht15 : g13 4 = g_s 4 := uZ_off e_g13 (by omega)
        have ht16 : g13 5 = g_s 5 := uZ_off e_g13 (by omega)
        have ht17 : g13 6 = g_s 6 := uZ_off e_g13 (by omega)
        refine lv_goto (tgt := 155) hx hb dX9_act_91 (by decide) ?_
        exact ret (fun k => [((fun _ => 0), fun _ _ => 0), (fun _ => 0, fun _ => g13)].getD k (fun _ => 0, fun _ _ => 0)) _ _ _ _ _ _ (show SI g_p g13 ∧ rM g13 ≤ rM g_s ∧ g13 4 = g_s 4 ∧ g13 5 = g_s 5 ∧ g13 6 = g_s 6 from ⟨hsi14, by omega, by omega, by omega, by omega⟩) (bw_subP (isC := [0, 1]) hP rfl) (hD.sub [0, 1] (by decide) rfl) hS (Nat.le_of_ble_eq_true rfl) (Nat.le_of_ble_eq_true rfl) dX9_act_155
      · refine lv_aload_n hx hb dX9_act_80 rfl (lv_at hl 3 rfl) ?_
        refine lv_iload hx hb dX9_act_81 (lv_at hl 0 rfl) ?_
        refine rz_iald F hK hP 1 0 rfl rfl (by omega) (by omega) dX9_act_83 ?_
        have hc18 := hs.1 ((g_p (((((20 * x) + 2) + (3 * w)) + 1)).toNat)).toNat (by omega)
        refine lv_iconst (v := zI 1) hx hb dX9_act_84 rfl ?_
        refine r_isub (v := zI ((g_s ((g_p (((((20 * x) + 2) + (3 * w)) + 1)).toNat)).toNat) - 1)) F dX9_act_85 (zI_sub _ _) ?_
        refine lv_goto (tgt := 90) hx hb dX9_act_86 (by decide) ?_
        refine rz_iastG F hK hP hD hS 1 0 rfl rfl (by omega) (by omega) dX9_act_90 (w1 := fun g19 => [(a, .inl (cI, 200, .inl (fun k => zI (g_p k)))), (d, .inl (cI, 159, .inl (fun k => zI (g19 k))))]) (fun _ => rfl) (fun g19 e_g19 H locs hP hD hS => ?_)
        obtain ⟨hsi20, hr_hsi20⟩ := SI.cnt hs e_g19 (by omega) (by omega)
        have ht21 : g19 4 = g_s 4 := uZ_off e_g19 (by omega)
        have ht22 : g19 5 = g_s 5 := uZ_off e_g19 (by omega)
        have ht23 : g19 6 = g_s 6 := uZ_off e_g19 (by omega)
        refine lv_goto (tgt := 155) hx hb dX9_act_91 (by decide) ?_
        exact ret (fun k => [((fun _ => 0), fun _ _ => 0), (fun _ => 0, fun _ => g19)].getD k (fun _ => 0, fun _ _ => 0)) _ _ _ _ _ _ (show SI g_p g19 ∧ rM g19 ≤ rM g_s ∧ g19 4 = g_s 4 ∧ g19 5 = g_s 5 ∧ g19 6 = g_s 6 from ⟨hsi20, by omega, by omega, by omega, by omega⟩) (bw_subP (isC := [0, 1]) hP rfl) (hD.sub [0, 1] (by decide) rfl) hS (Nat.le_of_ble_eq_true rfl) (Nat.le_of_ble_eq_true rfl) dX9_act_155
    · refine lv_tableIn (off := 70) (tgt := 94) hx hb dX9_act_24 (by rw [h_e]; decide) (by rw [h_e]; decide) (by rw [h_e]; decide) (by decide) ?_
      refine lv_aload_n hx hb dX9_act_94 rfl (lv_at hl 3 rfl) ?_
      refine lv_iload hx hb dX9_act_95 (lv_at hl 0 rfl) ?_
      refine lv_aload_n hx hb dX9_act_97 rfl (lv_at hl 2 rfl) ?_
      refine lv_iload hx hb dX9_act_98 (lv_at hl 1 rfl) ?_
      refine lv_iconst (v := zI 2) hx hb dX9_act_100 rfl ?_
      refine r_iadd (v := zI ((((20 * x) + 2) + (3 * w)) + 2)) F dX9_act_101 (zI_add _ _) ?_
      refine rz_iald F hK hP 0 0 rfl rfl (by omega) (by omega) dX9_act_102 ?_
      refine rz_iastG F hK hP hD hS 1 0 rfl rfl (by omega) (by omega) dX9_act_103 (w1 := fun g24 => [(a, .inl (cI, 200, .inl (fun k => zI (g_p k)))), (d, .inl (cI, 159, .inl (fun k => zI (g24 k))))]) (fun _ => rfl) (fun g24 e_g24 H locs hP hD hS => ?_)
      obtain ⟨hsi25, hr_hsi25⟩ := SI.cnt hs e_g24 (by omega) (by omega)
      have ht26 : g24 4 = g_s 4 := uZ_off e_g24 (by omega)
      have ht27 : g24 5 = g_s 5 := uZ_off e_g24 (by omega)
      have ht28 : g24 6 = g_s 6 := uZ_off e_g24 (by omega)
      refine lv_goto (tgt := 155) hx hb dX9_act_104 (by decide) ?_
      exact ret (fun k => [((fun _ => 0), fun _ _ => 0), (fun _ => 0, fun _ => g24)].getD k (fun _ => 0, fun _ _ => 0)) _ _ _ _ _ _ (show SI g_p g24 ∧ rM g24 ≤ rM g_s ∧ g24 4 = g_s 4 ∧ g24 5 = g_s 5 ∧ g24 6 = g_s 6 from ⟨hsi25, by omega, by omega, by omega, by omega⟩) (bw_subP (isC := [0, 1]) hP rfl) (hD.sub [0, 1] (by decide) rfl) hS (Nat.le_of_ble_eq_true rfl) (Nat.le_of_ble_eq_true rfl) dX9_act_155
  · refine lv_tableOut (tgt := 107) hx hb dX9_act_24 (by rw [zI_toInt (by omega)]; omega) (by decide) ?_
    refine lv_aload_n hx hb dX9_act_107 rfl (lv_at hl 3 rfl) ?_
    refine lv_bipush (v := zI 28) hx hb dX9_act_108 (by decide) ?_
    refine lv_iload_n hx hb dX9_act_110 rfl (lv_at hl 4 rfl) ?_
    refine r_iadd (v := zI (28 + x)) F dX9_act_111 (zI_add _ _) ?_
    refine rz_iald F hK hP 1 0 rfl rfl (by omega) (by omega) dX9_act_112 ?_
    have hc29 := SI.gave hs (i := x) (k := ((28 + x)).toNat) (by omega) (by omega)
    refine lv_iload_n hx hb dX9_act_113 rfl (lv_at hl 5 rfl) ?_
    refine r_callSi (As := [.int (zI (g_s ((28 + x)).toNat)), .int (zI w)]) (rest := []) (wr := [(a, .inl (cI, 200, .inl (fun k => zI (g_p k)))), (d, .inl (cI, 159, .inl (fun k => zI (g_s k))))]) F hK hP hD hS hA hO hE (c_X9_has hO (g_s ((28 + x)).toNat) w (by omega) (by omega)) k_1463 ks_X9_has 2 rfl (by decide +kernel) ⟨Nat.le_of_ble_eq_true rfl, Nat.le_of_ble_eq_true rfl⟩ [] [0, 1] rfl rfl (by decide) (by decide) (by decide) hl.1 rfl (Nat.le_of_ble_eq_true rfl) dX9_act_114 ⟨Nat.le_of_ble_eq_true rfl, Nat.le_of_ble_eq_true rfl⟩ (w1 := fun u30 => [(a, .inl (cI, 200, .inl (fun k => zI (g_p k)))), (d, .inl (cI, 159, .inl (fun k => zI (g_s k))))]) (fun _ => rfl) (fun r31 u30 H locs hp32 hP hD hS => ?_)
    obtain ⟨z33, rfl, h_z33⟩ := hp32
    refine rz_ifb_eq (tgt := 121) F (by omega) dX9_act_117 (by decide) (fun h117_33 => ?_) (fun h117_33 => ?_)
    · refine lv_aload_n hx hb dX9_act_121 rfl (lv_at hl 3 rfl) ?_
      refine lv_bipush (v := zI 28) hx hb dX9_act_122 (by decide) ?_
      refine lv_iload_n hx hb dX9_act_124 rfl (lv_at hl 4 rfl) ?_
      refine r_iadd (v := zI (28 + x)) F dX9_act_125 (zI_add _ _) ?_
      refine lv_dup2_11 hx hb dX9_act_126 rfl rfl ?_
      refine rz_iald F hK hP 1 0 rfl rfl (by omega) (by omega) dX9_act_127 ?_
      have hc35 := SI.gave hs (i := x) (k := ((28 + x)).toNat) (by omega) (by omega)
      refine lv_iconst (v := zI 1) hx hb dX9_act_128 rfl ?_
      refine lv_iload_n hx hb dX9_act_129 rfl (lv_at hl 5 rfl) ?_
      refine lv_ishl hx hb dX9_act_130 ?_
      refine lv_ior hx hb dX9_act_131 ?_
      have hgv := gave_step (x := (g_s ((28 + x)).toNat)) (n := w) (by omega) (by omega) (h_z33.2 (by omega))
      refine rz_eq hgv.1 ?_
      refine rz_iastG F hK hP hD hS 1 0 rfl rfl (by omega) (by omega) dX9_act_132 (w1 := fun g38 => [(a, .inl (cI, 200, .inl (fun k => zI (g_p k)))), (d, .inl (cI, 159, .inl (fun k => zI (g38 k))))]) (fun _ => rfl) (fun g38 e_g38 H locs hP hD hS => ?_)
      obtain ⟨hsi39, hr_hsi39⟩ := SI.gv hs e_g38 (i := (x).toNat) (by omega) (by omega) (by omega)
      have ht40 : g38 4 = g_s 4 := uZ_off e_g38 (by omega)
      have ht41 : g38 5 = g_s 5 := uZ_off e_g38 (by omega)
      have ht42 : g38 6 = g_s 6 := uZ_off e_g38 (by omega)
      refine lv_aload_n hx hb dX9_act_133 rfl (lv_at hl 3 rfl) ?_
      refine lv_bipush (v := zI 8) hx hb dX9_act_134 (by decide) ?_
      refine lv_iconst (v := zI 2) hx hb dX9_act_136 rfl ?_
      refine lv_iload hx hb dX9_act_137 (lv_at hl 0 rfl) ?_
      refine r_imul (v := zI (2 * (g_p (((((20 * x) + 2) + (3 * w)) + 1)).toNat))) F dX9_act_139 (zI_mul _ _) ?_
      refine r_iadd (v := zI (8 + (2 * (g_p (((((20 * x) + 2) + (3 * w)) + 1)).toNat)))) F dX9_act_140 (zI_add _ _) ?_
      refine lv_iconst (v := zI 0) hx hb dX9_act_141 rfl ?_
      refine rz_iastG F hK hP hD hS 1 0 rfl rfl (by omega) (by omega) dX9_act_142 (w1 := fun g43 => [(a, .inl (cI, 200, .inl (fun k => zI (g_p k)))), (d, .inl (cI, 159, .inl (fun k => zI (g43 k))))]) (fun _ => rfl) (fun g43 e_g43 H locs hP hD hS => ?_)
      have hc44 := SI.take hsi39 (i := (g_p ((((20 * x) + 2) + (3 * w)) + 1).toNat)) (k := ((8 + (2 * (g_p (((((20 * x) + 2) + (3 * w)) + 1)).toNat)))).toNat) (l := (20 * (g_p ((((20 * x) + 2) + (3 * w)) + 1).toNat) + 17).toNat) (by omega) (by omega) (by omega)
      have hc45 := hp.1 (20 * (g_p ((((20 * x) + 2) + (3 * w)) + 1).toNat) + 17).toNat (by omega)
      have hc46 := hp.1.le9 (20 * (g_p ((((20 * x) + 2) + (3 * w)) + 1).toNat) + 17).toNat (by omega)
      obtain ⟨hsi47, hr_hsi47⟩ := SI.tk0 hsi39 e_g43 (l := (20 * (g_p ((((20 * x) + 2) + (3 * w)) + 1).toNat) + 17).toNat) (i := ((g_p ((((20 * x) + 2) + (3 * w)) + 1).toNat)).toNat) (by omega) (by omega) (by omega) (by omega)
      have ht48 : g43 4 = g38 4 := uZ_off e_g43 (by omega)
      have ht49 : g43 5 = g38 5 := uZ_off e_g43 (by omega)
      have ht50 : g43 6 = g38 6 := uZ_off e_g43 (by omega)
      refine lv_aload_n hx hb dX9_act_143 rfl (lv_at hl 3 rfl) ?_
      refine lv_bipush (v := zI 8) hx hb dX9_act_144 (by decide) ?_
      refine lv_iconst (v := zI 2) hx hb dX9_act_146 rfl ?_
      refine lv_iload hx hb dX9_act_147 (lv_at hl 0 rfl) ?_
      refine r_imul (v := zI (2 * (g_p (((((20 * x) + 2) + (3 * w)) + 1)).toNat))) F dX9_act_149 (zI_mul _ _) ?_
      refine r_iadd (v := zI (8 + (2 * (g_p (((((20 * x) + 2) + (3 * w)) + 1)).toNat)))) F dX9_act_150 (zI_add _ _) ?_
      refine lv_iconst (v := zI 1) hx hb dX9_act_151 rfl ?_
      refine r_iadd (v := zI ((8 + (2 * (g_p (((((20 * x) + 2) + (3 * w)) + 1)).toNat))) + 1)) F dX9_act_152 (zI_add _ _) ?_
      refine lv_iconst (v := zI 0) hx hb dX9_act_153 rfl ?_
      refine rz_iastG F hK hP hD hS 1 0 rfl rfl (by omega) (by omega) dX9_act_154 (w1 := fun g51 => [(a, .inl (cI, 200, .inl (fun k => zI (g_p k)))), (d, .inl (cI, 159, .inl (fun k => zI (g51 k))))]) (fun _ => rfl) (fun g51 e_g51 H locs hP hD hS => ?_)
      have hc52 := SI.take1 hsi47 (i := (g_p ((((20 * x) + 2) + (3 * w)) + 1).toNat)) (k := (((8 + (2 * (g_p (((((20 * x) + 2) + (3 * w)) + 1)).toNat))) + 1)).toNat) (l := (20 * (g_p ((((20 * x) + 2) + (3 * w)) + 1).toNat) + 19).toNat) (by omega) (by omega) (by omega)
      have hc53 := hp.1 (20 * (g_p ((((20 * x) + 2) + (3 * w)) + 1).toNat) + 19).toNat (by omega)
      have hc54 := hp.1.le9 (20 * (g_p ((((20 * x) + 2) + (3 * w)) + 1).toNat) + 19).toNat (by omega)
      obtain ⟨hsi55, hr_hsi55⟩ := SI.tk1 hsi47 e_g51 (l := (20 * (g_p ((((20 * x) + 2) + (3 * w)) + 1).toNat) + 19).toNat) (i := ((g_p ((((20 * x) + 2) + (3 * w)) + 1).toNat)).toNat) (by omega) (by omega) (by omega) (by omega)
      have ht56 : g51 4 = g43 4 := uZ_off e_g51 (by omega)
      have ht57 : g51 5 = g43 5 := uZ_off e_g51 (by omega)
      have ht58 : g51 6 = g43 6 := uZ_off e_g51 (by omega)
      exact ret (fun k => [((fun _ => 0), fun _ _ => 0), (fun _ => 0, fun _ => g51)].getD k (fun _ => 0, fun _ _ => 0)) _ _ _ _ _ _ (show SI g_p g51 ∧ rM g51 ≤ rM g_s ∧ g51 4 = g_s 4 ∧ g51 5 = g_s 5 ∧ g51 6 = g_s 6 from ⟨hsi55, by omega, by omega, by omega, by omega⟩) (bw_subP (isC := [0, 1]) hP rfl) (hD.sub [0, 1] (by decide) rfl) hS (Nat.le_of_ble_eq_true rfl) (Nat.le_of_ble_eq_true rfl) dX9_act_155
    · exact ret (fun k => [((fun _ => 0), fun _ _ => 0), (fun _ => 0, fun _ => g_s)].getD k (fun _ => 0, fun _ _ => 0)) _ _ _ _ _ _ (show SI g_p g_s ∧ rM g_s ≤ rM g_s ∧ g_s 4 = g_s 4 ∧ g_s 5 = g_s 5 ∧ g_s 6 = g_s 6 from ⟨hs, by omega, by omega, by omega, by omega⟩) (bw_subP (isC := [0, 1]) hP rfl) (hD.sub [0, 1] (by decide) rfl) hS (Nat.le_of_ble_eq_true rfl) (Nat.le_of_ble_eq_true rfl) dX9_act_120
