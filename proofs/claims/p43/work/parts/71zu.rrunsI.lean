abbrev rm_X9_beginsX : Room := { frames := 1, cells := 0, slots := 0, locals := 21 }
set_option maxRecDepth 100000 in
set_option maxHeartbeats 8000000 in
theorem c_X9_beginsX {l : Launch} {E : (Nat → Prop) → State → Prop} (hO : bw_Ok E) {G : va_G} {cI cB cJ cN cW : ClassId} (a : Nat) (g_p : Nat → Int) (d : Nat) (g_s : Nat → Int) (x0 : Int) (x1 : Int) (x2 : Int) (x3 : Int) (hx09 : zR x0) (hx19 : zR x1) (hx29 : zR x2) (hx39 : zR x3) (hp : ProgOk g_p) (h09 : 0 ≤ x0 ∧ x0 ≤ 99) (h19 : 0 ≤ x1 ∧ x1 ≤ 99) (h29 : 0 ≤ x2 ∧ x2 ≤ 99) (h39 : 0 ≤ x3 ∧ x3 ≤ 99) : bw_Cv (S := zV) l yX9_begins (bw_ws (Cond.code yX9_begins cX9_begins 7 none)) rm_X9_beginsX E G (bw_kt cI cB cJ cN cW) [.ref a, .ref d, .int (zI x0), .int (zI x1), .int (zI x2), .int (zI x3)] [(a, .inl (cI, 200, .inl (fun k => zI (g_p k)))), (d, .inl (cI, 159, .inl (fun k => zI (g_s k))))] (fun u => (StOk g_p ((u 1).2 0) ∧ E9 (begF g_p x0 x1 x2 x3) ((u 1).2 0))) (fun u => [(a, .inl (cI, 200, .inl (fun k => zI (g_p k)))), (d, .inl (cI, 159, .inl (fun k => zI (((u 1).2 0) k))))]) := by
  refine bw_Cv.of (cc := cX9_begins) (maxL := 7) (by decide) rfl (Nat.le_of_ble_eq_true rfl) ?_
  intro p e s m below meth c A Q hx hb hml hts hown hin hK hA hS hP hD hE ret ls hl
  have F : CallFix p m c cX9_begins 7 s ([.ref a, .ref d, .int (zI x0), .int (zI x1), .int (zI x2), .int (zI x3)] : List Value).toArray bw_T RX9 := ⟨hx, hb, hml, hown, fun w h => hts w (List.mem_cons_of_mem _ h)⟩
  replace hl : lv_has ls 7 [(0, .ref a), (1, .ref d), (2, .int (zI x0)), (3, .int (zI x1)), (4, .int (zI x2)), (5, .int (zI x3))] := hl
  refine lv_iconst (v := zI 0) hx hb dX9_begins_0 rfl ?_
  refine lv_istore (lv' := [(6, .int (zI 0)), (0, .ref a), (1, .ref d), (2, .int (zI x0)), (3, .int (zI x1)), (4, .int (zI x2)), (5, .int (zI x3))]) hx hb dX9_begins_1 hl (by decide) rfl (fun ls hl => ?_)
  refine W.widen (k := 0) (n := 0) (Nat.le_of_ble_eq_true rfl) (Nat.le_of_ble_eq_true rfl) ?_
  refine (?_ : ∀ (n9_1 : Nat) (v6 : Int) (gs9 : Nat → Int) (H : Heap) (locs : List Loc), (0 ≤ v6 ∧ v6 ≤ 159) → (159 - v6 : Int).toNat < n9_1 → (∀ k : Nat, (k : Int) < v6 → gs9 k = 0) → va_P G vwCl [(a, .inl (cI, 200, .inl (fun k => zI (g_p k)))), (d, .inl (cI, 159, .inl (fun k => zI (gs9 k))))] H → va_D A [(a, .inl (cI, 200, .inl (fun k => zI (g_p k)))), (d, .inl (cI, 159, .inl (fun k => zI (gs9 k))))] → va_S A s.heap H locs → ∀ ls : Array Slot, lv_has ls 7 [(6, .int (zI v6)), (0, .ref a), (1, .ref d), (2, .int (zI x0)), (3, .int (zI x1)), (4, .int (zI x2)), (5, .int (zI x3))] → W p l e rm_X9_beginsX s m ([.ref a, .ref d, .int (zI x0), .int (zI x1), .int (zI x2), .int (zI x3)] : List Value).toArray below meth c H locs 0 0 Q (F0 m 3 ls [])) ((159 - 0 : Int).toNat + 1) 0 g_s _ _ (by omega) (by omega) (fun k hk => absurd hk (by omega)) hP hD hS ls hl
  clear hP hD hS hl ls
  intro n9_1
  induction n9_1 with
  | zero =>
    intro v6 gs9 H locs hI hM
    exact absurd hM (by omega)
  | succ n9_1 ih1 =>
    intro v6 gs9 H locs hI1 hM1 hz hP hD hS ls hl
    refine lv_iload hx hb dX9_begins_3 (lv_at hl 0 rfl) ?_
    refine lv_sipush (v := zI 159) hx hb dX9_begins_5 (by decide) ?_
    refine rz_icmp_ge (tgt := 22) F (by omega) (by omega) dX9_begins_8 (by decide) (fun h8_0 => ?_) (fun h8_0 => ?_)
    · refine lv_aload_n hx hb dX9_begins_22 rfl (lv_at hl 2 rfl) ?_
      refine lv_iconst (v := zI 0) hx hb dX9_begins_23 rfl ?_
      refine lv_iload_n hx hb dX9_begins_24 rfl (lv_at hl 3 rfl) ?_
      refine rz_iastN F hK hP hD hS 1 0 rfl rfl (by omega) (by omega) dX9_begins_25 0 rfl (w1 := fun g2 => [(a, .inl (cI, 200, .inl (fun k => zI (g_p k)))), (d, .inl (cI, 159, .inl (fun k => zI (g2 k))))]) (fun _ => rfl) (fun g2 e_g2 H locs hP hD hS => ?_)
      refine lv_aload_n hx hb dX9_begins_26 rfl (lv_at hl 2 rfl) ?_
      refine lv_iconst (v := zI 1) hx hb dX9_begins_27 rfl ?_
      refine lv_iload_n hx hb dX9_begins_28 rfl (lv_at hl 4 rfl) ?_
      refine rz_iastN F hK hP hD hS 1 0 rfl rfl (by omega) (by omega) dX9_begins_29 1 rfl (w1 := fun g3 => [(a, .inl (cI, 200, .inl (fun k => zI (g_p k)))), (d, .inl (cI, 159, .inl (fun k => zI (g3 k))))]) (fun _ => rfl) (fun g3 e_g3 H locs hP hD hS => ?_)
      refine lv_aload_n hx hb dX9_begins_30 rfl (lv_at hl 2 rfl) ?_
      refine lv_iconst (v := zI 2) hx hb dX9_begins_31 rfl ?_
      refine lv_iload hx hb dX9_begins_32 (lv_at hl 5 rfl) ?_
      refine rz_iastN F hK hP hD hS 1 0 rfl rfl (by omega) (by omega) dX9_begins_34 2 rfl (w1 := fun g4 => [(a, .inl (cI, 200, .inl (fun k => zI (g_p k)))), (d, .inl (cI, 159, .inl (fun k => zI (g4 k))))]) (fun _ => rfl) (fun g4 e_g4 H locs hP hD hS => ?_)
      refine lv_aload_n hx hb dX9_begins_35 rfl (lv_at hl 2 rfl) ?_
      refine lv_iconst (v := zI 3) hx hb dX9_begins_36 rfl ?_
      refine lv_iload hx hb dX9_begins_37 (lv_at hl 6 rfl) ?_
      refine rz_iastN F hK hP hD hS 1 0 rfl rfl (by omega) (by omega) dX9_begins_39 3 rfl (w1 := fun g5 => [(a, .inl (cI, 200, .inl (fun k => zI (g_p k)))), (d, .inl (cI, 159, .inl (fun k => zI (g5 k))))]) (fun _ => rfl) (fun g5 e_g5 H locs hP hD hS => ?_)
      refine lv_aload_n hx hb dX9_begins_40 rfl (lv_at hl 2 rfl) ?_
      refine lv_bipush (v := zI 6) hx hb dX9_begins_41 (by decide) ?_
      refine lv_aload_n hx hb dX9_begins_43 rfl (lv_at hl 1 rfl) ?_
      refine lv_iconst (v := zI 0) hx hb dX9_begins_44 rfl ?_
      refine r_callSi (As := [.ref a, .int (zI 0)]) (rest := [.int (zI 6), .ref d]) (wr := [(d, .inl (cI, 159, .inl (fun k => zI (g5 k))))]) F hK hP hD hS hA hO hE (c_X9_isToldX hO a g_p 0 (by omega) hp (by omega)) k_1424 ks_X9_isTold 2 rfl (by decide +kernel) ⟨Nat.le_of_ble_eq_true rfl, Nat.le_of_ble_eq_true rfl⟩ [0] [1] rfl rfl (by decide) (by decide) (by decide) hl.1 rfl (Nat.le_of_ble_eq_true rfl) dX9_begins_45 ⟨Nat.le_of_ble_eq_true rfl, Nat.le_of_ble_eq_true rfl⟩ (w1 := fun u6 => [(d, .inl (cI, 159, .inl (fun k => zI (g5 k)))), (a, .inl (cI, 200, .inl (fun k => zI (g_p k))))]) (fun _ => rfl) (fun r7 u6 H locs hp8 hP hD hS => ?_)
      obtain ⟨z9, rfl, h_z9⟩ := hp8
      refine rz_ifb_eq (tgt := 55) F (by omega) dX9_begins_48 (by decide) (fun h48_9 => ?_) (fun h48_9 => ?_)
      · refine lv_iconst (v := zI 3) hx hb dX9_begins_55 rfl ?_
        refine rz_iastN F hK hP hD hS 0 0 rfl rfl (by omega) (by omega) dX9_begins_56 6 rfl (w1 := fun g11 => [(d, .inl (cI, 159, .inl (fun k => zI (g11 k)))), (a, .inl (cI, 200, .inl (fun k => zI (g_p k))))]) (fun _ => rfl) (fun g11 e_g11 H locs hP hD hS => ?_)
        exact ret (fun k => [((fun _ => 0), fun _ _ => 0), (fun _ => 0, fun _ => g11)].getD k (fun _ => 0, fun _ _ => 0)) _ _ _ _ _ _ ⟨(StOk.begun hp.1.pos (fun k hk => hz k (by omega)) e_g2 e_g3 e_g4 e_g5 e_g11 (by omega) (by omega) (by omega) (by omega) (by omega)), (E9.beg (fun k hk => hz k (by omega)) e_g2 e_g3 e_g4 e_g5 e_g11 ((if_neg (h_z9.2.2 (by omega))).symm))⟩ (bw_subP (isC := [1, 0]) hP rfl) (hD.sub [1, 0] (by decide) rfl) hS (Nat.le_of_ble_eq_true rfl) (Nat.le_of_ble_eq_true rfl) dX9_begins_57
      · refine lv_iconst (v := zI 0) hx hb dX9_begins_51 rfl ?_
        refine lv_goto (tgt := 56) hx hb dX9_begins_52 (by decide) ?_
        refine rz_iastN F hK hP hD hS 0 0 rfl rfl (by omega) (by omega) dX9_begins_56 6 rfl (w1 := fun g12 => [(d, .inl (cI, 159, .inl (fun k => zI (g12 k)))), (a, .inl (cI, 200, .inl (fun k => zI (g_p k))))]) (fun _ => rfl) (fun g12 e_g12 H locs hP hD hS => ?_)
        exact ret (fun k => [((fun _ => 0), fun _ _ => 0), (fun _ => 0, fun _ => g12)].getD k (fun _ => 0, fun _ _ => 0)) _ _ _ _ _ _ ⟨(StOk.begun hp.1.pos (fun k hk => hz k (by omega)) e_g2 e_g3 e_g4 e_g5 e_g12 (by omega) (by omega) (by omega) (by omega) (by omega)), (E9.beg (fun k hk => hz k (by omega)) e_g2 e_g3 e_g4 e_g5 e_g12 ((if_pos (h_z9.2.1 (by omega))).symm))⟩ (bw_subP (isC := [1, 0]) hP rfl) (hD.sub [1, 0] (by decide) rfl) hS (Nat.le_of_ble_eq_true rfl) (Nat.le_of_ble_eq_true rfl) dX9_begins_57
    · refine lv_aload_n hx hb dX9_begins_11 rfl (lv_at hl 2 rfl) ?_
      refine lv_iload hx hb dX9_begins_12 (lv_at hl 0 rfl) ?_
      refine lv_iconst (v := zI 0) hx hb dX9_begins_14 rfl ?_
      refine rz_iastG F hK hP hD hS 1 0 rfl rfl (by omega) (by omega) dX9_begins_15 (w1 := fun g13 => [(a, .inl (cI, 200, .inl (fun k => zI (g_p k)))), (d, .inl (cI, 159, .inl (fun k => zI (g13 k))))]) (fun _ => rfl) (fun g13 e_g13 H locs hP hD hS => ?_)
      refine lv_iinc (v := zI (v6 + 1)) (lv' := [(6, .int (zI (v6 + 1))), (0, .ref a), (1, .ref d), (2, .int (zI x0)), (3, .int (zI x1)), (4, .int (zI x2)), (5, .int (zI x3))]) hx hb dX9_begins_16 hl (k := 0) rfl (zI_add _ _) (by decide) rfl (fun ls hl => ?_)
      refine lv_goto (tgt := 3) hx hb dX9_begins_19 (by decide) ?_
      exact ih1 (v6 + 1) g13 _ _ (by omega) (by omega) (uZ_fill (by omega) e_g13 hz) hP hD hS ls (lv_sub hl [0, 1, 2, 3, 4, 5, 6] rfl)
abbrev rm_X9_beginsByX : Room := { frames := 2, cells := 0, slots := 0, locals := 47 }
set_option maxRecDepth 100000 in
set_option maxHeartbeats 8000000 in
theorem c_X9_beginsByX {l : Launch} {E : (Nat → Prop) → State → Prop} (hO : bw_Ok E) {G : va_G} {cI cB cJ cN cW : ClassId} (a : Nat) (g_p : Nat → Int) (d : Nat) (g_s : Nat → Int) (x : Int) (w : Int) (hx9 : zR x) (hw9 : zR w) (hp : ProgOk g_p) (hw8 : 0 ≤ w ∧ w ≤ 3) (hx8 : 0 ≤ x ∧ x < inZ w) : bw_Cv (S := zV) l yX9_beginsBy (bw_ws (Cond.code yX9_beginsBy cX9_beginsBy 5 none)) rm_X9_beginsByX E G (bw_kt cI cB cJ cN cW) [.ref a, .ref d, .int (zI x), .int (zI w)] [(a, .inl (cI, 200, .inl (fun k => zI (g_p k)))), (d, .inl (cI, 159, .inl (fun k => zI (g_s k))))] (fun u => (StOk g_p ((u 1).2 0) ∧ E9 (begI g_p w x) ((u 1).2 0))) (fun u => [(a, .inl (cI, 200, .inl (fun k => zI (g_p k)))), (d, .inl (cI, 159, .inl (fun k => zI (((u 1).2 0) k))))]) := by
  refine bw_Cv.of (cc := cX9_beginsBy) (maxL := 5) (by decide) rfl (Nat.le_of_ble_eq_true rfl) ?_
  intro p e s m below meth c A Q hx hb hml hts hown hin hK hA hS hP hD hE ret ls hl
  have F : CallFix p m c cX9_beginsBy 5 s ([.ref a, .ref d, .int (zI x), .int (zI w)] : List Value).toArray bw_T RX9 := ⟨hx, hb, hml, hown, fun w h => hts w (List.mem_cons_of_mem _ h)⟩
  replace hl : lv_has ls 5 [(0, .ref a), (1, .ref d), (2, .int (zI x)), (3, .int (zI w))] := hl
  have hx7 : 0 ≤ x ∧ x < (w + 1) * (w + 1) * (w + 1) * (w + 1) := hx8
  rcases (show w = 0 ∨ w = 1 ∨ w = 2 ∨ w = 3 by omega) with rfl | rfl | rfl | rfl
  · refine lv_iload_n hx hb dX9_beginsBy_0 rfl (lv_at hl 3 rfl) ?_
    refine lv_iconst (v := zI 1) hx hb dX9_beginsBy_1 rfl ?_
    refine r_iadd (v := zI 1) F dX9_beginsBy_2 (by decide) ?_
    refine lv_istore (lv' := [(4, .int (zI 1)), (0, .ref a), (1, .ref d), (2, .int (zI x)), (3, .int (zI 0))]) hx hb dX9_beginsBy_3 hl (by decide) rfl (fun ls hl => ?_)
    refine lv_aload_n hx hb dX9_beginsBy_5 rfl (lv_at hl 1 rfl) ?_
    refine lv_aload_n hx hb dX9_beginsBy_6 rfl (lv_at hl 2 rfl) ?_
    refine lv_iload_n hx hb dX9_beginsBy_7 rfl (lv_at hl 3 rfl) ?_
    refine lv_iload hx hb dX9_beginsBy_8 (lv_at hl 0 rfl) ?_
    refine lv_iload hx hb dX9_beginsBy_10 (lv_at hl 0 rfl) ?_
    refine r_imul (v := zI 1) F dX9_beginsBy_12 (by decide) ?_
    refine lv_iload hx hb dX9_beginsBy_13 (lv_at hl 0 rfl) ?_
    refine r_imul (v := zI 1) F dX9_beginsBy_15 (by decide) ?_
    refine rz_idiv F (by omega) (by omega) dX9_beginsBy_16 (fun z2 h_z2 => ?_)
    obtain ⟨rfl, hd3⟩ := h_z2
    refine lv_iload_n hx hb dX9_beginsBy_17 rfl (lv_at hl 3 rfl) ?_
    refine lv_iload hx hb dX9_beginsBy_18 (lv_at hl 0 rfl) ?_
    refine lv_iload hx hb dX9_beginsBy_20 (lv_at hl 0 rfl) ?_
    refine r_imul (v := zI 1) F dX9_beginsBy_22 (by decide) ?_
    refine rz_idiv F (by omega) (by omega) dX9_beginsBy_23 (fun z5 h_z5 => ?_)
    obtain ⟨rfl, hd6⟩ := h_z5
    refine lv_iload hx hb dX9_beginsBy_24 (lv_at hl 0 rfl) ?_
    refine rz_irem F (by omega) (by omega) dX9_beginsBy_26 (fun z8 h_z8 => ?_)
    obtain ⟨rfl, hd9⟩ := h_z8
    refine lv_iload_n hx hb dX9_beginsBy_27 rfl (lv_at hl 3 rfl) ?_
    refine lv_iload hx hb dX9_beginsBy_28 (lv_at hl 0 rfl) ?_
    refine rz_idiv F (by omega) (by omega) dX9_beginsBy_30 (fun z11 h_z11 => ?_)
    obtain ⟨rfl, hd12⟩ := h_z11
    refine lv_iload hx hb dX9_beginsBy_31 (lv_at hl 0 rfl) ?_
    refine rz_irem F (by omega) (by omega) dX9_beginsBy_33 (fun z14 h_z14 => ?_)
    obtain ⟨rfl, hd15⟩ := h_z14
    refine lv_iload_n hx hb dX9_beginsBy_34 rfl (lv_at hl 3 rfl) ?_
    refine lv_iload hx hb dX9_beginsBy_35 (lv_at hl 0 rfl) ?_
    refine rz_irem F (by omega) (by omega) dX9_beginsBy_37 (fun z17 h_z17 => ?_)
    obtain ⟨rfl, hd18⟩ := h_z17
    refine r_callZv (As := [.ref a, .ref d, .int (zI (x / 1)), .int (zI ((x / 1) % 1)), .int (zI ((x / 1) % 1)), .int (zI (x % 1))]) (rest := []) (wr := []) F hK hP hD hS hA hO hE (c_X9_beginsX hO a g_p d g_s (x / 1) ((x / 1) % 1) ((x / 1) % 1) (x % 1) (by omega) (by omega) (by omega) (by omega) hp (by omega) (by omega) (by omega) (by omega)) k_1421 ks_X9_begins 6 rfl (by decide +kernel) ⟨Nat.le_of_ble_eq_true rfl, Nat.le_of_ble_eq_true rfl⟩ [0, 1] [] rfl rfl (by decide) (by decide) (by decide) hl.1 rfl (Nat.le_of_ble_eq_true rfl) dX9_beginsBy_38 ⟨Nat.le_of_ble_eq_true rfl, Nat.le_of_ble_eq_true rfl⟩ (w1 := fun u19 => [(a, .inl (cI, 200, .inl (fun k => zI (g_p k)))), (d, .inl (cI, 159, .inl (fun k => zI (((u19 1).2 0) k))))]) (fun _ => rfl) (fun  u19 H locs hp20 hP hD hS => ?_)
    exact ret (fun k => [((fun _ => 0), fun _ _ => 0), (fun _ => 0, fun _ => ((u19 1).2 0))].getD k (fun _ => 0, fun _ _ => 0)) _ _ _ _ _ _ ⟨hp20.1, (by rw [begI_0]; exact hp20.2)⟩ (bw_subP (isC := [0, 1]) hP rfl) (hD.sub [0, 1] (by decide) rfl) hS (Nat.le_of_ble_eq_true rfl) (Nat.le_of_ble_eq_true rfl) dX9_beginsBy_41
  · refine lv_iload_n hx hb dX9_beginsBy_0 rfl (lv_at hl 3 rfl) ?_
    refine lv_iconst (v := zI 1) hx hb dX9_beginsBy_1 rfl ?_
    refine r_iadd (v := zI 2) F dX9_beginsBy_2 (by decide) ?_
    refine lv_istore (lv' := [(4, .int (zI 2)), (0, .ref a), (1, .ref d), (2, .int (zI x)), (3, .int (zI 1))]) hx hb dX9_beginsBy_3 hl (by decide) rfl (fun ls hl => ?_)
    refine lv_aload_n hx hb dX9_beginsBy_5 rfl (lv_at hl 1 rfl) ?_
    refine lv_aload_n hx hb dX9_beginsBy_6 rfl (lv_at hl 2 rfl) ?_
    refine lv_iload_n hx hb dX9_beginsBy_7 rfl (lv_at hl 3 rfl) ?_
    refine lv_iload hx hb dX9_beginsBy_8 (lv_at hl 0 rfl) ?_
    refine lv_iload hx hb dX9_beginsBy_10 (lv_at hl 0 rfl) ?_
    refine r_imul (v := zI 4) F dX9_beginsBy_12 (by decide) ?_
    refine lv_iload hx hb dX9_beginsBy_13 (lv_at hl 0 rfl) ?_
    refine r_imul (v := zI 8) F dX9_beginsBy_15 (by decide) ?_
    refine rz_idiv F (by omega) (by omega) dX9_beginsBy_16 (fun z22 h_z22 => ?_)
    obtain ⟨rfl, hd23⟩ := h_z22
    refine lv_iload_n hx hb dX9_beginsBy_17 rfl (lv_at hl 3 rfl) ?_
    refine lv_iload hx hb dX9_beginsBy_18 (lv_at hl 0 rfl) ?_
    refine lv_iload hx hb dX9_beginsBy_20 (lv_at hl 0 rfl) ?_
    refine r_imul (v := zI 4) F dX9_beginsBy_22 (by decide) ?_
    refine rz_idiv F (by omega) (by omega) dX9_beginsBy_23 (fun z25 h_z25 => ?_)
    obtain ⟨rfl, hd26⟩ := h_z25
    refine lv_iload hx hb dX9_beginsBy_24 (lv_at hl 0 rfl) ?_
    refine rz_irem F (by omega) (by omega) dX9_beginsBy_26 (fun z28 h_z28 => ?_)
    obtain ⟨rfl, hd29⟩ := h_z28
    refine lv_iload_n hx hb dX9_beginsBy_27 rfl (lv_at hl 3 rfl) ?_
    refine lv_iload hx hb dX9_beginsBy_28 (lv_at hl 0 rfl) ?_
    refine rz_idiv F (by omega) (by omega) dX9_beginsBy_30 (fun z31 h_z31 => ?_)
    obtain ⟨rfl, hd32⟩ := h_z31
    refine lv_iload hx hb dX9_beginsBy_31 (lv_at hl 0 rfl) ?_
    refine rz_irem F (by omega) (by omega) dX9_beginsBy_33 (fun z34 h_z34 => ?_)
    obtain ⟨rfl, hd35⟩ := h_z34
    refine lv_iload_n hx hb dX9_beginsBy_34 rfl (lv_at hl 3 rfl) ?_
    refine lv_iload hx hb dX9_beginsBy_35 (lv_at hl 0 rfl) ?_
    refine rz_irem F (by omega) (by omega) dX9_beginsBy_37 (fun z37 h_z37 => ?_)
    obtain ⟨rfl, hd38⟩ := h_z37
    refine r_callZv (As := [.ref a, .ref d, .int (zI (x / 8)), .int (zI ((x / 4) % 2)), .int (zI ((x / 2) % 2)), .int (zI (x % 2))]) (rest := []) (wr := []) F hK hP hD hS hA hO hE (c_X9_beginsX hO a g_p d g_s (x / 8) ((x / 4) % 2) ((x / 2) % 2) (x % 2) (by omega) (by omega) (by omega) (by omega) hp (by omega) (by omega) (by omega) (by omega)) k_1421 ks_X9_begins 6 rfl (by decide +kernel) ⟨Nat.le_of_ble_eq_true rfl, Nat.le_of_ble_eq_true rfl⟩ [0, 1] [] rfl rfl (by decide) (by decide) (by decide) hl.1 rfl (Nat.le_of_ble_eq_true rfl) dX9_beginsBy_38 ⟨Nat.le_of_ble_eq_true rfl, Nat.le_of_ble_eq_true rfl⟩ (w1 := fun u39 => [(a, .inl (cI, 200, .inl (fun k => zI (g_p k)))), (d, .inl (cI, 159, .inl (fun k => zI (((u39 1).2 0) k))))]) (fun _ => rfl) (fun  u39 H locs hp40 hP hD hS => ?_)
    exact ret (fun k => [((fun _ => 0), fun _ _ => 0), (fun _ => 0, fun _ => ((u39 1).2 0))].getD k (fun _ => 0, fun _ _ => 0)) _ _ _ _ _ _ ⟨hp40.1, (by rw [begI_1]; exact hp40.2)⟩ (bw_subP (isC := [0, 1]) hP rfl) (hD.sub [0, 1] (by decide) rfl) hS (Nat.le_of_ble_eq_true rfl) (Nat.le_of_ble_eq_true rfl) dX9_beginsBy_41
  · refine lv_iload_n hx hb dX9_beginsBy_0 rfl (lv_at hl 3 rfl) ?_
    refine lv_iconst (v := zI 1) hx hb dX9_beginsBy_1 rfl ?_
    refine r_iadd (v := zI 3) F dX9_beginsBy_2 (by decide) ?_
    refine lv_istore (lv' := [(4, .int (zI 3)), (0, .ref a), (1, .ref d), (2, .int (zI x)), (3, .int (zI 2))]) hx hb dX9_beginsBy_3 hl (by decide) rfl (fun ls hl => ?_)
    refine lv_aload_n hx hb dX9_beginsBy_5 rfl (lv_at hl 1 rfl) ?_
    refine lv_aload_n hx hb dX9_beginsBy_6 rfl (lv_at hl 2 rfl) ?_
    refine lv_iload_n hx hb dX9_beginsBy_7 rfl (lv_at hl 3 rfl) ?_
    refine lv_iload hx hb dX9_beginsBy_8 (lv_at hl 0 rfl) ?_
    refine lv_iload hx hb dX9_beginsBy_10 (lv_at hl 0 rfl) ?_
    refine r_imul (v := zI 9) F dX9_beginsBy_12 (by decide) ?_
    refine lv_iload hx hb dX9_beginsBy_13 (lv_at hl 0 rfl) ?_
    refine r_imul (v := zI 27) F dX9_beginsBy_15 (by decide) ?_
    refine rz_idiv F (by omega) (by omega) dX9_beginsBy_16 (fun z42 h_z42 => ?_)
    obtain ⟨rfl, hd43⟩ := h_z42
    refine lv_iload_n hx hb dX9_beginsBy_17 rfl (lv_at hl 3 rfl) ?_
    refine lv_iload hx hb dX9_beginsBy_18 (lv_at hl 0 rfl) ?_
    refine lv_iload hx hb dX9_beginsBy_20 (lv_at hl 0 rfl) ?_
    refine r_imul (v := zI 9) F dX9_beginsBy_22 (by decide) ?_
    refine rz_idiv F (by omega) (by omega) dX9_beginsBy_23 (fun z45 h_z45 => ?_)
    obtain ⟨rfl, hd46⟩ := h_z45
    refine lv_iload hx hb dX9_beginsBy_24 (lv_at hl 0 rfl) ?_
    refine rz_irem F (by omega) (by omega) dX9_beginsBy_26 (fun z48 h_z48 => ?_)
    obtain ⟨rfl, hd49⟩ := h_z48
    refine lv_iload_n hx hb dX9_beginsBy_27 rfl (lv_at hl 3 rfl) ?_
    refine lv_iload hx hb dX9_beginsBy_28 (lv_at hl 0 rfl) ?_
    refine rz_idiv F (by omega) (by omega) dX9_beginsBy_30 (fun z51 h_z51 => ?_)
    obtain ⟨rfl, hd52⟩ := h_z51
    refine lv_iload hx hb dX9_beginsBy_31 (lv_at hl 0 rfl) ?_
    refine rz_irem F (by omega) (by omega) dX9_beginsBy_33 (fun z54 h_z54 => ?_)
    obtain ⟨rfl, hd55⟩ := h_z54
    refine lv_iload_n hx hb dX9_beginsBy_34 rfl (lv_at hl 3 rfl) ?_
    refine lv_iload hx hb dX9_beginsBy_35 (lv_at hl 0 rfl) ?_
    refine rz_irem F (by omega) (by omega) dX9_beginsBy_37 (fun z57 h_z57 => ?_)
    obtain ⟨rfl, hd58⟩ := h_z57
    refine r_callZv (As := [.ref a, .ref d, .int (zI (x / 27)), .int (zI ((x / 9) % 3)), .int (zI ((x / 3) % 3)), .int (zI (x % 3))]) (rest := []) (wr := []) F hK hP hD hS hA hO hE (c_X9_beginsX hO a g_p d g_s (x / 27) ((x / 9) % 3) ((x / 3) % 3) (x % 3) (by omega) (by omega) (by omega) (by omega) hp (by omega) (by omega) (by omega) (by omega)) k_1421 ks_X9_begins 6 rfl (by decide +kernel) ⟨Nat.le_of_ble_eq_true rfl, Nat.le_of_ble_eq_true rfl⟩ [0, 1] [] rfl rfl (by decide) (by decide) (by decide) hl.1 rfl (Nat.le_of_ble_eq_true rfl) dX9_beginsBy_38 ⟨Nat.le_of_ble_eq_true rfl, Nat.le_of_ble_eq_true rfl⟩ (w1 := fun u59 => [(a, .inl (cI, 200, .inl (fun k => zI (g_p k)))), (d, .inl (cI, 159, .inl (fun k => zI (((u59 1).2 0) k))))]) (fun _ => rfl) (fun  u59 H locs hp60 hP hD hS => ?_)
    exact ret (fun k => [((fun _ => 0), fun _ _ => 0), (fun _ => 0, fun _ => ((u59 1).2 0))].getD k (fun _ => 0, fun _ _ => 0)) _ _ _ _ _ _ ⟨hp60.1, (by rw [begI_2]; exact hp60.2)⟩ (bw_subP (isC := [0, 1]) hP rfl) (hD.sub [0, 1] (by decide) rfl) hS (Nat.le_of_ble_eq_true rfl) (Nat.le_of_ble_eq_true rfl) dX9_beginsBy_41
  · refine lv_iload_n hx hb dX9_beginsBy_0 rfl (lv_at hl 3 rfl) ?_
    refine lv_iconst (v := zI 1) hx hb dX9_beginsBy_1 rfl ?_
    refine r_iadd (v := zI 4) F dX9_beginsBy_2 (by decide) ?_
    refine lv_istore (lv' := [(4, .int (zI 4)), (0, .ref a), (1, .ref d), (2, .int (zI x)), (3, .int (zI 3))]) hx hb dX9_beginsBy_3 hl (by decide) rfl (fun ls hl => ?_)
    refine lv_aload_n hx hb dX9_beginsBy_5 rfl (lv_at hl 1 rfl) ?_
    refine lv_aload_n hx hb dX9_beginsBy_6 rfl (lv_at hl 2 rfl) ?_
    refine lv_iload_n hx hb dX9_beginsBy_7 rfl (lv_at hl 3 rfl) ?_
    refine lv_iload hx hb dX9_beginsBy_8 (lv_at hl 0 rfl) ?_
    refine lv_iload hx hb dX9_beginsBy_10 (lv_at hl 0 rfl) ?_
    refine r_imul (v := zI 16) F dX9_beginsBy_12 (by decide) ?_
    refine lv_iload hx hb dX9_beginsBy_13 (lv_at hl 0 rfl) ?_
    refine r_imul (v := zI 64) F dX9_beginsBy_15 (by decide) ?_
    refine rz_idiv F (by omega) (by omega) dX9_beginsBy_16 (fun z62 h_z62 => ?_)
    obtain ⟨rfl, hd63⟩ := h_z62
    refine lv_iload_n hx hb dX9_beginsBy_17 rfl (lv_at hl 3 rfl) ?_
    refine lv_iload hx hb dX9_beginsBy_18 (lv_at hl 0 rfl) ?_
    refine lv_iload hx hb dX9_beginsBy_20 (lv_at hl 0 rfl) ?_
    refine r_imul (v := zI 16) F dX9_beginsBy_22 (by decide) ?_
    refine rz_idiv F (by omega) (by omega) dX9_beginsBy_23 (fun z65 h_z65 => ?_)
    obtain ⟨rfl, hd66⟩ := h_z65
    refine lv_iload hx hb dX9_beginsBy_24 (lv_at hl 0 rfl) ?_
    refine rz_irem F (by omega) (by omega) dX9_beginsBy_26 (fun z68 h_z68 => ?_)
    obtain ⟨rfl, hd69⟩ := h_z68
    refine lv_iload_n hx hb dX9_beginsBy_27 rfl (lv_at hl 3 rfl) ?_
    refine lv_iload hx hb dX9_beginsBy_28 (lv_at hl 0 rfl) ?_
    refine rz_idiv F (by omega) (by omega) dX9_beginsBy_30 (fun z71 h_z71 => ?_)
    obtain ⟨rfl, hd72⟩ := h_z71
    refine lv_iload hx hb dX9_beginsBy_31 (lv_at hl 0 rfl) ?_
    refine rz_irem F (by omega) (by omega) dX9_beginsBy_33 (fun z74 h_z74 => ?_)
    obtain ⟨rfl, hd75⟩ := h_z74
    refine lv_iload_n hx hb dX9_beginsBy_34 rfl (lv_at hl 3 rfl) ?_
    refine lv_iload hx hb dX9_beginsBy_35 (lv_at hl 0 rfl) ?_
    refine rz_irem F (by omega) (by omega) dX9_beginsBy_37 (fun z77 h_z77 => ?_)
    obtain ⟨rfl, hd78⟩ := h_z77
    refine r_callZv (As := [.ref a, .ref d, .int (zI (x / 64)), .int (zI ((x / 16) % 4)), .int (zI ((x / 4) % 4)), .int (zI (x % 4))]) (rest := []) (wr := []) F hK hP hD hS hA hO hE (c_X9_beginsX hO a g_p d g_s (x / 64) ((x / 16) % 4) ((x / 4) % 4) (x % 4) (by omega) (by omega) (by omega) (by omega) hp (by omega) (by omega) (by omega) (by omega)) k_1421 ks_X9_begins 6 rfl (by decide +kernel) ⟨Nat.le_of_ble_eq_true rfl, Nat.le_of_ble_eq_true rfl⟩ [0, 1] [] rfl rfl (by decide) (by decide) (by decide) hl.1 rfl (Nat.le_of_ble_eq_true rfl) dX9_beginsBy_38 ⟨Nat.le_of_ble_eq_true rfl, Nat.le_of_ble_eq_true rfl⟩ (w1 := fun u79 => [(a, .inl (cI, 200, .inl (fun k => zI (g_p k)))), (d, .inl (cI, 159, .inl (fun k => zI (((u79 1).2 0) k))))]) (fun _ => rfl) (fun  u79 H locs hp80 hP hD hS => ?_)
    exact ret (fun k => [((fun _ => 0), fun _ _ => 0), (fun _ => 0, fun _ => ((u79 1).2 0))].getD k (fun _ => 0, fun _ _ => 0)) _ _ _ _ _ _ ⟨hp80.1, (by rw [begI_3]; exact hp80.2)⟩ (bw_subP (isC := [0, 1]) hP rfl) (hD.sub [0, 1] (by decide) rfl) hS (Nat.le_of_ble_eq_true rfl) (Nat.le_of_ble_eq_true rfl) dX9_beginsBy_41
/-- the first input by which two programs end unlike -/
def eqI (p q : Nat → Int) (k n : Int) : Prop := endZ (runI p k n) = endZ (runI q k n)
def Unl (p q : Nat → Int) (k z : Int) : Prop := (z = -2 ∧ ∀ n : Int, 0 ≤ n → n < inZ k → eqI p q k n) ∨ ((0 ≤ z ∧ z < inZ k) ∧ (∀ n : Int, 0 ≤ n → n < z → eqI p q k n) ∧ ¬ eqI p q k z)
theorem Unl.uniq {p q : Nat → Int} {k z z' : Int} (h : Unl p q k z) (h' : Unl p q k z') : z = z' := by
  rcases h with ⟨a1, a2⟩ | ⟨a1, a2, a3⟩ <;> rcases h' with ⟨b1, b2⟩ | ⟨b1, b2, b3⟩
  · omega
  · exact absurd (a2 z' b1.1 b1.2) b3
  · exact absurd (b2 z a1.1 a1.2) a3
  · by_cases c : z < z'
    · exact absurd (b2 z a1.1 c) a3
    · by_cases d : z' < z
      · exact absurd (a2 z' b1.1 d) b3
      · omega
theorem upto_step {Q : Int → Prop} {v : Int} (h : ∀ n : Int, 0 ≤ n → n < v → Q n) (hv : Q v) : ∀ n : Int, 0 ≤ n → n < v + 1 → Q n := fun n h0 hn => by
  by_cases c : n < v
  · exact h n h0 c
  · rw [show n = v by omega]
    exact hv
theorem inZ_eq (x : Int) : inZ x = (x + 1) * (x + 1) * (x + 1) * (x + 1) := rfl
/-- the loop over the four counters -/
def same4 (a b : Nat → Int) (n : Int) : Prop := a 6 = b 6 ∧ ∀ j : Nat, (j : Int) < n → a j = b j
theorem same4_step {a b : Nat → Int} {n v v' : Int} (hn : 0 ≤ n) (h : v = 1 ↔ same4 a b n) (hv : v' = 1 ↔ (v = 1 ∧ a n.toNat = b n.toNat)) : v' = 1 ↔ same4 a b (n + 1) := by
  rw [hv, h]
  constructor
  · rintro ⟨⟨h1, h2⟩, h3⟩
    refine ⟨h1, fun j hj => ?_⟩
    by_cases c : (j : Int) < n
    · exact h2 j c
    · rw [show j = n.toNat by omega]
      exact h3
  · rintro ⟨h1, h2⟩
    exact ⟨⟨h1, fun j hj => h2 j (by omega)⟩, h2 n.toNat (by omega)⟩
theorem same4_eq {p q a b : Nat → Int} {k n : Int} (ha : SI p a) (hb : SI q b) (ea : E9 (runI p k n) a) (eb : E9 (runI q k n) b) : same4 a b 4 ↔ eqI p q k n := by
  unfold eqI
  rw [← ea.en, ← eb.en, endZ_iff ha hb]
  constructor
  · rintro ⟨h1, h2⟩
    exact ⟨h1, h2 0 (by omega), h2 1 (by omega), h2 2 (by omega), h2 3 (by omega)⟩
  · rintro ⟨h1, h2, h3, h4, h5⟩
    refine ⟨h1, fun j hj => ?_⟩
    rcases (show j = 0 ∨ j = 1 ∨ j = 2 ∨ j = 3 by omega) with rfl | rfl | rfl | rfl
    · exact h2
    · exact h3
    · exact h4
    · exact h5
abbrev rm_X9_unlikeX : Room := { frames := 4, cells := 0, slots := 0, locals := 93 }
set_option maxRecDepth 100000 in
set_option maxHeartbeats 8000000 in
theorem c_X9_unlikeX {l : Launch} {E : (Nat → Prop) → State → Prop} (hO : bw_Ok E) {G : va_G} {cI cB cJ cN cW : ClassId} (y : Nat) (q : Nat → Nat) (i : Nat → Int) (hM : ModOk i) (a : Nat) (g_p : Nat → Int) (f : Nat) (g_q : Nat → Int) (g_other : Nat → Int) (g_another : Nat → Int) (x : Int) (hx9 : zR x) (hp : ProgOk g_p) (hq : ProgOk g_q) (hx8 : 0 ≤ x ∧ x ≤ 3) : bw_Ci (S := zV) l yX9_unlike (bw_ws (Cond.code yX9_unlike cX9_unlike 7 (some .int))) rm_X9_unlikeX E G (bw_kt cI cB cJ cN cW) [.ref y, .ref a, .ref f, .int (zI x)] [(y, .inr (9, [.int (zI (i 0)), .ref (q 0), .int (zI (i 1)), .int (zI (i 2)), .int (zI (i 3)), .int (zI (i 4)), .int (zI (i 5)), .int (zI (i 6)), .int (zI (i 7)), .int (zI (i 8)), .int (zI (i 9)), .int (zI (i 10)), .ref (q 1), .int (zI (i 11)), .int (zI (i 12)), .ref (q 2), .ref (q 3), .ref (q 4), .ref (q 5), .ref (q 6), .ref (q 7), .ref (q 8), .ref (q 9), .ref (q 10), .ref (q 11), .ref (q 12), .ref (q 13), .ref (q 14), .ref (q 15), .ref (q 16), .int (zI (i 13)), .int (zI (i 14)), .int (zI (i 15)), .int (zI (i 16)), .int (zI (i 17)), .int (zI (i 18)), .ref (q 17), .ref (q 18), .ref (q 19), .ref (q 20)])), (a, .inl (cI, 200, .inl (fun k => zI (g_p k)))), (f, .inl (cI, 200, .inl (fun k => zI (g_q k)))), ((q 14), .inl (cI, 159, .inl (fun k => zI (g_other k)))), ((q 15), .inl (cI, 159, .inl (fun k => zI (g_another k))))] (fun r u => ∃ z : Int, r = zI z ∧ (Unl g_p g_q x z)) (fun u => [(y, .inr (9, [.int (zI (i 0)), .ref (q 0), .int (zI (i 1)), .int (zI (i 2)), .int (zI (i 3)), .int (zI (i 4)), .int (zI (i 5)), .int (zI (i 6)), .int (zI (i 7)), .int (zI (i 8)), .int (zI (i 9)), .int (zI (i 10)), .ref (q 1), .int (zI (i 11)), .int (zI (i 12)), .ref (q 2), .ref (q 3), .ref (q 4), .ref (q 5), .ref (q 6), .ref (q 7), .ref (q 8), .ref (q 9), .ref (q 10), .ref (q 11), .ref (q 12), .ref (q 13), .ref (q 14), .ref (q 15), .ref (q 16), .int (zI (i 13)), .int (zI (i 14)), .int (zI (i 15)), .int (zI (i 16)), .int (zI (i 17)), .int (zI (i 18)), .ref (q 17), .ref (q 18), .ref (q 19), .ref (q 20)])), (a, .inl (cI, 200, .inl (fun k => zI (g_p k)))), (f, .inl (cI, 200, .inl (fun k => zI (g_q k)))), ((q 14), .inl (cI, 159, .inl (fun k => zI (((u 1).2 0) k)))), ((q 15), .inl (cI, 159, .inl (fun k => zI (((u 2).2 0) k))))]) := by
  refine bw_Ci.of (cc := cX9_unlike) (maxL := 7) (ty := .int) (by decide) rfl (Nat.le_of_ble_eq_true rfl) ?_
  intro p e s m below meth c A Q hx hb hml hts hown hin hK hA hS hP hD hE ret ls hl
  have F : CallFix p m c cX9_unlike 7 s ([.ref y, .ref a, .ref f, .int (zI x)] : List Value).toArray bw_T RX9 := ⟨hx, hb, hml, hown, fun w h => hts w (List.mem_cons_of_mem _ h)⟩
  replace hl : lv_has ls 7 [(0, .ref y), (1, .ref a), (2, .ref f), (3, .int (zI x))] := hl
  have hf1 := hM.1
  have hiz := inZ_le hx8
  refine lv_iconst (v := zI 0) hx hb dX9_unlike_0 rfl ?_
  refine lv_istore (lv' := [(4, .int (zI 0)), (0, .ref y), (1, .ref a), (2, .ref f), (3, .int (zI x))]) hx hb dX9_unlike_1 hl (by decide) rfl (fun ls hl => ?_)
  refine W.widen (k := 0) (n := 0) (Nat.le_of_ble_eq_true rfl) (Nat.le_of_ble_eq_true rfl) ?_
  refine (?_ : ∀ (n9_1 : Nat) (v4 : Int) (go9 : Nat → Int) (ga9 : Nat → Int) (H : Heap) (locs : List Loc), (0 ≤ v4 ∧ v4 ≤ inZ x) → (256 - v4 : Int).toNat < n9_1 → (∀ n : Int, 0 ≤ n → n < v4 → eqI g_p g_q x n) → va_P G vwCl [(y, .inr (9, [.int (zI (i 0)), .ref (q 0), .int (zI (i 1)), .int (zI (i 2)), .int (zI (i 3)), .int (zI (i 4)), .int (zI (i 5)), .int (zI (i 6)), .int (zI (i 7)), .int (zI (i 8)), .int (zI (i 9)), .int (zI (i 10)), .ref (q 1), .int (zI (i 11)), .int (zI (i 12)), .ref (q 2), .ref (q 3), .ref (q 4), .ref (q 5), .ref (q 6), .ref (q 7), .ref (q 8), .ref (q 9), .ref (q 10), .ref (q 11), .ref (q 12), .ref (q 13), .ref (q 14), .ref (q 15), .ref (q 16), .int (zI (i 13)), .int (zI (i 14)), .int (zI (i 15)), .int (zI (i 16)), .int (zI (i 17)), .int (zI (i 18)), .ref (q 17), .ref (q 18), .ref (q 19), .ref (q 20)])), (a, .inl (cI, 200, .inl (fun k => zI (g_p k)))), (f, .inl (cI, 200, .inl (fun k => zI (g_q k)))), ((q 14), .inl (cI, 159, .inl (fun k => zI (go9 k)))), ((q 15), .inl (cI, 159, .inl (fun k => zI (ga9 k))))] H → va_D A [(y, .inr (9, [.int (zI (i 0)), .ref (q 0), .int (zI (i 1)), .int (zI (i 2)), .int (zI (i 3)), .int (zI (i 4)), .int (zI (i 5)), .int (zI (i 6)), .int (zI (i 7)), .int (zI (i 8)), .int (zI (i 9)), .int (zI (i 10)), .ref (q 1), .int (zI (i 11)), .int (zI (i 12)), .ref (q 2), .ref (q 3), .ref (q 4), .ref (q 5), .ref (q 6), .ref (q 7), .ref (q 8), .ref (q 9), .ref (q 10), .ref (q 11), .ref (q 12), .ref (q 13), .ref (q 14), .ref (q 15), .ref (q 16), .int (zI (i 13)), .int (zI (i 14)), .int (zI (i 15)), .int (zI (i 16)), .int (zI (i 17)), .int (zI (i 18)), .ref (q 17), .ref (q 18), .ref (q 19), .ref (q 20)])), (a, .inl (cI, 200, .inl (fun k => zI (g_p k)))), (f, .inl (cI, 200, .inl (fun k => zI (g_q k)))), ((q 14), .inl (cI, 159, .inl (fun k => zI (go9 k)))), ((q 15), .inl (cI, 159, .inl (fun k => zI (ga9 k))))] → va_S A s.heap H locs → ∀ ls : Array Slot, lv_has ls 7 [(4, .int (zI v4)), (0, .ref y), (1, .ref a), (2, .ref f), (3, .int (zI x))] → W p l e rm_X9_unlikeX s m ([.ref y, .ref a, .ref f, .int (zI x)] : List Value).toArray below meth c H locs 0 0 Q (F0 m 3 ls [])) ((256 - 0 : Int).toNat + 1) 0 g_other g_another _ _ (by omega) (by omega) (fun n h0 hn => absurd hn (by omega)) hP hD hS ls hl
  clear hP hD hS hl ls
  intro n9_1
  induction n9_1 with
  | zero =>
    intro v4 go9 ga9 H locs hI hM
    exact absurd hM (by omega)
  | succ n9_1 ih1 =>
    intro v4 go9 ga9 H locs hI1 hM1 hul hP hD hS ls hl
    refine lv_iload hx hb dX9_unlike_3 (lv_at hl 0 rfl) ?_
    refine lv_iload_n hx hb dX9_unlike_5 rfl (lv_at hl 4 rfl) ?_
    refine r_callSi (As := [.int (zI x)]) (rest := [.int (zI v4)]) (wr := [(y, .inr (9, [.int (zI (i 0)), .ref (q 0), .int (zI (i 1)), .int (zI (i 2)), .int (zI (i 3)), .int (zI (i 4)), .int (zI (i 5)), .int (zI (i 6)), .int (zI (i 7)), .int (zI (i 8)), .int (zI (i 9)), .int (zI (i 10)), .ref (q 1), .int (zI (i 11)), .int (zI (i 12)), .ref (q 2), .ref (q 3), .ref (q 4), .ref (q 5), .ref (q 6), .ref (q 7), .ref (q 8), .ref (q 9), .ref (q 10), .ref (q 11), .ref (q 12), .ref (q 13), .ref (q 14), .ref (q 15), .ref (q 16), .int (zI (i 13)), .int (zI (i 14)), .int (zI (i 15)), .int (zI (i 16)), .int (zI (i 17)), .int (zI (i 18)), .ref (q 17), .ref (q 18), .ref (q 19), .ref (q 20)])), (a, .inl (cI, 200, .inl (fun k => zI (g_p k)))), (f, .inl (cI, 200, .inl (fun k => zI (g_q k)))), ((q 14), .inl (cI, 159, .inl (fun k => zI (go9 k)))), ((q 15), .inl (cI, 159, .inl (fun k => zI (ga9 k))))]) F hK hP hD hS hA hO hE (c_X9_inputs2 hO x (by omega) (by omega)) k_1512 ks_X9_inputs 1 rfl (by decide +kernel) ⟨Nat.le_of_ble_eq_true rfl, Nat.le_of_ble_eq_true rfl⟩ [] [0, 1, 2, 3, 4] rfl rfl (by decide) (by decide) (by decide) hl.1 rfl (Nat.le_of_ble_eq_true rfl) dX9_unlike_6 ⟨Nat.le_of_ble_eq_true rfl, Nat.le_of_ble_eq_true rfl⟩ (w1 := fun u2 => [(y, .inr (9, [.int (zI (i 0)), .ref (q 0), .int (zI (i 1)), .int (zI (i 2)), .int (zI (i 3)), .int (zI (i 4)), .int (zI (i 5)), .int (zI (i 6)), .int (zI (i 7)), .int (zI (i 8)), .int (zI (i 9)), .int (zI (i 10)), .ref (q 1), .int (zI (i 11)), .int (zI (i 12)), .ref (q 2), .ref (q 3), .ref (q 4), .ref (q 5), .ref (q 6), .ref (q 7), .ref (q 8), .ref (q 9), .ref (q 10), .ref (q 11), .ref (q 12), .ref (q 13), .ref (q 14), .ref (q 15), .ref (q 16), .int (zI (i 13)), .int (zI (i 14)), .int (zI (i 15)), .int (zI (i 16)), .int (zI (i 17)), .int (zI (i 18)), .ref (q 17), .ref (q 18), .ref (q 19), .ref (q 20)])), (a, .inl (cI, 200, .inl (fun k => zI (g_p k)))), (f, .inl (cI, 200, .inl (fun k => zI (g_q k)))), ((q 14), .inl (cI, 159, .inl (fun k => zI (go9 k)))), ((q 15), .inl (cI, 159, .inl (fun k => zI (ga9 k))))]) (fun _ => rfl) (fun r3 u2 H locs hp4 hP hD hS => ?_)
    obtain ⟨z5, rfl, h_z5⟩ := hp4
    have hzi : z5 = inZ x := h_z5.1
    refine rz_icmp_ge (tgt := 132) F (by omega) (by omega) dX9_unlike_9 (by decide) (fun h9_5 => ?_) (fun h9_5 => ?_)
    · refine lv_bipush (v := zI (-2)) hx hb dX9_unlike_132 (by decide) ?_
      exact ret (zI (-2)) (fun k => [((fun _ => 0), fun _ _ => 0), (fun _ => 0, fun _ => go9), (fun _ => 0, fun _ => ga9)].getD k (fun _ => 0, fun _ _ => 0)) _ _ _ _ _ _ rfl ⟨(-2), rfl, (show Unl g_p g_q x (-2) from Or.inl ⟨rfl, fun n h0 hn => hul n h0 (by have q8 := inZ_eq x; omega)⟩)⟩ (bw_subP (isC := [0, 1, 2, 3, 4]) hP rfl) (hD.sub [0, 1, 2, 3, 4] (by decide) rfl) hS (Nat.le_of_ble_eq_true rfl) (Nat.le_of_ble_eq_true rfl) dX9_unlike_134
    · refine lv_aload_n hx hb dX9_unlike_12 rfl (lv_at hl 2 rfl) ?_
      refine lv_aload_n hx hb dX9_unlike_13 rfl (lv_at hl 1 rfl) ?_
      refine r_get F hK hP 0 27 rfl rfl in_X9 (by decide) k_1190 rfl dX9_unlike_14 ?_
      refine lv_iload hx hb dX9_unlike_17 (lv_at hl 0 rfl) ?_
      refine lv_iload_n hx hb dX9_unlike_19 rfl (lv_at hl 4 rfl) ?_
      refine r_callZv (As := [.ref a, .ref (q 14), .int (zI v4), .int (zI x)]) (rest := []) (wr := [(y, .inr (9, [.int (zI (i 0)), .ref (q 0), .int (zI (i 1)), .int (zI (i 2)), .int (zI (i 3)), .int (zI (i 4)), .int (zI (i 5)), .int (zI (i 6)), .int (zI (i 7)), .int (zI (i 8)), .int (zI (i 9)), .int (zI (i 10)), .ref (q 1), .int (zI (i 11)), .int (zI (i 12)), .ref (q 2), .ref (q 3), .ref (q 4), .ref (q 5), .ref (q 6), .ref (q 7), .ref (q 8), .ref (q 9), .ref (q 10), .ref (q 11), .ref (q 12), .ref (q 13), .ref (q 14), .ref (q 15), .ref (q 16), .int (zI (i 13)), .int (zI (i 14)), .int (zI (i 15)), .int (zI (i 16)), .int (zI (i 17)), .int (zI (i 18)), .ref (q 17), .ref (q 18), .ref (q 19), .ref (q 20)])), (f, .inl (cI, 200, .inl (fun k => zI (g_q k)))), ((q 15), .inl (cI, 159, .inl (fun k => zI (ga9 k))))]) F hK hP hD hS hA hO hE (c_X9_beginsByX hO a g_p (q 14) go9 v4 x (by omega) (by omega) hp (by omega) (by omega)) k_1515 ks_X9_beginsBy 4 rfl (by decide +kernel) ⟨Nat.le_of_ble_eq_true rfl, Nat.le_of_ble_eq_true rfl⟩ [1, 3] [0, 2, 4] rfl rfl (by decide) (by decide) (by decide) hl.1 rfl (Nat.le_of_ble_eq_true rfl) dX9_unlike_20 ⟨Nat.le_of_ble_eq_true rfl, Nat.le_of_ble_eq_true rfl⟩ (w1 := fun u7 => [(y, .inr (9, [.int (zI (i 0)), .ref (q 0), .int (zI (i 1)), .int (zI (i 2)), .int (zI (i 3)), .int (zI (i 4)), .int (zI (i 5)), .int (zI (i 6)), .int (zI (i 7)), .int (zI (i 8)), .int (zI (i 9)), .int (zI (i 10)), .ref (q 1), .int (zI (i 11)), .int (zI (i 12)), .ref (q 2), .ref (q 3), .ref (q 4), .ref (q 5), .ref (q 6), .ref (q 7), .ref (q 8), .ref (q 9), .ref (q 10), .ref (q 11), .ref (q 12), .ref (q 13), .ref (q 14), .ref (q 15), .ref (q 16), .int (zI (i 13)), .int (zI (i 14)), .int (zI (i 15)), .int (zI (i 16)), .int (zI (i 17)), .int (zI (i 18)), .ref (q 17), .ref (q 18), .ref (q 19), .ref (q 20)])), (f, .inl (cI, 200, .inl (fun k => zI (g_q k)))), ((q 15), .inl (cI, 159, .inl (fun k => zI (ga9 k)))), (a, .inl (cI, 200, .inl (fun k => zI (g_p k)))), ((q 14), .inl (cI, 159, .inl (fun k => zI (((u7 1).2 0) k))))]) (fun _ => rfl) (fun  u7 H locs hp8 hP hD hS => ?_)
      refine lv_aload_n hx hb dX9_unlike_23 rfl (lv_at hl 3 rfl) ?_
      refine lv_aload_n hx hb dX9_unlike_24 rfl (lv_at hl 1 rfl) ?_
      refine r_get F hK hP 0 28 rfl rfl in_X9 (by decide) k_1191 rfl dX9_unlike_25 ?_
      refine lv_iload hx hb dX9_unlike_28 (lv_at hl 0 rfl) ?_
      refine lv_iload_n hx hb dX9_unlike_30 rfl (lv_at hl 4 rfl) ?_
      refine r_callZv (As := [.ref f, .ref (q 15), .int (zI v4), .int (zI x)]) (rest := []) (wr := [(y, .inr (9, [.int (zI (i 0)), .ref (q 0), .int (zI (i 1)), .int (zI (i 2)), .int (zI (i 3)), .int (zI (i 4)), .int (zI (i 5)), .int (zI (i 6)), .int (zI (i 7)), .int (zI (i 8)), .int (zI (i 9)), .int (zI (i 10)), .ref (q 1), .int (zI (i 11)), .int (zI (i 12)), .ref (q 2), .ref (q 3), .ref (q 4), .ref (q 5), .ref (q 6), .ref (q 7), .ref (q 8), .ref (q 9), .ref (q 10), .ref (q 11), .ref (q 12), .ref (q 13), .ref (q 14), .ref (q 15), .ref (q 16), .int (zI (i 13)), .int (zI (i 14)), .int (zI (i 15)), .int (zI (i 16)), .int (zI (i 17)), .int (zI (i 18)), .ref (q 17), .ref (q 18), .ref (q 19), .ref (q 20)])), (a, .inl (cI, 200, .inl (fun k => zI (g_p k)))), ((q 14), .inl (cI, 159, .inl (fun k => zI (((u7 1).2 0) k))))]) F hK hP hD hS hA hO hE (c_X9_beginsByX hO f g_q (q 15) ga9 v4 x (by omega) (by omega) hq (by omega) (by omega)) k_1515 ks_X9_beginsBy 4 rfl (by decide +kernel) ⟨Nat.le_of_ble_eq_true rfl, Nat.le_of_ble_eq_true rfl⟩ [1, 2] [0, 3, 4] rfl rfl (by decide) (by decide) (by decide) hl.1 rfl (Nat.le_of_ble_eq_true rfl) dX9_unlike_31 ⟨Nat.le_of_ble_eq_true rfl, Nat.le_of_ble_eq_true rfl⟩ (w1 := fun u9 => [(y, .inr (9, [.int (zI (i 0)), .ref (q 0), .int (zI (i 1)), .int (zI (i 2)), .int (zI (i 3)), .int (zI (i 4)), .int (zI (i 5)), .int (zI (i 6)), .int (zI (i 7)), .int (zI (i 8)), .int (zI (i 9)), .int (zI (i 10)), .ref (q 1), .int (zI (i 11)), .int (zI (i 12)), .ref (q 2), .ref (q 3), .ref (q 4), .ref (q 5), .ref (q 6), .ref (q 7), .ref (q 8), .ref (q 9), .ref (q 10), .ref (q 11), .ref (q 12), .ref (q 13), .ref (q 14), .ref (q 15), .ref (q 16), .int (zI (i 13)), .int (zI (i 14)), .int (zI (i 15)), .int (zI (i 16)), .int (zI (i 17)), .int (zI (i 18)), .ref (q 17), .ref (q 18), .ref (q 19), .ref (q 20)])), (a, .inl (cI, 200, .inl (fun k => zI (g_p k)))), ((q 14), .inl (cI, 159, .inl (fun k => zI (((u7 1).2 0) k)))), (f, .inl (cI, 200, .inl (fun k => zI (g_q k)))), ((q 15), .inl (cI, 159, .inl (fun k => zI (((u9 1).2 0) k))))]) (fun _ => rfl) (fun  u9 H locs hp10 hP hD hS => ?_)
      refine lv_aload_n hx hb dX9_unlike_34 rfl (lv_at hl 2 rfl) ?_
      refine lv_aload_n hx hb dX9_unlike_35 rfl (lv_at hl 1 rfl) ?_
      refine r_get F hK hP 0 27 rfl rfl in_X9 (by decide) k_1190 rfl dX9_unlike_36 ?_
      refine r_callZv (As := [.ref a, .ref (q 14)]) (rest := []) (wr := [(y, .inr (9, [.int (zI (i 0)), .ref (q 0), .int (zI (i 1)), .int (zI (i 2)), .int (zI (i 3)), .int (zI (i 4)), .int (zI (i 5)), .int (zI (i 6)), .int (zI (i 7)), .int (zI (i 8)), .int (zI (i 9)), .int (zI (i 10)), .ref (q 1), .int (zI (i 11)), .int (zI (i 12)), .ref (q 2), .ref (q 3), .ref (q 4), .ref (q 5), .ref (q 6), .ref (q 7), .ref (q 8), .ref (q 9), .ref (q 10), .ref (q 11), .ref (q 12), .ref (q 13), .ref (q 14), .ref (q 15), .ref (q 16), .int (zI (i 13)), .int (zI (i 14)), .int (zI (i 15)), .int (zI (i 16)), .int (zI (i 17)), .int (zI (i 18)), .ref (q 17), .ref (q 18), .ref (q 19), .ref (q 20)])), (f, .inl (cI, 200, .inl (fun k => zI (g_q k)))), ((q 15), .inl (cI, 159, .inl (fun k => zI (((u9 1).2 0) k))))]) F hK hP hD hS hA hO hE (c_X9_runsX hO a g_p (q 14) ((u7 1).2 0) hp hp8.1) k_1470 ks_X9_runs 2 rfl (by decide +kernel) ⟨Nat.le_of_ble_eq_true rfl, Nat.le_of_ble_eq_true rfl⟩ [1, 2] [0, 3, 4] rfl rfl (by decide) (by decide) (by decide) hl.1 rfl (Nat.le_of_ble_eq_true rfl) dX9_unlike_39 ⟨Nat.le_of_ble_eq_true rfl, Nat.le_of_ble_eq_true rfl⟩ (w1 := fun u11 => [(y, .inr (9, [.int (zI (i 0)), .ref (q 0), .int (zI (i 1)), .int (zI (i 2)), .int (zI (i 3)), .int (zI (i 4)), .int (zI (i 5)), .int (zI (i 6)), .int (zI (i 7)), .int (zI (i 8)), .int (zI (i 9)), .int (zI (i 10)), .ref (q 1), .int (zI (i 11)), .int (zI (i 12)), .ref (q 2), .ref (q 3), .ref (q 4), .ref (q 5), .ref (q 6), .ref (q 7), .ref (q 8), .ref (q 9), .ref (q 10), .ref (q 11), .ref (q 12), .ref (q 13), .ref (q 14), .ref (q 15), .ref (q 16), .int (zI (i 13)), .int (zI (i 14)), .int (zI (i 15)), .int (zI (i 16)), .int (zI (i 17)), .int (zI (i 18)), .ref (q 17), .ref (q 18), .ref (q 19), .ref (q 20)])), (f, .inl (cI, 200, .inl (fun k => zI (g_q k)))), ((q 15), .inl (cI, 159, .inl (fun k => zI (((u9 1).2 0) k)))), (a, .inl (cI, 200, .inl (fun k => zI (g_p k)))), ((q 14), .inl (cI, 159, .inl (fun k => zI (((u11 1).2 0) k))))]) (fun _ => rfl) (fun  u11 H locs hp12 hP hD hS => ?_)
      have hrn13 := (E9.run hp (StOk_begI hp (k := x) (x := v4) (by omega) (by omega)) hp8.2).trans (fun k _ => congrFun (hp12.2.1.trans (stepsF_end_eq hp hp8.1 (by rw [← hp12.2.1]; exact hp12.2.2))) k)
      refine lv_aload_n hx hb dX9_unlike_42 rfl (lv_at hl 3 rfl) ?_
      refine lv_aload_n hx hb dX9_unlike_43 rfl (lv_at hl 1 rfl) ?_
      refine r_get F hK hP 0 28 rfl rfl in_X9 (by decide) k_1191 rfl dX9_unlike_44 ?_
      refine r_callZv (As := [.ref f, .ref (q 15)]) (rest := []) (wr := [(y, .inr (9, [.int (zI (i 0)), .ref (q 0), .int (zI (i 1)), .int (zI (i 2)), .int (zI (i 3)), .int (zI (i 4)), .int (zI (i 5)), .int (zI (i 6)), .int (zI (i 7)), .int (zI (i 8)), .int (zI (i 9)), .int (zI (i 10)), .ref (q 1), .int (zI (i 11)), .int (zI (i 12)), .ref (q 2), .ref (q 3), .ref (q 4), .ref (q 5), .ref (q 6), .ref (q 7), .ref (q 8), .ref (q 9), .ref (q 10), .ref (q 11), .ref (q 12), .ref (q 13), .ref (q 14), .ref (q 15), .ref (q 16), .int (zI (i 13)), .int (zI (i 14)), .int (zI (i 15)), .int (zI (i 16)), .int (zI (i 17)), .int (zI (i 18)), .ref (q 17), .ref (q 18), .ref (q 19), .ref (q 20)])), (a, .inl (cI, 200, .inl (fun k => zI (g_p k)))), ((q 14), .inl (cI, 159, .inl (fun k => zI (((u11 1).2 0) k))))]) F hK hP hD hS hA hO hE (c_X9_runsX hO f g_q (q 15) ((u9 1).2 0) hq hp10.1) k_1470 ks_X9_runs 2 rfl (by decide +kernel) ⟨Nat.le_of_ble_eq_true rfl, Nat.le_of_ble_eq_true rfl⟩ [1, 2] [0, 3, 4] rfl rfl (by decide) (by decide) (by decide) hl.1 rfl (Nat.le_of_ble_eq_true rfl) dX9_unlike_47 ⟨Nat.le_of_ble_eq_true rfl, Nat.le_of_ble_eq_true rfl⟩ (w1 := fun u14 => [(y, .inr (9, [.int (zI (i 0)), .ref (q 0), .int (zI (i 1)), .int (zI (i 2)), .int (zI (i 3)), .int (zI (i 4)), .int (zI (i 5)), .int (zI (i 6)), .int (zI (i 7)), .int (zI (i 8)), .int (zI (i 9)), .int (zI (i 10)), .ref (q 1), .int (zI (i 11)), .int (zI (i 12)), .ref (q 2), .ref (q 3), .ref (q 4), .ref (q 5), .ref (q 6), .ref (q 7), .ref (q 8), .ref (q 9), .ref (q 10), .ref (q 11), .ref (q 12), .ref (q 13), .ref (q 14), .ref (q 15), .ref (q 16), .int (zI (i 13)), .int (zI (i 14)), .int (zI (i 15)), .int (zI (i 16)), .int (zI (i 17)), .int (zI (i 18)), .ref (q 17), .ref (q 18), .ref (q 19), .ref (q 20)])), (a, .inl (cI, 200, .inl (fun k => zI (g_p k)))), ((q 14), .inl (cI, 159, .inl (fun k => zI (((u11 1).2 0) k)))), (f, .inl (cI, 200, .inl (fun k => zI (g_q k)))), ((q 15), .inl (cI, 159, .inl (fun k => zI (((u14 1).2 0) k))))]) (fun _ => rfl) (fun  u14 H locs hp15 hP hD hS => ?_)
      have hrn16 := (E9.run hq (StOk_begI hq (k := x) (x := v4) (by omega) (by omega)) hp10.2).trans (fun k _ => congrFun (hp15.2.1.trans (stepsF_end_eq hq hp10.1 (by rw [← hp15.2.1]; exact hp15.2.2))) k)
      have hc17 := hp12.1.1.2.2.1
      have hc18 := hp15.1.1.2.2.1
      refine lv_aload_n hx hb dX9_unlike_50 rfl (lv_at hl 1 rfl) ?_
      refine r_get F hK hP 0 27 rfl rfl in_X9 (by decide) k_1190 rfl dX9_unlike_51 ?_
      refine lv_bipush (v := zI 6) hx hb dX9_unlike_54 (by decide) ?_
      refine rz_ialdN F hK hP 2 0 rfl rfl (by omega) (by omega) dX9_unlike_56 6 rfl ?_
      refine lv_aload_n hx hb dX9_unlike_57 rfl (lv_at hl 1 rfl) ?_
      refine r_get F hK hP 0 28 rfl rfl in_X9 (by decide) k_1191 rfl dX9_unlike_58 ?_
      refine lv_bipush (v := zI 6) hx hb dX9_unlike_61 (by decide) ?_
      refine rz_ialdN F hK hP 4 0 rfl rfl (by omega) (by omega) dX9_unlike_63 6 rfl ?_
      refine rz_icmp_ne (tgt := 71) F (by omega) (by omega) dX9_unlike_64 (by decide) (fun h64_18 => ?_) (fun h64_18 => ?_)
      · refine lv_iconst (v := zI 0) hx hb dX9_unlike_71 rfl ?_
        refine lv_istore (lv' := [(5, .int (zI 0)), (4, .int (zI v4)), (0, .ref y), (1, .ref a), (2, .ref f), (3, .int (zI x))]) hx hb dX9_unlike_72 hl (by decide) rfl (fun ls hl => ?_)
        refine lv_iconst (v := zI 0) hx hb dX9_unlike_74 rfl ?_
        refine lv_istore (lv' := [(6, .int (zI 0)), (5, .int (zI 0)), (4, .int (zI v4)), (0, .ref y), (1, .ref a), (2, .ref f), (3, .int (zI x))]) hx hb dX9_unlike_75 hl (by decide) rfl (fun ls hl => ?_)
        refine W.widen (k := 0) (n := 0) (Nat.le_of_ble_eq_true rfl) (Nat.le_of_ble_eq_true rfl) ?_
        refine (?_ : ∀ (n9_2 : Nat) (v5 : Int) (v6 : Int) (H : Heap) (locs : List Loc), (0 ≤ v5 ∧ v5 ≤ 1 ∧ 0 ≤ v6 ∧ v6 ≤ 4) → (4 - v6 : Int).toNat < n9_2 → (v5 = 1 ↔ same4 ((u11 1).2 0) ((u14 1).2 0) v6) → va_P G vwCl [(y, .inr (9, [.int (zI (i 0)), .ref (q 0), .int (zI (i 1)), .int (zI (i 2)), .int (zI (i 3)), .int (zI (i 4)), .int (zI (i 5)), .int (zI (i 6)), .int (zI (i 7)), .int (zI (i 8)), .int (zI (i 9)), .int (zI (i 10)), .ref (q 1), .int (zI (i 11)), .int (zI (i 12)), .ref (q 2), .ref (q 3), .ref (q 4), .ref (q 5), .ref (q 6), .ref (q 7), .ref (q 8), .ref (q 9), .ref (q 10), .ref (q 11), .ref (q 12), .ref (q 13), .ref (q 14), .ref (q 15), .ref (q 16), .int (zI (i 13)), .int (zI (i 14)), .int (zI (i 15)), .int (zI (i 16)), .int (zI (i 17)), .int (zI (i 18)), .ref (q 17), .ref (q 18), .ref (q 19), .ref (q 20)])), (a, .inl (cI, 200, .inl (fun k => zI (g_p k)))), ((q 14), .inl (cI, 159, .inl (fun k => zI (((u11 1).2 0) k)))), (f, .inl (cI, 200, .inl (fun k => zI (g_q k)))), ((q 15), .inl (cI, 159, .inl (fun k => zI (((u14 1).2 0) k))))] H → va_D A [(y, .inr (9, [.int (zI (i 0)), .ref (q 0), .int (zI (i 1)), .int (zI (i 2)), .int (zI (i 3)), .int (zI (i 4)), .int (zI (i 5)), .int (zI (i 6)), .int (zI (i 7)), .int (zI (i 8)), .int (zI (i 9)), .int (zI (i 10)), .ref (q 1), .int (zI (i 11)), .int (zI (i 12)), .ref (q 2), .ref (q 3), .ref (q 4), .ref (q 5), .ref (q 6), .ref (q 7), .ref (q 8), .ref (q 9), .ref (q 10), .ref (q 11), .ref (q 12), .ref (q 13), .ref (q 14), .ref (q 15), .ref (q 16), .int (zI (i 13)), .int (zI (i 14)), .int (zI (i 15)), .int (zI (i 16)), .int (zI (i 17)), .int (zI (i 18)), .ref (q 17), .ref (q 18), .ref (q 19), .ref (q 20)])), (a, .inl (cI, 200, .inl (fun k => zI (g_p k)))), ((q 14), .inl (cI, 159, .inl (fun k => zI (((u11 1).2 0) k)))), (f, .inl (cI, 200, .inl (fun k => zI (g_q k)))), ((q 15), .inl (cI, 159, .inl (fun k => zI (((u14 1).2 0) k))))] → va_S A s.heap H locs → ∀ ls : Array Slot, lv_has ls 7 [(6, .int (zI v6)), (5, .int (zI v5)), (4, .int (zI v4)), (0, .ref y), (1, .ref a), (2, .ref f), (3, .int (zI x))] → W p l e rm_X9_unlikeX s m ([.ref y, .ref a, .ref f, .int (zI x)] : List Value).toArray below meth c H locs 0 0 Q (F0 m 77 ls [])) ((4 - 0 : Int).toNat + 1) 0 0 _ _ (by omega) (by omega) (by unfold same4; constructor <;> intro q9 <;> first | (refine ⟨?_, fun j hj => ?_⟩ <;> omega) | (have q8 := q9.1; omega)) hP hD hS ls hl
        clear hP hD hS hl ls
        intro n9_2
        induction n9_2 with
        | zero =>
          intro v5 v6 H locs hI hM
          exact absurd hM (by omega)
        | succ n9_2 ih2 =>
          intro v5 v6 H locs hI2 hM2 hsm hP hD hS ls hl
          refine lv_iload hx hb dX9_unlike_77 (lv_at hl 0 rfl) ?_
          refine lv_iconst (v := zI 4) hx hb dX9_unlike_79 rfl ?_
          refine rz_icmp_ge (tgt := 118) F (by omega) (by omega) dX9_unlike_80 (by decide) (fun h80_19 => ?_) (fun h80_19 => ?_)
          · refine lv_iload hx hb dX9_unlike_118 (lv_at hl 1 rfl) ?_
            have hsq : v5 = 1 ↔ eqI g_p g_q x v4 := by have q8 := hsm; rw [show v6 = 4 by omega] at q8; exact q8.trans (same4_eq hp12.1.1 hp15.1.1 hrn13 hrn16)
            refine rz_if_ne (tgt := 126) F (by omega) dX9_unlike_120 (by decide) (fun h120_20 => ?_) (fun h120_20 => ?_)
            · refine lv_iinc (v := zI (v4 + 1)) (lv' := [(4, .int (zI (v4 + 1))), (6, .int (zI v6)), (5, .int (zI v5)), (0, .ref y), (1, .ref a), (2, .ref f), (3, .int (zI x))]) hx hb dX9_unlike_126 hl (k := 2) rfl (zI_add _ _) (by decide) rfl (fun ls hl => ?_)
              refine lv_goto (tgt := 3) hx hb dX9_unlike_129 (by decide) ?_
              have hP := bw_subP (isC := [0, 1, 3, 2, 4]) (wc := [(y, .inr (9, [.int (zI (i 0)), .ref (q 0), .int (zI (i 1)), .int (zI (i 2)), .int (zI (i 3)), .int (zI (i 4)), .int (zI (i 5)), .int (zI (i 6)), .int (zI (i 7)), .int (zI (i 8)), .int (zI (i 9)), .int (zI (i 10)), .ref (q 1), .int (zI (i 11)), .int (zI (i 12)), .ref (q 2), .ref (q 3), .ref (q 4), .ref (q 5), .ref (q 6), .ref (q 7), .ref (q 8), .ref (q 9), .ref (q 10), .ref (q 11), .ref (q 12), .ref (q 13), .ref (q 14), .ref (q 15), .ref (q 16), .int (zI (i 13)), .int (zI (i 14)), .int (zI (i 15)), .int (zI (i 16)), .int (zI (i 17)), .int (zI (i 18)), .ref (q 17), .ref (q 18), .ref (q 19), .ref (q 20)])), (a, .inl (cI, 200, .inl (fun k => zI (g_p k)))), (f, .inl (cI, 200, .inl (fun k => zI (g_q k)))), ((q 14), .inl (cI, 159, .inl (fun k => zI (((u11 1).2 0) k)))), ((q 15), .inl (cI, 159, .inl (fun k => zI (((u14 1).2 0) k))))]) hP rfl
              have hD := hD.sub (ws' := [(y, .inr (9, [.int (zI (i 0)), .ref (q 0), .int (zI (i 1)), .int (zI (i 2)), .int (zI (i 3)), .int (zI (i 4)), .int (zI (i 5)), .int (zI (i 6)), .int (zI (i 7)), .int (zI (i 8)), .int (zI (i 9)), .int (zI (i 10)), .ref (q 1), .int (zI (i 11)), .int (zI (i 12)), .ref (q 2), .ref (q 3), .ref (q 4), .ref (q 5), .ref (q 6), .ref (q 7), .ref (q 8), .ref (q 9), .ref (q 10), .ref (q 11), .ref (q 12), .ref (q 13), .ref (q 14), .ref (q 15), .ref (q 16), .int (zI (i 13)), .int (zI (i 14)), .int (zI (i 15)), .int (zI (i 16)), .int (zI (i 17)), .int (zI (i 18)), .ref (q 17), .ref (q 18), .ref (q 19), .ref (q 20)])), (a, .inl (cI, 200, .inl (fun k => zI (g_p k)))), (f, .inl (cI, 200, .inl (fun k => zI (g_q k)))), ((q 14), .inl (cI, 159, .inl (fun k => zI (((u11 1).2 0) k)))), ((q 15), .inl (cI, 159, .inl (fun k => zI (((u14 1).2 0) k))))]) [0, 1, 3, 2, 4] (by decide) rfl
              exact ih1 (v4 + 1) ((u11 1).2 0) ((u14 1).2 0) _ _ (by omega) (by omega) (upto_step hul (hsq.mp (by omega))) hP hD hS ls (lv_sub hl [0, 3, 4, 5, 6] rfl)
            · refine lv_iload hx hb dX9_unlike_123 (lv_at hl 2 rfl) ?_
              exact ret (zI v4) (fun k => [((fun _ => 0), fun _ _ => 0), (fun _ => 0, fun _ => ((u11 1).2 0)), (fun _ => 0, fun _ => ((u14 1).2 0))].getD k (fun _ => 0, fun _ _ => 0)) _ _ _ _ _ _ rfl ⟨v4, rfl, (show Unl g_p g_q x v4 from Or.inr ⟨⟨by omega, by have q8 := inZ_eq x; omega⟩, hul, fun q9 => absurd (hsq.mpr q9) (by omega)⟩)⟩ (bw_subP (isC := [0, 1, 3, 2, 4]) hP rfl) (hD.sub [0, 1, 3, 2, 4] (by decide) rfl) hS (Nat.le_of_ble_eq_true rfl) (Nat.le_of_ble_eq_true rfl) dX9_unlike_125
          · refine lv_iload hx hb dX9_unlike_83 (lv_at hl 1 rfl) ?_
            refine rz_if_eq (tgt := 109) F (by omega) dX9_unlike_85 (by decide) (fun h85_21 => ?_) (fun h85_21 => ?_)
            · refine lv_iconst (v := zI 0) hx hb dX9_unlike_109 rfl ?_
              refine lv_istore (lv' := [(5, .int (zI 0)), (6, .int (zI v6)), (4, .int (zI v4)), (0, .ref y), (1, .ref a), (2, .ref f), (3, .int (zI x))]) hx hb dX9_unlike_110 hl (by decide) rfl (fun ls hl => ?_)
              refine lv_iinc (v := zI (v6 + 1)) (lv' := [(6, .int (zI (v6 + 1))), (5, .int (zI 0)), (4, .int (zI v4)), (0, .ref y), (1, .ref a), (2, .ref f), (3, .int (zI x))]) hx hb dX9_unlike_112 hl (k := 1) rfl (zI_add _ _) (by decide) rfl (fun ls hl => ?_)
              refine lv_goto (tgt := 77) hx hb dX9_unlike_115 (by decide) ?_
              exact ih2 0 (v6 + 1) _ _ (by omega) (by omega) (same4_step (by omega) hsm (by constructor <;> intro q9 <;> first | (refine ⟨?_, ?_⟩ <;> omega) | (have q8 := q9.1; have q7 := q9.2; omega))) hP hD hS ls (lv_sub hl [0, 1, 2, 3, 4, 5, 6] rfl)
            · refine lv_aload_n hx hb dX9_unlike_88 rfl (lv_at hl 3 rfl) ?_
              have hc23 := hp12.1.1.1 (v6).toNat (by omega)
              have hc24 := hp15.1.1.1 (v6).toNat (by omega)
              refine r_get F hK hP 0 27 rfl rfl in_X9 (by decide) k_1190 rfl dX9_unlike_89 ?_
              refine lv_iload hx hb dX9_unlike_92 (lv_at hl 0 rfl) ?_
              refine rz_iald F hK hP 2 0 rfl rfl (by omega) (by omega) dX9_unlike_94 ?_
              refine lv_aload_n hx hb dX9_unlike_95 rfl (lv_at hl 3 rfl) ?_
              refine r_get F hK hP 0 28 rfl rfl in_X9 (by decide) k_1191 rfl dX9_unlike_96 ?_
              refine lv_iload hx hb dX9_unlike_99 (lv_at hl 0 rfl) ?_
              refine rz_iald F hK hP 4 0 rfl rfl (by omega) (by omega) dX9_unlike_101 ?_
              refine rz_icmp_ne (tgt := 109) F (by omega) (by omega) dX9_unlike_102 (by decide) (fun h102_24 => ?_) (fun h102_24 => ?_)
              · refine lv_iconst (v := zI 0) hx hb dX9_unlike_109 rfl ?_
                refine lv_istore (lv' := [(5, .int (zI 0)), (6, .int (zI v6)), (4, .int (zI v4)), (0, .ref y), (1, .ref a), (2, .ref f), (3, .int (zI x))]) hx hb dX9_unlike_110 hl (by decide) rfl (fun ls hl => ?_)
                refine lv_iinc (v := zI (v6 + 1)) (lv' := [(6, .int (zI (v6 + 1))), (5, .int (zI 0)), (4, .int (zI v4)), (0, .ref y), (1, .ref a), (2, .ref f), (3, .int (zI x))]) hx hb dX9_unlike_112 hl (k := 1) rfl (zI_add _ _) (by decide) rfl (fun ls hl => ?_)
                refine lv_goto (tgt := 77) hx hb dX9_unlike_115 (by decide) ?_
                exact ih2 0 (v6 + 1) _ _ (by omega) (by omega) (same4_step (by omega) hsm (by constructor <;> intro q9 <;> first | (refine ⟨?_, ?_⟩ <;> omega) | (have q8 := q9.1; have q7 := q9.2; omega))) hP hD hS ls (lv_sub hl [0, 1, 2, 3, 4, 5, 6] rfl)
              · refine lv_iconst (v := zI 1) hx hb dX9_unlike_105 rfl ?_
                refine lv_goto (tgt := 110) hx hb dX9_unlike_106 (by decide) ?_
                refine lv_istore (lv' := [(5, .int (zI 1)), (6, .int (zI v6)), (4, .int (zI v4)), (0, .ref y), (1, .ref a), (2, .ref f), (3, .int (zI x))]) hx hb dX9_unlike_110 hl (by decide) rfl (fun ls hl => ?_)
                refine lv_iinc (v := zI (v6 + 1)) (lv' := [(6, .int (zI (v6 + 1))), (5, .int (zI 1)), (4, .int (zI v4)), (0, .ref y), (1, .ref a), (2, .ref f), (3, .int (zI x))]) hx hb dX9_unlike_112 hl (k := 1) rfl (zI_add _ _) (by decide) rfl (fun ls hl => ?_)
                refine lv_goto (tgt := 77) hx hb dX9_unlike_115 (by decide) ?_
                exact ih2 1 (v6 + 1) _ _ (by omega) (by omega) (same4_step (by omega) hsm (by constructor <;> intro q9 <;> first | (refine ⟨?_, ?_⟩ <;> omega) | (have q8 := q9.1; have q7 := q9.2; omega))) hP hD hS ls (lv_sub hl [0, 1, 2, 3, 4, 5, 6] rfl)
      · refine lv_iconst (v := zI 1) hx hb dX9_unlike_67 rfl ?_
        refine lv_goto (tgt := 72) hx hb dX9_unlike_68 (by decide) ?_
        refine lv_istore (lv' := [(5, .int (zI 1)), (4, .int (zI v4)), (0, .ref y), (1, .ref a), (2, .ref f), (3, .int (zI x))]) hx hb dX9_unlike_72 hl (by decide) rfl (fun ls hl => ?_)
        refine lv_iconst (v := zI 0) hx hb dX9_unlike_74 rfl ?_
        refine lv_istore (lv' := [(6, .int (zI 0)), (5, .int (zI 1)), (4, .int (zI v4)), (0, .ref y), (1, .ref a), (2, .ref f), (3, .int (zI x))]) hx hb dX9_unlike_75 hl (by decide) rfl (fun ls hl => ?_)
        refine W.widen (k := 0) (n := 0) (Nat.le_of_ble_eq_true rfl) (Nat.le_of_ble_eq_true rfl) ?_
        refine (?_ : ∀ (n9_2 : Nat) (v5 : Int) (v6 : Int) (H : Heap) (locs : List Loc), (0 ≤ v5 ∧ v5 ≤ 1 ∧ 0 ≤ v6 ∧ v6 ≤ 4) → (4 - v6 : Int).toNat < n9_2 → (v5 = 1 ↔ same4 ((u11 1).2 0) ((u14 1).2 0) v6) → va_P G vwCl [(y, .inr (9, [.int (zI (i 0)), .ref (q 0), .int (zI (i 1)), .int (zI (i 2)), .int (zI (i 3)), .int (zI (i 4)), .int (zI (i 5)), .int (zI (i 6)), .int (zI (i 7)), .int (zI (i 8)), .int (zI (i 9)), .int (zI (i 10)), .ref (q 1), .int (zI (i 11)), .int (zI (i 12)), .ref (q 2), .ref (q 3), .ref (q 4), .ref (q 5), .ref (q 6), .ref (q 7), .ref (q 8), .ref (q 9), .ref (q 10), .ref (q 11), .ref (q 12), .ref (q 13), .ref (q 14), .ref (q 15), .ref (q 16), .int (zI (i 13)), .int (zI (i 14)), .int (zI (i 15)), .int (zI (i 16)), .int (zI (i 17)), .int (zI (i 18)), .ref (q 17), .ref (q 18), .ref (q 19), .ref (q 20)])), (a, .inl (cI, 200, .inl (fun k => zI (g_p k)))), ((q 14), .inl (cI, 159, .inl (fun k => zI (((u11 1).2 0) k)))), (f, .inl (cI, 200, .inl (fun k => zI (g_q k)))), ((q 15), .inl (cI, 159, .inl (fun k => zI (((u14 1).2 0) k))))] H → va_D A [(y, .inr (9, [.int (zI (i 0)), .ref (q 0), .int (zI (i 1)), .int (zI (i 2)), .int (zI (i 3)), .int (zI (i 4)), .int (zI (i 5)), .int (zI (i 6)), .int (zI (i 7)), .int (zI (i 8)), .int (zI (i 9)), .int (zI (i 10)), .ref (q 1), .int (zI (i 11)), .int (zI (i 12)), .ref (q 2), .ref (q 3), .ref (q 4), .ref (q 5), .ref (q 6), .ref (q 7), .ref (q 8), .ref (q 9), .ref (q 10), .ref (q 11), .ref (q 12), .ref (q 13), .ref (q 14), .ref (q 15), .ref (q 16), .int (zI (i 13)), .int (zI (i 14)), .int (zI (i 15)), .int (zI (i 16)), .int (zI (i 17)), .int (zI (i 18)), .ref (q 17), .ref (q 18), .ref (q 19), .ref (q 20)])), (a, .inl (cI, 200, .inl (fun k => zI (g_p k)))), ((q 14), .inl (cI, 159, .inl (fun k => zI (((u11 1).2 0) k)))), (f, .inl (cI, 200, .inl (fun k => zI (g_q k)))), ((q 15), .inl (cI, 159, .inl (fun k => zI (((u14 1).2 0) k))))] → va_S A s.heap H locs → ∀ ls : Array Slot, lv_has ls 7 [(6, .int (zI v6)), (5, .int (zI v5)), (4, .int (zI v4)), (0, .ref y), (1, .ref a), (2, .ref f), (3, .int (zI x))] → W p l e rm_X9_unlikeX s m ([.ref y, .ref a, .ref f, .int (zI x)] : List Value).toArray below meth c H locs 0 0 Q (F0 m 77 ls [])) ((4 - 0 : Int).toNat + 1) 1 0 _ _ (by omega) (by omega) (by unfold same4; constructor <;> intro q9 <;> first | (refine ⟨?_, fun j hj => ?_⟩ <;> omega) | (have q8 := q9.1; omega)) hP hD hS ls hl
        clear hP hD hS hl ls
        intro n9_2
        induction n9_2 with
        | zero =>
          intro v5 v6 H locs hI hM
          exact absurd hM (by omega)
        | succ n9_2 ih2 =>
          intro v5 v6 H locs hI2 hM2 hsm hP hD hS ls hl
          refine lv_iload hx hb dX9_unlike_77 (lv_at hl 0 rfl) ?_
          refine lv_iconst (v := zI 4) hx hb dX9_unlike_79 rfl ?_
          refine rz_icmp_ge (tgt := 118) F (by omega) (by omega) dX9_unlike_80 (by decide) (fun h80_25 => ?_) (fun h80_25 => ?_)
          · refine lv_iload hx hb dX9_unlike_118 (lv_at hl 1 rfl) ?_
            have hsq : v5 = 1 ↔ eqI g_p g_q x v4 := by have q8 := hsm; rw [show v6 = 4 by omega] at q8; exact q8.trans (same4_eq hp12.1.1 hp15.1.1 hrn13 hrn16)
            refine rz_if_ne (tgt := 126) F (by omega) dX9_unlike_120 (by decide) (fun h120_26 => ?_) (fun h120_26 => ?_)
            · refine lv_iinc (v := zI (v4 + 1)) (lv' := [(4, .int (zI (v4 + 1))), (6, .int (zI v6)), (5, .int (zI v5)), (0, .ref y), (1, .ref a), (2, .ref f), (3, .int (zI x))]) hx hb dX9_unlike_126 hl (k := 2) rfl (zI_add _ _) (by decide) rfl (fun ls hl => ?_)
              refine lv_goto (tgt := 3) hx hb dX9_unlike_129 (by decide) ?_
              have hP := bw_subP (isC := [0, 1, 3, 2, 4]) (wc := [(y, .inr (9, [.int (zI (i 0)), .ref (q 0), .int (zI (i 1)), .int (zI (i 2)), .int (zI (i 3)), .int (zI (i 4)), .int (zI (i 5)), .int (zI (i 6)), .int (zI (i 7)), .int (zI (i 8)), .int (zI (i 9)), .int (zI (i 10)), .ref (q 1), .int (zI (i 11)), .int (zI (i 12)), .ref (q 2), .ref (q 3), .ref (q 4), .ref (q 5), .ref (q 6), .ref (q 7), .ref (q 8), .ref (q 9), .ref (q 10), .ref (q 11), .ref (q 12), .ref (q 13), .ref (q 14), .ref (q 15), .ref (q 16), .int (zI (i 13)), .int (zI (i 14)), .int (zI (i 15)), .int (zI (i 16)), .int (zI (i 17)), .int (zI (i 18)), .ref (q 17), .ref (q 18), .ref (q 19), .ref (q 20)])), (a, .inl (cI, 200, .inl (fun k => zI (g_p k)))), (f, .inl (cI, 200, .inl (fun k => zI (g_q k)))), ((q 14), .inl (cI, 159, .inl (fun k => zI (((u11 1).2 0) k)))), ((q 15), .inl (cI, 159, .inl (fun k => zI (((u14 1).2 0) k))))]) hP rfl
              have hD := hD.sub (ws' := [(y, .inr (9, [.int (zI (i 0)), .ref (q 0), .int (zI (i 1)), .int (zI (i 2)), .int (zI (i 3)), .int (zI (i 4)), .int (zI (i 5)), .int (zI (i 6)), .int (zI (i 7)), .int (zI (i 8)), .int (zI (i 9)), .int (zI (i 10)), .ref (q 1), .int (zI (i 11)), .int (zI (i 12)), .ref (q 2), .ref (q 3), .ref (q 4), .ref (q 5), .ref (q 6), .ref (q 7), .ref (q 8), .ref (q 9), .ref (q 10), .ref (q 11), .ref (q 12), .ref (q 13), .ref (q 14), .ref (q 15), .ref (q 16), .int (zI (i 13)), .int (zI (i 14)), .int (zI (i 15)), .int (zI (i 16)), .int (zI (i 17)), .int (zI (i 18)), .ref (q 17), .ref (q 18), .ref (q 19), .ref (q 20)])), (a, .inl (cI, 200, .inl (fun k => zI (g_p k)))), (f, .inl (cI, 200, .inl (fun k => zI (g_q k)))), ((q 14), .inl (cI, 159, .inl (fun k => zI (((u11 1).2 0) k)))), ((q 15), .inl (cI, 159, .inl (fun k => zI (((u14 1).2 0) k))))]) [0, 1, 3, 2, 4] (by decide) rfl
              exact ih1 (v4 + 1) ((u11 1).2 0) ((u14 1).2 0) _ _ (by omega) (by omega) (upto_step hul (hsq.mp (by omega))) hP hD hS ls (lv_sub hl [0, 3, 4, 5, 6] rfl)
            · refine lv_iload hx hb dX9_unlike_123 (lv_at hl 2 rfl) ?_
              exact ret (zI v4) (fun k => [((fun _ => 0), fun _ _ => 0), (fun _ => 0, fun _ => ((u11 1).2 0)), (fun _ => 0, fun _ => ((u14 1).2 0))].getD k (fun _ => 0, fun _ _ => 0)) _ _ _ _ _ _ rfl ⟨v4, rfl, (show Unl g_p g_q x v4 from Or.inr ⟨⟨by omega, by have q8 := inZ_eq x; omega⟩, hul, fun q9 => absurd (hsq.mpr q9) (by omega)⟩)⟩ (bw_subP (isC := [0, 1, 3, 2, 4]) hP rfl) (hD.sub [0, 1, 3, 2, 4] (by decide) rfl) hS (Nat.le_of_ble_eq_true rfl) (Nat.le_of_ble_eq_true rfl) dX9_unlike_125
          · refine lv_iload hx hb dX9_unlike_83 (lv_at hl 1 rfl) ?_
            refine rz_if_eq (tgt := 109) F (by omega) dX9_unlike_85 (by decide) (fun h85_27 => ?_) (fun h85_27 => ?_)
            · refine lv_iconst (v := zI 0) hx hb dX9_unlike_109 rfl ?_
              refine lv_istore (lv' := [(5, .int (zI 0)), (6, .int (zI v6)), (4, .int (zI v4)), (0, .ref y), (1, .ref a), (2, .ref f), (3, .int (zI x))]) hx hb dX9_unlike_110 hl (by decide) rfl (fun ls hl => ?_)
              refine lv_iinc (v := zI (v6 + 1)) (lv' := [(6, .int (zI (v6 + 1))), (5, .int (zI 0)), (4, .int (zI v4)), (0, .ref y), (1, .ref a), (2, .ref f), (3, .int (zI x))]) hx hb dX9_unlike_112 hl (k := 1) rfl (zI_add _ _) (by decide) rfl (fun ls hl => ?_)
              refine lv_goto (tgt := 77) hx hb dX9_unlike_115 (by decide) ?_
              exact ih2 0 (v6 + 1) _ _ (by omega) (by omega) (same4_step (by omega) hsm (by constructor <;> intro q9 <;> first | (refine ⟨?_, ?_⟩ <;> omega) | (have q8 := q9.1; have q7 := q9.2; omega))) hP hD hS ls (lv_sub hl [0, 1, 2, 3, 4, 5, 6] rfl)
            · refine lv_aload_n hx hb dX9_unlike_88 rfl (lv_at hl 3 rfl) ?_
              have hc29 := hp12.1.1.1 (v6).toNat (by omega)
              have hc30 := hp15.1.1.1 (v6).toNat (by omega)
              refine r_get F hK hP 0 27 rfl rfl in_X9 (by decide) k_1190 rfl dX9_unlike_89 ?_
              refine lv_iload hx hb dX9_unlike_92 (lv_at hl 0 rfl) ?_
              refine rz_iald F hK hP 2 0 rfl rfl (by omega) (by omega) dX9_unlike_94 ?_
              refine lv_aload_n hx hb dX9_unlike_95 rfl (lv_at hl 3 rfl) ?_
              refine r_get F hK hP 0 28 rfl rfl in_X9 (by decide) k_1191 rfl dX9_unlike_96 ?_
              refine lv_iload hx hb dX9_unlike_99 (lv_at hl 0 rfl) ?_
              refine rz_iald F hK hP 4 0 rfl rfl (by omega) (by omega) dX9_unlike_101 ?_
              refine rz_icmp_ne (tgt := 109) F (by omega) (by omega) dX9_unlike_102 (by decide) (fun h102_30 => ?_) (fun h102_30 => ?_)
              · refine lv_iconst (v := zI 0) hx hb dX9_unlike_109 rfl ?_
                refine lv_istore (lv' := [(5, .int (zI 0)), (6, .int (zI v6)), (4, .int (zI v4)), (0, .ref y), (1, .ref a), (2, .ref f), (3, .int (zI x))]) hx hb dX9_unlike_110 hl (by decide) rfl (fun ls hl => ?_)
                refine lv_iinc (v := zI (v6 + 1)) (lv' := [(6, .int (zI (v6 + 1))), (5, .int (zI 0)), (4, .int (zI v4)), (0, .ref y), (1, .ref a), (2, .ref f), (3, .int (zI x))]) hx hb dX9_unlike_112 hl (k := 1) rfl (zI_add _ _) (by decide) rfl (fun ls hl => ?_)
                refine lv_goto (tgt := 77) hx hb dX9_unlike_115 (by decide) ?_
                exact ih2 0 (v6 + 1) _ _ (by omega) (by omega) (same4_step (by omega) hsm (by constructor <;> intro q9 <;> first | (refine ⟨?_, ?_⟩ <;> omega) | (have q8 := q9.1; have q7 := q9.2; omega))) hP hD hS ls (lv_sub hl [0, 1, 2, 3, 4, 5, 6] rfl)
              · refine lv_iconst (v := zI 1) hx hb dX9_unlike_105 rfl ?_
                refine lv_goto (tgt := 110) hx hb dX9_unlike_106 (by decide) ?_
                refine lv_istore (lv' := [(5, .int (zI 1)), (6, .int (zI v6)), (4, .int (zI v4)), (0, .ref y), (1, .ref a), (2, .ref f), (3, .int (zI x))]) hx hb dX9_unlike_110 hl (by decide) rfl (fun ls hl => ?_)
                refine lv_iinc (v := zI (v6 + 1)) (lv' := [(6, .int (zI (v6 + 1))), (5, .int (zI 1)), (4, .int (zI v4)), (0, .ref y), (1, .ref a), (2, .ref f), (3, .int (zI x))]) hx hb dX9_unlike_112 hl (k := 1) rfl (zI_add _ _) (by decide) rfl (fun ls hl => ?_)
                refine lv_goto (tgt := 77) hx hb dX9_unlike_115 (by decide) ?_
                exact ih2 1 (v6 + 1) _ _ (by omega) (by omega) (same4_step (by omega) hsm (by constructor <;> intro q9 <;> first | (refine ⟨?_, ?_⟩ <;> omega) | (have q8 := q9.1; have q7 := q9.2; omega))) hP hD hS ls (lv_sub hl [0, 1, 2, 3, 4, 5, 6] rfl)
