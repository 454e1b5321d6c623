abbrev rm_X9_areAlikeX : Room := { frames := 1, cells := 0, slots := 0, locals := 21 }
set_option maxRecDepth 100000 in
set_option maxHeartbeats 8000000 in
theorem c_X9_areAlikeX {l : Launch} {E : (Nat → Prop) → State → Prop} (hO : bw_Ok E) {G : va_G} {cI cB cJ cN cW : ClassId} (y : Nat) (q : Nat → Nat) (i : Nat → Int) (hM : ModOk i) (a : Nat) (g_p : Nat → Int) (x : Int) (w : Int) (hx9 : zR x) (hw9 : zR w) (hp : ProgOk g_p) (hx8 : 0 ≤ x ∧ x < 10) (hw8 : 0 ≤ w ∧ w < 10) : bw_Ci (S := zV) l yX9_areAlike (bw_ws (Cond.code yX9_areAlike cX9_areAlike 7 (some .boolean))) rm_X9_areAlikeX E G (bw_kt cI cB cJ cN cW) [.ref y, .ref a, .int (zI x), .int (zI w)] [(y, .inr (9, [.int (zI (i 0)), .ref (q 0), .int (zI (i 1)), .int (zI (i 2)), .int (zI (i 3)), .int (zI (i 4)), .int (zI (i 5)), .int (zI (i 6)), .int (zI (i 7)), .int (zI (i 8)), .int (zI (i 9)), .int (zI (i 10)), .ref (q 1), .int (zI (i 11)), .int (zI (i 12)), .ref (q 2), .ref (q 3), .ref (q 4), .ref (q 5), .ref (q 6), .ref (q 7), .ref (q 8), .ref (q 9), .ref (q 10), .ref (q 11), .ref (q 12), .ref (q 13), .ref (q 14), .ref (q 15), .ref (q 16), .int (zI (i 13)), .int (zI (i 14)), .int (zI (i 15)), .int (zI (i 16)), .int (zI (i 17)), .int (zI (i 18)), .ref (q 17), .ref (q 18), .ref (q 19), .ref (q 20)])), (a, .inl (cI, 200, .inl (fun k => zI (g_p k))))] (fun r u => ∃ z : Int, r = zI z ∧ ((0 ≤ z ∧ z ≤ 1) ∧ (z = 1 ↔ Alk g_p x w))) (fun u => [(y, .inr (9, [.int (zI (i 0)), .ref (q 0), .int (zI (i 1)), .int (zI (i 2)), .int (zI (i 3)), .int (zI (i 4)), .int (zI (i 5)), .int (zI (i 6)), .int (zI (i 7)), .int (zI (i 8)), .int (zI (i 9)), .int (zI (i 10)), .ref (q 1), .int (zI (i 11)), .int (zI (i 12)), .ref (q 2), .ref (q 3), .ref (q 4), .ref (q 5), .ref (q 6), .ref (q 7), .ref (q 8), .ref (q 9), .ref (q 10), .ref (q 11), .ref (q 12), .ref (q 13), .ref (q 14), .ref (q 15), .ref (q 16), .int (zI (i 13)), .int (zI (i 14)), .int (zI (i 15)), .int (zI (i 16)), .int (zI (i 17)), .int (zI (i 18)), .ref (q 17), .ref (q 18), .ref (q 19), .ref (q 20)])), (a, .inl (cI, 200, .inl (fun k => zI (g_p k))))]) := by
  refine bw_Ci.of (cc := cX9_areAlike) (maxL := 7) (ty := .boolean) (by decide) rfl (Nat.le_of_ble_eq_true rfl) ?_
  intro p e s m below meth c A Q hx hb hml hts hown hin hK hA hS hP hD hE ret ls hl
  have F : CallFix p m c cX9_areAlike 7 s ([.ref y, .ref a, .int (zI x), .int (zI w)] : List Value).toArray bw_T RX9 := ⟨hx, hb, hml, hown, fun w h => hts w (List.mem_cons_of_mem _ h)⟩
  replace hl : lv_has ls 7 [(0, .ref y), (1, .ref a), (2, .int (zI x)), (3, .int (zI w))] := hl
  have hf1 := hM.1
  refine lv_aload_n hx hb dX9_areAlike_0 rfl (lv_at hl 1 rfl) ?_
  refine lv_iload_n hx hb dX9_areAlike_1 rfl (lv_at hl 2 rfl) ?_
  refine r_callSi (As := [.ref a, .int (zI x)]) (rest := []) (wr := [(y, .inr (9, [.int (zI (i 0)), .ref (q 0), .int (zI (i 1)), .int (zI (i 2)), .int (zI (i 3)), .int (zI (i 4)), .int (zI (i 5)), .int (zI (i 6)), .int (zI (i 7)), .int (zI (i 8)), .int (zI (i 9)), .int (zI (i 10)), .ref (q 1), .int (zI (i 11)), .int (zI (i 12)), .ref (q 2), .ref (q 3), .ref (q 4), .ref (q 5), .ref (q 6), .ref (q 7), .ref (q 8), .ref (q 9), .ref (q 10), .ref (q 11), .ref (q 12), .ref (q 13), .ref (q 14), .ref (q 15), .ref (q 16), .int (zI (i 13)), .int (zI (i 14)), .int (zI (i 15)), .int (zI (i 16)), .int (zI (i 17)), .int (zI (i 18)), .ref (q 17), .ref (q 18), .ref (q 19), .ref (q 20)]))]) F hK hP hD hS hA hO hE (c_X9_isToldX hO a g_p x (by omega) hp (by omega)) k_1424 ks_X9_isTold 2 rfl (by decide +kernel) ⟨Nat.le_of_ble_eq_true rfl, Nat.le_of_ble_eq_true rfl⟩ [1] [0] rfl rfl (by decide) (by decide) (by decide) hl.1 rfl (Nat.le_of_ble_eq_true rfl) dX9_areAlike_2 ⟨Nat.le_of_ble_eq_true rfl, Nat.le_of_ble_eq_true rfl⟩ (w1 := fun u2 => [(y, .inr (9, [.int (zI (i 0)), .ref (q 0), .int (zI (i 1)), .int (zI (i 2)), .int (zI (i 3)), .int (zI (i 4)), .int (zI (i 5)), .int (zI (i 6)), .int (zI (i 7)), .int (zI (i 8)), .int (zI (i 9)), .int (zI (i 10)), .ref (q 1), .int (zI (i 11)), .int (zI (i 12)), .ref (q 2), .ref (q 3), .ref (q 4), .ref (q 5), .ref (q 6), .ref (q 7), .ref (q 8), .ref (q 9), .ref (q 10), .ref (q 11), .ref (q 12), .ref (q 13), .ref (q 14), .ref (q 15), .ref (q 16), .int (zI (i 13)), .int (zI (i 14)), .int (zI (i 15)), .int (zI (i 16)), .int (zI (i 17)), .int (zI (i 18)), .ref (q 17), .ref (q 18), .ref (q 19), .ref (q 20)])), (a, .inl (cI, 200, .inl (fun k => zI (g_p k))))]) (fun _ => rfl) (fun r3 u2 H locs hp4 hP hD hS => ?_)
  obtain ⟨z5, rfl, h_z5⟩ := hp4
  have hit6 : (z5 = 1 → g_p (20 * x + 0).toNat = 1) ∧ (z5 = 0 → g_p (20 * x + 0).toNat ≠ 1) := ⟨h_z5.2.1, h_z5.2.2⟩
  refine rz_ifb_eq (tgt := 16) F (by omega) dX9_areAlike_5 (by decide) (fun h5_6 => ?_) (fun h5_6 => ?_)
  · refine lv_iconst (v := zI 0) hx hb dX9_areAlike_16 rfl ?_
    exact ret (zI 0) (fun k => [((fun _ => 0), fun _ _ => 0)].getD k (fun _ => 0, fun _ _ => 0)) _ _ _ _ _ _ rfl ⟨0, rfl, ⟨by omega, fun q9 => absurd q9 (by decide), fun q9 => by have q8 := q9.1.1; have q7 := q9.1.2; omega⟩⟩ (bw_subP (isC := [0, 1]) hP rfl) (hD.sub [0, 1] (by decide) rfl) hS (Nat.le_of_ble_eq_true rfl) (Nat.le_of_ble_eq_true rfl) dX9_areAlike_17
  · refine lv_aload_n hx hb dX9_areAlike_8 rfl (lv_at hl 1 rfl) ?_
    refine lv_iload_n hx hb dX9_areAlike_9 rfl (lv_at hl 3 rfl) ?_
    refine r_callSi (As := [.ref a, .int (zI w)]) (rest := []) (wr := [(y, .inr (9, [.int (zI (i 0)), .ref (q 0), .int (zI (i 1)), .int (zI (i 2)), .int (zI (i 3)), .int (zI (i 4)), .int (zI (i 5)), .int (zI (i 6)), .int (zI (i 7)), .int (zI (i 8)), .int (zI (i 9)), .int (zI (i 10)), .ref (q 1), .int (zI (i 11)), .int (zI (i 12)), .ref (q 2), .ref (q 3), .ref (q 4), .ref (q 5), .ref (q 6), .ref (q 7), .ref (q 8), .ref (q 9), .ref (q 10), .ref (q 11), .ref (q 12), .ref (q 13), .ref (q 14), .ref (q 15), .ref (q 16), .int (zI (i 13)), .int (zI (i 14)), .int (zI (i 15)), .int (zI (i 16)), .int (zI (i 17)), .int (zI (i 18)), .ref (q 17), .ref (q 18), .ref (q 19), .ref (q 20)]))]) F hK hP hD hS hA hO hE (c_X9_isToldX hO a g_p w (by omega) hp (by omega)) k_1424 ks_X9_isTold 2 rfl (by decide +kernel) ⟨Nat.le_of_ble_eq_true rfl, Nat.le_of_ble_eq_true rfl⟩ [1] [0] rfl rfl (by decide) (by decide) (by decide) hl.1 rfl (Nat.le_of_ble_eq_true rfl) dX9_areAlike_10 ⟨Nat.le_of_ble_eq_true rfl, Nat.le_of_ble_eq_true rfl⟩ (w1 := fun u8 => [(y, .inr (9, [.int (zI (i 0)), .ref (q 0), .int (zI (i 1)), .int (zI (i 2)), .int (zI (i 3)), .int (zI (i 4)), .int (zI (i 5)), .int (zI (i 6)), .int (zI (i 7)), .int (zI (i 8)), .int (zI (i 9)), .int (zI (i 10)), .ref (q 1), .int (zI (i 11)), .int (zI (i 12)), .ref (q 2), .ref (q 3), .ref (q 4), .ref (q 5), .ref (q 6), .ref (q 7), .ref (q 8), .ref (q 9), .ref (q 10), .ref (q 11), .ref (q 12), .ref (q 13), .ref (q 14), .ref (q 15), .ref (q 16), .int (zI (i 13)), .int (zI (i 14)), .int (zI (i 15)), .int (zI (i 16)), .int (zI (i 17)), .int (zI (i 18)), .ref (q 17), .ref (q 18), .ref (q 19), .ref (q 20)])), (a, .inl (cI, 200, .inl (fun k => zI (g_p k))))]) (fun _ => rfl) (fun r9 u8 H locs hp10 hP hD hS => ?_)
    obtain ⟨z11, rfl, h_z11⟩ := hp10
    have hit12 : (z11 = 1 → g_p (20 * w + 0).toNat = 1) ∧ (z11 = 0 → g_p (20 * w + 0).toNat ≠ 1) := ⟨h_z11.2.1, h_z11.2.2⟩
    refine rz_ifb_ne (tgt := 18) F (by omega) dX9_areAlike_13 (by decide) (fun h13_12 => ?_) (fun h13_12 => ?_)
    · refine lv_iconst (v := zI 1) hx hb dX9_areAlike_18 rfl ?_
      refine lv_istore (lv' := [(4, .int (zI 1)), (0, .ref y), (1, .ref a), (2, .int (zI x)), (3, .int (zI w))]) hx hb dX9_areAlike_19 hl (by decide) rfl (fun ls hl => ?_)
      refine lv_iconst (v := zI 1) hx hb dX9_areAlike_21 rfl ?_
      refine lv_istore (lv' := [(5, .int (zI 1)), (4, .int (zI 1)), (0, .ref y), (1, .ref a), (2, .int (zI x)), (3, .int (zI w))]) hx hb dX9_areAlike_22 hl (by decide) rfl (fun ls hl => ?_)
      refine W.widen (k := 0) (n := 0) (Nat.le_of_ble_eq_true rfl) (Nat.le_of_ble_eq_true rfl) ?_
      refine (?_ : ∀ (n9_1 : Nat) (v4 : Int) (v5 : Int) (H : Heap) (locs : List Loc), (0 ≤ v4 ∧ v4 ≤ 1 ∧ 1 ≤ v5 ∧ v5 ≤ 19) → (19 - v5 : Int).toNat < n9_1 → (v4 = 1 ↔ AlkB g_p x w v5) → va_P G vwCl [(y, .inr (9, [.int (zI (i 0)), .ref (q 0), .int (zI (i 1)), .int (zI (i 2)), .int (zI (i 3)), .int (zI (i 4)), .int (zI (i 5)), .int (zI (i 6)), .int (zI (i 7)), .int (zI (i 8)), .int (zI (i 9)), .int (zI (i 10)), .ref (q 1), .int (zI (i 11)), .int (zI (i 12)), .ref (q 2), .ref (q 3), .ref (q 4), .ref (q 5), .ref (q 6), .ref (q 7), .ref (q 8), .ref (q 9), .ref (q 10), .ref (q 11), .ref (q 12), .ref (q 13), .ref (q 14), .ref (q 15), .ref (q 16), .int (zI (i 13)), .int (zI (i 14)), .int (zI (i 15)), .int (zI (i 16)), .int (zI (i 17)), .int (zI (i 18)), .ref (q 17), .ref (q 18), .ref (q 19), .ref (q 20)])), (a, .inl (cI, 200, .inl (fun k => zI (g_p k))))] H → va_D A [(y, .inr (9, [.int (zI (i 0)), .ref (q 0), .int (zI (i 1)), .int (zI (i 2)), .int (zI (i 3)), .int (zI (i 4)), .int (zI (i 5)), .int (zI (i 6)), .int (zI (i 7)), .int (zI (i 8)), .int (zI (i 9)), .int (zI (i 10)), .ref (q 1), .int (zI (i 11)), .int (zI (i 12)), .ref (q 2), .ref (q 3), .ref (q 4), .ref (q 5), .ref (q 6), .ref (q 7), .ref (q 8), .ref (q 9), .ref (q 10), .ref (q 11), .ref (q 12), .ref (q 13), .ref (q 14), .ref (q 15), .ref (q 16), .int (zI (i 13)), .int (zI (i 14)), .int (zI (i 15)), .int (zI (i 16)), .int (zI (i 17)), .int (zI (i 18)), .ref (q 17), .ref (q 18), .ref (q 19), .ref (q 20)])), (a, .inl (cI, 200, .inl (fun k => zI (g_p k))))] → va_S A s.heap H locs → ∀ ls : Array Slot, lv_has ls 7 [(5, .int (zI v5)), (4, .int (zI v4)), (0, .ref y), (1, .ref a), (2, .int (zI x)), (3, .int (zI w))] → W p l e rm_X9_areAlikeX s m ([.ref y, .ref a, .int (zI x), .int (zI w)] : List Value).toArray below meth c H locs 0 0 Q (F0 m 24 ls [])) ((19 - 1 : Int).toNat + 1) 1 1 _ _ (by omega) (by omega) ⟨fun _ k k1 k2 => absurd k1 (by omega), fun _ => rfl⟩ hP hD hS ls hl
      clear hP hD hS hl ls
      intro n9_1
      induction n9_1 with
      | zero =>
        intro v4 v5 H locs hI hM
        exact absurd hM (by omega)
      | succ n9_1 ih1 =>
        intro v4 v5 H locs hI1 hM1 hal hP hD hS ls hl
        refine lv_iload hx hb dX9_areAlike_24 (lv_at hl 0 rfl) ?_
        refine lv_bipush (v := zI 18) hx hb dX9_areAlike_26 (by decide) ?_
        refine rz_icmp_gt (tgt := 177) F (by omega) (by omega) dX9_areAlike_28 (by decide) (fun h28_13 => ?_) (fun h28_13 => ?_)
        · refine lv_iload hx hb dX9_areAlike_177 (lv_at hl 1 rfl) ?_
          exact ret (zI v4) (fun k => [((fun _ => 0), fun _ _ => 0)].getD k (fun _ => 0, fun _ _ => 0)) _ _ _ _ _ _ (zI_nz (by omega)) ⟨v4, rfl, ⟨by omega, by have q8 := hal; rw [show v5 = 19 by omega] at q8; exact ⟨fun q9 => ⟨⟨by omega, by omega⟩, q8.mp q9⟩, fun q9 => q8.mpr q9.2⟩⟩⟩ (bw_subP (isC := [0, 1]) hP rfl) (hD.sub [0, 1] (by decide) rfl) hS (Nat.le_of_ble_eq_true rfl) (Nat.le_of_ble_eq_true rfl) dX9_areAlike_179
        · have j_131 : ∀ (zj131_0 : Int) (H : Heap) (locs : List Loc), ((0 ≤ zj131_0 ∧ zj131_0 ≤ 1) ∧ (zj131_0 = 1 ↔ (v5 < 2 ∨ (2 ≤ v5 ∧ v5 < 14 ∧ v5 - 2 < 3 * g_p ((20 * x) + 1).toNat) ∨ v5 = 14 ∨ ((v5 = 15 ∨ v5 = 18) ∧ g_p ((20 * x) + 14).toNat = 2) ∨ (v5 = 16 ∧ 0 < g_p ((20 * x) + 14).toNat)))) → va_P G vwCl [(y, .inr (9, [.int (zI (i 0)), .ref (q 0), .int (zI (i 1)), .int (zI (i 2)), .int (zI (i 3)), .int (zI (i 4)), .int (zI (i 5)), .int (zI (i 6)), .int (zI (i 7)), .int (zI (i 8)), .int (zI (i 9)), .int (zI (i 10)), .ref (q 1), .int (zI (i 11)), .int (zI (i 12)), .ref (q 2), .ref (q 3), .ref (q 4), .ref (q 5), .ref (q 6), .ref (q 7), .ref (q 8), .ref (q 9), .ref (q 10), .ref (q 11), .ref (q 12), .ref (q 13), .ref (q 14), .ref (q 15), .ref (q 16), .int (zI (i 13)), .int (zI (i 14)), .int (zI (i 15)), .int (zI (i 16)), .int (zI (i 17)), .int (zI (i 18)), .ref (q 17), .ref (q 18), .ref (q 19), .ref (q 20)])), (a, .inl (cI, 200, .inl (fun k => zI (g_p k))))] H → va_D A [(y, .inr (9, [.int (zI (i 0)), .ref (q 0), .int (zI (i 1)), .int (zI (i 2)), .int (zI (i 3)), .int (zI (i 4)), .int (zI (i 5)), .int (zI (i 6)), .int (zI (i 7)), .int (zI (i 8)), .int (zI (i 9)), .int (zI (i 10)), .ref (q 1), .int (zI (i 11)), .int (zI (i 12)), .ref (q 2), .ref (q 3), .ref (q 4), .ref (q 5), .ref (q 6), .ref (q 7), .ref (q 8), .ref (q 9), .ref (q 10), .ref (q 11), .ref (q 12), .ref (q 13), .ref (q 14), .ref (q 15), .ref (q 16), .int (zI (i 13)), .int (zI (i 14)), .int (zI (i 15)), .int (zI (i 16)), .int (zI (i 17)), .int (zI (i 18)), .ref (q 17), .ref (q 18), .ref (q 19), .ref (q 20)])), (a, .inl (cI, 200, .inl (fun k => zI (g_p k))))] → va_S A s.heap H locs → ∀ ls : Array Slot, lv_has ls 7 [(5, .int (zI v5)), (4, .int (zI v4)), (0, .ref y), (1, .ref a), (2, .int (zI x)), (3, .int (zI w))] → W p l e rm_X9_areAlikeX s m ([.ref y, .ref a, .int (zI x), .int (zI w)] : List Value).toArray below meth c H locs 0 0 Q (F0 m 131 ls [.int (zI zj131_0)]) := by
            intro zj131_0 H locs hJ131  hP hD hS ls hl
            refine lv_istore (lv' := [(6, .int (zI zj131_0)), (5, .int (zI v5)), (4, .int (zI v4)), (0, .ref y), (1, .ref a), (2, .int (zI x)), (3, .int (zI w))]) hx hb dX9_areAlike_131 hl (by decide) rfl (fun ls hl => ?_)
            refine lv_iload hx hb dX9_areAlike_133 (lv_at hl 2 rfl) ?_
            refine rz_if_eq (tgt := 168) F (by omega) dX9_areAlike_135 (by decide) (fun h135_14 => ?_) (fun h135_14 => ?_)
            · refine lv_iconst (v := zI 0) hx hb dX9_areAlike_168 rfl ?_
              refine lv_istore (lv' := [(4, .int (zI 0)), (6, .int (zI zj131_0)), (5, .int (zI v5)), (0, .ref y), (1, .ref a), (2, .int (zI x)), (3, .int (zI w))]) hx hb dX9_areAlike_169 hl (by decide) rfl (fun ls hl => ?_)
              refine lv_iinc (v := zI (v5 + 1)) (lv' := [(5, .int (zI (v5 + 1))), (4, .int (zI 0)), (6, .int (zI zj131_0)), (0, .ref y), (1, .ref a), (2, .int (zI x)), (3, .int (zI w))]) hx hb dX9_areAlike_171 hl (k := 2) rfl (zI_add _ _) (by decide) rfl (fun ls hl => ?_)
              refine lv_goto (tgt := 24) hx hb dX9_areAlike_174 (by decide) ?_
              exact ih1 0 (v5 + 1) _ _ (by omega) (by omega) (alk_step (by omega) hal (by first | exact ⟨fun q9 => absurd q9 (by decide), fun q9 => absurd q9.1 (by omega)⟩ | exact ⟨fun _ => ⟨by omega, fun q9 => absurd (hJ131.2.mpr q9) (by omega)⟩, fun _ => rfl⟩ | exact ⟨fun _ => ⟨by omega, fun _ => by omega⟩, fun _ => rfl⟩ | exact ⟨fun q9 => absurd q9 (by decide), fun q9 => absurd (q9.2 (hJ131.2.mp (by omega))) (by omega)⟩)) hP hD hS ls (lv_sub hl [0, 1, 3, 4, 5, 6] rfl)
            · refine lv_iload hx hb dX9_areAlike_138 (lv_at hl 0 rfl) ?_
              refine rz_if_eq (tgt := 164) F (by omega) dX9_areAlike_140 (by decide) (fun h140_15 => ?_) (fun h140_15 => ?_)
              · refine lv_iconst (v := zI 1) hx hb dX9_areAlike_164 rfl ?_
                refine lv_goto (tgt := 169) hx hb dX9_areAlike_165 (by decide) ?_
                refine lv_istore (lv' := [(4, .int (zI 1)), (6, .int (zI zj131_0)), (5, .int (zI v5)), (0, .ref y), (1, .ref a), (2, .int (zI x)), (3, .int (zI w))]) hx hb dX9_areAlike_169 hl (by decide) rfl (fun ls hl => ?_)
                refine lv_iinc (v := zI (v5 + 1)) (lv' := [(5, .int (zI (v5 + 1))), (4, .int (zI 1)), (6, .int (zI zj131_0)), (0, .ref y), (1, .ref a), (2, .int (zI x)), (3, .int (zI w))]) hx hb dX9_areAlike_171 hl (k := 2) rfl (zI_add _ _) (by decide) rfl (fun ls hl => ?_)
                refine lv_goto (tgt := 24) hx hb dX9_areAlike_174 (by decide) ?_
                exact ih1 1 (v5 + 1) _ _ (by omega) (by omega) (alk_step (by omega) hal (by first | exact ⟨fun q9 => absurd q9 (by decide), fun q9 => absurd q9.1 (by omega)⟩ | exact ⟨fun _ => ⟨by omega, fun q9 => absurd (hJ131.2.mpr q9) (by omega)⟩, fun _ => rfl⟩ | exact ⟨fun _ => ⟨by omega, fun _ => by omega⟩, fun _ => rfl⟩ | exact ⟨fun q9 => absurd q9 (by decide), fun q9 => absurd (q9.2 (hJ131.2.mp (by omega))) (by omega)⟩)) hP hD hS ls (lv_sub hl [0, 1, 3, 4, 5, 6] rfl)
              · refine lv_aload_n hx hb dX9_areAlike_143 rfl (lv_at hl 4 rfl) ?_
                refine lv_bipush (v := zI 20) hx hb dX9_areAlike_144 (by decide) ?_
                refine lv_iload_n hx hb dX9_areAlike_146 rfl (lv_at hl 5 rfl) ?_
                refine r_imul (v := zI (20 * x)) F dX9_areAlike_147 (zI_mul _ _) ?_
                refine lv_iload hx hb dX9_areAlike_148 (lv_at hl 1 rfl) ?_
                refine r_iadd (v := zI ((20 * x) + v5)) F dX9_areAlike_150 (zI_add _ _) ?_
                refine rz_iald F hK hP 1 0 rfl rfl (by omega) (by omega) dX9_areAlike_151 ?_
                have hc17 := hp.1.pos (((20 * x) + v5)).toNat (by omega)
                have hc18 := hp.1.le9 (((20 * x) + v5)).toNat (by omega)
                refine lv_aload_n hx hb dX9_areAlike_152 rfl (lv_at hl 4 rfl) ?_
                refine lv_bipush (v := zI 20) hx hb dX9_areAlike_153 (by decide) ?_
                refine lv_iload_n hx hb dX9_areAlike_155 rfl (lv_at hl 6 rfl) ?_
                refine r_imul (v := zI (20 * w)) F dX9_areAlike_156 (zI_mul _ _) ?_
                refine lv_iload hx hb dX9_areAlike_157 (lv_at hl 1 rfl) ?_
                refine r_iadd (v := zI ((20 * w) + v5)) F dX9_areAlike_159 (zI_add _ _) ?_
                refine rz_iald F hK hP 1 0 rfl rfl (by omega) (by omega) dX9_areAlike_160 ?_
                have hc19 := hp.1.pos (((20 * w) + v5)).toNat (by omega)
                have hc20 := hp.1.le9 (((20 * w) + v5)).toNat (by omega)
                refine rz_icmp_ne (tgt := 168) F (by omega) (by omega) dX9_areAlike_161 (by decide) (fun h161_20 => ?_) (fun h161_20 => ?_)
                · refine lv_iconst (v := zI 0) hx hb dX9_areAlike_168 rfl ?_
                  refine lv_istore (lv' := [(4, .int (zI 0)), (6, .int (zI zj131_0)), (5, .int (zI v5)), (0, .ref y), (1, .ref a), (2, .int (zI x)), (3, .int (zI w))]) hx hb dX9_areAlike_169 hl (by decide) rfl (fun ls hl => ?_)
                  refine lv_iinc (v := zI (v5 + 1)) (lv' := [(5, .int (zI (v5 + 1))), (4, .int (zI 0)), (6, .int (zI zj131_0)), (0, .ref y), (1, .ref a), (2, .int (zI x)), (3, .int (zI w))]) hx hb dX9_areAlike_171 hl (k := 2) rfl (zI_add _ _) (by decide) rfl (fun ls hl => ?_)
                  refine lv_goto (tgt := 24) hx hb dX9_areAlike_174 (by decide) ?_
                  exact ih1 0 (v5 + 1) _ _ (by omega) (by omega) (alk_step (by omega) hal (by first | exact ⟨fun q9 => absurd q9 (by decide), fun q9 => absurd q9.1 (by omega)⟩ | exact ⟨fun _ => ⟨by omega, fun q9 => absurd (hJ131.2.mpr q9) (by omega)⟩, fun _ => rfl⟩ | exact ⟨fun _ => ⟨by omega, fun _ => by omega⟩, fun _ => rfl⟩ | exact ⟨fun q9 => absurd q9 (by decide), fun q9 => absurd (q9.2 (hJ131.2.mp (by omega))) (by omega)⟩)) hP hD hS ls (lv_sub hl [0, 1, 3, 4, 5, 6] rfl)
                · refine lv_iconst (v := zI 1) hx hb dX9_areAlike_164 rfl ?_
                  refine lv_goto (tgt := 169) hx hb dX9_areAlike_165 (by decide) ?_
                  refine lv_istore (lv' := [(4, .int (zI 1)), (6, .int (zI zj131_0)), (5, .int (zI v5)), (0, .ref y), (1, .ref a), (2, .int (zI x)), (3, .int (zI w))]) hx hb dX9_areAlike_169 hl (by decide) rfl (fun ls hl => ?_)
                  refine lv_iinc (v := zI (v5 + 1)) (lv' := [(5, .int (zI (v5 + 1))), (4, .int (zI 1)), (6, .int (zI zj131_0)), (0, .ref y), (1, .ref a), (2, .int (zI x)), (3, .int (zI w))]) hx hb dX9_areAlike_171 hl (k := 2) rfl (zI_add _ _) (by decide) rfl (fun ls hl => ?_)
                  refine lv_goto (tgt := 24) hx hb dX9_areAlike_174 (by decide) ?_
                  exact ih1 1 (v5 + 1) _ _ (by omega) (by omega) (alk_step (by omega) hal (by first | exact ⟨fun q9 => absurd q9 (by decide), fun q9 => absurd q9.1 (by omega)⟩ | exact ⟨fun _ => ⟨by omega, fun q9 => absurd (hJ131.2.mpr q9) (by omega)⟩, fun _ => rfl⟩ | exact ⟨fun _ => ⟨by omega, fun _ => by omega⟩, fun _ => rfl⟩ | exact ⟨fun q9 => absurd q9 (by decide), fun q9 => absurd (q9.2 (hJ131.2.mp (by omega))) (by omega)⟩)) hP hD hS ls (lv_sub hl [0, 1, 3, 4, 5, 6] rfl)
          refine lv_iload hx hb dX9_areAlike_31 (lv_at hl 0 rfl) ?_
          refine lv_iconst (v := zI 2) hx hb dX9_areAlike_33 rfl ?_
          refine rz_icmp_ge (tgt := 41) F (by omega) (by omega) dX9_areAlike_34 (by decide) (fun h34_21 => ?_) (fun h34_21 => ?_)
          · refine lv_iload hx hb dX9_areAlike_41 (lv_at hl 0 rfl) ?_
            refine lv_bipush (v := zI 14) hx hb dX9_areAlike_43 (by decide) ?_
            refine rz_icmp_ge (tgt := 73) F (by omega) (by omega) dX9_areAlike_45 (by decide) (fun h45_22 => ?_) (fun h45_22 => ?_)
            · refine lv_iload hx hb dX9_areAlike_73 (lv_at hl 0 rfl) ?_
              refine lv_bipush (v := zI 14) hx hb dX9_areAlike_75 (by decide) ?_
              refine rz_icmp_eq (tgt := 126) F (by omega) (by omega) dX9_areAlike_77 (by decide) (fun h77_23 => ?_) (fun h77_23 => ?_)
              · refine lv_iconst (v := zI 1) hx hb dX9_areAlike_126 rfl ?_
                refine lv_goto (tgt := 131) hx hb dX9_areAlike_127 (by decide) ?_
                exact j_131 1 _ _ (by omega) hP hD hS ls (lv_sub hl [0, 1, 2, 3, 4, 5] rfl)
              · refine lv_iload hx hb dX9_areAlike_80 (lv_at hl 0 rfl) ?_
                refine lv_bipush (v := zI 15) hx hb dX9_areAlike_82 (by decide) ?_
                refine rz_icmp_eq (tgt := 94) F (by omega) (by omega) dX9_areAlike_84 (by decide) (fun h84_24 => ?_) (fun h84_24 => ?_)
                · refine lv_aload_n hx hb dX9_areAlike_94 rfl (lv_at hl 3 rfl) ?_
                  refine lv_bipush (v := zI 20) hx hb dX9_areAlike_95 (by decide) ?_
                  refine lv_iload_n hx hb dX9_areAlike_97 rfl (lv_at hl 4 rfl) ?_
                  refine r_imul (v := zI (20 * x)) F dX9_areAlike_98 (zI_mul _ _) ?_
                  refine lv_bipush (v := zI 14) hx hb dX9_areAlike_99 (by decide) ?_
                  refine r_iadd (v := zI ((20 * x) + 14)) F dX9_areAlike_101 (zI_add _ _) ?_
                  refine rz_iald F hK hP 1 0 rfl rfl (by omega) (by omega) dX9_areAlike_102 ?_
                  have hpl26 : 0 ≤ (g_p (((20 * x) + 14)).toNat) ∧ (g_p (((20 * x) + 14)).toNat) ≤ 2 := ProgR.at hp.1 (e := ((20 * x) + 14)) x 14 (by omega) (by omega) (by decide) rfl
                  refine lv_iconst (v := zI 2) hx hb dX9_areAlike_103 rfl ?_
                  refine rz_icmp_eq (tgt := 126) F (by omega) (by omega) dX9_areAlike_104 (by decide) (fun h104_26 => ?_) (fun h104_26 => ?_)
                  · refine lv_iconst (v := zI 1) hx hb dX9_areAlike_126 rfl ?_
                    refine lv_goto (tgt := 131) hx hb dX9_areAlike_127 (by decide) ?_
                    exact j_131 1 _ _ (by omega) hP hD hS ls (lv_sub hl [0, 1, 2, 3, 4, 5] rfl)
                  · refine lv_iload hx hb dX9_areAlike_107 (lv_at hl 0 rfl) ?_
                    refine lv_bipush (v := zI 16) hx hb dX9_areAlike_109 (by decide) ?_
                    refine rz_icmp_ne (tgt := 130) F (by omega) (by omega) dX9_areAlike_111 (by decide) (fun h111_27 => ?_) (fun h111_27 => ?_)
                    · refine lv_iconst (v := zI 0) hx hb dX9_areAlike_130 rfl ?_
                      exact j_131 0 _ _ (by omega) hP hD hS ls (lv_sub hl [0, 1, 2, 3, 4, 5] rfl)
                    · refine lv_aload_n hx hb dX9_areAlike_114 rfl (lv_at hl 3 rfl) ?_
                      refine lv_bipush (v := zI 20) hx hb dX9_areAlike_115 (by decide) ?_
                      refine lv_iload_n hx hb dX9_areAlike_117 rfl (lv_at hl 4 rfl) ?_
                      refine r_imul (v := zI (20 * x)) F dX9_areAlike_118 (zI_mul _ _) ?_
                      refine lv_bipush (v := zI 14) hx hb dX9_areAlike_119 (by decide) ?_
                      refine r_iadd (v := zI ((20 * x) + 14)) F dX9_areAlike_121 (zI_add _ _) ?_
                      refine rz_iald F hK hP 1 0 rfl rfl (by omega) (by omega) dX9_areAlike_122 ?_
                      have hpl29 : 0 ≤ (g_p (((20 * x) + 14)).toNat) ∧ (g_p (((20 * x) + 14)).toNat) ≤ 2 := ProgR.at hp.1 (e := ((20 * x) + 14)) x 14 (by omega) (by omega) (by decide) rfl
                      refine rz_if_le (tgt := 130) F (by omega) dX9_areAlike_123 (by decide) (fun h123_29 => ?_) (fun h123_29 => ?_)
                      · refine lv_iconst (v := zI 0) hx hb dX9_areAlike_130 rfl ?_
                        exact j_131 0 _ _ (by omega) hP hD hS ls (lv_sub hl [0, 1, 2, 3, 4, 5] rfl)
                      · refine lv_iconst (v := zI 1) hx hb dX9_areAlike_126 rfl ?_
                        refine lv_goto (tgt := 131) hx hb dX9_areAlike_127 (by decide) ?_
                        exact j_131 1 _ _ (by omega) hP hD hS ls (lv_sub hl [0, 1, 2, 3, 4, 5] rfl)
                · refine lv_iload hx hb dX9_areAlike_87 (lv_at hl 0 rfl) ?_
                  refine lv_bipush (v := zI 18) hx hb dX9_areAlike_89 (by decide) ?_
                  refine rz_icmp_ne (tgt := 107) F (by omega) (by omega) dX9_areAlike_91 (by decide) (fun h91_30 => ?_) (fun h91_30 => ?_)
                  · refine lv_iload hx hb dX9_areAlike_107 (lv_at hl 0 rfl) ?_
                    refine lv_bipush (v := zI 16) hx hb dX9_areAlike_109 (by decide) ?_
                    refine rz_icmp_ne (tgt := 130) F (by omega) (by omega) dX9_areAlike_111 (by decide) (fun h111_31 => ?_) (fun h111_31 => ?_)
                    · refine lv_iconst (v := zI 0) hx hb dX9_areAlike_130 rfl ?_
                      exact j_131 0 _ _ (by omega) hP hD hS ls (lv_sub hl [0, 1, 2, 3, 4, 5] rfl)
                    · refine lv_aload_n hx hb dX9_areAlike_114 rfl (lv_at hl 3 rfl) ?_
                      refine lv_bipush (v := zI 20) hx hb dX9_areAlike_115 (by decide) ?_
                      refine lv_iload_n hx hb dX9_areAlike_117 rfl (lv_at hl 4 rfl) ?_
                      refine r_imul (v := zI (20 * x)) F dX9_areAlike_118 (zI_mul _ _) ?_
                      refine lv_bipush (v := zI 14) hx hb dX9_areAlike_119 (by decide) ?_
                      refine r_iadd (v := zI ((20 * x) + 14)) F dX9_areAlike_121 (zI_add _ _) ?_
                      refine rz_iald F hK hP 1 0 rfl rfl (by omega) (by omega) dX9_areAlike_122 ?_
                      have hpl33 : 0 ≤ (g_p (((20 * x) + 14)).toNat) ∧ (g_p (((20 * x) + 14)).toNat) ≤ 2 := ProgR.at hp.1 (e := ((20 * x) + 14)) x 14 (by omega) (by omega) (by decide) rfl
                      refine rz_if_le (tgt := 130) F (by omega) dX9_areAlike_123 (by decide) (fun h123_33 => ?_) (fun h123_33 => ?_)
                      · refine lv_iconst (v := zI 0) hx hb dX9_areAlike_130 rfl ?_
                        exact j_131 0 _ _ (by omega) hP hD hS ls (lv_sub hl [0, 1, 2, 3, 4, 5] rfl)
                      · refine lv_iconst (v := zI 1) hx hb dX9_areAlike_126 rfl ?_
                        refine lv_goto (tgt := 131) hx hb dX9_areAlike_127 (by decide) ?_
                        exact j_131 1 _ _ (by omega) hP hD hS ls (lv_sub hl [0, 1, 2, 3, 4, 5] rfl)
                  · refine lv_aload_n hx hb dX9_areAlike_94 rfl (lv_at hl 3 rfl) ?_
                    refine lv_bipush (v := zI 20) hx hb dX9_areAlike_95 (by decide) ?_
                    refine lv_iload_n hx hb dX9_areAlike_97 rfl (lv_at hl 4 rfl) ?_
                    refine r_imul (v := zI (20 * x)) F dX9_areAlike_98 (zI_mul _ _) ?_
                    refine lv_bipush (v := zI 14) hx hb dX9_areAlike_99 (by decide) ?_
                    refine r_iadd (v := zI ((20 * x) + 14)) F dX9_areAlike_101 (zI_add _ _) ?_
                    refine rz_iald F hK hP 1 0 rfl rfl (by omega) (by omega) dX9_areAlike_102 ?_
                    have hpl35 : 0 ≤ (g_p (((20 * x) + 14)).toNat) ∧ (g_p (((20 * x) + 14)).toNat) ≤ 2 := ProgR.at hp.1 (e := ((20 * x) + 14)) x 14 (by omega) (by omega) (by decide) rfl
                    refine lv_iconst (v := zI 2) hx hb dX9_areAlike_103 rfl ?_
                    refine rz_icmp_eq (tgt := 126) F (by omega) (by omega) dX9_areAlike_104 (by decide) (fun h104_35 => ?_) (fun h104_35 => ?_)
                    · refine lv_iconst (v := zI 1) hx hb dX9_areAlike_126 rfl ?_
                      refine lv_goto (tgt := 131) hx hb dX9_areAlike_127 (by decide) ?_
                      exact j_131 1 _ _ (by omega) hP hD hS ls (lv_sub hl [0, 1, 2, 3, 4, 5] rfl)
                    · refine lv_iload hx hb dX9_areAlike_107 (lv_at hl 0 rfl) ?_
                      refine lv_bipush (v := zI 16) hx hb dX9_areAlike_109 (by decide) ?_
                      refine rz_icmp_ne (tgt := 130) F (by omega) (by omega) dX9_areAlike_111 (by decide) (fun h111_36 => ?_) (fun h111_36 => ?_)
                      · refine lv_iconst (v := zI 0) hx hb dX9_areAlike_130 rfl ?_
                        exact j_131 0 _ _ (by omega) hP hD hS ls (lv_sub hl [0, 1, 2, 3, 4, 5] rfl)
                      · refine lv_aload_n hx hb dX9_areAlike_114 rfl (lv_at hl 3 rfl) ?_
                        refine lv_bipush (v := zI 20) hx hb dX9_areAlike_115 (by decide) ?_
                        refine lv_iload_n hx hb dX9_areAlike_117 rfl (lv_at hl 4 rfl) ?_
                        refine r_imul (v := zI (20 * x)) F dX9_areAlike_118 (zI_mul _ _) ?_
                        refine lv_bipush (v := zI 14) hx hb dX9_areAlike_119 (by decide) ?_
                        refine r_iadd (v := zI ((20 * x) + 14)) F dX9_areAlike_121 (zI_add _ _) ?_
                        refine rz_iald F hK hP 1 0 rfl rfl (by omega) (by omega) dX9_areAlike_122 ?_
                        have hpl38 : 0 ≤ (g_p (((20 * x) + 14)).toNat) ∧ (g_p (((20 * x) + 14)).toNat) ≤ 2 := ProgR.at hp.1 (e := ((20 * x) + 14)) x 14 (by omega) (by omega) (by decide) rfl
                        refine rz_if_le (tgt := 130) F (by omega) dX9_areAlike_123 (by decide) (fun h123_38 => ?_) (fun h123_38 => ?_)
                        · refine lv_iconst (v := zI 0) hx hb dX9_areAlike_130 rfl ?_
                          exact j_131 0 _ _ (by omega) hP hD hS ls (lv_sub hl [0, 1, 2, 3, 4, 5] rfl)
                        · refine lv_iconst (v := zI 1) hx hb dX9_areAlike_126 rfl ?_
                          refine lv_goto (tgt := 131) hx hb dX9_areAlike_127 (by decide) ?_
                          exact j_131 1 _ _ (by omega) hP hD hS ls (lv_sub hl [0, 1, 2, 3, 4, 5] rfl)
            · refine lv_iload hx hb dX9_areAlike_48 (lv_at hl 0 rfl) ?_
              refine lv_iconst (v := zI 2) hx hb dX9_areAlike_50 rfl ?_
              refine r_isub (v := zI (v5 - 2)) F dX9_areAlike_51 (zI_sub _ _) ?_
              refine lv_iconst (v := zI 3) hx hb dX9_areAlike_52 rfl ?_
              refine rz_idiv F (by omega) (by omega) dX9_areAlike_53 (fun z41 h_z41 => ?_)
              obtain ⟨rfl, hd42⟩ := h_z41
              refine lv_aload_n hx hb dX9_areAlike_54 rfl (lv_at hl 3 rfl) ?_
              refine lv_bipush (v := zI 20) hx hb dX9_areAlike_55 (by decide) ?_
              refine lv_iload_n hx hb dX9_areAlike_57 rfl (lv_at hl 4 rfl) ?_
              refine r_imul (v := zI (20 * x)) F dX9_areAlike_58 (zI_mul _ _) ?_
              refine lv_iconst (v := zI 1) hx hb dX9_areAlike_59 rfl ?_
              refine r_iadd (v := zI ((20 * x) + 1)) F dX9_areAlike_60 (zI_add _ _) ?_
              refine rz_iald F hK hP 1 0 rfl rfl (by omega) (by omega) dX9_areAlike_61 ?_
              have hpl43 : 0 ≤ (g_p (((20 * x) + 1)).toNat) ∧ (g_p (((20 * x) + 1)).toNat) ≤ 4 := ProgR.at hp.1 (e := ((20 * x) + 1)) x 1 (by omega) (by omega) (by decide) rfl
              refine rz_icmp_ge (tgt := 69) F (by omega) (by omega) dX9_areAlike_62 (by decide) (fun h62_43 => ?_) (fun h62_43 => ?_)
              · refine lv_iconst (v := zI 0) hx hb dX9_areAlike_69 rfl ?_
                refine lv_goto (tgt := 131) hx hb dX9_areAlike_70 (by decide) ?_
                exact j_131 0 _ _ (by omega) hP hD hS ls (lv_sub hl [0, 1, 2, 3, 4, 5] rfl)
              · refine lv_iconst (v := zI 1) hx hb dX9_areAlike_65 rfl ?_
                refine lv_goto (tgt := 131) hx hb dX9_areAlike_66 (by decide) ?_
                exact j_131 1 _ _ (by omega) hP hD hS ls (lv_sub hl [0, 1, 2, 3, 4, 5] rfl)
          · refine lv_iconst (v := zI 1) hx hb dX9_areAlike_37 rfl ?_
            refine lv_goto (tgt := 131) hx hb dX9_areAlike_38 (by decide) ?_
            exact j_131 1 _ _ (by omega) hP hD hS ls (lv_sub hl [0, 1, 2, 3, 4, 5] rfl)
    · refine lv_iconst (v := zI 0) hx hb dX9_areAlike_16 rfl ?_
      exact ret (zI 0) (fun k => [((fun _ => 0), fun _ _ => 0)].getD k (fun _ => 0, fun _ _ => 0)) _ _ _ _ _ _ rfl ⟨0, rfl, ⟨by omega, fun q9 => absurd q9 (by decide), fun q9 => by have q8 := q9.1.1; have q7 := q9.1.2; omega⟩⟩ (bw_subP (isC := [0, 1]) hP rfl) (hD.sub [0, 1] (by decide) rfl) hS (Nat.le_of_ble_eq_true rfl) (Nat.le_of_ble_eq_true rfl) dX9_areAlike_17
abbrev rm_X9_mergeX : Room := { frames := 1, cells := 0, slots := 0, locals := 23 }
set_option maxRecDepth 100000 in
set_option maxHeartbeats 8000000 in
theorem c_X9_mergeX {l : Launch} {E : (Nat → Prop) → State → Prop} (hO : bw_Ok E) {G : va_G} {cI cB cJ cN cW : ClassId} (y : Nat) (q : Nat → Nat) (i : Nat → Int) (hM : ModOk i) (a : Nat) (g_p : Nat → Int) (f : Nat) (g_q : Nat → Int) (x : Int) (w : Int) (hx9 : zR x) (hw9 : zR w) (hp : ProgOk g_p) (hx8 : 0 ≤ x ∧ x < 10) (hw8 : 0 ≤ w ∧ w < 10) (hxw : x ≠ w) : bw_Cv (S := zV) l yX9_merge (bw_ws (Cond.code yX9_merge cX9_merge 8 none)) rm_X9_mergeX E G (bw_kt cI cB cJ cN cW) [.ref y, .ref a, .int (zI x), .int (zI w), .ref f] [(y, .inr (9, [.int (zI (i 0)), .ref (q 0), .int (zI (i 1)), .int (zI (i 2)), .int (zI (i 3)), .int (zI (i 4)), .int (zI (i 5)), .int (zI (i 6)), .int (zI (i 7)), .int (zI (i 8)), .int (zI (i 9)), .int (zI (i 10)), .ref (q 1), .int (zI (i 11)), .int (zI (i 12)), .ref (q 2), .ref (q 3), .ref (q 4), .ref (q 5), .ref (q 6), .ref (q 7), .ref (q 8), .ref (q 9), .ref (q 10), .ref (q 11), .ref (q 12), .ref (q 13), .ref (q 14), .ref (q 15), .ref (q 16), .int (zI (i 13)), .int (zI (i 14)), .int (zI (i 15)), .int (zI (i 16)), .int (zI (i 17)), .int (zI (i 18)), .ref (q 17), .ref (q 18), .ref (q 19), .ref (q 20)])), (a, .inl (cI, 200, .inl (fun k => zI (g_p k)))), (f, .inl (cI, 200, .inl (fun k => zI (g_q k))))] (fun u => ((ProgOk ((u 1).2 0) ∧ MT g_p ((u 1).2 0) w) ∧ E2 (mergeF g_p x w (i 13)) ((u 1).2 0))) (fun u => [(y, .inr (9, [.int (zI (i 0)), .ref (q 0), .int (zI (i 1)), .int (zI (i 2)), .int (zI (i 3)), .int (zI (i 4)), .int (zI (i 5)), .int (zI (i 6)), .int (zI (i 7)), .int (zI (i 8)), .int (zI (i 9)), .int (zI (i 10)), .ref (q 1), .int (zI (i 11)), .int (zI (i 12)), .ref (q 2), .ref (q 3), .ref (q 4), .ref (q 5), .ref (q 6), .ref (q 7), .ref (q 8), .ref (q 9), .ref (q 10), .ref (q 11), .ref (q 12), .ref (q 13), .ref (q 14), .ref (q 15), .ref (q 16), .int (zI (i 13)), .int (zI (i 14)), .int (zI (i 15)), .int (zI (i 16)), .int (zI (i 17)), .int (zI (i 18)), .ref (q 17), .ref (q 18), .ref (q 19), .ref (q 20)])), (a, .inl (cI, 200, .inl (fun k => zI (g_p k)))), (f, .inl (cI, 200, .inl (fun k => zI (((u 1).2 0) k))))]) := by
  refine bw_Cv.of (cc := cX9_merge) (maxL := 8) (by decide) rfl (Nat.le_of_ble_eq_true rfl) ?_
  intro p e s m below meth c A Q hx hb hml hts hown hin hK hA hS hP hD hE ret ls hl
  have F : CallFix p m c cX9_merge 8 s ([.ref y, .ref a, .int (zI x), .int (zI w), .ref f] : List Value).toArray bw_T RX9 := ⟨hx, hb, hml, hown, fun w h => hts w (List.mem_cons_of_mem _ h)⟩
  replace hl : lv_has ls 8 [(0, .ref y), (1, .ref a), (2, .int (zI x)), (3, .int (zI w)), (4, .ref f)] := hl
  have hf1 := hM.1
  refine lv_aload_n hx hb dX9_merge_0 rfl (lv_at hl 1 rfl) ?_
  refine lv_aload hx hb dX9_merge_1 (lv_at hl 4 rfl) ?_
  refine lv_sipush (v := zI 200) hx hb dX9_merge_3 (by decide) ?_
  refine r_callZv (As := [.ref a, .ref f, .int (zI 200)]) (rest := []) (wr := [(y, .inr (9, [.int (zI (i 0)), .ref (q 0), .int (zI (i 1)), .int (zI (i 2)), .int (zI (i 3)), .int (zI (i 4)), .int (zI (i 5)), .int (zI (i 6)), .int (zI (i 7)), .int (zI (i 8)), .int (zI (i 9)), .int (zI (i 10)), .ref (q 1), .int (zI (i 11)), .int (zI (i 12)), .ref (q 2), .ref (q 3), .ref (q 4), .ref (q 5), .ref (q 6), .ref (q 7), .ref (q 8), .ref (q 9), .ref (q 10), .ref (q 11), .ref (q 12), .ref (q 13), .ref (q 14), .ref (q 15), .ref (q 16), .int (zI (i 13)), .int (zI (i 14)), .int (zI (i 15)), .int (zI (i 16)), .int (zI (i 17)), .int (zI (i 18)), .ref (q 17), .ref (q 18), .ref (q 19), .ref (q 20)]))]) F hK hP hD hS hA hO hE (c_X9_copy200 hO a g_p f g_q 200 (by omega) (by omega)) k_1418 ks_X9_copy 3 rfl (by decide +kernel) ⟨Nat.le_of_ble_eq_true rfl, Nat.le_of_ble_eq_true rfl⟩ [1, 2] [0] rfl rfl (by decide) (by decide) (by decide) hl.1 rfl (Nat.le_of_ble_eq_true rfl) dX9_merge_6 ⟨Nat.le_of_ble_eq_true rfl, Nat.le_of_ble_eq_true rfl⟩ (w1 := fun u2 => [(y, .inr (9, [.int (zI (i 0)), .ref (q 0), .int (zI (i 1)), .int (zI (i 2)), .int (zI (i 3)), .int (zI (i 4)), .int (zI (i 5)), .int (zI (i 6)), .int (zI (i 7)), .int (zI (i 8)), .int (zI (i 9)), .int (zI (i 10)), .ref (q 1), .int (zI (i 11)), .int (zI (i 12)), .ref (q 2), .ref (q 3), .ref (q 4), .ref (q 5), .ref (q 6), .ref (q 7), .ref (q 8), .ref (q 9), .ref (q 10), .ref (q 11), .ref (q 12), .ref (q 13), .ref (q 14), .ref (q 15), .ref (q 16), .int (zI (i 13)), .int (zI (i 14)), .int (zI (i 15)), .int (zI (i 16)), .int (zI (i 17)), .int (zI (i 18)), .ref (q 17), .ref (q 18), .ref (q 19), .ref (q 20)])), (a, .inl (cI, 200, .inl (fun k => zI (g_p k)))), (f, .inl (cI, 200, .inl (fun k => zI (((u2 1).2 0) k))))]) (fun _ => rfl) (fun  u2 H locs hp3 hP hD hS => ?_)
  refine lv_iconst (v := zI 0) hx hb dX9_merge_9 rfl ?_
  refine lv_istore (lv' := [(5, .int (zI 0)), (0, .ref y), (1, .ref a), (2, .int (zI x)), (3, .int (zI w)), (4, .ref f)]) hx hb dX9_merge_10 hl (by decide) rfl (fun ls hl => ?_)
  refine W.widen (k := 0) (n := 0) (Nat.le_of_ble_eq_true rfl) (Nat.le_of_ble_eq_true rfl) ?_
  refine (?_ : ∀ (n9_1 : Nat) (v5 : Int) (gz9 : Nat → Int) (H : Heap) (locs : List Loc), (0 ≤ v5 ∧ v5 ≤ 20) → (20 - v5 : Int).toNat < n9_1 → (∀ k : Nat, k < 200 → gz9 k = if 20 * w ≤ (k : Int) ∧ (k : Int) < 20 * w + v5 then 0 else g_p k) → va_P G vwCl [(y, .inr (9, [.int (zI (i 0)), .ref (q 0), .int (zI (i 1)), .int (zI (i 2)), .int (zI (i 3)), .int (zI (i 4)), .int (zI (i 5)), .int (zI (i 6)), .int (zI (i 7)), .int (zI (i 8)), .int (zI (i 9)), .int (zI (i 10)), .ref (q 1), .int (zI (i 11)), .int (zI (i 12)), .ref (q 2), .ref (q 3), .ref (q 4), .ref (q 5), .ref (q 6), .ref (q 7), .ref (q 8), .ref (q 9), .ref (q 10), .ref (q 11), .ref (q 12), .ref (q 13), .ref (q 14), .ref (q 15), .ref (q 16), .int (zI (i 13)), .int (zI (i 14)), .int (zI (i 15)), .int (zI (i 16)), .int (zI (i 17)), .int (zI (i 18)), .ref (q 17), .ref (q 18), .ref (q 19), .ref (q 20)])), (a, .inl (cI, 200, .inl (fun k => zI (g_p k)))), (f, .inl (cI, 200, .inl (fun k => zI (gz9 k))))] H → va_D A [(y, .inr (9, [.int (zI (i 0)), .ref (q 0), .int (zI (i 1)), .int (zI (i 2)), .int (zI (i 3)), .int (zI (i 4)), .int (zI (i 5)), .int (zI (i 6)), .int (zI (i 7)), .int (zI (i 8)), .int (zI (i 9)), .int (zI (i 10)), .ref (q 1), .int (zI (i 11)), .int (zI (i 12)), .ref (q 2), .ref (q 3), .ref (q 4), .ref (q 5), .ref (q 6), .ref (q 7), .ref (q 8), .ref (q 9), .ref (q 10), .ref (q 11), .ref (q 12), .ref (q 13), .ref (q 14), .ref (q 15), .ref (q 16), .int (zI (i 13)), .int (zI (i 14)), .int (zI (i 15)), .int (zI (i 16)), .int (zI (i 17)), .int (zI (i 18)), .ref (q 17), .ref (q 18), .ref (q 19), .ref (q 20)])), (a, .inl (cI, 200, .inl (fun k => zI (g_p k)))), (f, .inl (cI, 200, .inl (fun k => zI (gz9 k))))] → va_S A s.heap H locs → ∀ ls : Array Slot, lv_has ls 8 [(5, .int (zI v5)), (0, .ref y), (1, .ref a), (2, .int (zI x)), (3, .int (zI w)), (4, .ref f)] → W p l e rm_X9_mergeX s m ([.ref y, .ref a, .int (zI x), .int (zI w), .ref f] : List Value).toArray below meth c H locs 0 0 Q (F0 m 12 ls [])) ((20 - 0 : Int).toNat + 1) 0 ((u2 1).2 0) _ _ (by omega) (by omega) (fun k hk => by rw [if_neg (by omega)]; exact hp3 k (by omega)) hP hD hS ls hl
  clear hP hD hS hl ls
  intro n9_1
  induction n9_1 with
  | zero =>
    intro v5 gz9 H locs hI hM
    exact absurd hM (by omega)
  | succ n9_1 ih1 =>
    intro v5 gz9 H locs hI1 hM1 hz9 hP hD hS ls hl
    refine lv_iload hx hb dX9_merge_12 (lv_at hl 0 rfl) ?_
    refine lv_bipush (v := zI 20) hx hb dX9_merge_14 (by decide) ?_
    refine rz_icmp_ge (tgt := 36) F (by omega) (by omega) dX9_merge_16 (by decide) (fun h16_3 => ?_) (fun h16_3 => ?_)
    · refine lv_aload_n hx hb dX9_merge_36 rfl (lv_at hl 2 rfl) ?_
      refine lv_bipush (v := zI 20) hx hb dX9_merge_37 (by decide) ?_
      have hqp0 : ProgOk gz9 := ProgOk.cleared hp (by omega) (fun k hk => by rw [hz9 k hk, show v5 = 20 by omega])
      have hmt0 : MT g_p gz9 w := MT.of (fun k hk => by rw [hz9 k hk, show v5 = 20 by omega])
      have j_129 : ∀ (gqA : Nat → Int) (H : Heap) (locs : List Loc), ((0 : Int) ≤ 0) → (ProgOk gqA) → (MT g_p gqA w) → (Mst g_p x w (i 13) gqA 0 0) → va_P G vwCl [(y, .inr (9, [.int (zI (i 0)), .ref (q 0), .int (zI (i 1)), .int (zI (i 2)), .int (zI (i 3)), .int (zI (i 4)), .int (zI (i 5)), .int (zI (i 6)), .int (zI (i 7)), .int (zI (i 8)), .int (zI (i 9)), .int (zI (i 10)), .ref (q 1), .int (zI (i 11)), .int (zI (i 12)), .ref (q 2), .ref (q 3), .ref (q 4), .ref (q 5), .ref (q 6), .ref (q 7), .ref (q 8), .ref (q 9), .ref (q 10), .ref (q 11), .ref (q 12), .ref (q 13), .ref (q 14), .ref (q 15), .ref (q 16), .int (zI (i 13)), .int (zI (i 14)), .int (zI (i 15)), .int (zI (i 16)), .int (zI (i 17)), .int (zI (i 18)), .ref (q 17), .ref (q 18), .ref (q 19), .ref (q 20)])), (a, .inl (cI, 200, .inl (fun k => zI (g_p k)))), (f, .inl (cI, 200, .inl (fun k => zI (gqA k))))] H → va_D A [(y, .inr (9, [.int (zI (i 0)), .ref (q 0), .int (zI (i 1)), .int (zI (i 2)), .int (zI (i 3)), .int (zI (i 4)), .int (zI (i 5)), .int (zI (i 6)), .int (zI (i 7)), .int (zI (i 8)), .int (zI (i 9)), .int (zI (i 10)), .ref (q 1), .int (zI (i 11)), .int (zI (i 12)), .ref (q 2), .ref (q 3), .ref (q 4), .ref (q 5), .ref (q 6), .ref (q 7), .ref (q 8), .ref (q 9), .ref (q 10), .ref (q 11), .ref (q 12), .ref (q 13), .ref (q 14), .ref (q 15), .ref (q 16), .int (zI (i 13)), .int (zI (i 14)), .int (zI (i 15)), .int (zI (i 16)), .int (zI (i 17)), .int (zI (i 18)), .ref (q 17), .ref (q 18), .ref (q 19), .ref (q 20)])), (a, .inl (cI, 200, .inl (fun k => zI (g_p k)))), (f, .inl (cI, 200, .inl (fun k => zI (gqA k))))] → va_S A s.heap H locs → ∀ ls : Array Slot, lv_has ls 8 [(5, .int (zI v5)), (0, .ref y), (1, .ref a), (2, .int (zI x)), (3, .int (zI w)), (4, .ref f)] → W p l e rm_X9_mergeX s m ([.ref y, .ref a, .int (zI x), .int (zI w), .ref f] : List Value).toArray below meth c H locs 0 0 Q (F0 m 129 ls []) := by
        intro gqA H locs hJ129 hqpA hmtA hmsA hP hD hS ls hl
        refine lv_iconst (v := zI 0) hx hb dX9_merge_129 rfl ?_
        refine lv_istore (lv' := [(5, .int (zI 0)), (0, .ref y), (1, .ref a), (2, .int (zI x)), (3, .int (zI w)), (4, .ref f)]) hx hb dX9_merge_130 hl (by decide) rfl (fun ls hl => ?_)
        refine W.widen (k := 0) (n := 0) (Nat.le_of_ble_eq_true rfl) (Nat.le_of_ble_eq_true rfl) ?_
        refine (?_ : ∀ (n9_2 : Nat) (v5 : Int) (gq1 : Nat → Int) (H : Heap) (locs : List Loc), (0 ≤ v5 ∧ v5 ≤ 10 ∧ v5 ≤ i 13) → (10 - v5 : Int).toNat < n9_2 → (ProgOk gq1) → (MT g_p gq1 w) → (Mst g_p x w (i 13) gq1 v5 0) → va_P G vwCl [(y, .inr (9, [.int (zI (i 0)), .ref (q 0), .int (zI (i 1)), .int (zI (i 2)), .int (zI (i 3)), .int (zI (i 4)), .int (zI (i 5)), .int (zI (i 6)), .int (zI (i 7)), .int (zI (i 8)), .int (zI (i 9)), .int (zI (i 10)), .ref (q 1), .int (zI (i 11)), .int (zI (i 12)), .ref (q 2), .ref (q 3), .ref (q 4), .ref (q 5), .ref (q 6), .ref (q 7), .ref (q 8), .ref (q 9), .ref (q 10), .ref (q 11), .ref (q 12), .ref (q 13), .ref (q 14), .ref (q 15), .ref (q 16), .int (zI (i 13)), .int (zI (i 14)), .int (zI (i 15)), .int (zI (i 16)), .int (zI (i 17)), .int (zI (i 18)), .ref (q 17), .ref (q 18), .ref (q 19), .ref (q 20)])), (a, .inl (cI, 200, .inl (fun k => zI (g_p k)))), (f, .inl (cI, 200, .inl (fun k => zI (gq1 k))))] H → va_D A [(y, .inr (9, [.int (zI (i 0)), .ref (q 0), .int (zI (i 1)), .int (zI (i 2)), .int (zI (i 3)), .int (zI (i 4)), .int (zI (i 5)), .int (zI (i 6)), .int (zI (i 7)), .int (zI (i 8)), .int (zI (i 9)), .int (zI (i 10)), .ref (q 1), .int (zI (i 11)), .int (zI (i 12)), .ref (q 2), .ref (q 3), .ref (q 4), .ref (q 5), .ref (q 6), .ref (q 7), .ref (q 8), .ref (q 9), .ref (q 10), .ref (q 11), .ref (q 12), .ref (q 13), .ref (q 14), .ref (q 15), .ref (q 16), .int (zI (i 13)), .int (zI (i 14)), .int (zI (i 15)), .int (zI (i 16)), .int (zI (i 17)), .int (zI (i 18)), .ref (q 17), .ref (q 18), .ref (q 19), .ref (q 20)])), (a, .inl (cI, 200, .inl (fun k => zI (g_p k)))), (f, .inl (cI, 200, .inl (fun k => zI (gq1 k))))] → va_S A s.heap H locs → ∀ ls : Array Slot, lv_has ls 8 [(5, .int (zI v5)), (0, .ref y), (1, .ref a), (2, .int (zI x)), (3, .int (zI w)), (4, .ref f)] → W p l e rm_X9_mergeX s m ([.ref y, .ref a, .int (zI x), .int (zI w), .ref f] : List Value).toArray below meth c H locs 0 0 Q (F0 m 132 ls [])) ((10 - 0 : Int).toNat + 1) 0 gqA _ _ (by omega) (by omega) hqpA hmtA hmsA hP hD hS ls hl
        clear hP hD hS hl ls
        intro n9_2
        induction n9_2 with
        | zero =>
          intro v5 gq1 H locs hI hM
          exact absurd hM (by omega)
        | succ n9_2 ih2 =>
          intro v5 gq1 H locs hI2 hM2 hqp1 hmt1 hms1 hP hD hS ls hl
          refine lv_iload hx hb dX9_merge_132 (lv_at hl 0 rfl) ?_
          refine lv_aload_n hx hb dX9_merge_134 rfl (lv_at hl 1 rfl) ?_
          refine r_get F hK hP 0 30 rfl rfl in_X9 (by decide) k_1193 rfl dX9_merge_135 ?_
          refine rz_icmp_ge (tgt := 302) F (by omega) (by omega) dX9_merge_138 (by decide) (fun h138_4 => ?_) (fun h138_4 => ?_)
          · exact ret (fun k => [((fun _ => 0), fun _ _ => 0), (fun _ => 0, fun _ => gq1)].getD k (fun _ => 0, fun _ _ => 0)) _ _ _ _ _ _ ⟨⟨hqp1, hmt1⟩, Mst.all hms1 (Or.inl (by omega)) (by omega)⟩ (bw_subP (isC := [0, 1, 2]) hP rfl) (hD.sub [0, 1, 2] (by decide) rfl) hS (Nat.le_of_ble_eq_true rfl) (Nat.le_of_ble_eq_true rfl) dX9_merge_302
          · refine lv_bipush (v := zI 20) hx hb dX9_merge_141 (by decide) ?_
            refine lv_iload hx hb dX9_merge_143 (lv_at hl 0 rfl) ?_
            refine r_imul (v := zI (20 * v5)) F dX9_merge_145 (zI_mul _ _) ?_
            refine lv_istore (lv' := [(6, .int (zI (20 * v5))), (5, .int (zI v5)), (0, .ref y), (1, .ref a), (2, .int (zI x)), (3, .int (zI w)), (4, .ref f)]) hx hb dX9_merge_146 hl (by decide) rfl (fun ls hl => ?_)
            refine lv_aload hx hb dX9_merge_148 (lv_at hl 6 rfl) ?_
            refine lv_iload hx hb dX9_merge_150 (lv_at hl 0 rfl) ?_
            refine lv_iconst (v := zI 0) hx hb dX9_merge_152 rfl ?_
            refine r_iadd (v := zI ((20 * v5) + 0)) F dX9_merge_153 (zI_add _ _) ?_
            refine rz_iald F hK hP 2 0 rfl rfl (by omega) (by omega) dX9_merge_154 ?_
            have hc6 := hqp1.1.pos (((20 * v5) + 0)).toNat (by omega)
            have hc7 := hqp1.1.le9 (((20 * v5) + 0)).toNat (by omega)
            refine rz_if_ne (tgt := 161) F (by omega) dX9_merge_155 (by decide) (fun h155_7 => ?_) (fun h155_7 => ?_)
            · refine lv_aload hx hb dX9_merge_161 (lv_at hl 6 rfl) ?_
              have hnw := Mst.told hms1 (by omega) (by omega)
              have j_193 : ∀ (gqB : Nat → Int) (H : Heap) (locs : List Loc), ((0 : Int) ≤ 0) → (ProgOk gqB) → (MT g_p gqB w) → (Mst g_p x w (i 13) gqB v5 1) → va_P G vwCl [(y, .inr (9, [.int (zI (i 0)), .ref (q 0), .int (zI (i 1)), .int (zI (i 2)), .int (zI (i 3)), .int (zI (i 4)), .int (zI (i 5)), .int (zI (i 6)), .int (zI (i 7)), .int (zI (i 8)), .int (zI (i 9)), .int (zI (i 10)), .ref (q 1), .int (zI (i 11)), .int (zI (i 12)), .ref (q 2), .ref (q 3), .ref (q 4), .ref (q 5), .ref (q 6), .ref (q 7), .ref (q 8), .ref (q 9), .ref (q 10), .ref (q 11), .ref (q 12), .ref (q 13), .ref (q 14), .ref (q 15), .ref (q 16), .int (zI (i 13)), .int (zI (i 14)), .int (zI (i 15)), .int (zI (i 16)), .int (zI (i 17)), .int (zI (i 18)), .ref (q 17), .ref (q 18), .ref (q 19), .ref (q 20)])), (a, .inl (cI, 200, .inl (fun k => zI (g_p k)))), (f, .inl (cI, 200, .inl (fun k => zI (gqB k))))] H → va_D A [(y, .inr (9, [.int (zI (i 0)), .ref (q 0), .int (zI (i 1)), .int (zI (i 2)), .int (zI (i 3)), .int (zI (i 4)), .int (zI (i 5)), .int (zI (i 6)), .int (zI (i 7)), .int (zI (i 8)), .int (zI (i 9)), .int (zI (i 10)), .ref (q 1), .int (zI (i 11)), .int (zI (i 12)), .ref (q 2), .ref (q 3), .ref (q 4), .ref (q 5), .ref (q 6), .ref (q 7), .ref (q 8), .ref (q 9), .ref (q 10), .ref (q 11), .ref (q 12), .ref (q 13), .ref (q 14), .ref (q 15), .ref (q 16), .int (zI (i 13)), .int (zI (i 14)), .int (zI (i 15)), .int (zI (i 16)), .int (zI (i 17)), .int (zI (i 18)), .ref (q 17), .ref (q 18), .ref (q 19), .ref (q 20)])), (a, .inl (cI, 200, .inl (fun k => zI (g_p k)))), (f, .inl (cI, 200, .inl (fun k => zI (gqB k))))] → va_S A s.heap H locs → ∀ ls : Array Slot, lv_has ls 8 [(6, .int (zI (20 * v5))), (5, .int (zI v5)), (0, .ref y), (1, .ref a), (2, .int (zI x)), (3, .int (zI w)), (4, .ref f)] → W p l e rm_X9_mergeX s m ([.ref y, .ref a, .int (zI x), .int (zI w), .ref f] : List Value).toArray below meth c H locs 0 0 Q (F0 m 193 ls []) := by
                intro gqB H locs hJ193 hqpB hmtB hmsB hP hD hS ls hl
                refine lv_aload hx hb dX9_merge_193 (lv_at hl 6 rfl) ?_
                have j_226 : ∀ (gqC : Nat → Int) (H : Heap) (locs : List Loc), ((0 : Int) ≤ 0) → (ProgOk gqC) → (MT g_p gqC w) → (Mst g_p x w (i 13) gqC v5 (3 + 0)) → va_P G vwCl [(y, .inr (9, [.int (zI (i 0)), .ref (q 0), .int (zI (i 1)), .int (zI (i 2)), .int (zI (i 3)), .int (zI (i 4)), .int (zI (i 5)), .int (zI (i 6)), .int (zI (i 7)), .int (zI (i 8)), .int (zI (i 9)), .int (zI (i 10)), .ref (q 1), .int (zI (i 11)), .int (zI (i 12)), .ref (q 2), .ref (q 3), .ref (q 4), .ref (q 5), .ref (q 6), .ref (q 7), .ref (q 8), .ref (q 9), .ref (q 10), .ref (q 11), .ref (q 12), .ref (q 13), .ref (q 14), .ref (q 15), .ref (q 16), .int (zI (i 13)), .int (zI (i 14)), .int (zI (i 15)), .int (zI (i 16)), .int (zI (i 17)), .int (zI (i 18)), .ref (q 17), .ref (q 18), .ref (q 19), .ref (q 20)])), (a, .inl (cI, 200, .inl (fun k => zI (g_p k)))), (f, .inl (cI, 200, .inl (fun k => zI (gqC k))))] H → va_D A [(y, .inr (9, [.int (zI (i 0)), .ref (q 0), .int (zI (i 1)), .int (zI (i 2)), .int (zI (i 3)), .int (zI (i 4)), .int (zI (i 5)), .int (zI (i 6)), .int (zI (i 7)), .int (zI (i 8)), .int (zI (i 9)), .int (zI (i 10)), .ref (q 1), .int (zI (i 11)), .int (zI (i 12)), .ref (q 2), .ref (q 3), .ref (q 4), .ref (q 5), .ref (q 6), .ref (q 7), .ref (q 8), .ref (q 9), .ref (q 10), .ref (q 11), .ref (q 12), .ref (q 13), .ref (q 14), .ref (q 15), .ref (q 16), .int (zI (i 13)), .int (zI (i 14)), .int (zI (i 15)), .int (zI (i 16)), .int (zI (i 17)), .int (zI (i 18)), .ref (q 17), .ref (q 18), .ref (q 19), .ref (q 20)])), (a, .inl (cI, 200, .inl (fun k => zI (g_p k)))), (f, .inl (cI, 200, .inl (fun k => zI (gqC k))))] → va_S A s.heap H locs → ∀ ls : Array Slot, lv_has ls 8 [(6, .int (zI (20 * v5))), (5, .int (zI v5)), (0, .ref y), (1, .ref a), (2, .int (zI x)), (3, .int (zI w)), (4, .ref f)] → W p l e rm_X9_mergeX s m ([.ref y, .ref a, .int (zI x), .int (zI w), .ref f] : List Value).toArray below meth c H locs 0 0 Q (F0 m 226 ls []) := by
                  intro gqC H locs hJ226 hqpC hmtC hmsC hP hD hS ls hl
                  refine lv_iconst (v := zI 0) hx hb dX9_merge_226 rfl ?_
                  refine lv_istore (lv' := [(7, .int (zI 0)), (6, .int (zI (20 * v5))), (5, .int (zI v5)), (0, .ref y), (1, .ref a), (2, .int (zI x)), (3, .int (zI w)), (4, .ref f)]) hx hb dX9_merge_227 hl (by decide) rfl (fun ls hl => ?_)
                  refine W.widen (k := 0) (n := 0) (Nat.le_of_ble_eq_true rfl) (Nat.le_of_ble_eq_true rfl) ?_
                  refine (?_ : ∀ (n9_3 : Nat) (v7 : Int) (gq2 : Nat → Int) (H : Heap) (locs : List Loc), (0 ≤ v7 ∧ v7 ≤ 4) → (4 - v7 : Int).toNat < n9_3 → (ProgOk gq2) → (MT g_p gq2 w) → (Mst g_p x w (i 13) gq2 v5 (3 + v7)) → va_P G vwCl [(y, .inr (9, [.int (zI (i 0)), .ref (q 0), .int (zI (i 1)), .int (zI (i 2)), .int (zI (i 3)), .int (zI (i 4)), .int (zI (i 5)), .int (zI (i 6)), .int (zI (i 7)), .int (zI (i 8)), .int (zI (i 9)), .int (zI (i 10)), .ref (q 1), .int (zI (i 11)), .int (zI (i 12)), .ref (q 2), .ref (q 3), .ref (q 4), .ref (q 5), .ref (q 6), .ref (q 7), .ref (q 8), .ref (q 9), .ref (q 10), .ref (q 11), .ref (q 12), .ref (q 13), .ref (q 14), .ref (q 15), .ref (q 16), .int (zI (i 13)), .int (zI (i 14)), .int (zI (i 15)), .int (zI (i 16)), .int (zI (i 17)), .int (zI (i 18)), .ref (q 17), .ref (q 18), .ref (q 19), .ref (q 20)])), (a, .inl (cI, 200, .inl (fun k => zI (g_p k)))), (f, .inl (cI, 200, .inl (fun k => zI (gq2 k))))] H → va_D A [(y, .inr (9, [.int (zI (i 0)), .ref (q 0), .int (zI (i 1)), .int (zI (i 2)), .int (zI (i 3)), .int (zI (i 4)), .int (zI (i 5)), .int (zI (i 6)), .int (zI (i 7)), .int (zI (i 8)), .int (zI (i 9)), .int (zI (i 10)), .ref (q 1), .int (zI (i 11)), .int (zI (i 12)), .ref (q 2), .ref (q 3), .ref (q 4), .ref (q 5), .ref (q 6), .ref (q 7), .ref (q 8), .ref (q 9), .ref (q 10), .ref (q 11), .ref (q 12), .ref (q 13), .ref (q 14), .ref (q 15), .ref (q 16), .int (zI (i 13)), .int (zI (i 14)), .int (zI (i 15)), .int (zI (i 16)), .int (zI (i 17)), .int (zI (i 18)), .ref (q 17), .ref (q 18), .ref (q 19), .ref (q 20)])), (a, .inl (cI, 200, .inl (fun k => zI (g_p k)))), (f, .inl (cI, 200, .inl (fun k => zI (gq2 k))))] → va_S A s.heap H locs → ∀ ls : Array Slot, lv_has ls 8 [(7, .int (zI v7)), (6, .int (zI (20 * v5))), (5, .int (zI v5)), (0, .ref y), (1, .ref a), (2, .int (zI x)), (3, .int (zI w)), (4, .ref f)] → W p l e rm_X9_mergeX s m ([.ref y, .ref a, .int (zI x), .int (zI w), .ref f] : List Value).toArray below meth c H locs 0 0 Q (F0 m 229 ls [])) ((4 - 0 : Int).toNat + 1) 0 gqC _ _ (by omega) (by omega) hqpC hmtC hmsC hP hD hS ls hl
                  clear hP hD hS hl ls
                  intro n9_3
                  induction n9_3 with
                  | zero =>
                    intro v7 gq2 H locs hI hM
                    exact absurd hM (by omega)
                  | succ n9_3 ih3 =>
                    intro v7 gq2 H locs hI3 hM3 hqp2 hmt2 hms2 hP hD hS ls hl
                    refine lv_iload hx hb dX9_merge_229 (lv_at hl 0 rfl) ?_
                    refine lv_aload hx hb dX9_merge_231 (lv_at hl 7 rfl) ?_
                    refine lv_iload hx hb dX9_merge_233 (lv_at hl 1 rfl) ?_
                    refine lv_iconst (v := zI 1) hx hb dX9_merge_235 rfl ?_
                    refine r_iadd (v := zI ((20 * v5) + 1)) F dX9_merge_236 (zI_add _ _) ?_
                    refine rz_iald F hK hP 2 0 rfl rfl (by omega) (by omega) dX9_merge_237 ?_
                    have hpl9 : 0 ≤ (gq2 (((20 * v5) + 1)).toNat) ∧ (gq2 (((20 * v5) + 1)).toNat) ≤ 4 := ProgR.at hqp2.1 (e := ((20 * v5) + 1)) v5 1 (by omega) (by omega) (by decide) rfl
                    refine rz_icmp_ge (tgt := 296) F (by omega) (by omega) dX9_merge_238 (by decide) (fun h238_9 => ?_) (fun h238_9 => ?_)
                    · refine lv_iinc (v := zI (v5 + 1)) (lv' := [(5, .int (zI (v5 + 1))), (7, .int (zI v7)), (6, .int (zI (20 * v5))), (0, .ref y), (1, .ref a), (2, .int (zI x)), (3, .int (zI w)), (4, .ref f)]) hx hb dX9_merge_296 hl (k := 2) rfl (zI_add _ _) (by decide) rfl (fun ls hl => ?_)
                      refine lv_goto (tgt := 132) hx hb dX9_merge_299 (by decide) ?_
                      exact ih2 (v5 + 1) gq2 _ _ (by omega) (by omega) hqp2 hmt2 (Mst.fin hms2 (by omega) hnw ⟨by omega, by omega⟩) hP hD hS ls (lv_sub hl [0, 3, 4, 5, 6, 7] rfl)
                    · refine lv_aload hx hb dX9_merge_241 (lv_at hl 7 rfl) ?_
                      refine lv_iload hx hb dX9_merge_243 (lv_at hl 1 rfl) ?_
                      refine lv_iconst (v := zI 2) hx hb dX9_merge_245 rfl ?_
                      refine r_iadd (v := zI ((20 * v5) + 2)) F dX9_merge_246 (zI_add _ _) ?_
                      refine lv_iconst (v := zI 3) hx hb dX9_merge_247 rfl ?_
                      refine lv_iload hx hb dX9_merge_248 (lv_at hl 0 rfl) ?_
                      refine r_imul (v := zI (3 * v7)) F dX9_merge_250 (zI_mul _ _) ?_
                      refine r_iadd (v := zI (((20 * v5) + 2) + (3 * v7))) F dX9_merge_251 (zI_add _ _) ?_
                      refine rz_iald F hK hP 2 0 rfl rfl (by omega) (by omega) dX9_merge_252 ?_
                      have hc11 := ProgOk.act hqp2 (i := v5) (n := v7) (k := (((20 * v5) + 2) + (3 * v7))) (by omega) (by omega) (by omega)
                      refine lv_iconst (v := zI 3) hx hb dX9_merge_253 rfl ?_
                      refine rz_icmp_ne (tgt := 290) F (by omega) (by omega) dX9_merge_254 (by decide) (fun h254_11 => ?_) (fun h254_11 => ?_)
                      · refine lv_iinc (v := zI (v7 + 1)) (lv' := [(7, .int (zI (v7 + 1))), (6, .int (zI (20 * v5))), (5, .int (zI v5)), (0, .ref y), (1, .ref a), (2, .int (zI x)), (3, .int (zI w)), (4, .ref f)]) hx hb dX9_merge_290 hl (k := 0) rfl (zI_add _ _) (by decide) rfl (fun ls hl => ?_)
                        refine lv_goto (tgt := 229) hx hb dX9_merge_293 (by decide) ?_
                        exact ih3 (v7 + 1) gq2 _ _ (by omega) (by omega) hqp2 hmt2 (Mst.sA hms2 (by omega) hnw (by omega) ⟨by omega, by omega⟩ (Or.inr ⟨by omega, rfl⟩)) hP hD hS ls (lv_sub hl [0, 1, 2, 3, 4, 5, 6, 7] rfl)
                      · refine lv_aload hx hb dX9_merge_257 (lv_at hl 7 rfl) ?_
                        refine lv_iload hx hb dX9_merge_259 (lv_at hl 1 rfl) ?_
                        refine lv_iconst (v := zI 2) hx hb dX9_merge_261 rfl ?_
                        refine r_iadd (v := zI ((20 * v5) + 2)) F dX9_merge_262 (zI_add _ _) ?_
                        refine lv_iconst (v := zI 3) hx hb dX9_merge_263 rfl ?_
                        refine lv_iload hx hb dX9_merge_264 (lv_at hl 0 rfl) ?_
                        refine r_imul (v := zI (3 * v7)) F dX9_merge_266 (zI_mul _ _) ?_
                        refine r_iadd (v := zI (((20 * v5) + 2) + (3 * v7))) F dX9_merge_267 (zI_add _ _) ?_
                        refine lv_iconst (v := zI 1) hx hb dX9_merge_268 rfl ?_
                        refine r_iadd (v := zI ((((20 * v5) + 2) + (3 * v7)) + 1)) F dX9_merge_269 (zI_add _ _) ?_
                        refine rz_iald F hK hP 2 0 rfl rfl (by omega) (by omega) dX9_merge_270 ?_
                        have hc13 := hqp2.1.pos (((((20 * v5) + 2) + (3 * v7)) + 1)).toNat (by omega)
                        have hc14 := hqp2.1.le9 (((((20 * v5) + 2) + (3 * v7)) + 1)).toNat (by omega)
                        refine lv_iload_n hx hb dX9_merge_271 rfl (lv_at hl 6 rfl) ?_
                        refine rz_icmp_ne (tgt := 290) F (by omega) (by omega) dX9_merge_272 (by decide) (fun h272_14 => ?_) (fun h272_14 => ?_)
                        · refine lv_iinc (v := zI (v7 + 1)) (lv' := [(7, .int (zI (v7 + 1))), (6, .int (zI (20 * v5))), (5, .int (zI v5)), (0, .ref y), (1, .ref a), (2, .int (zI x)), (3, .int (zI w)), (4, .ref f)]) hx hb dX9_merge_290 hl (k := 0) rfl (zI_add _ _) (by decide) rfl (fun ls hl => ?_)
                          refine lv_goto (tgt := 229) hx hb dX9_merge_293 (by decide) ?_
                          exact ih3 (v7 + 1) gq2 _ _ (by omega) (by omega) hqp2 hmt2 (Mst.sA hms2 (by omega) hnw (by omega) ⟨by omega, by omega⟩ (Or.inr ⟨by omega, rfl⟩)) hP hD hS ls (lv_sub hl [0, 1, 2, 3, 4, 5, 6, 7] rfl)
                        · refine lv_aload hx hb dX9_merge_275 (lv_at hl 7 rfl) ?_
                          refine lv_iload hx hb dX9_merge_277 (lv_at hl 1 rfl) ?_
                          refine lv_iconst (v := zI 2) hx hb dX9_merge_279 rfl ?_
                          refine r_iadd (v := zI ((20 * v5) + 2)) F dX9_merge_280 (zI_add _ _) ?_
                          refine lv_iconst (v := zI 3) hx hb dX9_merge_281 rfl ?_
                          refine lv_iload hx hb dX9_merge_282 (lv_at hl 0 rfl) ?_
                          refine r_imul (v := zI (3 * v7)) F dX9_merge_284 (zI_mul _ _) ?_
                          refine r_iadd (v := zI (((20 * v5) + 2) + (3 * v7))) F dX9_merge_285 (zI_add _ _) ?_
                          refine lv_iconst (v := zI 1) hx hb dX9_merge_286 rfl ?_
                          refine r_iadd (v := zI ((((20 * v5) + 2) + (3 * v7)) + 1)) F dX9_merge_287 (zI_add _ _) ?_
                          refine lv_iload_n hx hb dX9_merge_288 rfl (lv_at hl 5 rfl) ?_
                          refine rz_iastG F hK hP hD hS 2 0 rfl rfl (by omega) (by omega) dX9_merge_289 (w1 := fun g16 => [(y, .inr (9, [.int (zI (i 0)), .ref (q 0), .int (zI (i 1)), .int (zI (i 2)), .int (zI (i 3)), .int (zI (i 4)), .int (zI (i 5)), .int (zI (i 6)), .int (zI (i 7)), .int (zI (i 8)), .int (zI (i 9)), .int (zI (i 10)), .ref (q 1), .int (zI (i 11)), .int (zI (i 12)), .ref (q 2), .ref (q 3), .ref (q 4), .ref (q 5), .ref (q 6), .ref (q 7), .ref (q 8), .ref (q 9), .ref (q 10), .ref (q 11), .ref (q 12), .ref (q 13), .ref (q 14), .ref (q 15), .ref (q 16), .int (zI (i 13)), .int (zI (i 14)), .int (zI (i 15)), .int (zI (i 16)), .int (zI (i 17)), .int (zI (i 18)), .ref (q 17), .ref (q 18), .ref (q 19), .ref (q 20)])), (a, .inl (cI, 200, .inl (fun k => zI (g_p k)))), (f, .inl (cI, 200, .inl (fun k => zI (g16 k))))]) (fun _ => rfl) (fun g16 e_g16 H locs hP hD hS => ?_)
                          have hqp17 : ProgOk g16 := ProgOk.tgt3 hqp2 e_g16 (i := v5) (n := v7) (by omega) (by omega) (by omega) (by omega) (j := (((20 * v5) + 2) + (3 * v7)).toNat) (by omega) (by omega)
                          have hmt18 := MT.keepA hmt2 e_g16 (i := v5) (n := v7) (by omega) (by omega) (by omega)
                          refine lv_iinc (v := zI (v7 + 1)) (lv' := [(7, .int (zI (v7 + 1))), (6, .int (zI (20 * v5))), (5, .int (zI v5)), (0, .ref y), (1, .ref a), (2, .int (zI x)), (3, .int (zI w)), (4, .ref f)]) hx hb dX9_merge_290 hl (k := 0) rfl (zI_add _ _) (by decide) rfl (fun ls hl => ?_)
                          refine lv_goto (tgt := 229) hx hb dX9_merge_293 (by decide) ?_
                          exact ih3 (v7 + 1) g16 _ _ (by omega) (by omega) hqp17 hmt18 (Mst.sA hms2 (by omega) hnw (by omega) ⟨by omega, by omega⟩ (Or.inl ⟨by omega, by omega, e_g16⟩)) hP hD hS ls (lv_sub hl [0, 1, 2, 3, 4, 5, 6, 7] rfl)
                refine lv_iload hx hb dX9_merge_195 (lv_at hl 0 rfl) ?_
                refine lv_bipush (v := zI 14) hx hb dX9_merge_197 (by decide) ?_
                refine r_iadd (v := zI ((20 * v5) + 14)) F dX9_merge_199 (zI_add _ _) ?_
                refine rz_iald F hK hP 2 0 rfl rfl (by omega) (by omega) dX9_merge_200 ?_
                have hc19 := hqpB.1.pos (((20 * v5) + 14)).toNat (by omega)
                have hc20 := hqpB.1.le9 (((20 * v5) + 14)).toNat (by omega)
                refine lv_iconst (v := zI 2) hx hb dX9_merge_201 rfl ?_
                refine rz_icmp_ne (tgt := 226) F (by omega) (by omega) dX9_merge_202 (by decide) (fun h202_20 => ?_) (fun h202_20 => ?_)
                · exact j_226 gqB _ _ (by omega) hqpB hmtB (Mst.s18 hmsB (by omega) hnw (by omega) (Or.inr ⟨by omega, rfl⟩)) hP hD hS ls (lv_sub hl [0, 1, 2, 3, 4, 5, 6] rfl)
                · refine lv_aload hx hb dX9_merge_205 (lv_at hl 6 rfl) ?_
                  refine lv_iload hx hb dX9_merge_207 (lv_at hl 0 rfl) ?_
                  refine lv_bipush (v := zI 18) hx hb dX9_merge_209 (by decide) ?_
                  refine r_iadd (v := zI ((20 * v5) + 18)) F dX9_merge_211 (zI_add _ _) ?_
                  refine rz_iald F hK hP 2 0 rfl rfl (by omega) (by omega) dX9_merge_212 ?_
                  have hc22 := hqpB.1.pos (((20 * v5) + 18)).toNat (by omega)
                  have hc23 := hqpB.1.le9 (((20 * v5) + 18)).toNat (by omega)
                  refine lv_iload_n hx hb dX9_merge_213 rfl (lv_at hl 5 rfl) ?_
                  refine rz_icmp_ne (tgt := 226) F (by omega) (by omega) dX9_merge_214 (by decide) (fun h214_23 => ?_) (fun h214_23 => ?_)
                  · exact j_226 gqB _ _ (by omega) hqpB hmtB (Mst.s18 hmsB (by omega) hnw (by omega) (Or.inr ⟨by omega, rfl⟩)) hP hD hS ls (lv_sub hl [0, 1, 2, 3, 4, 5, 6] rfl)
                  · refine lv_aload hx hb dX9_merge_217 (lv_at hl 6 rfl) ?_
                    refine lv_iload hx hb dX9_merge_219 (lv_at hl 0 rfl) ?_
                    refine lv_bipush (v := zI 18) hx hb dX9_merge_221 (by decide) ?_
                    refine r_iadd (v := zI ((20 * v5) + 18)) F dX9_merge_223 (zI_add _ _) ?_
                    refine lv_iload_n hx hb dX9_merge_224 rfl (lv_at hl 4 rfl) ?_
                    refine rz_iastG F hK hP hD hS 2 0 rfl rfl (by omega) (by omega) dX9_merge_225 (w1 := fun g25 => [(y, .inr (9, [.int (zI (i 0)), .ref (q 0), .int (zI (i 1)), .int (zI (i 2)), .int (zI (i 3)), .int (zI (i 4)), .int (zI (i 5)), .int (zI (i 6)), .int (zI (i 7)), .int (zI (i 8)), .int (zI (i 9)), .int (zI (i 10)), .ref (q 1), .int (zI (i 11)), .int (zI (i 12)), .ref (q 2), .ref (q 3), .ref (q 4), .ref (q 5), .ref (q 6), .ref (q 7), .ref (q 8), .ref (q 9), .ref (q 10), .ref (q 11), .ref (q 12), .ref (q 13), .ref (q 14), .ref (q 15), .ref (q 16), .int (zI (i 13)), .int (zI (i 14)), .int (zI (i 15)), .int (zI (i 16)), .int (zI (i 17)), .int (zI (i 18)), .ref (q 17), .ref (q 18), .ref (q 19), .ref (q 20)])), (a, .inl (cI, 200, .inl (fun k => zI (g_p k)))), (f, .inl (cI, 200, .inl (fun k => zI (g25 k))))]) (fun _ => rfl) (fun g25 e_g25 H locs hP hD hS => ?_)
                    have hqp26 : ProgOk g25 := ⟨hqpB.1.set (m := 9) e_g25 18 (by omega) rfl (by omega), hqpB.2.set e_g25 (by omega)⟩
                    have hmt27 := hmtB.keep e_g25 (by omega)
                    exact j_226 g25 _ _ (by omega) hqp26 hmt27 (Mst.s18 hmsB (by omega) hnw (by omega) (Or.inl ⟨by omega, by omega, e_g25⟩)) hP hD hS ls (lv_sub hl [0, 1, 2, 3, 4, 5, 6] rfl)
              refine lv_iload hx hb dX9_merge_163 (lv_at hl 0 rfl) ?_
              refine lv_bipush (v := zI 14) hx hb dX9_merge_165 (by decide) ?_
              refine r_iadd (v := zI ((20 * v5) + 14)) F dX9_merge_167 (zI_add _ _) ?_
              refine rz_iald F hK hP 2 0 rfl rfl (by omega) (by omega) dX9_merge_168 ?_
              have hc28 := hqp1.1.pos (((20 * v5) + 14)).toNat (by omega)
              have hc29 := hqp1.1.le9 (((20 * v5) + 14)).toNat (by omega)
              refine rz_if_le (tgt := 193) F (by omega) dX9_merge_169 (by decide) (fun h169_29 => ?_) (fun h169_29 => ?_)
              · exact j_193 gq1 _ _ (by omega) hqp1 hmt1 (Mst.s16 hms1 (by omega) hnw (by omega) (Or.inr ⟨by omega, rfl⟩)) hP hD hS ls (lv_sub hl [0, 1, 2, 3, 4, 5, 6] rfl)
              · refine lv_aload hx hb dX9_merge_172 (lv_at hl 6 rfl) ?_
                refine lv_iload hx hb dX9_merge_174 (lv_at hl 0 rfl) ?_
                refine lv_bipush (v := zI 16) hx hb dX9_merge_176 (by decide) ?_
                refine r_iadd (v := zI ((20 * v5) + 16)) F dX9_merge_178 (zI_add _ _) ?_
                refine rz_iald F hK hP 2 0 rfl rfl (by omega) (by omega) dX9_merge_179 ?_
                have hc31 := hqp1.1.pos (((20 * v5) + 16)).toNat (by omega)
                have hc32 := hqp1.1.le9 (((20 * v5) + 16)).toNat (by omega)
                refine lv_iload_n hx hb dX9_merge_180 rfl (lv_at hl 5 rfl) ?_
                refine rz_icmp_ne (tgt := 193) F (by omega) (by omega) dX9_merge_181 (by decide) (fun h181_32 => ?_) (fun h181_32 => ?_)
                · exact j_193 gq1 _ _ (by omega) hqp1 hmt1 (Mst.s16 hms1 (by omega) hnw (by omega) (Or.inr ⟨by omega, rfl⟩)) hP hD hS ls (lv_sub hl [0, 1, 2, 3, 4, 5, 6] rfl)
                · refine lv_aload hx hb dX9_merge_184 (lv_at hl 6 rfl) ?_
                  refine lv_iload hx hb dX9_merge_186 (lv_at hl 0 rfl) ?_
                  refine lv_bipush (v := zI 16) hx hb dX9_merge_188 (by decide) ?_
                  refine r_iadd (v := zI ((20 * v5) + 16)) F dX9_merge_190 (zI_add _ _) ?_
                  refine lv_iload_n hx hb dX9_merge_191 rfl (lv_at hl 4 rfl) ?_
                  refine rz_iastG F hK hP hD hS 2 0 rfl rfl (by omega) (by omega) dX9_merge_192 (w1 := fun g34 => [(y, .inr (9, [.int (zI (i 0)), .ref (q 0), .int (zI (i 1)), .int (zI (i 2)), .int (zI (i 3)), .int (zI (i 4)), .int (zI (i 5)), .int (zI (i 6)), .int (zI (i 7)), .int (zI (i 8)), .int (zI (i 9)), .int (zI (i 10)), .ref (q 1), .int (zI (i 11)), .int (zI (i 12)), .ref (q 2), .ref (q 3), .ref (q 4), .ref (q 5), .ref (q 6), .ref (q 7), .ref (q 8), .ref (q 9), .ref (q 10), .ref (q 11), .ref (q 12), .ref (q 13), .ref (q 14), .ref (q 15), .ref (q 16), .int (zI (i 13)), .int (zI (i 14)), .int (zI (i 15)), .int (zI (i 16)), .int (zI (i 17)), .int (zI (i 18)), .ref (q 17), .ref (q 18), .ref (q 19), .ref (q 20)])), (a, .inl (cI, 200, .inl (fun k => zI (g_p k)))), (f, .inl (cI, 200, .inl (fun k => zI (g34 k))))]) (fun _ => rfl) (fun g34 e_g34 H locs hP hD hS => ?_)
                  have hqp35 : ProgOk g34 := ⟨hqp1.1.set (m := 9) e_g34 16 (by omega) rfl (by omega), hqp1.2.set e_g34 (by omega)⟩
                  have hmt36 := hmt1.keep e_g34 (by omega)
                  exact j_193 g34 _ _ (by omega) hqp35 hmt36 (Mst.s16 hms1 (by omega) hnw (by omega) (Or.inl ⟨by omega, by omega, e_g34⟩)) hP hD hS ls (lv_sub hl [0, 1, 2, 3, 4, 5, 6] rfl)
            · refine lv_goto (tgt := 296) hx hb dX9_merge_158 (by decide) ?_
              refine lv_iinc (v := zI (v5 + 1)) (lv' := [(5, .int (zI (v5 + 1))), (6, .int (zI (20 * v5))), (0, .ref y), (1, .ref a), (2, .int (zI x)), (3, .int (zI w)), (4, .ref f)]) hx hb dX9_merge_296 hl (k := 1) rfl (zI_add _ _) (by decide) rfl (fun ls hl => ?_)
              refine lv_goto (tgt := 132) hx hb dX9_merge_299 (by decide) ?_
              exact ih2 (v5 + 1) gq1 _ _ (by omega) (by omega) hqp1 hmt1 (Mst.skip hms1 (by omega) (by omega)) hP hD hS ls (lv_sub hl [0, 2, 3, 4, 5, 6] rfl)
      refine lv_iload_n hx hb dX9_merge_39 rfl (lv_at hl 3 rfl) ?_
      refine r_imul (v := zI (20 * x)) F dX9_merge_40 (zI_mul _ _) ?_
      refine lv_bipush (v := zI 14) hx hb dX9_merge_41 (by decide) ?_
      refine r_iadd (v := zI ((20 * x) + 14)) F dX9_merge_43 (zI_add _ _) ?_
      refine rz_iald F hK hP 1 0 rfl rfl (by omega) (by omega) dX9_merge_44 ?_
      have hpl37 : 0 ≤ (g_p (((20 * x) + 14)).toNat) ∧ (g_p (((20 * x) + 14)).toNat) ≤ 2 := ProgR.at hp.1 (e := ((20 * x) + 14)) x 14 (by omega) (by omega) (by decide) rfl
      refine rz_if_le (tgt := 82) F (by omega) dX9_merge_45 (by decide) (fun h45_37 => ?_) (fun h45_37 => ?_)
      · refine lv_aload_n hx hb dX9_merge_82 rfl (lv_at hl 2 rfl) ?_
        refine lv_bipush (v := zI 20) hx hb dX9_merge_83 (by decide) ?_
        refine lv_iload_n hx hb dX9_merge_85 rfl (lv_at hl 3 rfl) ?_
        refine r_imul (v := zI (20 * x)) F dX9_merge_86 (zI_mul _ _) ?_
        refine lv_bipush (v := zI 14) hx hb dX9_merge_87 (by decide) ?_
        refine r_iadd (v := zI ((20 * x) + 14)) F dX9_merge_89 (zI_add _ _) ?_
        refine rz_iald F hK hP 1 0 rfl rfl (by omega) (by omega) dX9_merge_90 ?_
        have hpl39 : 0 ≤ (g_p (((20 * x) + 14)).toNat) ∧ (g_p (((20 * x) + 14)).toNat) ≤ 2 := ProgR.at hp.1 (e := ((20 * x) + 14)) x 14 (by omega) (by omega) (by decide) rfl
        refine lv_iconst (v := zI 2) hx hb dX9_merge_91 rfl ?_
        refine rz_icmp_ne (tgt := 129) F (by omega) (by omega) dX9_merge_92 (by decide) (fun h92_39 => ?_) (fun h92_39 => ?_)
        · exact j_129 gz9 _ _ (by omega) hqp0 hmt0 (Mst.start (q := gz9) (q1 := gz9) hx8 hxw (fun k hk => by rw [hz9 k hk, show v5 = 20 by omega]) (Or.inr ⟨by omega, rfl⟩) (Or.inr ⟨by omega, rfl⟩)) hP hD hS ls (lv_sub hl [0, 1, 2, 3, 4, 5] rfl)
        · refine lv_aload hx hb dX9_merge_95 (lv_at hl 5 rfl) ?_
          refine lv_bipush (v := zI 20) hx hb dX9_merge_97 (by decide) ?_
          refine lv_iload_n hx hb dX9_merge_99 rfl (lv_at hl 3 rfl) ?_
          refine r_imul (v := zI (20 * x)) F dX9_merge_100 (zI_mul _ _) ?_
          refine lv_bipush (v := zI 19) hx hb dX9_merge_101 (by decide) ?_
          refine r_iadd (v := zI ((20 * x) + 19)) F dX9_merge_103 (zI_add _ _) ?_
          refine lv_bipush (v := zI 9) hx hb dX9_merge_104 (by decide) ?_
          refine lv_aload_n hx hb dX9_merge_106 rfl (lv_at hl 2 rfl) ?_
          refine lv_bipush (v := zI 20) hx hb dX9_merge_107 (by decide) ?_
          refine lv_iload_n hx hb dX9_merge_109 rfl (lv_at hl 3 rfl) ?_
          refine r_imul (v := zI (20 * x)) F dX9_merge_110 (zI_mul _ _) ?_
          refine lv_bipush (v := zI 19) hx hb dX9_merge_111 (by decide) ?_
          refine r_iadd (v := zI ((20 * x) + 19)) F dX9_merge_113 (zI_add _ _) ?_
          refine rz_iald F hK hP 1 0 rfl rfl (by omega) (by omega) dX9_merge_114 ?_
          have hpl41 : 0 ≤ (g_p (((20 * x) + 19)).toNat) ∧ (g_p (((20 * x) + 19)).toNat) ≤ 9 := ProgR.at hp.1 (e := ((20 * x) + 19)) x 19 (by omega) (by omega) (by decide) rfl
          refine lv_aload_n hx hb dX9_merge_115 rfl (lv_at hl 2 rfl) ?_
          refine lv_bipush (v := zI 20) hx hb dX9_merge_116 (by decide) ?_
          refine lv_iload_n hx hb dX9_merge_118 rfl (lv_at hl 4 rfl) ?_
          refine r_imul (v := zI (20 * w)) F dX9_merge_119 (zI_mul _ _) ?_
          refine lv_bipush (v := zI 19) hx hb dX9_merge_120 (by decide) ?_
          refine r_iadd (v := zI ((20 * w) + 19)) F dX9_merge_122 (zI_add _ _) ?_
          refine rz_iald F hK hP 1 0 rfl rfl (by omega) (by omega) dX9_merge_123 ?_
          have hpl42 : 0 ≤ (g_p (((20 * w) + 19)).toNat) ∧ (g_p (((20 * w) + 19)).toNat) ≤ 9 := ProgR.at hp.1 (e := ((20 * w) + 19)) w 19 (by omega) (by omega) (by decide) rfl
          refine r_iadd (v := zI ((g_p (((20 * x) + 19)).toNat) + (g_p (((20 * w) + 19)).toNat))) F dX9_merge_124 (zI_add _ _) ?_
          refine r_callSi (As := [.int (zI 9), .int (zI ((g_p (((20 * x) + 19)).toNat) + (g_p (((20 * w) + 19)).toNat)))]) (rest := [.int (zI ((20 * x) + 19)), .ref f]) (wr := [(y, .inr (9, [.int (zI (i 0)), .ref (q 0), .int (zI (i 1)), .int (zI (i 2)), .int (zI (i 3)), .int (zI (i 4)), .int (zI (i 5)), .int (zI (i 6)), .int (zI (i 7)), .int (zI (i 8)), .int (zI (i 9)), .int (zI (i 10)), .ref (q 1), .int (zI (i 11)), .int (zI (i 12)), .ref (q 2), .ref (q 3), .ref (q 4), .ref (q 5), .ref (q 6), .ref (q 7), .ref (q 8), .ref (q 9), .ref (q 10), .ref (q 11), .ref (q 12), .ref (q 13), .ref (q 14), .ref (q 15), .ref (q 16), .int (zI (i 13)), .int (zI (i 14)), .int (zI (i 15)), .int (zI (i 16)), .int (zI (i 17)), .int (zI (i 18)), .ref (q 17), .ref (q 18), .ref (q 19), .ref (q 20)])), (a, .inl (cI, 200, .inl (fun k => zI (g_p k)))), (f, .inl (cI, 200, .inl (fun k => zI (gz9 k))))]) F hK hP hD hS hA hO hE (c_X9_less hO 9 ((g_p (((20 * x) + 19)).toNat) + (g_p (((20 * w) + 19)).toNat)) (by omega) (by omega)) k_1460 ks_X9_less 2 rfl (by decide +kernel) ⟨Nat.le_of_ble_eq_true rfl, Nat.le_of_ble_eq_true rfl⟩ [] [0, 1, 2] rfl rfl (by decide) (by decide) (by decide) hl.1 rfl (Nat.le_of_ble_eq_true rfl) dX9_merge_125 ⟨Nat.le_of_ble_eq_true rfl, Nat.le_of_ble_eq_true rfl⟩ (w1 := fun u43 => [(y, .inr (9, [.int (zI (i 0)), .ref (q 0), .int (zI (i 1)), .int (zI (i 2)), .int (zI (i 3)), .int (zI (i 4)), .int (zI (i 5)), .int (zI (i 6)), .int (zI (i 7)), .int (zI (i 8)), .int (zI (i 9)), .int (zI (i 10)), .ref (q 1), .int (zI (i 11)), .int (zI (i 12)), .ref (q 2), .ref (q 3), .ref (q 4), .ref (q 5), .ref (q 6), .ref (q 7), .ref (q 8), .ref (q 9), .ref (q 10), .ref (q 11), .ref (q 12), .ref (q 13), .ref (q 14), .ref (q 15), .ref (q 16), .int (zI (i 13)), .int (zI (i 14)), .int (zI (i 15)), .int (zI (i 16)), .int (zI (i 17)), .int (zI (i 18)), .ref (q 17), .ref (q 18), .ref (q 19), .ref (q 20)])), (a, .inl (cI, 200, .inl (fun k => zI (g_p k)))), (f, .inl (cI, 200, .inl (fun k => zI (gz9 k))))]) (fun _ => rfl) (fun r44 u43 H locs hp45 hP hD hS => ?_)
          obtain ⟨z46, rfl, h_z46⟩ := hp45
          refine rz_iastG F hK hP hD hS 2 0 rfl rfl (by omega) (by omega) dX9_merge_128 (w1 := fun g47 => [(y, .inr (9, [.int (zI (i 0)), .ref (q 0), .int (zI (i 1)), .int (zI (i 2)), .int (zI (i 3)), .int (zI (i 4)), .int (zI (i 5)), .int (zI (i 6)), .int (zI (i 7)), .int (zI (i 8)), .int (zI (i 9)), .int (zI (i 10)), .ref (q 1), .int (zI (i 11)), .int (zI (i 12)), .ref (q 2), .ref (q 3), .ref (q 4), .ref (q 5), .ref (q 6), .ref (q 7), .ref (q 8), .ref (q 9), .ref (q 10), .ref (q 11), .ref (q 12), .ref (q 13), .ref (q 14), .ref (q 15), .ref (q 16), .int (zI (i 13)), .int (zI (i 14)), .int (zI (i 15)), .int (zI (i 16)), .int (zI (i 17)), .int (zI (i 18)), .ref (q 17), .ref (q 18), .ref (q 19), .ref (q 20)])), (a, .inl (cI, 200, .inl (fun k => zI (g_p k)))), (f, .inl (cI, 200, .inl (fun k => zI (g47 k))))]) (fun _ => rfl) (fun g47 e_g47 H locs hP hD hS => ?_)
          have hqp48 : ProgOk g47 := ⟨hqp0.1.set (m := 9) e_g47 19 (by omega) rfl (by omega), hqp0.2.set e_g47 (by omega)⟩
          have hmt49 := hmt0.keep e_g47 (by omega)
          exact j_129 g47 _ _ (by omega) hqp48 hmt49 (Mst.start (q := gz9) (q1 := gz9) hx8 hxw (fun k hk => by rw [hz9 k hk, show v5 = 20 by omega]) (Or.inr ⟨by omega, rfl⟩) (Or.inl ⟨by omega, (by rw [← (lessZ_eq h_z46)]; exact e_g47)⟩)) hP hD hS ls (lv_sub hl [0, 1, 2, 3, 4, 5] rfl)
      · refine lv_aload hx hb dX9_merge_48 (lv_at hl 5 rfl) ?_
        refine lv_bipush (v := zI 20) hx hb dX9_merge_50 (by decide) ?_
        refine lv_iload_n hx hb dX9_merge_52 rfl (lv_at hl 3 rfl) ?_
        refine r_imul (v := zI (20 * x)) F dX9_merge_53 (zI_mul _ _) ?_
        refine lv_bipush (v := zI 17) hx hb dX9_merge_54 (by decide) ?_
        refine r_iadd (v := zI ((20 * x) + 17)) F dX9_merge_56 (zI_add _ _) ?_
        refine lv_bipush (v := zI 9) hx hb dX9_merge_57 (by decide) ?_
        refine lv_aload_n hx hb dX9_merge_59 rfl (lv_at hl 2 rfl) ?_
        refine lv_bipush (v := zI 20) hx hb dX9_merge_60 (by decide) ?_
        refine lv_iload_n hx hb dX9_merge_62 rfl (lv_at hl 3 rfl) ?_
        refine r_imul (v := zI (20 * x)) F dX9_merge_63 (zI_mul _ _) ?_
        refine lv_bipush (v := zI 17) hx hb dX9_merge_64 (by decide) ?_
        refine r_iadd (v := zI ((20 * x) + 17)) F dX9_merge_66 (zI_add _ _) ?_
        refine rz_iald F hK hP 1 0 rfl rfl (by omega) (by omega) dX9_merge_67 ?_
        have hpl50 : 0 ≤ (g_p (((20 * x) + 17)).toNat) ∧ (g_p (((20 * x) + 17)).toNat) ≤ 9 := ProgR.at hp.1 (e := ((20 * x) + 17)) x 17 (by omega) (by omega) (by decide) rfl
        refine lv_aload_n hx hb dX9_merge_68 rfl (lv_at hl 2 rfl) ?_
        refine lv_bipush (v := zI 20) hx hb dX9_merge_69 (by decide) ?_
        refine lv_iload_n hx hb dX9_merge_71 rfl (lv_at hl 4 rfl) ?_
        refine r_imul (v := zI (20 * w)) F dX9_merge_72 (zI_mul _ _) ?_
        refine lv_bipush (v := zI 17) hx hb dX9_merge_73 (by decide) ?_
        refine r_iadd (v := zI ((20 * w) + 17)) F dX9_merge_75 (zI_add _ _) ?_
        refine rz_iald F hK hP 1 0 rfl rfl (by omega) (by omega) dX9_merge_76 ?_
        have hpl51 : 0 ≤ (g_p (((20 * w) + 17)).toNat) ∧ (g_p (((20 * w) + 17)).toNat) ≤ 9 := ProgR.at hp.1 (e := ((20 * w) + 17)) w 17 (by omega) (by omega) (by decide) rfl
        refine r_iadd (v := zI ((g_p (((20 * x) + 17)).toNat) + (g_p (((20 * w) + 17)).toNat))) F dX9_merge_77 (zI_add _ _) ?_
        refine r_callSi (As := [.int (zI 9), .int (zI ((g_p (((20 * x) + 17)).toNat) + (g_p (((20 * w) + 17)).toNat)))]) (rest := [.int (zI ((20 * x) + 17)), .ref f]) (wr := [(y, .inr (9, [.int (zI (i 0)), .ref (q 0), .int (zI (i 1)), .int (zI (i 2)), .int (zI (i 3)), .int (zI (i 4)), .int (zI (i 5)), .int (zI (i 6)), .int (zI (i 7)), .int (zI (i 8)), .int (zI (i 9)), .int (zI (i 10)), .ref (q 1), .int (zI (i 11)), .int (zI (i 12)), .ref (q 2), .ref (q 3), .ref (q 4), .ref (q 5), .ref (q 6), .ref (q 7), .ref (q 8), .ref (q 9), .ref (q 10), .ref (q 11), .ref (q 12), .ref (q 13), .ref (q 14), .ref (q 15), .ref (q 16), .int (zI (i 13)), .int (zI (i 14)), .int (zI (i 15)), .int (zI (i 16)), .int (zI (i 17)), .int (zI (i 18)), .ref (q 17), .ref (q 18), .ref (q 19), .ref (q 20)])), (a, .inl (cI, 200, .inl (fun k => zI (g_p k)))), (f, .inl (cI, 200, .inl (fun k => zI (gz9 k))))]) F hK hP hD hS hA hO hE (c_X9_less hO 9 ((g_p (((20 * x) + 17)).toNat) + (g_p (((20 * w) + 17)).toNat)) (by omega) (by omega)) k_1460 ks_X9_less 2 rfl (by decide +kernel) ⟨Nat.le_of_ble_eq_true rfl, Nat.le_of_ble_eq_true rfl⟩ [] [0, 1, 2] rfl rfl (by decide) (by decide) (by decide) hl.1 rfl (Nat.le_of_ble_eq_true rfl) dX9_merge_78 ⟨Nat.le_of_ble_eq_true rfl, Nat.le_of_ble_eq_true rfl⟩ (w1 := fun u52 => [(y, .inr (9, [.int (zI (i 0)), .ref (q 0), .int (zI (i 1)), .int (zI (i 2)), .int (zI (i 3)), .int (zI (i 4)), .int (zI (i 5)), .int (zI (i 6)), .int (zI (i 7)), .int (zI (i 8)), .int (zI (i 9)), .int (zI (i 10)), .ref (q 1), .int (zI (i 11)), .int (zI (i 12)), .ref (q 2), .ref (q 3), .ref (q 4), .ref (q 5), .ref (q 6), .ref (q 7), .ref (q 8), .ref (q 9), .ref (q 10), .ref (q 11), .ref (q 12), .ref (q 13), .ref (q 14), .ref (q 15), .ref (q 16), .int (zI (i 13)), .int (zI (i 14)), .int (zI (i 15)), .int (zI (i 16)), .int (zI (i 17)), .int (zI (i 18)), .ref (q 17), .ref (q 18), .ref (q 19), .ref (q 20)])), (a, .inl (cI, 200, .inl (fun k => zI (g_p k)))), (f, .inl (cI, 200, .inl (fun k => zI (gz9 k))))]) (fun _ => rfl) (fun r53 u52 H locs hp54 hP hD hS => ?_)
        obtain ⟨z55, rfl, h_z55⟩ := hp54
        refine rz_iastG F hK hP hD hS 2 0 rfl rfl (by omega) (by omega) dX9_merge_81 (w1 := fun g56 => [(y, .inr (9, [.int (zI (i 0)), .ref (q 0), .int (zI (i 1)), .int (zI (i 2)), .int (zI (i 3)), .int (zI (i 4)), .int (zI (i 5)), .int (zI (i 6)), .int (zI (i 7)), .int (zI (i 8)), .int (zI (i 9)), .int (zI (i 10)), .ref (q 1), .int (zI (i 11)), .int (zI (i 12)), .ref (q 2), .ref (q 3), .ref (q 4), .ref (q 5), .ref (q 6), .ref (q 7), .ref (q 8), .ref (q 9), .ref (q 10), .ref (q 11), .ref (q 12), .ref (q 13), .ref (q 14), .ref (q 15), .ref (q 16), .int (zI (i 13)), .int (zI (i 14)), .int (zI (i 15)), .int (zI (i 16)), .int (zI (i 17)), .int (zI (i 18)), .ref (q 17), .ref (q 18), .ref (q 19), .ref (q 20)])), (a, .inl (cI, 200, .inl (fun k => zI (g_p k)))), (f, .inl (cI, 200, .inl (fun k => zI (g56 k))))]) (fun _ => rfl) (fun g56 e_g56 H locs hP hD hS => ?_)
        have hqp57 : ProgOk g56 := ⟨hqp0.1.set (m := 9) e_g56 17 (by omega) rfl (by omega), hqp0.2.set e_g56 (by omega)⟩
        have hmt58 := hmt0.keep e_g56 (by omega)
        refine lv_aload_n hx hb dX9_merge_82 rfl (lv_at hl 2 rfl) ?_
        refine lv_bipush (v := zI 20) hx hb dX9_merge_83 (by decide) ?_
        refine lv_iload_n hx hb dX9_merge_85 rfl (lv_at hl 3 rfl) ?_
        refine r_imul (v := zI (20 * x)) F dX9_merge_86 (zI_mul _ _) ?_
        refine lv_bipush (v := zI 14) hx hb dX9_merge_87 (by decide) ?_
        refine r_iadd (v := zI ((20 * x) + 14)) F dX9_merge_89 (zI_add _ _) ?_
        refine rz_iald F hK hP 1 0 rfl rfl (by omega) (by omega) dX9_merge_90 ?_
        have hpl59 : 0 ≤ (g_p (((20 * x) + 14)).toNat) ∧ (g_p (((20 * x) + 14)).toNat) ≤ 2 := ProgR.at hp.1 (e := ((20 * x) + 14)) x 14 (by omega) (by omega) (by decide) rfl
        refine lv_iconst (v := zI 2) hx hb dX9_merge_91 rfl ?_
        refine rz_icmp_ne (tgt := 129) F (by omega) (by omega) dX9_merge_92 (by decide) (fun h92_59 => ?_) (fun h92_59 => ?_)
        · exact j_129 g56 _ _ (by omega) hqp57 hmt58 (Mst.start (q := gz9) (q1 := g56) hx8 hxw (fun k hk => by rw [hz9 k hk, show v5 = 20 by omega]) (Or.inl ⟨by omega, (by rw [← (lessZ_eq h_z55)]; exact e_g56)⟩) (Or.inr ⟨by omega, rfl⟩)) hP hD hS ls (lv_sub hl [0, 1, 2, 3, 4, 5] rfl)
        · refine lv_aload hx hb dX9_merge_95 (lv_at hl 5 rfl) ?_
          refine lv_bipush (v := zI 20) hx hb dX9_merge_97 (by decide) ?_
          refine lv_iload_n hx hb dX9_merge_99 rfl (lv_at hl 3 rfl) ?_
          refine r_imul (v := zI (20 * x)) F dX9_merge_100 (zI_mul _ _) ?_
          refine lv_bipush (v := zI 19) hx hb dX9_merge_101 (by decide) ?_
          refine r_iadd (v := zI ((20 * x) + 19)) F dX9_merge_103 (zI_add _ _) ?_
          refine lv_bipush (v := zI 9) hx hb dX9_merge_104 (by decide) ?_
          refine lv_aload_n hx hb dX9_merge_106 rfl (lv_at hl 2 rfl) ?_
          refine lv_bipush (v := zI 20) hx hb dX9_merge_107 (by decide) ?_
          refine lv_iload_n hx hb dX9_merge_109 rfl (lv_at hl 3 rfl) ?_
          refine r_imul (v := zI (20 * x)) F dX9_merge_110 (zI_mul _ _) ?_
          refine lv_bipush (v := zI 19) hx hb dX9_merge_111 (by decide) ?_
          refine r_iadd (v := zI ((20 * x) + 19)) F dX9_merge_113 (zI_add _ _) ?_
          refine rz_iald F hK hP 1 0 rfl rfl (by omega) (by omega) dX9_merge_114 ?_
          have hpl61 : 0 ≤ (g_p (((20 * x) + 19)).toNat) ∧ (g_p (((20 * x) + 19)).toNat) ≤ 9 := ProgR.at hp.1 (e := ((20 * x) + 19)) x 19 (by omega) (by omega) (by decide) rfl
          refine lv_aload_n hx hb dX9_merge_115 rfl (lv_at hl 2 rfl) ?_
          refine lv_bipush (v := zI 20) hx hb dX9_merge_116 (by decide) ?_
          refine lv_iload_n hx hb dX9_merge_118 rfl (lv_at hl 4 rfl) ?_
          refine r_imul (v := zI (20 * w)) F dX9_merge_119 (zI_mul _ _) ?_
          refine lv_bipush (v := zI 19) hx hb dX9_merge_120 (by decide) ?_
          refine r_iadd (v := zI ((20 * w) + 19)) F dX9_merge_122 (zI_add _ _) ?_
          refine rz_iald F hK hP 1 0 rfl rfl (by omega) (by omega) dX9_merge_123 ?_
          have hpl62 : 0 ≤ (g_p (((20 * w) + 19)).toNat) ∧ (g_p (((20 * w) + 19)).toNat) ≤ 9 := ProgR.at hp.1 (e := ((20 * w) + 19)) w 19 (by omega) (by omega) (by decide) rfl
          refine r_iadd (v := zI ((g_p (((20 * x) + 19)).toNat) + (g_p (((20 * w) + 19)).toNat))) F dX9_merge_124 (zI_add _ _) ?_
          refine r_callSi (As := [.int (zI 9), .int (zI ((g_p (((20 * x) + 19)).toNat) + (g_p (((20 * w) + 19)).toNat)))]) (rest := [.int (zI ((20 * x) + 19)), .ref f]) (wr := [(y, .inr (9, [.int (zI (i 0)), .ref (q 0), .int (zI (i 1)), .int (zI (i 2)), .int (zI (i 3)), .int (zI (i 4)), .int (zI (i 5)), .int (zI (i 6)), .int (zI (i 7)), .int (zI (i 8)), .int (zI (i 9)), .int (zI (i 10)), .ref (q 1), .int (zI (i 11)), .int (zI (i 12)), .ref (q 2), .ref (q 3), .ref (q 4), .ref (q 5), .ref (q 6), .ref (q 7), .ref (q 8), .ref (q 9), .ref (q 10), .ref (q 11), .ref (q 12), .ref (q 13), .ref (q 14), .ref (q 15), .ref (q 16), .int (zI (i 13)), .int (zI (i 14)), .int (zI (i 15)), .int (zI (i 16)), .int (zI (i 17)), .int (zI (i 18)), .ref (q 17), .ref (q 18), .ref (q 19), .ref (q 20)])), (a, .inl (cI, 200, .inl (fun k => zI (g_p k)))), (f, .inl (cI, 200, .inl (fun k => zI (g56 k))))]) F hK hP hD hS hA hO hE (c_X9_less hO 9 ((g_p (((20 * x) + 19)).toNat) + (g_p (((20 * w) + 19)).toNat)) (by omega) (by omega)) k_1460 ks_X9_less 2 rfl (by decide +kernel) ⟨Nat.le_of_ble_eq_true rfl, Nat.le_of_ble_eq_true rfl⟩ [] [0, 1, 2] rfl rfl (by decide) (by decide) (by decide) hl.1 rfl (Nat.le_of_ble_eq_true rfl) dX9_merge_125 ⟨Nat.le_of_ble_eq_true rfl, Nat.le_of_ble_eq_true rfl⟩ (w1 := fun u63 => [(y, .inr (9, [.int (zI (i 0)), .ref (q 0), .int (zI (i 1)), .int (zI (i 2)), .int (zI (i 3)), .int (zI (i 4)), .int (zI (i 5)), .int (zI (i 6)), .int (zI (i 7)), .int (zI (i 8)), .int (zI (i 9)), .int (zI (i 10)), .ref (q 1), .int (zI (i 11)), .int (zI (i 12)), .ref (q 2), .ref (q 3), .ref (q 4), .ref (q 5), .ref (q 6), .ref (q 7), .ref (q 8), .ref (q 9), .ref (q 10), .ref (q 11), .ref (q 12), .ref (q 13), .ref (q 14), .ref (q 15), .ref (q 16), .int (zI (i 13)), .int (zI (i 14)), .int (zI (i 15)), .int (zI (i 16)), .int (zI (i 17)), .int (zI (i 18)), .ref (q 17), .ref (q 18), .ref (q 19), .ref (q 20)])), (a, .inl (cI, 200, .inl (fun k => zI (g_p k)))), (f, .inl (cI, 200, .inl (fun k => zI (g56 k))))]) (fun _ => rfl) (fun r64 u63 H locs hp65 hP hD hS => ?_)
          obtain ⟨z66, rfl, h_z66⟩ := hp65
          refine rz_iastG F hK hP hD hS 2 0 rfl rfl (by omega) (by omega) dX9_merge_128 (w1 := fun g67 => [(y, .inr (9, [.int (zI (i 0)), .ref (q 0), .int (zI (i 1)), .int (zI (i 2)), .int (zI (i 3)), .int (zI (i 4)), .int (zI (i 5)), .int (zI (i 6)), .int (zI (i 7)), .int (zI (i 8)), .int (zI (i 9)), .int (zI (i 10)), .ref (q 1), .int (zI (i 11)), .int (zI (i 12)), .ref (q 2), .ref (q 3), .ref (q 4), .ref (q 5), .ref (q 6), .ref (q 7), .ref (q 8), .ref (q 9), .ref (q 10), .ref (q 11), .ref (q 12), .ref (q 13), .ref (q 14), .ref (q 15), .ref (q 16), .int (zI (i 13)), .int (zI (i 14)), .int (zI (i 15)), .int (zI (i 16)), .int (zI (i 17)), .int (zI (i 18)), .ref (q 17), .ref (q 18), .ref (q 19), .ref (q 20)])), (a, .inl (cI, 200, .inl (fun k => zI (g_p k)))), (f, .inl (cI, 200, .inl (fun k => zI (g67 k))))]) (fun _ => rfl) (fun g67 e_g67 H locs hP hD hS => ?_)
          have hqp68 : ProgOk g67 := ⟨hqp57.1.set (m := 9) e_g67 19 (by omega) rfl (by omega), hqp57.2.set e_g67 (by omega)⟩
          have hmt69 := hmt58.keep e_g67 (by omega)
          exact j_129 g67 _ _ (by omega) hqp68 hmt69 (Mst.start (q := gz9) (q1 := g56) hx8 hxw (fun k hk => by rw [hz9 k hk, show v5 = 20 by omega]) (Or.inl ⟨by omega, (by rw [← (lessZ_eq h_z55)]; exact e_g56)⟩) (Or.inl ⟨by omega, (by rw [← (lessZ_eq h_z66)]; exact e_g67)⟩)) hP hD hS ls (lv_sub hl [0, 1, 2, 3, 4, 5] rfl)
    · refine lv_aload hx hb dX9_merge_19 (lv_at hl 5 rfl) ?_
      refine lv_bipush (v := zI 20) hx hb dX9_merge_21 (by decide) ?_
      refine lv_iload_n hx hb dX9_merge_23 rfl (lv_at hl 4 rfl) ?_
      refine r_imul (v := zI (20 * w)) F dX9_merge_24 (zI_mul _ _) ?_
      refine lv_iload hx hb dX9_merge_25 (lv_at hl 0 rfl) ?_
      refine r_iadd (v := zI ((20 * w) + v5)) F dX9_merge_27 (zI_add _ _) ?_
      refine lv_iconst (v := zI 0) hx hb dX9_merge_28 rfl ?_
      refine rz_iastG F hK hP hD hS 2 0 rfl rfl (by omega) (by omega) dX9_merge_29 (w1 := fun g70 => [(y, .inr (9, [.int (zI (i 0)), .ref (q 0), .int (zI (i 1)), .int (zI (i 2)), .int (zI (i 3)), .int (zI (i 4)), .int (zI (i 5)), .int (zI (i 6)), .int (zI (i 7)), .int (zI (i 8)), .int (zI (i 9)), .int (zI (i 10)), .ref (q 1), .int (zI (i 11)), .int (zI (i 12)), .ref (q 2), .ref (q 3), .ref (q 4), .ref (q 5), .ref (q 6), .ref (q 7), .ref (q 8), .ref (q 9), .ref (q 10), .ref (q 11), .ref (q 12), .ref (q 13), .ref (q 14), .ref (q 15), .ref (q 16), .int (zI (i 13)), .int (zI (i 14)), .int (zI (i 15)), .int (zI (i 16)), .int (zI (i 17)), .int (zI (i 18)), .ref (q 17), .ref (q 18), .ref (q 19), .ref (q 20)])), (a, .inl (cI, 200, .inl (fun k => zI (g_p k)))), (f, .inl (cI, 200, .inl (fun k => zI (g70 k))))]) (fun _ => rfl) (fun g70 e_g70 H locs hP hD hS => ?_)
      refine lv_iinc (v := zI (v5 + 1)) (lv' := [(5, .int (zI (v5 + 1))), (0, .ref y), (1, .ref a), (2, .int (zI x)), (3, .int (zI w)), (4, .ref f)]) hx hb dX9_merge_30 hl (k := 0) rfl (zI_add _ _) (by decide) rfl (fun ls hl => ?_)
      refine lv_goto (tgt := 12) hx hb dX9_merge_33 (by decide) ?_
      exact ih1 (v5 + 1) g70 _ _ (by omega) (by omega) (zr_step (by omega) hz9 e_g70) hP hD hS ls (lv_sub hl [0, 1, 2, 3, 4, 5] rfl)
abbrev rm_X9_foldsOneX : Room := { frames := 5, cells := 0, slots := 0, locals := 119 }
set_option maxRecDepth 100000 in
set_option maxHeartbeats 8000000 in
theorem c_X9_foldsOneX {l : Launch} {E : (Nat → Prop) → State → Prop} (hO : bw_Ok E) {G : va_G} {cI cB cJ cN cW : ClassId} (y : Nat) (q : Nat → Nat) (i : Nat → Int) (hM : ModOk i) (g_now : Nat → Int) (g_tried : Nat → Int) (g_other : Nat → Int) (g_another : Nat → Int) (x : Int) (hx9 : zR x) (hpn : ProgOk g_now) (hx8 : 0 ≤ x ∧ x ≤ 3) : bw_Ci (S := zV) l yX9_foldsOne (bw_ws (Cond.code yX9_foldsOne cX9_foldsOne 4 (some .boolean))) rm_X9_foldsOneX E G (bw_kt cI cB cJ cN cW) [.ref y, .int (zI x)] [(y, .inr (9, [.int (zI (i 0)), .ref (q 0), .int (zI (i 1)), .int (zI (i 2)), .int (zI (i 3)), .int (zI (i 4)), .int (zI (i 5)), .int (zI (i 6)), .int (zI (i 7)), .int (zI (i 8)), .int (zI (i 9)), .int (zI (i 10)), .ref (q 1), .int (zI (i 11)), .int (zI (i 12)), .ref (q 2), .ref (q 3), .ref (q 4), .ref (q 5), .ref (q 6), .ref (q 7), .ref (q 8), .ref (q 9), .ref (q 10), .ref (q 11), .ref (q 12), .ref (q 13), .ref (q 14), .ref (q 15), .ref (q 16), .int (zI (i 13)), .int (zI (i 14)), .int (zI (i 15)), .int (zI (i 16)), .int (zI (i 17)), .int (zI (i 18)), .ref (q 17), .ref (q 18), .ref (q 19), .ref (q 20)])), ((q 3), .inl (cI, 200, .inl (fun k => zI (g_now k)))), ((q 5), .inl (cI, 200, .inl (fun k => zI (g_tried k)))), ((q 14), .inl (cI, 159, .inl (fun k => zI (g_other k)))), ((q 15), .inl (cI, 159, .inl (fun k => zI (g_another k))))] (fun r u => ∃ z : Int, r = zI z ∧ ((ProgOk ((u 1).2 0) ∧ (0 ≤ z ∧ z ≤ 1) ∧ tN ((u 1).2 0) ≤ tN g_now ∧ Imp (z = 1) (tN ((u 1).2 0) + 1 ≤ tN g_now)) ∧ ((z = 1 ∧ ∃ a b : Int, FPair g_now x (i 13) a b ∧ E2 (mergeF g_now a b (i 13)) ((u 1).2 0)) ∨ (z = 0 ∧ NoB g_now x (i 13) (i 13) (i 13) ∧ ((u 1).2 0) = g_now)))) (fun u => [(y, .inr (9, [.int (zI (i 0)), .ref (q 0), .int (zI (i 1)), .int (zI (i 2)), .int (zI (i 3)), .int (zI (i 4)), .int (zI (i 5)), .int (zI (i 6)), .int (zI (i 7)), .int (zI (i 8)), .int (zI (i 9)), .int (zI (i 10)), .ref (q 1), .int (zI (i 11)), .int (zI (i 12)), .ref (q 2), .ref (q 3), .ref (q 4), .ref (q 5), .ref (q 6), .ref (q 7), .ref (q 8), .ref (q 9), .ref (q 10), .ref (q 11), .ref (q 12), .ref (q 13), .ref (q 14), .ref (q 15), .ref (q 16), .int (zI (i 13)), .int (zI (i 14)), .int (zI (i 15)), .int (zI (i 16)), .int (zI (i 17)), .int (zI (i 18)), .ref (q 17), .ref (q 18), .ref (q 19), .ref (q 20)])), ((q 3), .inl (cI, 200, .inl (fun k => zI (((u 1).2 0) k)))), ((q 5), .inl (cI, 200, .inl (fun k => zI (((u 2).2 0) k)))), ((q 14), .inl (cI, 159, .inl (fun k => zI (((u 3).2 0) k)))), ((q 15), .inl (cI, 159, .inl (fun k => zI (((u 4).2 0) k))))]) := by
  refine bw_Ci.of (cc := cX9_foldsOne) (maxL := 4) (ty := .boolean) (by decide) rfl (Nat.le_of_ble_eq_true rfl) ?_
  intro p e s m below meth c A Q hx hb hml hts hown hin hK hA hS hP hD hE ret ls hl
  have F : CallFix p m c cX9_foldsOne 4 s ([.ref y, .int (zI x)] : List Value).toArray bw_T RX9 := ⟨hx, hb, hml, hown, fun w h => hts w (List.mem_cons_of_mem _ h)⟩
  replace hl : lv_has ls 4 [(0, .ref y), (1, .int (zI x))] := hl
  have hf1 := hM.1
  refine lv_iconst (v := zI 0) hx hb dX9_foldsOne_0 rfl ?_
  refine lv_istore_n (lv' := [(2, .int (zI 0)), (0, .ref y), (1, .int (zI x))]) hx hb dX9_foldsOne_1 rfl hl (by decide) rfl (fun ls hl => ?_)
  refine W.widen (k := 0) (n := 0) (Nat.le_of_ble_eq_true rfl) (Nat.le_of_ble_eq_true rfl) ?_
  refine (?_ : ∀ (n9_1 : Nat) (v2 : Int) (gy1 : Nat → Int) (go1 : Nat → Int) (ga1 : Nat → Int) (H : Heap) (locs : List Loc), (0 ≤ v2 ∧ v2 ≤ 10) → (10 - v2 : Int).toNat < n9_1 → (NoB g_now x (i 13) v2 (v2 + 1)) → va_P G vwCl [(y, .inr (9, [.int (zI (i 0)), .ref (q 0), .int (zI (i 1)), .int (zI (i 2)), .int (zI (i 3)), .int (zI (i 4)), .int (zI (i 5)), .int (zI (i 6)), .int (zI (i 7)), .int (zI (i 8)), .int (zI (i 9)), .int (zI (i 10)), .ref (q 1), .int (zI (i 11)), .int (zI (i 12)), .ref (q 2), .ref (q 3), .ref (q 4), .ref (q 5), .ref (q 6), .ref (q 7), .ref (q 8), .ref (q 9), .ref (q 10), .ref (q 11), .ref (q 12), .ref (q 13), .ref (q 14), .ref (q 15), .ref (q 16), .int (zI (i 13)), .int (zI (i 14)), .int (zI (i 15)), .int (zI (i 16)), .int (zI (i 17)), .int (zI (i 18)), .ref (q 17), .ref (q 18), .ref (q 19), .ref (q 20)])), ((q 3), .inl (cI, 200, .inl (fun k => zI (g_now k)))), ((q 5), .inl (cI, 200, .inl (fun k => zI (gy1 k)))), ((q 14), .inl (cI, 159, .inl (fun k => zI (go1 k)))), ((q 15), .inl (cI, 159, .inl (fun k => zI (ga1 k))))] H → va_D A [(y, .inr (9, [.int (zI (i 0)), .ref (q 0), .int (zI (i 1)), .int (zI (i 2)), .int (zI (i 3)), .int (zI (i 4)), .int (zI (i 5)), .int (zI (i 6)), .int (zI (i 7)), .int (zI (i 8)), .int (zI (i 9)), .int (zI (i 10)), .ref (q 1), .int (zI (i 11)), .int (zI (i 12)), .ref (q 2), .ref (q 3), .ref (q 4), .ref (q 5), .ref (q 6), .ref (q 7), .ref (q 8), .ref (q 9), .ref (q 10), .ref (q 11), .ref (q 12), .ref (q 13), .ref (q 14), .ref (q 15), .ref (q 16), .int (zI (i 13)), .int (zI (i 14)), .int (zI (i 15)), .int (zI (i 16)), .int (zI (i 17)), .int (zI (i 18)), .ref (q 17), .ref (q 18), .ref (q 19), .ref (q 20)])), ((q 3), .inl (cI, 200, .inl (fun k => zI (g_now k)))), ((q 5), .inl (cI, 200, .inl (fun k => zI (gy1 k)))), ((q 14), .inl (cI, 159, .inl (fun k => zI (go1 k)))), ((q 15), .inl (cI, 159, .inl (fun k => zI (ga1 k))))] → va_S A s.heap H locs → ∀ ls : Array Slot, lv_has ls 4 [(2, .int (zI v2)), (0, .ref y), (1, .int (zI x))] → W p l e rm_X9_foldsOneX s m ([.ref y, .int (zI x)] : List Value).toArray below meth c H locs 0 0 Q (F0 m 2 ls [])) ((10 - 0 : Int).toNat + 1) 0 g_tried g_other g_another _ _ (by omega) (by omega) (NoB.first _ _ _) hP hD hS ls hl
  clear hP hD hS hl ls
  intro n9_1
  induction n9_1 with
  | zero =>
    intro v2 gy1 go1 ga1 H locs hI hM
    exact absurd hM (by omega)
  | succ n9_1 ih1 =>
    intro v2 gy1 go1 ga1 H locs hI1 hM1 hnb1 hP hD hS ls hl
    refine lv_iload_n hx hb dX9_foldsOne_2 rfl (lv_at hl 0 rfl) ?_
    refine lv_aload_n hx hb dX9_foldsOne_3 rfl (lv_at hl 1 rfl) ?_
    refine r_get F hK hP 0 30 rfl rfl in_X9 (by decide) k_1193 rfl dX9_foldsOne_4 ?_
    refine rz_icmp_ge (tgt := 101) F (by omega) (by omega) dX9_foldsOne_7 (by decide) (fun h7_1 => ?_) (fun h7_1 => ?_)
    · refine lv_iconst (v := zI 0) hx hb dX9_foldsOne_101 rfl ?_
      exact ret (zI 0) (fun k => [((fun _ => 0), fun _ _ => 0), (fun _ => 0, fun _ => g_now), (fun _ => 0, fun _ => gy1), (fun _ => 0, fun _ => go1), (fun _ => 0, fun _ => ga1)].getD k (fun _ => 0, fun _ _ => 0)) _ _ _ _ _ _ rfl ⟨0, rfl, ⟨⟨hpn, (show 0 ≤ (0 : Int) ∧ (0 : Int) ≤ 1 from by omega), Int.le_refl _, (show Imp ((0 : Int) = 1) (tN g_now + 1 ≤ tN g_now) from fun q9 => absurd q9 (by decide))⟩, Or.inr ⟨rfl, NoB.all hnb1 (by omega), rfl⟩⟩⟩ (bw_subP (isC := [0, 1, 2, 3, 4]) hP rfl) (hD.sub [0, 1, 2, 3, 4] (by decide) rfl) hS (Nat.le_of_ble_eq_true rfl) (Nat.le_of_ble_eq_true rfl) dX9_foldsOne_102
    · refine lv_iload_n hx hb dX9_foldsOne_10 rfl (lv_at hl 0 rfl) ?_
      refine lv_iconst (v := zI 1) hx hb dX9_foldsOne_11 rfl ?_
      refine r_iadd (v := zI (v2 + 1)) F dX9_foldsOne_12 (zI_add _ _) ?_
      refine lv_istore_n (lv' := [(3, .int (zI (v2 + 1))), (2, .int (zI v2)), (0, .ref y), (1, .int (zI x))]) hx hb dX9_foldsOne_13 rfl hl (by decide) rfl (fun ls hl => ?_)
      refine W.widen (k := 0) (n := 0) (Nat.le_of_ble_eq_true rfl) (Nat.le_of_ble_eq_true rfl) ?_
      refine (?_ : ∀ (n9_2 : Nat) (v3 : Int) (gy2 : Nat → Int) (go2 : Nat → Int) (ga2 : Nat → Int) (H : Heap) (locs : List Loc), (v2 < v3 ∧ v3 ≤ 11) → (11 - v3 : Int).toNat < n9_2 → (NoB g_now x (i 13) v2 v3) → va_P G vwCl [(y, .inr (9, [.int (zI (i 0)), .ref (q 0), .int (zI (i 1)), .int (zI (i 2)), .int (zI (i 3)), .int (zI (i 4)), .int (zI (i 5)), .int (zI (i 6)), .int (zI (i 7)), .int (zI (i 8)), .int (zI (i 9)), .int (zI (i 10)), .ref (q 1), .int (zI (i 11)), .int (zI (i 12)), .ref (q 2), .ref (q 3), .ref (q 4), .ref (q 5), .ref (q 6), .ref (q 7), .ref (q 8), .ref (q 9), .ref (q 10), .ref (q 11), .ref (q 12), .ref (q 13), .ref (q 14), .ref (q 15), .ref (q 16), .int (zI (i 13)), .int (zI (i 14)), .int (zI (i 15)), .int (zI (i 16)), .int (zI (i 17)), .int (zI (i 18)), .ref (q 17), .ref (q 18), .ref (q 19), .ref (q 20)])), ((q 3), .inl (cI, 200, .inl (fun k => zI (g_now k)))), ((q 5), .inl (cI, 200, .inl (fun k => zI (gy2 k)))), ((q 14), .inl (cI, 159, .inl (fun k => zI (go2 k)))), ((q 15), .inl (cI, 159, .inl (fun k => zI (ga2 k))))] H → va_D A [(y, .inr (9, [.int (zI (i 0)), .ref (q 0), .int (zI (i 1)), .int (zI (i 2)), .int (zI (i 3)), .int (zI (i 4)), .int (zI (i 5)), .int (zI (i 6)), .int (zI (i 7)), .int (zI (i 8)), .int (zI (i 9)), .int (zI (i 10)), .ref (q 1), .int (zI (i 11)), .int (zI (i 12)), .ref (q 2), .ref (q 3), .ref (q 4), .ref (q 5), .ref (q 6), .ref (q 7), .ref (q 8), .ref (q 9), .ref (q 10), .ref (q 11), .ref (q 12), .ref (q 13), .ref (q 14), .ref (q 15), .ref (q 16), .int (zI (i 13)), .int (zI (i 14)), .int (zI (i 15)), .int (zI (i 16)), .int (zI (i 17)), .int (zI (i 18)), .ref (q 17), .ref (q 18), .ref (q 19), .ref (q 20)])), ((q 3), .inl (cI, 200, .inl (fun k => zI (g_now k)))), ((q 5), .inl (cI, 200, .inl (fun k => zI (gy2 k)))), ((q 14), .inl (cI, 159, .inl (fun k => zI (go2 k)))), ((q 15), .inl (cI, 159, .inl (fun k => zI (ga2 k))))] → va_S A s.heap H locs → ∀ ls : Array Slot, lv_has ls 4 [(3, .int (zI v3)), (2, .int (zI v2)), (0, .ref y), (1, .int (zI x))] → W p l e rm_X9_foldsOneX s m ([.ref y, .int (zI x)] : List Value).toArray below meth c H locs 0 0 Q (F0 m 14 ls [])) ((11 - (v2 + 1) : Int).toNat + 1) (v2 + 1) gy1 go1 ga1 _ _ (by omega) (by omega) hnb1 hP hD hS ls hl
      clear hP hD hS hl ls
      intro n9_2
      induction n9_2 with
      | zero =>
        intro v3 gy2 go2 ga2 H locs hI hM
        exact absurd hM (by omega)
      | succ n9_2 ih2 =>
        intro v3 gy2 go2 ga2 H locs hI2 hM2 hnb2 hP hD hS ls hl
        refine lv_iload_n hx hb dX9_foldsOne_14 rfl (lv_at hl 0 rfl) ?_
        refine lv_aload_n hx hb dX9_foldsOne_15 rfl (lv_at hl 2 rfl) ?_
        refine r_get F hK hP 0 30 rfl rfl in_X9 (by decide) k_1193 rfl dX9_foldsOne_16 ?_
        refine rz_icmp_ge (tgt := 95) F (by omega) (by omega) dX9_foldsOne_19 (by decide) (fun h19_2 => ?_) (fun h19_2 => ?_)
        · refine lv_iinc (v := zI (v2 + 1)) (lv' := [(2, .int (zI (v2 + 1))), (3, .int (zI v3)), (0, .ref y), (1, .int (zI x))]) hx hb dX9_foldsOne_95 hl (k := 1) rfl (zI_add _ _) (by decide) rfl (fun ls hl => ?_)
          refine lv_goto (tgt := 2) hx hb dX9_foldsOne_98 (by decide) ?_
          exact ih1 (v2 + 1) gy2 go2 ga2 _ _ (by omega) (by omega) (NoB.x hnb2 (by omega)) hP hD hS ls (lv_sub hl [0, 2, 3] rfl)
        · refine lv_aload_n hx hb dX9_foldsOne_22 rfl (lv_at hl 2 rfl) ?_
          refine lv_aload_n hx hb dX9_foldsOne_23 rfl (lv_at hl 2 rfl) ?_
          refine r_get F hK hP 0 16 rfl rfl in_X9 (by decide) k_1179 rfl dX9_foldsOne_24 ?_
          refine lv_iload_n hx hb dX9_foldsOne_27 rfl (lv_at hl 1 rfl) ?_
          refine lv_iload_n hx hb dX9_foldsOne_28 rfl (lv_at hl 0 rfl) ?_
          refine r_callVi (As := [.ref (q 3), .int (zI v2), .int (zI v3)]) (rest := []) (wr := [((q 5), .inl (cI, 200, .inl (fun k => zI (gy2 k)))), ((q 14), .inl (cI, 159, .inl (fun k => zI (go2 k)))), ((q 15), .inl (cI, 159, .inl (fun k => zI (ga2 k))))]) F hK hP hD hS hA hO hE (c_X9_areAlikeX hO y q i hM (q 3) g_now v2 v3 (by omega) (by omega) hpn (by omega) (by omega)) k_1657 kv_X9_areAlike 3 rfl (by decide +kernel) ⟨Nat.le_of_ble_eq_true rfl, Nat.le_of_ble_eq_true rfl⟩ [0, 1] [2, 3, 4] rfl rfl (by decide) (by decide) (by decide) 0 9 rfl rfl rfl hl.1 rfl (Nat.le_of_ble_eq_true rfl) dX9_foldsOne_29 ⟨Nat.le_of_ble_eq_true rfl, Nat.le_of_ble_eq_true rfl⟩ (w1 := fun u4 => [((q 5), .inl (cI, 200, .inl (fun k => zI (gy2 k)))), ((q 14), .inl (cI, 159, .inl (fun k => zI (go2 k)))), ((q 15), .inl (cI, 159, .inl (fun k => zI (ga2 k)))), (y, .inr (9, [.int (zI (i 0)), .ref (q 0), .int (zI (i 1)), .int (zI (i 2)), .int (zI (i 3)), .int (zI (i 4)), .int (zI (i 5)), .int (zI (i 6)), .int (zI (i 7)), .int (zI (i 8)), .int (zI (i 9)), .int (zI (i 10)), .ref (q 1), .int (zI (i 11)), .int (zI (i 12)), .ref (q 2), .ref (q 3), .ref (q 4), .ref (q 5), .ref (q 6), .ref (q 7), .ref (q 8), .ref (q 9), .ref (q 10), .ref (q 11), .ref (q 12), .ref (q 13), .ref (q 14), .ref (q 15), .ref (q 16), .int (zI (i 13)), .int (zI (i 14)), .int (zI (i 15)), .int (zI (i 16)), .int (zI (i 17)), .int (zI (i 18)), .ref (q 17), .ref (q 18), .ref (q 19), .ref (q 20)])), ((q 3), .inl (cI, 200, .inl (fun k => zI (g_now k))))]) (fun _ => rfl) (fun r5 u4 H locs hp6 hP hD hS => ?_)
          obtain ⟨z7, rfl, h_z7⟩ := hp6
          refine rz_ifb_ne (tgt := 38) F (by omega) dX9_foldsOne_32 (by decide) (fun h32_7 => ?_) (fun h32_7 => ?_)
          · refine lv_aload_n hx hb dX9_foldsOne_38 rfl (lv_at hl 2 rfl) ?_
            refine lv_aload_n hx hb dX9_foldsOne_39 rfl (lv_at hl 2 rfl) ?_
            refine r_get F hK hP 3 16 rfl rfl in_X9 (by decide) k_1179 rfl dX9_foldsOne_40 ?_
            have hqa : g_now (20 * v2 + 0).toNat = 1 ∧ g_now (20 * v3 + 0).toNat = 1 := (h_z7.2.mp (by omega)).1
            refine lv_iload_n hx hb dX9_foldsOne_43 rfl (lv_at hl 1 rfl) ?_
            refine lv_iload_n hx hb dX9_foldsOne_44 rfl (lv_at hl 0 rfl) ?_
            refine lv_aload_n hx hb dX9_foldsOne_45 rfl (lv_at hl 2 rfl) ?_
            refine r_get F hK hP 3 18 rfl rfl in_X9 (by decide) k_1181 rfl dX9_foldsOne_46 ?_
            refine r_callVv (As := [.ref (q 3), .int (zI v2), .int (zI v3), .ref (q 5)]) (rest := []) (wr := [((q 14), .inl (cI, 159, .inl (fun k => zI (go2 k)))), ((q 15), .inl (cI, 159, .inl (fun k => zI (ga2 k))))]) F hK hP hD hS hA hO hE (c_X9_mergeX hO y q i hM (q 3) g_now (q 5) gy2 v2 v3 (by omega) (by omega) hpn (by omega) (by omega) (by omega)) k_1665 kv_X9_merge 4 rfl (by decide +kernel) ⟨Nat.le_of_ble_eq_true rfl, Nat.le_of_ble_eq_true rfl⟩ [3, 4, 0] [1, 2] rfl rfl (by decide) (by decide) (by decide) 0 9 rfl rfl rfl hl.1 rfl (Nat.le_of_ble_eq_true rfl) dX9_foldsOne_49 ⟨Nat.le_of_ble_eq_true rfl, Nat.le_of_ble_eq_true rfl⟩ (w1 := fun u9 => [((q 14), .inl (cI, 159, .inl (fun k => zI (go2 k)))), ((q 15), .inl (cI, 159, .inl (fun k => zI (ga2 k)))), (y, .inr (9, [.int (zI (i 0)), .ref (q 0), .int (zI (i 1)), .int (zI (i 2)), .int (zI (i 3)), .int (zI (i 4)), .int (zI (i 5)), .int (zI (i 6)), .int (zI (i 7)), .int (zI (i 8)), .int (zI (i 9)), .int (zI (i 10)), .ref (q 1), .int (zI (i 11)), .int (zI (i 12)), .ref (q 2), .ref (q 3), .ref (q 4), .ref (q 5), .ref (q 6), .ref (q 7), .ref (q 8), .ref (q 9), .ref (q 10), .ref (q 11), .ref (q 12), .ref (q 13), .ref (q 14), .ref (q 15), .ref (q 16), .int (zI (i 13)), .int (zI (i 14)), .int (zI (i 15)), .int (zI (i 16)), .int (zI (i 17)), .int (zI (i 18)), .ref (q 17), .ref (q 18), .ref (q 19), .ref (q 20)])), ((q 3), .inl (cI, 200, .inl (fun k => zI (g_now k)))), ((q 5), .inl (cI, 200, .inl (fun k => zI (((u9 1).2 0) k))))]) (fun _ => rfl) (fun  u9 H locs hp10 hP hD hS => ?_)
            refine lv_aload_n hx hb dX9_foldsOne_52 rfl (lv_at hl 2 rfl) ?_
            refine lv_aload_n hx hb dX9_foldsOne_53 rfl (lv_at hl 2 rfl) ?_
            refine r_get F hK hP 2 16 rfl rfl in_X9 (by decide) k_1179 rfl dX9_foldsOne_54 ?_
            refine lv_aload_n hx hb dX9_foldsOne_57 rfl (lv_at hl 2 rfl) ?_
            refine r_get F hK hP 2 18 rfl rfl in_X9 (by decide) k_1181 rfl dX9_foldsOne_58 ?_
            refine lv_iload_n hx hb dX9_foldsOne_61 rfl (lv_at hl 3 rfl) ?_
            refine r_callVi (As := [.ref (q 3), .ref (q 5), .int (zI x)]) (rest := []) (wr := []) F hK hP hD hS hA hO hE (c_X9_unlikeX hO y q i hM (q 3) g_now (q 5) ((u9 1).2 0) go2 ga2 x (by omega) hpn (hp10.1.1) (by omega)) k_1641 kv_X9_unlike 3 rfl (by decide +kernel) ⟨Nat.le_of_ble_eq_true rfl, Nat.le_of_ble_eq_true rfl⟩ [2, 3, 4, 0, 1] [] rfl rfl (by decide) (by decide) (by decide) 0 9 rfl rfl rfl hl.1 rfl (Nat.le_of_ble_eq_true rfl) dX9_foldsOne_62 ⟨Nat.le_of_ble_eq_true rfl, Nat.le_of_ble_eq_true rfl⟩ (w1 := fun u11 => [(y, .inr (9, [.int (zI (i 0)), .ref (q 0), .int (zI (i 1)), .int (zI (i 2)), .int (zI (i 3)), .int (zI (i 4)), .int (zI (i 5)), .int (zI (i 6)), .int (zI (i 7)), .int (zI (i 8)), .int (zI (i 9)), .int (zI (i 10)), .ref (q 1), .int (zI (i 11)), .int (zI (i 12)), .ref (q 2), .ref (q 3), .ref (q 4), .ref (q 5), .ref (q 6), .ref (q 7), .ref (q 8), .ref (q 9), .ref (q 10), .ref (q 11), .ref (q 12), .ref (q 13), .ref (q 14), .ref (q 15), .ref (q 16), .int (zI (i 13)), .int (zI (i 14)), .int (zI (i 15)), .int (zI (i 16)), .int (zI (i 17)), .int (zI (i 18)), .ref (q 17), .ref (q 18), .ref (q 19), .ref (q 20)])), ((q 3), .inl (cI, 200, .inl (fun k => zI (g_now k)))), ((q 5), .inl (cI, 200, .inl (fun k => zI (((u9 1).2 0) k)))), ((q 14), .inl (cI, 159, .inl (fun k => zI (((u11 1).2 0) k)))), ((q 15), .inl (cI, 159, .inl (fun k => zI (((u11 2).2 0) k))))]) (fun _ => rfl) (fun r12 u11 H locs hp13 hP hD hS => ?_)
            obtain ⟨z14, rfl, h_z14⟩ := hp13
            have hc15 := Unl.rg hx8 h_z14
            have hul9 : Unl g_now (mergeF g_now v2 v3 (i 13)) x z14 := (E2.refl g_now).unl hpn (hpn.merged (by omega) (by omega)) hp10.2 (by omega) h_z14
            refine lv_bipush (v := zI (-2)) hx hb dX9_foldsOne_65 (by decide) ?_
            refine rz_icmp_eq (tgt := 73) F (by omega) (by omega) dX9_foldsOne_67 (by decide) (fun h67_15 => ?_) (fun h67_15 => ?_)
            · refine lv_aload_n hx hb dX9_foldsOne_73 rfl (lv_at hl 2 rfl) ?_
              refine r_get F hK hP 0 18 rfl rfl in_X9 (by decide) k_1181 rfl dX9_foldsOne_74 ?_
              refine lv_aload_n hx hb dX9_foldsOne_77 rfl (lv_at hl 2 rfl) ?_
              refine r_get F hK hP 0 16 rfl rfl in_X9 (by decide) k_1179 rfl dX9_foldsOne_78 ?_
              refine lv_sipush (v := zI 200) hx hb dX9_foldsOne_81 (by decide) ?_
              refine r_callZv (As := [.ref (q 5), .ref (q 3), .int (zI 200)]) (rest := []) (wr := [(y, .inr (9, [.int (zI (i 0)), .ref (q 0), .int (zI (i 1)), .int (zI (i 2)), .int (zI (i 3)), .int (zI (i 4)), .int (zI (i 5)), .int (zI (i 6)), .int (zI (i 7)), .int (zI (i 8)), .int (zI (i 9)), .int (zI (i 10)), .ref (q 1), .int (zI (i 11)), .int (zI (i 12)), .ref (q 2), .ref (q 3), .ref (q 4), .ref (q 5), .ref (q 6), .ref (q 7), .ref (q 8), .ref (q 9), .ref (q 10), .ref (q 11), .ref (q 12), .ref (q 13), .ref (q 14), .ref (q 15), .ref (q 16), .int (zI (i 13)), .int (zI (i 14)), .int (zI (i 15)), .int (zI (i 16)), .int (zI (i 17)), .int (zI (i 18)), .ref (q 17), .ref (q 18), .ref (q 19), .ref (q 20)])), ((q 14), .inl (cI, 159, .inl (fun k => zI (((u11 1).2 0) k)))), ((q 15), .inl (cI, 159, .inl (fun k => zI (((u11 2).2 0) k))))]) F hK hP hD hS hA hO hE (c_X9_copy200 hO (q 5) ((u9 1).2 0) (q 3) g_now 200 (by omega) (by omega)) k_1418 ks_X9_copy 3 rfl (by decide +kernel) ⟨Nat.le_of_ble_eq_true rfl, Nat.le_of_ble_eq_true rfl⟩ [2, 1] [0, 3, 4] rfl rfl (by decide) (by decide) (by decide) hl.1 rfl (Nat.le_of_ble_eq_true rfl) dX9_foldsOne_84 ⟨Nat.le_of_ble_eq_true rfl, Nat.le_of_ble_eq_true rfl⟩ (w1 := fun u17 => [(y, .inr (9, [.int (zI (i 0)), .ref (q 0), .int (zI (i 1)), .int (zI (i 2)), .int (zI (i 3)), .int (zI (i 4)), .int (zI (i 5)), .int (zI (i 6)), .int (zI (i 7)), .int (zI (i 8)), .int (zI (i 9)), .int (zI (i 10)), .ref (q 1), .int (zI (i 11)), .int (zI (i 12)), .ref (q 2), .ref (q 3), .ref (q 4), .ref (q 5), .ref (q 6), .ref (q 7), .ref (q 8), .ref (q 9), .ref (q 10), .ref (q 11), .ref (q 12), .ref (q 13), .ref (q 14), .ref (q 15), .ref (q 16), .int (zI (i 13)), .int (zI (i 14)), .int (zI (i 15)), .int (zI (i 16)), .int (zI (i 17)), .int (zI (i 18)), .ref (q 17), .ref (q 18), .ref (q 19), .ref (q 20)])), ((q 14), .inl (cI, 159, .inl (fun k => zI (((u11 1).2 0) k)))), ((q 15), .inl (cI, 159, .inl (fun k => zI (((u11 2).2 0) k)))), ((q 5), .inl (cI, 200, .inl (fun k => zI (((u9 1).2 0) k)))), ((q 3), .inl (cI, 200, .inl (fun k => zI (((u17 1).2 0) k))))]) (fun _ => rfl) (fun  u17 H locs hp18 hP hD hS => ?_)
              have hfn : ProgOk ((u17 1).2 0) := ProgOk.congr (hp10.1.1) (fun k hk => hp18 k (by omega))
              have hft := (tN_congr hp18).trans (MT.sum (hp10.1.2) (by omega) (hqa.2))
              have hfe : E2 (mergeF g_now v2 v3 (i 13)) ((u17 1).2 0) := fun k hk => (hp18 k (by omega)).trans (hp10.2 k hk)
              refine lv_iconst (v := zI 1) hx hb dX9_foldsOne_87 rfl ?_
              exact ret (zI 1) (fun k => [((fun _ => 0), fun _ _ => 0), (fun _ => 0, fun _ => ((u17 1).2 0)), (fun _ => 0, fun _ => ((u9 1).2 0)), (fun _ => 0, fun _ => ((u11 1).2 0)), (fun _ => 0, fun _ => ((u11 2).2 0))].getD k (fun _ => 0, fun _ _ => 0)) _ _ _ _ _ _ rfl ⟨1, rfl, ⟨⟨hfn, (show 0 ≤ (1 : Int) ∧ (1 : Int) ≤ 1 from by omega), (show tN ((u17 1).2 0) ≤ tN g_now from by omega), (show Imp ((1 : Int) = 1) (tN ((u17 1).2 0) + 1 ≤ tN g_now) from fun _ => by omega)⟩, Or.inl ⟨rfl, v2, v3, ⟨⟨by omega, by omega, by omega⟩, hnb2, h_z7.2.mp (by omega), (by have q8 := hul9; rwa [show z14 = -2 by omega] at q8)⟩, hfe⟩⟩⟩ (bw_subP (isC := [0, 4, 3, 1, 2]) hP rfl) (hD.sub [0, 4, 3, 1, 2] (by decide) rfl) hS (Nat.le_of_ble_eq_true rfl) (Nat.le_of_ble_eq_true rfl) dX9_foldsOne_88
            · refine lv_goto (tgt := 89) hx hb dX9_foldsOne_70 (by decide) ?_
              refine lv_iinc (v := zI (v3 + 1)) (lv' := [(3, .int (zI (v3 + 1))), (2, .int (zI v2)), (0, .ref y), (1, .int (zI x))]) hx hb dX9_foldsOne_89 hl (k := 0) rfl (zI_add _ _) (by decide) rfl (fun ls hl => ?_)
              refine lv_goto (tgt := 14) hx hb dX9_foldsOne_92 (by decide) ?_
              exact ih2 (v3 + 1) ((u9 1).2 0) ((u11 1).2 0) ((u11 2).2 0) _ _ (by omega) (by omega) (NoB.w hnb2 (fun q9 => absurd (Unl.uniq hul9 q9.2) (by omega))) hP hD hS ls (lv_sub hl [0, 1, 2, 3] rfl)
          · refine lv_goto (tgt := 89) hx hb dX9_foldsOne_35 (by decide) ?_
            refine lv_iinc (v := zI (v3 + 1)) (lv' := [(3, .int (zI (v3 + 1))), (2, .int (zI v2)), (0, .ref y), (1, .int (zI x))]) hx hb dX9_foldsOne_89 hl (k := 0) rfl (zI_add _ _) (by decide) rfl (fun ls hl => ?_)
            refine lv_goto (tgt := 14) hx hb dX9_foldsOne_92 (by decide) ?_
            have hP := bw_subP (isC := [3, 4, 0, 1, 2]) (wc := [(y, .inr (9, [.int (zI (i 0)), .ref (q 0), .int (zI (i 1)), .int (zI (i 2)), .int (zI (i 3)), .int (zI (i 4)), .int (zI (i 5)), .int (zI (i 6)), .int (zI (i 7)), .int (zI (i 8)), .int (zI (i 9)), .int (zI (i 10)), .ref (q 1), .int (zI (i 11)), .int (zI (i 12)), .ref (q 2), .ref (q 3), .ref (q 4), .ref (q 5), .ref (q 6), .ref (q 7), .ref (q 8), .ref (q 9), .ref (q 10), .ref (q 11), .ref (q 12), .ref (q 13), .ref (q 14), .ref (q 15), .ref (q 16), .int (zI (i 13)), .int (zI (i 14)), .int (zI (i 15)), .int (zI (i 16)), .int (zI (i 17)), .int (zI (i 18)), .ref (q 17), .ref (q 18), .ref (q 19), .ref (q 20)])), ((q 3), .inl (cI, 200, .inl (fun k => zI (g_now k)))), ((q 5), .inl (cI, 200, .inl (fun k => zI (gy2 k)))), ((q 14), .inl (cI, 159, .inl (fun k => zI (go2 k)))), ((q 15), .inl (cI, 159, .inl (fun k => zI (ga2 k))))]) hP rfl
            have hD := hD.sub (ws' := [(y, .inr (9, [.int (zI (i 0)), .ref (q 0), .int (zI (i 1)), .int (zI (i 2)), .int (zI (i 3)), .int (zI (i 4)), .int (zI (i 5)), .int (zI (i 6)), .int (zI (i 7)), .int (zI (i 8)), .int (zI (i 9)), .int (zI (i 10)), .ref (q 1), .int (zI (i 11)), .int (zI (i 12)), .ref (q 2), .ref (q 3), .ref (q 4), .ref (q 5), .ref (q 6), .ref (q 7), .ref (q 8), .ref (q 9), .ref (q 10), .ref (q 11), .ref (q 12), .ref (q 13), .ref (q 14), .ref (q 15), .ref (q 16), .int (zI (i 13)), .int (zI (i 14)), .int (zI (i 15)), .int (zI (i 16)), .int (zI (i 17)), .int (zI (i 18)), .ref (q 17), .ref (q 18), .ref (q 19), .ref (q 20)])), ((q 3), .inl (cI, 200, .inl (fun k => zI (g_now k)))), ((q 5), .inl (cI, 200, .inl (fun k => zI (gy2 k)))), ((q 14), .inl (cI, 159, .inl (fun k => zI (go2 k)))), ((q 15), .inl (cI, 159, .inl (fun k => zI (ga2 k))))]) [3, 4, 0, 1, 2] (by decide) rfl
            exact ih2 (v3 + 1) gy2 go2 ga2 _ _ (by omega) (by omega) (NoB.w hnb2 (fun q9 => absurd (h_z7.2.mpr q9.1) (by omega))) hP hD hS ls (lv_sub hl [0, 1, 2, 3] rfl)
