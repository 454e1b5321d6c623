abbrev rm_X9_areAlikeX : Room := { frames := 1, cells := 0, slots := 0, locals := 21 }
set_option maxRecDepth 100000 in
set_option maxHeartbeats 8000000 in
theorem c_X9_areAlikeX {l : Launch} {E : (Nat → Prop) → State → Prop} (hO : bw_Ok E) {G : va_G} {cI cB cJ cN cW : ClassId} (y : Nat) (q : Nat → Nat) (i : Nat → Int) (hM : ModOk i) (a : Nat) (g_p : Nat → Int) (x : Int) (w : Int) (hx9 : zR x) (hw9 : zR w) (hp : ProgOk g_p) (hx8 : 0 ≤ x ∧ x < 10) (hw8 : 0 ≤ w ∧ w < 10) : bw_Ci (S := zV) l yX9_areAlike (bw_ws (Cond.code yX9_areAlike cX9_areAlike 7 (some .boolean))) rm_X9_areAlikeX E G (bw_kt cI cB cJ cN cW) [.ref y, .ref a, .int (zI x), .int (zI w)] [(y, .inr (9, [.int (zI (i 0)), .ref (q 0), .int (zI (i 1)), .int (zI (i 2)), .int (zI (i 3)), .int (zI (i 4)), .int (zI (i 5)), .int (zI (i 6)), .int (zI (i 7)), .int (zI (i 8)), .int (zI (i 9)), .int (zI (i 10)), .ref (q 1), .int (zI (i 11)), .int (zI (i 12)), .ref (q 2), .ref (q 3), .ref (q 4), .ref (q 5), .ref (q 6), .ref (q 7), .ref (q 8), .ref (q 9), .ref (q 10), .ref (q 11), .ref (q 12), .ref (q 13), .ref (q 14), .ref (q 15), .ref (q 16), .int (zI (i 13)), .int (zI (i 14)), .int (zI (i 15)), .int (zI (i 16)), .int (zI (i 17)), .int (zI (i 18)), .ref (q 17), .ref (q 18), .ref (q 19), .ref (q 20)])), (a, .inl (cI, 200, .inl (fun k => zI (g_p k))))] (fun r u => ∃ z : Int, r = zI z ∧ ((0 ≤ z ∧ z ≤ 1) ∧ (z = 1 ↔ Alk g_p x w))) (fun u => [(y, .inr (9, [.int (zI (i 0)), .ref (q 0), .int (zI (i 1)), .int (zI (i 2)), .int (zI (i 3)), .int (zI (i 4)), .int (zI (i 5)), .int (zI (i 6)), .int (zI (i 7)), .int (zI (i 8)), .int (zI (i 9)), .int (zI (i 10)), .ref (q 1), .int (zI (i 11)), .int (zI (i 12)), .ref (q 2), .ref (q 3), .ref (q 4), .ref (q 5), .ref (q 6), .ref (q 7), .ref (q 8), .ref (q 9), .ref (q 10), .ref (q 11), .ref (q 12), .ref (q 13), .ref (q 14), .ref (q 15), .ref (q 16), .int (zI (i 13)), .int (zI (i 14)), .int (zI (i 15)), .int (zI (i 16)), .int (zI (i 17)), .int (zI (i 18)), .ref (q 17), .ref (q 18), .ref (q 19), .ref (q 20)])), (a, .inl (cI, 200, .inl (fun k => zI (g_p k))))]) := by
  refine bw_Ci.of (cc := cX9_areAlike) (maxL := 7) (ty := .boolean) (by decide) rfl (Nat.le_of_ble_eq_true rfl) ?_
  intro p e s m below meth c A Q hx hb hml hts hown hin hK hA hS hP hD hE ret ls hl
  have F : CallFix p m c cX9_areAlike 7 s ([.ref y, .ref a, .int (zI x), .int (zI w)] : List Value).toArray bw_T RX9 := ⟨hx, hb, hml, hown, fun w h => hts w (List.mem_cons_of_mem _ h)⟩
  replace hl : lv_has ls 7 [(0, .ref y), (1, .ref a), (2, .int (zI x)), (3, .int (zI w))] := hl
  have hf1 := hM.1
  refine lv_aload_n hx hb dX9_areAlike_0 rfl (lv_at hl 1 rfl) ?_
  refine lv_iload_n hx hb dX9_areAlike_1 rfl (lv_at hl 2 rfl) ?_
  refine r_callSi (As := [.ref a, .int (zI x)]) (rest := []) (wr := [(y, .inr (9, [.int (zI (i 0)), .ref (q 0), .int (zI (i 1)), .int (zI (i 2)), .int (zI (i 3)), .int (zI (i 4)), .int (zI (i 5)), .int (zI (i 6)), .int (zI (i 7)), .int (zI (i 8)), .int (zI (i 9)), .int (zI (i 10)), .ref (q 1), .int (zI (i 11)), .int (zI (i 12)), .ref (q 2), .ref (q 3), .ref (q 4), .ref (q 5), .ref (q 6), .ref (q 7), .ref (q 8), .ref (q 9), .ref (q 10), .ref (q 11), .ref (q 12), .ref (q 13), .ref (q 14), .ref (q 15), .ref (q 16), .int (zI (i 13)), .int (zI (i 14)), .int (zI (i 15)), .int (zI (i 16)), .int (zI (i 17)), .int (zI (i 18)), .ref (q 17), .ref (q 18), .ref (q 19), .ref (q 20)]))]) F hK hP hD hS hA hO hE (c_X9_isToldX hO a g_p x (by omega) hp (by omega)) k_1420 ks_X9_isTold 2 rfl (by decide +kernel) ⟨Nat.le_of_ble_eq_true rfl, Nat.le_of_ble_eq_true rfl⟩ [1] [0] rfl rfl (by decide) (by decide) (by decide) hl.1 rfl (Nat.le_of_ble_eq_true rfl) dX9_areAlike_2 ⟨Nat.le_of_ble_eq_true rfl, Nat.le_of_ble_eq_true rfl⟩ (w1 := fun u2 => [(y, .inr (9, [.int (zI (i 0)), .ref (q 0), .int (zI (i 1)), .int (zI (i 2)), .int (zI (i 3)), .int (zI (i 4)), .int (zI (i 5)), .int (zI (i 6)), .int (zI (i 7)), .int (zI (i 8)), .int (zI (i 9)), .int (zI (i 10)), .ref (q 1), .int (zI (i 11)), .int (zI (i 12)), .ref (q 2), .ref (q 3), .ref (q 4), .ref (q 5), .ref (q 6), .ref (q 7), .ref (q 8), .ref (q 9), .ref (q 10), .ref (q 11), .ref (q 12), .ref (q 13), .ref (q 14), .ref (q 15), .ref (q 16), .int (zI (i 13)), .int (zI (i 14)), .int (zI (i 15)), .int (zI (i 16)), .int (zI (i 17)), .int (zI (i 18)), .ref (q 17), .ref (q 18), .ref (q 19), .ref (q 20)])), (a, .inl (cI, 200, .inl (fun k => zI (g_p k))))]) (fun _ => rfl) (fun r3 u2 H locs hp4 hP hD hS => ?_)
  obtain ⟨z5, rfl, h_z5⟩ := hp4
  have hit6 : (z5 = 1 → g_p (20 * x + 0).toNat = 1) ∧ (z5 = 0 → g_p (20 * x + 0).toNat ≠ 1) := ⟨h_z5.2.1, h_z5.2.2⟩
  refine rz_ifb_eq (tgt := 16) F (by omega) dX9_areAlike_5 (by decide) (fun h5_6 => ?_) (fun h5_6 => ?_)
  · refine lv_iconst (v := zI 0) hx hb dX9_areAlike_16 rfl ?_
    exact ret (zI 0) (fun k => [((fun _ => 0), fun _ _ => 0)].getD k (fun _ => 0, fun _ _ => 0)) _ _ _ _ _ _ rfl ⟨0, rfl, ⟨by omega, fun q9 => absurd q9 (by decide), fun q9 => by have q8 := q9.1.1; have q7 := q9.1.2; omega⟩⟩ (bw_subP (isC := [0, 1]) hP rfl) (hD.sub [0, 1] (by decide) rfl) hS (Nat.le_of_ble_eq_true rfl) (Nat.le_of_ble_eq_true rfl) dX9_areAlike_17
  · refine lv_aload_n hx hb dX9_areAlike_8 rfl (lv_at hl 1 rfl) ?_
    refine lv_iload_n hx hb dX9_areAlike_9 rfl (lv_at hl 3 rfl) ?_
    refine r_callSi (As := [.ref a, .int (zI w)]) (rest := []) (wr := [(y, .inr (9, [.int (zI (i 0)), .ref (q 0), .int (zI (i 1)), .int (zI (i 2)), .int (zI (i 3)), .int (zI (i 4)), .int (zI (i 5)), .int (zI (i 6)), .int (zI (i 7)), .int (zI (i 8)), .int (zI (i 9)), .int (zI (i 10)), .ref (q 1), .int (zI (i 11)), .int (zI (i 12)), .ref (q 2), .ref (q 3), .ref (q 4), .ref (q 5), .ref (q 6), .ref (q 7), .ref (q 8), .ref (q 9), .ref (q 10), .ref (q 11), .ref (q 12), .ref (q 13), .ref (q 14), .ref (q 15), .ref (q 16), .int (zI (i 13)), .int (zI (i 14)), .int (zI (i 15)), .int (zI (i 16)), .int (zI (i 17)), .int (zI (i 18)), .ref (q 17), .ref (q 18), .ref (q 19), .ref (q 20)]))]) F hK hP hD hS hA hO hE (c_X9_isToldX hO a g_p w (by omega) hp (by omega)) k_1420 ks_X9_isTold 2 rfl (by decide +kernel) ⟨Nat.le_of_ble_eq_true rfl, Nat.le_of_ble_eq_true rfl⟩ [1] [0] rfl rfl (by decide) (by decide) (by decide) hl.1 rfl (Nat.le_of_ble_eq_true rfl) dX9_areAlike_10 ⟨Nat.le_of_ble_eq_true rfl, Nat.le_of_ble_eq_true rfl⟩ (w1 := fun u8 => [(y, .inr (9, [.int (zI (i 0)), .ref (q 0), .int (zI (i 1)), .int (zI (i 2)), .int (zI (i 3)), .int (zI (i 4)), .int (zI (i 5)), .int (zI (i 6)), .int (zI (i 7)), .int (zI (i 8)), .int (zI (i 9)), .int (zI (i 10)), .ref (q 1), .int (zI (i 11)), .int (zI (i 12)), .ref (q 2), .ref (q 3), .ref (q 4), .ref (q 5), .ref (q 6), .ref (q 7), .ref (q 8), .ref (q 9), .ref (q 10), .ref (q 11), .ref (q 12), .ref (q 13), .ref (q 14), .ref (q 15), .ref (q 16), .int (zI (i 13)), .int (zI (i 14)), .int (zI (i 15)), .int (zI (i 16)), .int (zI (i 17)), .int (zI (i 18)), .ref (q 17), .ref (q 18), .ref (q 19), .ref (q 20)])), (a, .inl (cI, 200, .inl (fun k => zI (g_p k))))]) (fun _ => rfl) (fun r9 u8 H locs hp10 hP hD hS => ?_)
    obtain ⟨z11, rfl, h_z11⟩ := hp10
    have hit12 : (z11 = 1 → g_p (20 * w + 0).toNat = 1) ∧ (z11 = 0 → g_p (20 * w + 0).toNat ≠ 1) := ⟨h_z11.2.1, h_z11.2.2⟩
    refine rz_ifb_ne (tgt := 18) F (by omega) dX9_areAlike_13 (by decide) (fun h13_12 => ?_) (fun h13_12 => ?_)
    · refine lv_iconst (v := zI 1) hx hb dX9_areAlike_18 rfl ?_
      refine lv_istore (lv' := [(4, .int (zI 1)), (0, .ref y), (1, .ref a), (2, .int (zI x)), (3, .int (zI w))]) hx hb dX9_areAlike_19 hl (by decide) rfl (fun ls hl => ?_)
      refine lv_iconst (v := zI 1) hx hb dX9_areAlike_21 rfl ?_
      refine lv_istore (lv' := [(5, .int (zI 1)), (4, .int (zI 1)), (0, .ref y), (1, .ref a), (2, .int (zI x)), (3, .int (zI w))]) hx hb dX9_areAlike_22 hl (by decide) rfl (fun ls hl => ?_)
      refine W.widen (k := 0) (n := 0) (Nat.le_of_ble_eq_true rfl) (Nat.le_of_ble_eq_true rfl) ?_
      refine (?_ : ∀ (n9_1 : Nat) (v4 : Int) (v5 : Int) (H : Heap) (locs : List Loc), (0 ≤ v4 ∧ v4 ≤ 1 ∧ 1 ≤ v5 ∧ v5 ≤ 19) → (19 - v5 : Int).toNat < n9_1 → (v4 = 1 ↔ AlkB g_p x w v5) → va_P G vwCl [(y, .inr (9, [.int (zI (i 0)), .ref (q 0), .int (zI (i 1)), .int (zI (i 2)), .int (zI (i 3)), .int (zI (i 4)), .int (zI (i 5)), .int (zI (i 6)), .int (zI (i 7)), .int (zI (i 8)), .int (zI (i 9)), .int (zI (i 10)), .ref (q 1), .int (zI (i 11)), .int (zI (i 12)), .ref (q 2), .ref (q 3), .ref (q 4), .ref (q 5), .ref (q 6), .ref (q 7), .ref (q 8), .ref (q 9), .ref (q 10), .ref (q 11), .ref (q 12), .ref (q 13), .ref (q 14), .ref (q 15), .ref (q 16), .int (zI (i 13)), .int (zI (i 14)), .int (zI (i 15)), .int (zI (i 16)), .int (zI (i 17)), .int (zI (i 18)), .ref (q 17), .ref (q 18), .ref (q 19), .ref (q 20)])), (a, .inl (cI, 200, .inl (fun k => zI (g_p k))))] H → va_D A [(y, .inr (9, [.int (zI (i 0)), .ref (q 0), .int (zI (i 1)), .int (zI (i 2)), .int (zI (i 3)), .int (zI (i 4)), .int (zI (i 5)), .int (zI (i 6)), .int (zI (i 7)), .int (zI (i 8)), .int (zI (i 9)), .int (zI (i 10)), .ref (q 1), .int (zI (i 11)), .int (zI (i 12)), .ref (q 2), .ref (q 3), .ref (q 4), .ref (q 5), .ref (q 6), .ref (q 7), .ref (q 8), .ref (q 9), .ref (q 10), .ref (q 11), .ref (q 12), .ref (q 13), .ref (q 14), .ref (q 15), .ref (q 16), .int (zI (i 13)), .int (zI (i 14)), .int (zI (i 15)), .int (zI (i 16)), .int (zI (i 17)), .int (zI (i 18)), .ref (q 17), .ref (q 18), .ref (q 19), .ref (q 20)])), (a, .inl (cI, 200, .inl (fun k => zI (g_p k))))] → va_S A s.heap H locs → ∀ ls : Array Slot, lv_has ls 7 [(5, .int (zI v5)), (4, .int (zI v4)), (0, .ref y), (1, .ref a), (2, .int (zI x)), (3, .int (zI w))] → W p l e rm_X9_areAlikeX s m ([.ref y, .ref a, .int (zI x), .int (zI w)] : List Value).toArray below meth c H locs 0 0 Q (F0 m 24 ls [])) ((19 - 1 : Int).toNat + 1) 1 1 _ _ (by omega) (by omega) ⟨fun _ k k1 k2 => absurd k1 (by omega), fun _ => rfl⟩ hP hD hS ls hl
      clear hP hD hS hl ls
      intro n9_1
      induction n9_1 with
      | zero =>
        intro v4 v5 H locs hI hM
        exact absurd hM (by omega)
      | succ n9_1 ih1 =>
        intro v4 v5 H locs hI1 hM1 hal hP hD hS ls hl
        refine lv_iload hx hb dX9_areAlike_24 (lv_at hl 0 rfl) ?_
        refine lv_bipush (v := zI 18) hx hb dX9_areAlike_26 (by decide) ?_
        refine rz_icmp_gt (tgt := 177) F (by omega) (by omega) dX9_areAlike_28 (by decide) (fun h28_13 => ?_) (fun h28_13 => ?_)
        · refine lv_iload hx hb dX9_areAlike_177 (lv_at hl 1 rfl) ?_
          exact ret (zI v4) (fun k => [((fun _ => 0), fun _ _ => 0)].getD k (fun _ => 0, fun _ _ => 0)) _ _ _ _ _ _ (zI_nz (by omega)) ⟨v4, rfl, ⟨by omega, by have q8 := hal; rw [show v5 = 19 by omega] at q8; exact ⟨fun q9 => ⟨⟨by omega, by omega⟩, q8.mp q9⟩, fun q9 => q8.mpr q9.2⟩⟩⟩ (bw_subP (isC := [0, 1]) hP rfl) (hD.sub [0, 1] (by decide) rfl) hS (Nat.le_of_ble_eq_true rfl) (Nat.le_of_ble_eq_true rfl) dX9_areAlike_179
        · have j_131 : ∀ (zj131_0 : Int) (H : Heap) (locs : List Loc), ((0 ≤ zj131_0 ∧ zj131_0 ≤ 1) ∧ (zj131_0 = 1 ↔ (v5 < 2 ∨ (2 ≤ v5 ∧ v5 < 14 ∧ v5 - 2 < 3 * g_p ((20 * x) + 1).toNat) ∨ v5 = 14 ∨ ((v5 = 15 ∨ v5 = 18) ∧ g_p ((20 * x) + 14).toNat = 2) ∨ (v5 = 16 ∧ 0 < g_p ((20 * x) + 14).toNat)))) → va_P G vwCl [(y, .inr (9, [.int (zI (i 0)), .ref (q 0), .int (zI (i 1)), .int (zI (i 2)), .int (zI (i 3)), .int (zI (i 4)), .int (zI (i 5)), .int (zI (i 6)), .int (zI (i 7)), .int (zI (i 8)), .int (zI (i 9)), .int (zI (i 10)), .ref (q 1), .int (zI (i 11)), .int (zI (i 12)), .ref (q 2), .ref (q 3), .ref (q 4), .ref (q 5), .ref (q 6), .ref (q 7), .ref (q 8), .ref (q 9), .ref (q 10), .ref (q 11), .ref (q 12), .ref (q 13), .ref (q 14), .ref (q 15), .ref (q 16), .int (zI (i 13)), .int (zI (i 14)), .int (zI (i 15)), .int (zI (i 16)), .int (zI (i 17)), .int (zI (i 18)), .ref (q 17), .ref (q 18), .ref (q 19), .ref (q 20)])), (a, .inl (cI, 200, .inl (fun k => zI (g_p k))))] H → va_D A [(y, .inr (9, [.int (zI (i 0)), .ref (q 0), .int (zI (i 1)), .int (zI (i 2)), .int (zI (i 3)), .int (zI (i 4)), .int (zI (i 5)), .int (zI (i 6)), .int (zI (i 7)), .int (zI (i 8)), .int (zI (i 9)), .int (zI (i 10)), .ref (q 1), .int (zI (i 11)), .int (zI (i 12)), .ref (q 2), .ref (q 3), .ref (q 4), .ref (q 5), .ref (q 6), .ref (q 7), .ref (q 8), .ref (q 9), .ref (q 10), .ref (q 11), .ref (q 12), .ref (q 13), .ref (q 14), .ref (q 15), .ref (q 16), .int (zI (i 13)), .int (zI (i 14)), .int (zI (i 15)), .int (zI (i 16)), .int (zI (i 17)), .int (zI (i 18)), .ref (q 17), .ref (q 18), .ref (q 19), .ref (q 20)])), (a, .inl (cI, 200, .inl (fun k => zI (g_p k))))] → va_S A s.heap H locs → ∀ ls : Array Slot, lv_has ls 7 [(5, .int (zI v5)), (4, .int (zI v4)), (0, .ref y), (1, .ref a), (2, .int (zI x)), (3, .int (zI w))] → W p l e rm_X9_areAlikeX s m ([.ref y, .ref a, .int (zI x), .int (zI w)] : List Value).toArray below meth c H locs 0 0 Q (F0 m 131 ls [.int (zI zj131_0)]) := by
            intro zj131_0 H locs hJ131 hP hD hS ls hl
            refine lv_istore (lv' := [(6, .int (zI zj131_0)), (5, .int (zI v5)), (4, .int (zI v4)), (0, .ref y), (1, .ref a), (2, .int (zI x)), (3, .int (zI w))]) hx hb dX9_areAlike_131 hl (by decide) rfl (fun ls hl => ?_)
            refine lv_iload hx hb dX9_areAlike_133 (lv_at hl 2 rfl) ?_
            refine rz_if_eq (tgt := 168) F (by omega) dX9_areAlike_135 (by decide) (fun h135_14 => ?_) (fun h135_14 => ?_)
            · refine lv_iconst (v := zI 0) hx hb dX9_areAlike_168 rfl ?_
              refine lv_istore (lv' := [(4, .int (zI 0)), (6, .int (zI zj131_0)), (5, .int (zI v5)), (0, .ref y), (1, .ref a), (2, .int (zI x)), (3, .int (zI w))]) hx hb dX9_areAlike_169 hl (by decide) rfl (fun ls hl => ?_)
              refine lv_iinc (v := zI (v5 + 1)) (lv' := [(5, .int (zI (v5 + 1))), (4, .int (zI 0)), (6, .int (zI zj131_0)), (0, .ref y), (1, .ref a), (2, .int (zI x)), (3, .int (zI w))]) hx hb dX9_areAlike_171 hl (k := 2) rfl (zI_add _ _) (by decide) rfl (fun ls hl => ?_)
              refine lv_goto (tgt := 24) hx hb dX9_areAlike_174 (by decide) ?_
              exact ih1 0 (v5 + 1) _ _ (by omega) (by omega) (alk_step (by omega) hal (by first | exact ⟨fun q9 => absurd q9 (by decide), fun q9 => absurd q9.1 (by omega)⟩ | exact ⟨fun _ => ⟨by omega, fun q9 => absurd (hJ131.2.mpr q9) (by omega)⟩, fun _ => rfl⟩ | exact ⟨fun _ => ⟨by omega, fun _ => by omega⟩, fun _ => rfl⟩ | exact ⟨fun q9 => absurd q9 (by decide), fun q9 => absurd (q9.2 (hJ131.2.mp (by omega))) (by omega)⟩)) hP hD hS ls (lv_sub hl [0, 1, 3, 4, 5, 6] rfl)
            · refine lv_iload hx hb dX9_areAlike_138 (lv_at hl 0 rfl) ?_
              refine rz_if_eq (tgt := 164) F (by omega) dX9_areAlike_140 (by decide) (fun h140_15 => ?_) (fun h140_15 => ?_)
              · refine lv_iconst (v := zI 1) hx hb dX9_areAlike_164 rfl ?_
                refine lv_goto (tgt := 169) hx hb dX9_areAlike_165 (by decide) ?_
                refine lv_istore (lv' := [(4, .int (zI 1)), (6, .int (zI zj131_0)), (5, .int (zI v5)), (0, .ref y), (1, .ref a), (2, .int (zI x)), (3, .int (zI w))]) hx hb dX9_areAlike_169 hl (by decide) rfl (fun ls hl => ?_)
                refine lv_iinc (v := zI (v5 + 1)) (lv' := [(5, .int (zI (v5 + 1))), (4, .int (zI 1)), (6, .int (zI zj131_0)), (0, .ref y), (1, .ref a), (2, .int (zI x)), (3, .int (zI w))]) hx hb dX9_areAlike_171 hl (k := 2) rfl (zI_add _ _) (by decide) rfl (fun ls hl => ?_)
                refine lv_goto (tgt := 24) hx hb dX9_areAlike_174 (by decide) ?_
                exact ih1 1 (v5 + 1) _ _ (by omega) (by omega) (alk_step (by omega) hal (by first | exact ⟨fun q9 => absurd q9 (by decide), fun q9 => absurd q9.1 (by omega)⟩ | exact ⟨fun _ => ⟨by omega, fun q9 => absurd (hJ131.2.mpr q9) (by omega)⟩, fun _ => rfl⟩ | exact ⟨fun _ => ⟨by omega, fun _ => by omega⟩, fun _ => rfl⟩ | exact ⟨fun q9 => absurd q9 (by decide), fun q9 => absurd (q9.2 (hJ131.2.mp (by omega))) (by omega)⟩)) hP hD hS ls (lv_sub hl [0, 1, 3, 4, 5, 6] rfl)
              · refine lv_aload_n hx hb dX9_areAlike_143 rfl (lv_at hl 4 rfl) ?_
                refine lv_bipush (v := zI 20) hx hb dX9_areAlike_144 (by decide) ?_
                refine lv_iload_n hx hb dX9_areAlike_146 rfl (lv_at hl 5 rfl) ?_
                refine r_imul (v := zI (20 * x)) F dX9_areAlike_147 (zI_mul _ _) ?_
                refine lv_iload hx hb dX9_areAlike_148 (lv_at hl 1 rfl) ?_
                refine r_iadd (v := zI ((20 * x) + v5)) F dX9_areAlike_150 (zI_add _ _) ?_
                refine rz_iald F hK hP 1 0 rfl rfl (by omega) (by omega) dX9_areAlike_151 ?_
                have hc17 := hp.1.pos (((20 * x) + v5)).toNat (by omega)
                have hc18 := hp.1.le9 (((20 * x) + v5)).toNat (by omega)
                refine lv_aload_n hx hb dX9_areAlike_152 rfl (lv_at hl 4 rfl) ?_
                refine lv_bipush (v := zI 20) hx hb dX9_areAlike_153 (by decide) ?_
                refine lv_iload_n hx hb dX9_areAlike_155 rfl (lv_at hl 6 rfl) ?_
                refine r_imul (v := zI (20 * w)) F dX9_areAlike_156 (zI_mul _ _) ?_
                refine lv_iload hx hb dX9_areAlike_157 (lv_at hl 1 rfl) ?_
                refine r_iadd (v := zI ((20 * w) + v5)) F dX9_areAlike_159 (zI_add _ _) ?_
                refine rz_iald F hK hP 1 0 rfl rfl (by omega) (by omega) dX9_areAlike_160 ?_
                have hc19 := hp.1.pos (((20 * w) + v5)).toNat (by omega)
                have hc20 := hp.1.le9 (((20 * w) + v5)).toNat (by omega)
                refine rz_icmp_ne (tgt := 168) F (by omega) (by omega) dX9_areAlike_161 (by decide) (fun h161_20 => ?_) (fun h161_20 => ?_)
                · refine lv_iconst (v := zI 0) hx hb dX9_areAlike_168 rfl ?_
                  refine lv_istore (lv' := [(4, .int (zI 0)), (6, .int (zI zj131_0)), (5, .int (zI v5)), (0, .ref y), (1, .ref a), (2, .int (zI x)), (3, .int (zI w))]) hx hb dX9_areAlike_169 hl (by decide) rfl (fun ls hl => ?_)
                  refine lv_iinc (v := zI (v5 + 1)) (lv' := [(5, .int (zI (v5 + 1))), (4, .int (zI 0)), (6, .int (zI zj131_0)), (0, .ref y), (1, .ref a), (2, .int (zI x)), (3, .int (zI w))]) hx hb dX9_areAlike_171 hl (k := 2) rfl (zI_add _ _) (by decide) rfl (fun ls hl => ?_)
                  refine lv_goto (tgt := 24) hx hb dX9_areAlike_174 (by decide) ?_
                  exact ih1 0 (v5 + 1) _ _ (by omega) (by omega) (alk_step (by omega) hal (by first | exact ⟨fun q9 => absurd q9 (by decide), fun q9 => absurd q9.1 (by omega)⟩ | exact ⟨fun _ => ⟨by omega, fun q9 => absurd (hJ131.2.mpr q9) (by omega)⟩, fun _ => rfl⟩ | exact ⟨fun _ => ⟨by omega, fun _ => by omega⟩, fun _ => rfl⟩ | exact ⟨fun q9 => absurd q9 (by decide), fun q9 => absurd (q9.2 (hJ131.2.mp (by omega))) (by omega)⟩)) hP hD hS ls (lv_sub hl [0, 1, 3, 4, 5, 6] rfl)
                · refine lv_iconst (v := zI 1) hx hb dX9_areAlike_164 rfl ?_
                  refine lv_goto (tgt := 169) hx hb dX9_areAlike_165 (by decide) ?_
                  refine lv_istore (lv' := [(4, .int (zI 1)), (6, .int (zI zj131_0)), (5, .int (zI v5)), (0, .ref y), (1, .ref a), (2, .int (zI x)), (3, .int (zI w))]) hx hb dX9_areAlike_169 hl (by decide) rfl (fun ls hl => ?_)
                  refine lv_iinc (v := zI (v5 + 1)) (lv' := [(5, .int (zI (v5 + 1))), (4, .int (zI 1)), (6, .int (zI zj131_0)), (0, .ref y), (1, .ref a), (2, .int (zI x)), (3, .int (zI w))]) hx hb dX9_areAlike_171 hl (k := 2) rfl (zI_add _ _) (by decide) rfl (fun ls hl => ?_)
                  refine lv_goto (tgt := 24) hx hb dX9_areAlike_174 (by decide) ?_
                  exact ih1 1 (v5 + 1) _ _ (by omega) (by omega) (alk_step (by omega) hal (by first | exact ⟨fun q9 => absurd q9 (by decide), fun q9 => absurd q9.1 (by omega)⟩ | exact ⟨fun _ => ⟨by omega, fun q9 => absurd (hJ131.2.mpr q9) (by omega)⟩, fun _ => rfl⟩ | exact ⟨fun _ => ⟨by omega, fun _ => by omega⟩, fun _ => rfl⟩ | exact ⟨fun q9 => absurd q9 (by decide), fun q9 => absurd (q9.2 (hJ131.2.mp (by omega))) (by omega)⟩)) hP hD hS ls (lv_sub hl [0, 1, 3, 4, 5, 6] rfl)
          refine lv_iload hx hb dX9_areAlike_31 (lv_at hl 0 rfl) ?_
          refine lv_iconst (v := zI 2) hx hb dX9_areAlike_33 rfl ?_
          refine rz_icmp_ge (tgt := 41) F (by omega) (by omega) dX9_areAlike_34 (by decide) (fun h34_21 => ?_) (fun h34_21 => ?_)
          · refine lv_iload hx hb dX9_areAlike_41 (lv_at hl 0 rfl) ?_
            refine lv_bipush (v := zI 14) hx hb dX9_areAlike_43 (by decide) ?_
            refine rz_icmp_ge (tgt := 73) F (by omega) (by omega) dX9_areAlike_45 (by decide) (fun h45_22 => ?_) (fun h45_22 => ?_)
            · refine lv_iload hx hb dX9_areAlike_73 (lv_at hl 0 rfl) ?_
              refine lv_bipush (v := zI 14) hx hb dX9_areAlike_75 (by decide) ?_
              refine rz_icmp_eq (tgt := 126) F (by omega) (by omega) dX9_areAlike_77 (by decide) (fun h77_23 => ?_) (fun h77_23 => ?_)
              · refine lv_iconst (v := zI 1) hx hb dX9_areAlike_126 rfl ?_
                refine lv_goto (tgt := 131) hx hb dX9_areAlike_127 (by decide) ?_
                exact j_131 1 _ _ (by omega) hP hD hS ls (lv_sub hl [0, 1, 2, 3, 4, 5] rfl)
              · refine lv_iload hx hb dX9_areAlike_80 (lv_at hl 0 rfl) ?_
                refine lv_bipush (v := zI 15) hx hb dX9_areAlike_82 (by decide) ?_
                refine rz_icmp_eq (tgt := 94) F (by omega) (by omega) dX9_areAlike_84 (by decide) (fun h84_24 => ?_) (fun h84_24 => ?_)
                · refine lv_aload_n hx hb dX9_areAlike_94 rfl (lv_at hl 3 rfl) ?_
                  refine lv_bipush (v := zI 20) hx hb dX9_areAlike_95 (by decide) ?_
                  refine lv_iload_n hx hb dX9_areAlike_97 rfl (lv_at hl 4 rfl) ?_
                  refine r_imul (v := zI (20 * x)) F dX9_areAlike_98 (zI_mul _ _) ?_
                  refine lv_bipush (v := zI 14) hx hb dX9_areAlike_99 (by decide) ?_
                  refine r_iadd (v := zI ((20 * x) + 14)) F dX9_areAlike_101 (zI_add _ _) ?_
                  refine rz_iald F hK hP 1 0 rfl rfl (by omega) (by omega) dX9_areAlike_102 ?_
                  have hpl26 : 0 ≤ (g_p (((20 * x) + 14)).toNat) ∧ (g_p (((20 * x) + 14)).toNat) ≤ 2 := ProgR.at hp.1 (e := ((20 * x) + 14)) x 14 (by omega) (by omega) (by decide) rfl
                  refine lv_iconst (v := zI 2) hx hb dX9_areAlike_103 rfl ?_
                  refine rz_icmp_eq (tgt := 126) F (by omega) (by omega) dX9_areAlike_104 (by decide) (fun h104_26 => ?_) (fun h104_26 => ?_)
                  · refine lv_iconst (v := zI 1) hx hb dX9_areAlike_126 rfl ?_
                    refine lv_goto (tgt := 131) hx hb dX9_areAlike_127 (by decide) ?_
                    exact j_131 1 _ _ (by omega) hP hD hS ls (lv_sub hl [0, 1, 2, 3, 4, 5] rfl)
                  · refine lv_iload hx hb dX9_areAlike_107 (lv_at hl 0 rfl) ?_
                    refine lv_bipush (v := zI 16) hx hb dX9_areAlike_109 (by decide) ?_
                    refine rz_icmp_ne (tgt := 130) F (by omega) (by omega) dX9_areAlike_111 (by decide) (fun h111_27 => ?_) (fun h111_27 => ?_)
                    · refine lv_iconst (v := zI 0) hx hb dX9_areAlike_130 rfl ?_
                      exact j_131 0 _ _ (by omega) hP hD hS ls (lv_sub hl [0, 1, 2, 3, 4, 5] rfl)
                    · refine lv_aload_n hx hb dX9_areAlike_114 rfl (lv_at hl 3 rfl) ?_
                      refine lv_bipush (v := zI 20) hx hb dX9_areAlike_115 (by decide) ?_
                      refine lv_iload_n hx hb dX9_areAlike_117 rfl (lv_at hl 4 rfl) ?_
                      refine r_imul (v := zI (20 * x)) F dX9_areAlike_118 (zI_mul _ _) ?_
                      refine lv_bipush (v := zI 14) hx hb dX9_areAlike_119 (by decide) ?_
                      refine r_iadd (v := zI ((20 * x) + 14)) F dX9_areAlike_121 (zI_add _ _) ?_
                      refine rz_iald F hK hP 1 0 rfl rfl (by omega) (by omega) dX9_areAlike_122 ?_
                      have hpl29 : 0 ≤ (g_p (((20 * x) + 14)).toNat) ∧ (g_p (((20 * x) + 14)).toNat) ≤ 2 := ProgR.at hp.1 (e := ((20 * x) + 14)) x 14 (by omega) (by omega) (by decide) rfl
                      refine rz_if_le (tgt := 130) F (by omega) dX9_areAlike_123 (by decide) (fun h123_29 => ?_) (fun h123_29 => ?_)
                      · refine lv_iconst (v := zI 0) hx hb dX9_areAlike_130 rfl ?_
                        exact j_131 0 _ _ (by omega) hP hD hS ls (lv_sub hl [0, 1, 2, 3, 4, 5] rfl)
                      · refine lv_iconst (v := zI 1) hx hb dX9_areAlike_126 rfl ?_
                        refine lv_goto (tgt := 131) hx hb dX9_areAlike_127 (by decide) ?_
                        exact j_131 1 _ _ (by omega) hP hD hS ls (lv_sub hl [0, 1, 2, 3, 4, 5] rfl)
                · refine lv_iload hx hb dX9_areAlike_87 (lv_at hl 0 rfl) ?_
                  refine lv_bipush (v := zI 18) hx hb dX9_areAlike_89 (by decide) ?_
                  refine rz_icmp_ne (tgt := 107) F (by omega) (by omega) dX9_areAlike_91 (by decide) (fun h91_30 => ?_) (fun h91_30 => ?_)
                  · refine lv_iload hx hb dX9_areAlike_107 (lv_at hl 0 rfl) ?_
                    refine lv_bipush (v := zI 16) hx hb dX9_areAlike_109 (by decide) ?_
                    refine rz_icmp_ne (tgt := 130) F (by omega) (by omega) dX9_areAlike_111 (by decide) (fun h111_31 => ?_) (fun h111_31 => ?_)
                    · refine lv_iconst (v := zI 0) hx hb dX9_areAlike_130 rfl ?_
                      exact j_131 0 _ _ (by omega) hP hD hS ls (lv_sub hl [0, 1, 2, 3, 4, 5] rfl)
                    · refine lv_aload_n hx hb dX9_areAlike_114 rfl (lv_at hl 3 rfl) ?_
                      refine lv_bipush (v := zI 20) hx hb dX9_areAlike_115 (by decide) ?_
                      refine lv_iload_n hx hb dX9_areAlike_117 rfl (lv_at hl 4 rfl) ?_
                      refine r_imul (v := zI (20 * x)) F dX9_areAlike_118 (zI_mul _ _) ?_
                      refine lv_bipush (v := zI 14) hx hb dX9_areAlike_119 (by decide) ?_
                      refine r_iadd (v := zI ((20 * x) + 14)) F dX9_areAlike_121 (zI_add _ _) ?_
                      refine rz_iald F hK hP 1 0 rfl rfl (by omega) (by omega) dX9_areAlike_122 ?_
                      have hpl33 : 0 ≤ (g_p (((20 * x) + 14)).toNat) ∧ (g_p (((20 * x) + 14)).toNat) ≤ 2 := ProgR.at hp.1 (e := ((20 * x) + 14)) x 14 (by omega) (by omega) (by decide) rfl
                      refine rz_if_le (tgt := 130) F (by omega) dX9_areAlike_123 (by decide) (fun h123_33 => ?_) (fun h123_33 => ?_)
                      · refine lv_iconst (v := zI 0) hx hb dX9_areAlike_130 rfl ?_
                        exact j_131 0 _ _ (by omega) hP hD hS ls (lv_sub hl [0, 1, 2, 3, 4, 5] rfl)
                      · refine lv_iconst (v := zI 1) hx hb dX9_areAlike_126 rfl ?_
                        refine lv_goto (tgt := 131) hx hb dX9_areAlike_127 (by decide) ?_
                        exact j_131 1 _ _ (by omega) hP hD hS ls (lv_sub hl [0, 1, 2, 3, 4, 5] rfl)
                  · refine lv_aload_n hx hb dX9_areAlike_94 rfl (lv_at hl 3 rfl) ?_
                    refine lv_bipush (v := zI 20) hx hb dX9_areAlike_95 (by decide) ?_
                    refine lv_iload_n hx hb dX9_areAlike_97 rfl (lv_at hl 4 rfl) ?_
                    refine r_imul (v := zI (20 * x)) F dX9_areAlike_98 (zI_mul _ _) ?_
                    refine lv_bipush (v := zI 14) hx hb dX9_areAlike_99 (by decide) ?_
                    refine r_iadd (v := zI ((20 * x) + 14)) F dX9_areAlike_101 (zI_add _ _) ?_
                    refine rz_iald F hK hP 1 0 rfl rfl (by omega) (by omega) dX9_areAlike_102 ?_
                    have hpl35 : 0 ≤ (g_p (((20 * x) + 14)).toNat) ∧ (g_p (((20 * x) + 14)).toNat) ≤ 2 := ProgR.at hp.1 (e := ((20 * x) + 14)) x 14 (by omega) (by omega) (by decide) rfl
                    refine lv_iconst (v := zI 2) hx hb dX9_areAlike_103 rfl ?_
                    refine rz_icmp_eq (tgt := 126) F (by omega) (by omega) dX9_areAlike_104 (by decide) (fun h104_35 => ?_) (fun h104_35 => ?_)
                    · refine lv_iconst (v := zI 1) hx hb dX9_areAlike_126 rfl ?_
                      refine lv_goto (tgt := 131) hx hb dX9_areAlike_127 (by decide) ?_
                      exact j_131 1 _ _ (by omega) hP hD hS ls (lv_sub hl [0, 1, 2, 3, 4, 5] rfl)
                    · refine lv_iload hx hb dX9_areAlike_107 (lv_at hl 0 rfl) ?_
                      refine lv_bipush (v := zI 16) hx hb dX9_areAlike_109 (by decide) ?_
                      refine rz_icmp_ne (tgt := 130) F (by omega) (by omega) dX9_areAlike_111 (by decide) (fun h111_36 => ?_) (fun h111_36 => ?_)
                      · refine lv_iconst (v := zI 0) hx hb dX9_areAlike_130 rfl ?_
                        exact j_131 0 _ _ (by omega) hP hD hS ls (lv_sub hl [0, 1, 2, 3, 4, 5] rfl)
                      · refine lv_aload_n hx hb dX9_areAlike_114 rfl (lv_at hl 3 rfl) ?_
                        refine lv_bipush (v := zI 20) hx hb dX9_areAlike_115 (by decide) ?_
                        refine lv_iload_n hx hb dX9_areAlike_117 rfl (lv_at hl 4 rfl) ?_
                        refine r_imul (v := zI (20 * x)) F dX9_areAlike_118 (zI_mul _ _) ?_
                        refine lv_bipush (v := zI 14) hx hb dX9_areAlike_119 (by decide) ?_
                        refine r_iadd (v := zI ((20 * x) + 14)) F dX9_areAlike_121 (zI_add _ _) ?_
                        refine rz_iald F hK hP 1 0 rfl rfl (by omega) (by omega) dX9_areAlike_122 ?_
                        have hpl38 : 0 ≤ (g_p (((20 * x) + 14)).toNat) ∧ (g_p (((20 * x) + 14)).toNat) ≤ 2 := ProgR.at hp.1 (e := ((20 * x) + 14)) x 14 (by omega) (by omega) (by decide) rfl
                        refine rz_if_le (tgt := 130) F (by omega) dX9_areAlike_123 (by decide) (fun h123_38 => ?_) (fun h123_38 => ?_)
                        · refine lv_iconst (v := zI 0) hx hb dX9_areAlike_130 rfl ?_
                          exact j_131 0 _ _ (by omega) hP hD hS ls (lv_sub hl [0, 1, 2, 3, 4, 5] rfl)
                        · refine lv_iconst (v := zI 1) hx hb dX9_areAlike_126 rfl ?_
                          refine lv_goto (tgt := 131) hx hb dX9_areAlike_127 (by decide) ?_
                          exact j_131 1 _ _ (by omega) hP hD hS ls (lv_sub hl [0, 1, 2, 3, 4, 5] rfl)
            · refine lv_iload hx hb dX9_areAlike_48 (lv_at hl 0 rfl) ?_
              refine lv_iconst (v := zI 2) hx hb dX9_areAlike_50 rfl ?_
              refine r_isub (v := zI (v5 - 2)) F dX9_areAlike_51 (zI_sub _ _) ?_
              refine lv_iconst (v := zI 3) hx hb dX9_areAlike_52 rfl ?_
              refine rz_idiv F (by omega) (by omega) dX9_areAlike_53 (fun z41 h_z41 => ?_)
              obtain ⟨rfl, hd42⟩ := h_z41
              refine lv_aload_n hx hb dX9_areAlike_54 rfl (lv_at hl 3 rfl) ?_
              refine lv_bipush (v := zI 20) hx hb dX9_areAlike_55 (by decide) ?_
              refine lv_iload_n hx hb dX9_areAlike_57 rfl (lv_at hl 4 rfl) ?_
              refine r_imul (v := zI (20 * x)) F dX9_areAlike_58 (zI_mul _ _) ?_
              refine lv_iconst (v := zI 1) hx hb dX9_areAlike_59 rfl ?_
              refine r_iadd (v := zI ((20 * x) + 1)) F dX9_areAlike_60 (zI_add _ _) ?_
              refine rz_iald F hK hP 1 0 rfl rfl (by omega) (by omega) dX9_areAlike_61 ?_
              have hpl43 : 0 ≤ (g_p (((20 * x) + 1)).toNat) ∧ (g_p (((20 * x) + 1)).toNat) ≤ 4 := ProgR.at hp.1 (e := ((20 * x) + 1)) x 1 (by omega) (by omega) (by decide) rfl
              refine rz_icmp_ge (tgt := 69) F (by omega) (by omega) dX9_areAlike_62 (by decide) (fun h62_43 => ?_) (fun h62_43 => ?_)
              · refine lv_iconst (v := zI 0) hx hb dX9_areAlike_69 rfl ?_
                refine lv_goto (tgt := 131) hx hb dX9_areAlike_70 (by decide) ?_
                exact j_131 0 _ _ (by omega) hP hD hS ls (lv_sub hl [0, 1, 2, 3, 4, 5] rfl)
              · refine lv_iconst (v := zI 1) hx hb dX9_areAlike_65 rfl ?_
                refine lv_goto (tgt := 131) hx hb dX9_areAlike_66 (by decide) ?_
                exact j_131 1 _ _ (by omega) hP hD hS ls (lv_sub hl [0, 1, 2, 3, 4, 5] rfl)
          · refine lv_iconst (v := zI 1) hx hb dX9_areAlike_37 rfl ?_
            refine lv_goto (tgt := 131) hx hb dX9_areAlike_38 (by decide) ?_
            exact j_131 1 _ _ (by omega) hP hD hS ls (lv_sub hl [0, 1, 2, 3, 4, 5] rfl)
    · refine lv_iconst (v := zI 0) hx hb dX9_areAlike_16 rfl ?_
      exact ret (zI 0) (fun k => [((fun _ => 0), fun _ _ => 0)].getD k (fun _ => 0, fun _ _ => 0)) _ _ _ _ _ _ rfl ⟨0, rfl, ⟨by omega, fun q9 => absurd q9 (by decide), fun q9 => by have q8 := q9.1.1; have q7 := q9.1.2; omega⟩⟩ (bw_subP (isC := [0, 1]) hP rfl) (hD.sub [0, 1] (by decide) rfl) hS (Nat.le_of_ble_eq_true rfl) (Nat.le_of_ble_eq_true rfl) dX9_areAlike_17
abbrev rm_X9_mergeX : Room := { frames := 1, cells := 0, slots := 0, locals := 23 }
set_option maxRecDepth 100000 in
set_option maxHeartbeats 8000000 in
theorem c_X9_mergeX {l : Launch} {E : (Nat → Prop) → State → Prop} (hO : bw_Ok E) {G : va_G} {cI cB cJ cN cW : ClassId} (y : Nat) (q : Nat → Nat) (i : Nat → Int) (hM : ModOk i) (a : Nat) (g_p : Nat → Int) (f : Nat) (g_q : Nat → Int) (x : Int) (w : Int) (hx9 : zR x) (hw9 : zR w) (hp : ProgOk g_p) (hx8 : 0 ≤ x ∧ x < 10) (hw8 : 0 ≤ w ∧ w < 10) (hxw : x ≠ w) : bw_Cv (S := zV) l yX9_merge (bw_ws (Cond.code yX9_merge cX9_merge 8 none)) rm_X9_mergeX E G (bw_kt cI cB cJ cN cW) [.ref y, .ref a, .int (zI x), .int (zI w), .ref f] [(y, .inr (9, [.int (zI (i 0)), .ref (q 0), .int (zI (i 1)), .int (zI (i 2)), .int (zI (i 3)), .int (zI (i 4)), .int (zI (i 5)), .int (zI (i 6)), .int (zI (i 7)), .int (zI (i 8)), .int (zI (i 9)), .int (zI (i 10)), .ref (q 1), .int (zI (i 11)), .int (zI (i 12)), .ref (q 2), .ref (q 3), .ref (q 4), .ref (q 5), .ref (q 6), .ref (q 7), .ref (q 8), .ref (q 9), .ref (q 10), .ref (q 11), .ref (q 12), .ref (q 13), .ref (q 14), .ref (q 15), .ref (q 16), .int (zI (i 13)), .int (zI (i 14)), .int (zI (i 15)), .int (zI (i 16)), .int (zI (i 17)), .int (zI (i 18)), .ref (q 17), .ref (q 18), .ref (q 19), .ref (q 20)])), (a, .inl (cI, 200, .inl (fun k => zI (g_p k)))), (f, .inl (cI, 200, .inl (fun k => zI (g_q k))))] (fun u => ((ProgOk ((u 1).2 0) ∧ MT g_p ((u 1).2 0) w) ∧ E2 (mergeF g_p x w (i 13)) ((u 1).2 0))) (fun u => [(y, .inr (9, [.int (zI (i 0)), .ref (q 0), .int (zI (i 1)), .int (zI (i 2)), .int (zI (i 3)), .int (zI (i 4)), .int (zI (i 5)), .int (zI (i 6)), .int (zI (i 7)), .int (zI (i 8)), .int (zI (i 9)), .int (zI (i 10)), .ref (q 1), .int (zI (i 11)), .int (zI (i 12)), .ref (q 2), .ref (q 3), .ref (q 4), .ref (q 5), .ref (q 6), .ref (q 7), .ref (q 8), .ref (q 9), .ref (q 10), .ref (q 11), .ref (q 12), .ref (q 13), .ref (q 14), .ref (q 15), .ref (q 16), .int (zI (i 13)), .int (zI (i 14)), .int (zI (i 15)), .int (zI (i 16)), .int (zI (i 17)), .int (zI (i 18)), .ref (q 17), .ref (q 18), .ref (q 19), .ref (q 20)])), (a, .inl (cI, 200, .inl (fun k => zI (g_p k)))), (f, .inl (cI, 200, .inl (fun k => zI (((u 1).2 0) k))))]) := by
  refine bw_Cv.of (cc := cX9_merge) (maxL := 8) (by decide) rfl (Nat.le_of_ble_eq_true rfl) ?_
  intro p e s m below meth c A Q hx hb hml hts hown hin hK hA hS hP hD hE ret ls hl
  have F : CallFix p m c cX9_merge 8 s ([.ref y, .ref a, .int (zI x), .int (zI w), .ref f] : List Value).toArray bw_T RX9 := ⟨hx, hb, hml, hown, fun w h => hts w (List.mem_cons_of_mem _ h)⟩
  replace hl : lv_has ls 8 [(0, .ref y), (1, .ref a), (2, .int (zI x)), (3, .int (zI w)), (4, .ref f)] := hl
  have hf1 := hM.1
  refine lv_aload_n hx hb dX9_merge_0 rfl (lv_at hl 1 rfl) ?_
  refine lv_aload hx hb dX9_merge_1 (lv_at hl 4 rfl) ?_
  refine lv_sipush (v := zI 200) hx hb dX9_merge_3 (by decide) ?_
  refine r_callZv (As := [.ref a, .ref f, .int (zI 200)]) (rest := []) (wr := [(y, .inr (9, [.int (zI (i 0)), .ref (q 0), .int (zI (i 1)), .int (zI (i 2)), .int (zI (i 3)), .int (zI (i 4)), .int (zI (i 5)), .int (zI (i 6)), .int (zI (i 7)), .int (zI (i 8)), .int (zI (i 9)), .int (zI (i 10)), .ref (q 1), .int (zI (i 11)), .int (zI (i 12)), .ref (q 2), .ref (q 3), .ref (q 4), .ref (q 5), .ref (q 6), .ref (q 7), .ref (q 8), .ref (q 9), .ref (q 10), .ref (q 11), .ref (q 12), .ref (q 13), .ref (q 14), .ref (q 15), .ref (q 16), .int (zI (i 13)), .int (zI (i 14)), .int (zI (i 15)), .int (zI (i 16)), .int (zI (i 17)), .int (zI (i 18)), .ref (q 17), .ref (q 18), .ref (q 19), .ref (q 20)]))]) F hK hP hD hS hA hO hE (c_X9_copy200 hO a g_p f g_q 200 (by omega) (by omega)) k_1414 ks_X9_copy 3 rfl (by decide +kernel) ⟨Nat.le_of_ble_eq_true rfl, Nat.le_of_ble_eq_true rfl⟩ [1, 2] [0] rfl rfl (by decide) (by decide) (by decide) hl.1 rfl (Nat.le_of_ble_eq_true rfl) dX9_merge_6 ⟨Nat.le_of_ble_eq_true rfl, Nat.le_of_ble_eq_true rfl⟩ (w1 := fun u2 => [(y, .inr (9, [.int (zI (i 0)), .ref (q 0), .int (zI (i 1)), .int (zI (i 2)), .int (zI (i 3)), .int (zI (i 4)), .int (zI (i 5)), .int (zI (i 6)), .int (zI (i 7)), .int (zI (i 8)), .int (zI (i 9)), .int (zI (i 10)), .ref (q 1), .int (zI (i 11)), .int (zI (i 12)), .ref (q 2), .ref (q 3), .ref (q 4), .ref (q 5), .ref (q 6), .ref (q 7), .ref (q 8), .ref (q 9), .ref (q 10), .ref (q 11), .ref (q 12), .ref (q 13), .ref (q 14), .ref (q 15), .ref (q 16), .int (zI (i 13)), .int (zI (i 14)), .int (zI (i 15)), .int (zI (i 16)), .int (zI (i 17)), .int (zI (i 18)), .ref (q 17), .ref (q 18), .ref (q 19), .ref (q 20)])), (a, .inl (cI, 200, .inl (fun k => zI (g_p k)))), (f, .inl (cI, 200, .inl (fun k => zI (((u2 1).2 0) k))))]) (fun _ => rfl) (fun  u2 H locs hp3 hP hD hS => ?_)
  refine lv_iconst (v := zI 0) hx hb dX9_merge_9 rfl ?_
  refine lv_istore (lv' := [(5, .int (zI 0)), (0, .ref y), (1, .ref a), (2, .int (zI x)), (3, .int (zI w)), (4, .ref f)]) hx hb dX9_merge_10 hl (by decide) rfl (fun ls hl => ?_)
  refine W.widen (k := 0) (n := 0) (Nat.le_of_ble_eq_true rfl) (Nat.le_of_ble_eq_true rfl) ?_
  refine (?_ : ∀ (n9_1 : Nat) (v5 : Int) (gz9 : Nat → Int) (H : Heap) (locs : List Loc), (0 ≤ v5 ∧ v5 ≤ 20) → (20 - v5 : Int).toNat < n9_1 → (∀ k : Nat, k < 200 → gz9 k = if 20 * w ≤ (k : Int) ∧ (k : Int) < 20 * w + v5 then 0 else g_p k) → va_P G vwCl [(y, .inr (9, [.int (zI (i 0)), .ref (q 0), .int (zI (i 1)), .int (zI (i 2)), .int (zI (i 3)), .int (zI (i 4)), .int (zI (i 5)), .int (zI (i 6)), .int (zI (i 7)), .int (zI (i 8)), .int (zI (i 9)), .int (zI (i 10)), .ref (q 1), .int (zI (i 11)), .int (zI (i 12)), .ref (q 2), .ref (q 3), .ref (q 4), .ref (q 5), .ref (q 6), .ref (q 7), .ref (q 8), .ref (q 9), .ref (q 10), .ref (q 11), .ref (q 12), .ref (q 13), .ref (q 14), .ref (q 15), .ref (q 16), .int (zI (i 13)), .int (zI (i 14)), .int (zI (i 15)), .int (zI (i 16)), .int (zI (i 17)), .int (zI (i 18)), .ref (q 17), .ref (q 18), .ref (q 19), .ref (q 20)])), (a, .inl (cI, 200, .inl (fun k => zI (g_p k)))), (f, .inl (cI, 200, .inl (fun k => zI (gz9 k))))] H → va_D A [(y, .inr (9, [.int (zI (i 0)), .ref (q 0), .int (zI (i 1)), .int (zI (i 2)), .int (zI (i 3)), .int (zI (i 4)), .int (zI (i 5)), .int (zI (i 6)), .int (zI (i 7)), .int (zI (i 8)), .int (zI (i 9)), .int (zI (i 10)), .ref (q 1), .int (zI (i 11)), .int (zI (i 12)), .ref (q 2), .ref (q 3), .ref (q 4), .ref (q 5), .ref (q 6), .ref (q 7), .ref (q 8), .ref (q 9), .ref (q 10), .ref (q 11), .ref (q 12), .ref (q 13), .ref (q 14), .ref (q 15), .ref (q 16), .int (zI (i 13)), .int (zI (i 14)), .int (zI (i 15)), .int (zI (i 16)), .int (zI (i 17)), .int (zI (i 18)), .ref (q 17), .ref (q 18), .ref (q 19), .ref (q 20)])), (a, .inl (cI, 200, .inl (fun k => zI (g_p k)))), (f, .inl (cI, 200, .inl (fun k => zI (gz9 k))))] → va_S A s.heap H locs → ∀ ls : Array Slot, lv_has ls 8 [(5, .int (zI v5)), (0, .ref y), (1, .ref a), (2, .int (zI x)), (3, .int (zI w)), (4, .ref f)] → W p l e rm_X9_mergeX s m ([.ref y, .ref a, .int (zI x), .int (zI w), .ref f] : List Value).toArray below meth c H locs 0 0 Q (F0 m 12 ls [])) ((20 - 0 : Int).toNat + 1) 0 ((u2 1).2 0) _ _ (by omega) (by omega) (fun k hk => by rw [if_neg (by omega)]; exact hp3 k (by omega)) hP hD hS ls hl
  clear hP hD hS hl ls
  intro n9_1
  induction n9_1 with
  | zero =>
    intro v5 gz9 H locs hI hM
    exact absurd hM (by omega)
  | succ n9_1 ih1 =>
    intro v5 gz9 H locs hI1 hM1 hz9 hP hD hS ls hl
    refine lv_iload hx hb dX9_merge_12 (lv_at hl 0 rfl) ?_
    refine lv_bipush (v := zI 20) hx hb dX9_merge_14 (by decide) ?_
    refine rz_icmp_ge (tgt := 36) F (by omega) (by omega) dX9_merge_16 (by decide) (fun h16_3 => ?_) (fun h16_3 => ?_)
    · refine lv_aload_n hx hb dX9_merge_36 rfl (lv_at hl 2 rfl) ?_
      refine lv_bipush (v := zI 20) hx hb dX9_merge_37 (by decide) ?_
      have hqp0 : ProgOk gz9 := ProgOk.cleared hp (by omega) (fun k hk => by rw [hz9 k hk, show v5 = 20 by omega])
      have hmt0 : MT g_p gz9 w := MT.of (fun k hk => by rw [hz9 k hk, show v5 = 20 by omega])
      refine lv_iload_n hx hb dX9_merge_39 rfl (lv_at hl 3 rfl) ?_
      refine r_imul (v := zI (20 * x)) F dX9_merge_40 (zI_mul _ _) ?_
      refine lv_bipush (v := zI 14) hx hb dX9_merge_41 (by decide) ?_
      refine r_iadd (v := zI ((20 * x) + 14)) F dX9_merge_43 (zI_add _ _) ?_
      refine rz_iald F hK hP 1 0 rfl rfl (by omega) (by omega) dX9_merge_44 ?_
      have hpl5 : 0 ≤ (g_p (((20 * x) + 14)).toNat) ∧ (g_p (((20 * x) + 14)).toNat) ≤ 2 := ProgR.at hp.1 (e := ((20 * x) + 14)) x 14 (by omega) (by omega) (by decide) rfl
      refine rz_if_le (tgt := 82) F (by omega) dX9_merge_45 (by decide) (fun h45_5 => ?_) (fun h45_5 => ?_)
      · refine lv_aload_n hx hb dX9_merge_82 rfl (lv_at hl 2 rfl) ?_
        refine lv_bipush (v := zI 20) hx hb dX9_merge_83 (by decide) ?_
        refine lv_iload_n hx hb dX9_merge_85 rfl (lv_at hl 3 rfl) ?_
        refine r_imul (v := zI (20 * x)) F dX9_merge_86 (zI_mul _ _) ?_
        refine lv_bipush (v := zI 14) hx hb dX9_merge_87 (by decide) ?_
        refine r_iadd (v := zI ((20 * x) + 14)) F dX9_merge_89 (zI_add _ _) ?_
        refine rz_iald F hK hP 1 0 rfl rfl (by omega) (by omega) dX9_merge_90 ?_
        have hpl7 : 0 ≤ (g_p (((20 * x) + 14)).toNat) ∧ (g_p (((20 * x) + 14)).toNat) ≤ 2 := ProgR.at hp.1 (e := ((20 * x) + 14)) x 14 (by omega) (by omega) (by decide) rfl
        refine lv_iconst (v := zI 2) hx hb dX9_merge_91 rfl ?_
        refine rz_icmp_ne (tgt := 129) F (by omega) (by omega) dX9_merge_92 (by decide) (fun h92_7 => ?_) (fun h92_7 => ?_)
        · refine lv_iconst (v := zI 0) hx hb dX9_merge_129 rfl ?_
          have hms0 : Mst g_p x w (i 13) gz9 0 0 := Mst.start (q := gz9) (q1 := gz9) hx8 hxw (fun k hk => by rw [hz9 k hk, show v5 = 20 by omega]) (Or.inr ⟨by omega, rfl⟩) (Or.inr ⟨by omega, rfl⟩)
          refine lv_istore (lv' := [(5, .int (zI 0)), (0, .ref y), (1, .ref a), (2, .int (zI x)), (3, .int (zI w)), (4, .ref f)]) hx hb dX9_merge_130 hl (by decide) rfl (fun ls hl => ?_)
          refine W.widen (k := 0) (n := 0) (Nat.le_of_ble_eq_true rfl) (Nat.le_of_ble_eq_true rfl) ?_
          refine (?_ : ∀ (n9_2 : Nat) (v5 : Int) (gq1 : Nat → Int) (H : Heap) (locs : List Loc), (0 ≤ v5 ∧ v5 ≤ 10 ∧ v5 ≤ i 13) → (10 - v5 : Int).toNat < n9_2 → (ProgOk gq1) → (MT g_p gq1 w) → (Mst g_p x w (i 13) gq1 v5 0) → va_P G vwCl [(y, .inr (9, [.int (zI (i 0)), .ref (q 0), .int (zI (i 1)), .int (zI (i 2)), .int (zI (i 3)), .int (zI (i 4)), .int (zI (i 5)), .int (zI (i 6)), .int (zI (i 7)), .int (zI (i 8)), .int (zI (i 9)), .int (zI (i 10)), .ref (q 1), .int (zI (i 11)), .int (zI (i 12)), .ref (q 2), .ref (q 3), .ref (q 4), .ref (q 5), .ref (q 6), .ref (q 7), .ref (q 8), .ref (q 9), .ref (q 10), .ref (q 11), .ref (q 12), .ref (q 13), .ref (q 14), .ref (q 15), .ref (q 16), .int (zI (i 13)), .int (zI (i 14)), .int (zI (i 15)), .int (zI (i 16)), .int (zI (i 17)), .int (zI (i 18)), .ref (q 17), .ref (q 18), .ref (q 19), .ref (q 20)])), (a, .inl (cI, 200, .inl (fun k => zI (g_p k)))), (f, .inl (cI, 200, .inl (fun k => zI (gq1 k))))] H → va_D A [(y, .inr (9, [.int (zI (i 0)), .ref (q 0), .int (zI (i 1)), .int (zI (i 2)), .int (zI (i 3)), .int (zI (i 4)), .int (zI (i 5)), .int (zI (i 6)), .int (zI (i 7)), .int (zI (i 8)), .int (zI (i 9)), .int (zI (i 10)), .ref (q 1), .int (zI (i 11)), .int (zI (i 12)), .ref (q 2), .ref (q 3), .ref (q 4), .ref (q 5), .ref (q 6), .ref (q 7), .ref (q 8), .ref (q 9), .ref (q 10), .ref (q 11), .ref (q 12), .ref (q 13), .ref (q 14), .ref (q 15), .ref (q 16), .int (zI (i 13)), .int (zI (i 14)), .int (zI (i 15)), .int (zI (i 16)), .int (zI (i 17)), .int (zI (i 18)), .ref (q 17), .ref (q 18), .ref (q 19), .ref (q 20)])), (a, .inl (cI, 200, .inl (fun k => zI (g_p k)))), (f, .inl (cI, 200, .inl (fun k => zI (gq1 k))))] → va_S A s.heap H locs → ∀ ls : Array Slot, lv_has ls 8 [(5, .int (zI v5)), (0, .ref y), (1, .ref a), (2, .int (zI x)), (3, .int (zI w)), (4, .ref f)] → W p l e rm_X9_mergeX s m ([.ref y, .ref a, .int (zI x), .int (zI w), .ref f] : List Value).toArray below meth c H locs 0 0 Q (F0 m 132 ls [])) ((10 - 0 : Int).toNat + 1) 0 gz9 _ _ (by omega) (by omega) hqp0 hmt0 hms0 hP hD hS ls hl
          clear hP hD hS hl ls
          intro n9_2
          induction n9_2 with
          | zero =>
            intro v5 gq1 H locs hI hM
            exact absurd hM (by omega)
          | succ n9_2 ih2 =>
            intro v5 gq1 H locs hI2 hM2 hqp1 hmt1 hms1 hP hD hS ls hl
            refine lv_iload hx hb dX9_merge_132 (lv_at hl 0 rfl) ?_
            refine lv_aload_n hx hb dX9_merge_134 rfl (lv_at hl 1 rfl) ?_
            refine r_get F hK hP 0 30 rfl rfl in_X9 (by decide) k_1193 rfl dX9_merge_135 ?_
            refine rz_icmp_ge (tgt := 302) F (by omega) (by omega) dX9_merge_138 (by decide) (fun h138_8 => ?_) (fun h138_8 => ?_)
            · exact ret (fun k => [((fun _ => 0), fun _ _ => 0), (fun _ => 0, fun _ => gq1)].getD k (fun _ => 0, fun _ _ => 0)) _ _ _ _ _ _ ⟨⟨hqp1, hmt1⟩, Mst.all hms1 (Or.inl (by omega)) (by omega)⟩ (bw_subP (isC := [0, 1, 2]) hP rfl) (hD.sub [0, 1, 2] (by decide) rfl) hS (Nat.le_of_ble_eq_true rfl) (Nat.le_of_ble_eq_true rfl) dX9_merge_302
            · refine lv_bipush (v := zI 20) hx hb dX9_merge_141 (by decide) ?_
              refine lv_iload hx hb dX9_merge_143 (lv_at hl 0 rfl) ?_
              refine r_imul (v := zI (20 * v5)) F dX9_merge_145 (zI_mul _ _) ?_
              refine lv_istore (lv' := [(6, .int (zI (20 * v5))), (5, .int (zI v5)), (0, .ref y), (1, .ref a), (2, .int (zI x)), (3, .int (zI w)), (4, .ref f)]) hx hb dX9_merge_146 hl (by decide) rfl (fun ls hl => ?_)
              refine lv_aload hx hb dX9_merge_148 (lv_at hl 6 rfl) ?_
              refine lv_iload hx hb dX9_merge_150 (lv_at hl 0 rfl) ?_
              refine lv_iconst (v := zI 0) hx hb dX9_merge_152 rfl ?_
              refine r_iadd (v := zI ((20 * v5) + 0)) F dX9_merge_153 (zI_add _ _) ?_
              refine rz_iald F hK hP 2 0 rfl rfl (by omega) (by omega) dX9_merge_154 ?_
              have hc10 := hqp1.1.pos (((20 * v5) + 0)).toNat (by omega)
              have hc11 := hqp1.1.le9 (((20 * v5) + 0)).toNat (by omega)
              refine rz_if_ne (tgt := 161) F (by omega) dX9_merge_155 (by decide) (fun h155_11 => ?_) (fun h155_11 => ?_)
              · refine lv_aload hx hb dX9_merge_161 (lv_at hl 6 rfl) ?_
                have hnw := Mst.told hms1 (by omega) (by omega)
                refine lv_iload hx hb dX9_merge_163 (lv_at hl 0 rfl) ?_
                refine lv_bipush (v := zI 14) hx hb dX9_merge_165 (by decide) ?_
                refine r_iadd (v := zI ((20 * v5) + 14)) F dX9_merge_167 (zI_add _ _) ?_
                refine rz_iald F hK hP 2 0 rfl rfl (by omega) (by omega) dX9_merge_168 ?_
                have hc13 := hqp1.1.pos (((20 * v5) + 14)).toNat (by omega)
                have hc14 := hqp1.1.le9 (((20 * v5) + 14)).toNat (by omega)
                refine rz_if_le (tgt := 193) F (by omega) dX9_merge_169 (by decide) (fun h169_14 => ?_) (fun h169_14 => ?_)
                · refine lv_aload hx hb dX9_merge_193 (lv_at hl 6 rfl) ?_
                  have hms6 : Mst g_p x w (i 13) gq1 v5 1 := Mst.s16 hms1 (by omega) hnw (by omega) (Or.inr ⟨by omega, rfl⟩)
                  refine lv_iload hx hb dX9_merge_195 (lv_at hl 0 rfl) ?_
                  refine lv_bipush (v := zI 14) hx hb dX9_merge_197 (by decide) ?_
                  refine r_iadd (v := zI ((20 * v5) + 14)) F dX9_merge_199 (zI_add _ _) ?_
                  refine rz_iald F hK hP 2 0 rfl rfl (by omega) (by omega) dX9_merge_200 ?_
                  have hc16 := hqp1.1.pos (((20 * v5) + 14)).toNat (by omega)
                  have hc17 := hqp1.1.le9 (((20 * v5) + 14)).toNat (by omega)
                  refine lv_iconst (v := zI 2) hx hb dX9_merge_201 rfl ?_
                  refine rz_icmp_ne (tgt := 226) F (by omega) (by omega) dX9_merge_202 (by decide) (fun h202_17 => ?_) (fun h202_17 => ?_)
                  · refine lv_iconst (v := zI 0) hx hb dX9_merge_226 rfl ?_
                    have hms8 : Mst g_p x w (i 13) gq1 v5 (3 + 0) := Mst.s18 hms6 (by omega) hnw (by omega) (Or.inr ⟨by omega, rfl⟩)
                    refine lv_istore (lv' := [(7, .int (zI 0)), (6, .int (zI (20 * v5))), (5, .int (zI v5)), (0, .ref y), (1, .ref a), (2, .int (zI x)), (3, .int (zI w)), (4, .ref f)]) hx hb dX9_merge_227 hl (by decide) rfl (fun ls hl => ?_)
                    refine W.widen (k := 0) (n := 0) (Nat.le_of_ble_eq_true rfl) (Nat.le_of_ble_eq_true rfl) ?_
                    refine (?_ : ∀ (n9_3 : Nat) (v7 : Int) (gq2 : Nat → Int) (H : Heap) (locs : List Loc), (0 ≤ v7 ∧ v7 ≤ 4) → (4 - v7 : Int).toNat < n9_3 → (ProgOk gq2) → (MT g_p gq2 w) → (Mst g_p x w (i 13) gq2 v5 (3 + v7)) → va_P G vwCl [(y, .inr (9, [.int (zI (i 0)), .ref (q 0), .int (zI (i 1)), .int (zI (i 2)), .int (zI (i 3)), .int (zI (i 4)), .int (zI (i 5)), .int (zI (i 6)), .int (zI (i 7)), .int (zI (i 8)), .int (zI (i 9)), .int (zI (i 10)), .ref (q 1), .int (zI (i 11)), .int (zI (i 12)), .ref (q 2), .ref (q 3), .ref (q 4), .ref (q 5), .ref (q 6), .ref (q 7), .ref (q 8), .ref (q 9), .ref (q 10), .ref (q 11), .ref (q 12), .ref (q 13), .ref (q 14), .ref (q 15), .ref (q 16), .int (zI (i 13)), .int (zI (i 14)), .int (zI (i 15)), .int (zI (i 16)), .int (zI (i 17)), .int (zI (i 18)), .ref (q 17), .ref (q 18), .ref (q 19), .ref (q 20)])), (a, .inl (cI, 200, .inl (fun k => zI (g_p k)))), (f, .inl (cI, 200, .inl (fun k => zI (gq2 k))))] H → va_D A [(y, .inr (9, [.int (zI (i 0)), .ref (q 0), .int (zI (i 1)), .int (zI (i 2)), .int (zI (i 3)), .int (zI (i 4)), .int (zI (i 5)), .int (zI (i 6)), .int (zI (i 7)), .int (zI (i 8)), .int (zI (i 9)), .int (zI (i 10)), .ref (q 1), .int (zI (i 11)), .int (zI (i 12)), .ref (q 2), .ref (q 3), .ref (q 4), .ref (q 5), .ref (q 6), .ref (q 7), .ref (q 8), .ref (q 9), .ref (q 10), .ref (q 11), .ref (q 12), .ref (q 13), .ref (q 14), .ref (q 15), .ref (q 16), .int (zI (i 13)), .int (zI (i 14)), .int (zI (i 15)), .int (zI (i 16)), .int (zI (i 17)), .int (zI (i 18)), .ref (q 17), .ref (q 18), .ref (q 19), .ref (q 20)])), (a, .inl (cI, 200, .inl (fun k => zI (g_p k)))), (f, .inl (cI, 200, .inl (fun k => zI (gq2 k))))] → va_S A s.heap H locs → ∀ ls : Array Slot, lv_has ls 8 [(7, .int (zI v7)), (6, .int (zI (20 * v5))), (5, .int (zI v5)), (0, .ref y), (1, .ref a), (2, .int (zI x)), (3, .int (zI w)), (4, .ref f)] → W p l e rm_X9_mergeX s m ([.ref y, .ref a, .int (zI x), .int (zI w), .ref f] : List Value).toArray below meth c H locs 0 0 Q (F0 m 229 ls [])) ((4 - 0 : Int).toNat + 1) 0 gq1 _ _ (by omega) (by omega) hqp1 hmt1 hms8 hP hD hS ls hl
                    clear hP hD hS hl ls
                    intro n9_3
                    induction n9_3 with
                    | zero =>
                      intro v7 gq2 H locs hI hM
                      exact absurd hM (by omega)
                    | succ n9_3 ih3 =>
                      intro v7 gq2 H locs hI3 hM3 hqp2 hmt2 hms2 hP hD hS ls hl
                      refine lv_iload hx hb dX9_merge_229 (lv_at hl 0 rfl) ?_
                      refine lv_aload hx hb dX9_merge_231 (lv_at hl 7 rfl) ?_
                      refine lv_iload hx hb dX9_merge_233 (lv_at hl 1 rfl) ?_
                      refine lv_iconst (v := zI 1) hx hb dX9_merge_235 rfl ?_
                      refine r_iadd (v := zI ((20 * v5) + 1)) F dX9_merge_236 (zI_add _ _) ?_
                      refine rz_iald F hK hP 2 0 rfl rfl (by omega) (by omega) dX9_merge_237 ?_
                      have hpl19 : 0 ≤ (gq2 (((20 * v5) + 1)).toNat) ∧ (gq2 (((20 * v5) + 1)).toNat) ≤ 4 := ProgR.at hqp2.1 (e := ((20 * v5) + 1)) v5 1 (by omega) (by omega) (by decide) rfl
                      refine rz_icmp_ge (tgt := 296) F (by omega) (by omega) dX9_merge_238 (by decide) (fun h238_19 => ?_) (fun h238_19 => ?_)
                      · refine lv_iinc (v := zI (v5 + 1)) (lv' := [(5, .int (zI (v5 + 1))), (7, .int (zI v7)), (6, .int (zI (20 * v5))), (0, .ref y), (1, .ref a), (2, .int (zI x)), (3, .int (zI w)), (4, .ref f)]) hx hb dX9_merge_296 hl (k := 2) rfl (zI_add _ _) (by decide) rfl (fun ls hl => ?_)
                        refine lv_goto (tgt := 132) hx hb dX9_merge_299 (by decide) ?_
                        exact ih2 (v5 + 1) gq2 _ _ (by omega) (by omega) hqp2 hmt2 (Mst.fin hms2 (by omega) hnw ⟨by omega, by omega⟩) hP hD hS ls (lv_sub hl [0, 3, 4, 5, 6, 7] rfl)
                      · refine lv_aload hx hb dX9_merge_241 (lv_at hl 7 rfl) ?_
                        refine lv_iload hx hb dX9_merge_243 (lv_at hl 1 rfl) ?_
                        refine lv_iconst (v := zI 2) hx hb dX9_merge_245 rfl ?_
                        refine r_iadd (v := zI ((20 * v5) + 2)) F dX9_merge_246 (zI_add _ _) ?_
                        refine lv_iconst (v := zI 3) hx hb dX9_merge_247 rfl ?_
                        refine lv_iload hx hb dX9_merge_248 (lv_at hl 0 rfl) ?_
                        refine r_imul (v := zI (3 * v7)) F dX9_merge_250 (zI_mul _ _) ?_
                        refine r_iadd (v := zI (((20 * v5) + 2) + (3 * v7))) F dX9_merge_251 (zI_add _ _) ?_
                        refine rz_iald F hK hP 2 0 rfl rfl (by omega) (by omega) dX9_merge_252 ?_
                        have hc21 := ProgOk.act hqp2 (i := v5) (n := v7) (k := (((20 * v5) + 2) + (3 * v7))) (by omega) (by omega) (by omega)
                        refine lv_iconst (v := zI 3) hx hb dX9_merge_253 rfl ?_
                        refine rz_icmp_ne (tgt := 290) F (by omega) (by omega) dX9_merge_254 (by decide) (fun h254_21 => ?_) (fun h254_21 => ?_)
                        · refine lv_iinc (v := zI (v7 + 1)) (lv' := [(7, .int (zI (v7 + 1))), (6, .int (zI (20 * v5))), (5, .int (zI v5)), (0, .ref y), (1, .ref a), (2, .int (zI x)), (3, .int (zI w)), (4, .ref f)]) hx hb dX9_merge_290 hl (k := 0) rfl (zI_add _ _) (by decide) rfl (fun ls hl => ?_)
                          refine lv_goto (tgt := 229) hx hb dX9_merge_293 (by decide) ?_
                          exact ih3 (v7 + 1) gq2 _ _ (by omega) (by omega) hqp2 hmt2 (Mst.sA hms2 (by omega) hnw (by omega) ⟨by omega, by omega⟩ (Or.inr ⟨by omega, rfl⟩)) hP hD hS ls (lv_sub hl [0, 1, 2, 3, 4, 5, 6, 7] rfl)
                        · refine lv_aload hx hb dX9_merge_257 (lv_at hl 7 rfl) ?_
                          refine lv_iload hx hb dX9_merge_259 (lv_at hl 1 rfl) ?_
                          refine lv_iconst (v := zI 2) hx hb dX9_merge_261 rfl ?_
                          refine r_iadd (v := zI ((20 * v5) + 2)) F dX9_merge_262 (zI_add _ _) ?_
                          refine lv_iconst (v := zI 3) hx hb dX9_merge_263 rfl ?_
                          refine lv_iload hx hb dX9_merge_264 (lv_at hl 0 rfl) ?_
                          refine r_imul (v := zI (3 * v7)) F dX9_merge_266 (zI_mul _ _) ?_
                          refine r_iadd (v := zI (((20 * v5) + 2) + (3 * v7))) F dX9_merge_267 (zI_add _ _) ?_
                          refine lv_iconst (v := zI 1) hx hb dX9_merge_268 rfl ?_
                          refine r_iadd (v := zI ((((20 * v5) + 2) + (3 * v7)) + 1)) F dX9_merge_269 (zI_add _ _) ?_
                          refine rz_iald F hK hP 2 0 rfl rfl (by omega) (by omega) dX9_merge_270 ?_
                          have hc23 := hqp2.1.pos (((((20 * v5) + 2) + (3 * v7)) + 1)).toNat (by omega)
                          have hc24 := hqp2.1.le9 (((((20 * v5) + 2) + (3 * v7)) + 1)).toNat (by omega)
                          refine lv_iload_n hx hb dX9_merge_271 rfl (lv_at hl 6 rfl) ?_
                          refine rz_icmp_ne (tgt := 290) F (by omega) (by omega) dX9_merge_272 (by decide) (fun h272_24 => ?_) (fun h272_24 => ?_)
                          · refine lv_iinc (v := zI (v7 + 1)) (lv' := [(7, .int (zI (v7 + 1))), (6, .int (zI (20 * v5))), (5, .int (zI v5)), (0, .ref y), (1, .ref a), (2, .int (zI x)), (3, .int (zI w)), (4, .ref f)]) hx hb dX9_merge_290 hl (k := 0) rfl (zI_add _ _) (by decide) rfl (fun ls hl => ?_)
                            refine lv_goto (tgt := 229) hx hb dX9_merge_293 (by decide) ?_
                            exact ih3 (v7 + 1) gq2 _ _ (by omega) (by omega) hqp2 hmt2 (Mst.sA hms2 (by omega) hnw (by omega) ⟨by omega, by omega⟩ (Or.inr ⟨by omega, rfl⟩)) hP hD hS ls (lv_sub hl [0, 1, 2, 3, 4, 5, 6, 7] rfl)
                          · refine lv_aload hx hb dX9_merge_275 (lv_at hl 7 rfl) ?_
                            refine lv_iload hx hb dX9_merge_277 (lv_at hl 1 rfl) ?_
                            refine lv_iconst (v := zI 2) hx hb dX9_merge_279 rfl ?_
                            refine r_iadd (v := zI ((20 * v5) + 2)) F dX9_merge_280 (zI_add _ _) ?_
                            refine lv_iconst (v := zI 3) hx hb dX9_merge_281 rfl ?_
                            refine lv_iload hx hb dX9_merge_282 (lv_at hl 0 rfl) ?_
                            refine r_imul (v := zI (3 * v7)) F dX9_merge_284 (zI_mul _ _) ?_
                            refine r_iadd (v := zI (((20 * v5) + 2) + (3 * v7))) F dX9_merge_285 (zI_add _ _) ?_
                            refine lv_iconst (v := zI 1) hx hb dX9_merge_286 rfl ?_
                            refine r_iadd (v := zI ((((20 * v5) + 2) + (3 * v7)) + 1)) F dX9_merge_287 (zI_add _ _) ?_
                            refine lv_iload_n hx hb dX9_merge_288 rfl (lv_at hl 5 rfl) ?_
                            refine rz_iastG F hK hP hD hS 2 0 rfl rfl (by omega) (by omega) dX9_merge_289 (w1 := fun g26 => [(y, .inr (9, [.int (zI (i 0)), .ref (q 0), .int (zI (i 1)), .int (zI (i 2)), .int (zI (i 3)), .int (zI (i 4)), .int (zI (i 5)), .int (zI (i 6)), .int (zI (i 7)), .int (zI (i 8)), .int (zI (i 9)), .int (zI (i 10)), .ref (q 1), .int (zI (i 11)), .int (zI (i 12)), .ref (q 2), .ref (q 3), .ref (q 4), .ref (q 5), .ref (q 6), .ref (q 7), .ref (q 8), .ref (q 9), .ref (q 10), .ref (q 11), .ref (q 12), .ref (q 13), .ref (q 14), .ref (q 15), .ref (q 16), .int (zI (i 13)), .int (zI (i 14)), .int (zI (i 15)), .int (zI (i 16)), .int (zI (i 17)), .int (zI (i 18)), .ref (q 17), .ref (q 18), .ref (q 19), .ref (q 20)])), (a, .inl (cI, 200, .inl (fun k => zI (g_p k)))), (f, .inl (cI, 200, .inl (fun k => zI (g26 k))))]) (fun _ => rfl) (fun g26 e_g26 H locs hP hD hS => ?_)
                            have hqp27 : ProgOk g26 := ProgOk.tgt3 hqp2 e_g26 (i := v5) (n := v7) (by omega) (by omega) (by omega) (by omega) (j := (((20 * v5) + 2) + (3 * v7)).toNat) (by omega) (by omega)
                            have hmt28 := MT.keepA hmt2 e_g26 (i := v5) (n := v7) (by omega) (by omega) (by omega)
                            refine lv_iinc (v := zI (v7 + 1)) (lv' := [(7, .int (zI (v7 + 1))), (6, .int (zI (20 * v5))), (5, .int (zI v5)), (0, .ref y), (1, .ref a), (2, .int (zI x)), (3, .int (zI w)), (4, .ref f)]) hx hb dX9_merge_290 hl (k := 0) rfl (zI_add _ _) (by decide) rfl (fun ls hl => ?_)
                            refine lv_goto (tgt := 229) hx hb dX9_merge_293 (by decide) ?_
                            exact ih3 (v7 + 1) g26 _ _ (by omega) (by omega) hqp27 hmt28 (Mst.sA hms2 (by omega) hnw (by omega) ⟨by omega, by omega⟩ (Or.inl ⟨by omega, by omega, e_g26⟩)) hP hD hS ls (lv_sub hl [0, 1, 2, 3, 4, 5, 6, 7] rfl)
                  · refine lv_aload hx hb dX9_merge_205 (lv_at hl 6 rfl) ?_
                    refine lv_iload hx hb dX9_merge_207 (lv_at hl 0 rfl) ?_
                    refine lv_bipush (v := zI 18) hx hb dX9_merge_209 (by decide) ?_
                    refine r_iadd (v := zI ((20 * v5) + 18)) F dX9_merge_211 (zI_add _ _) ?_
                    refine rz_iald F hK hP 2 0 rfl rfl (by omega) (by omega) dX9_merge_212 ?_
                    have hc29 := hqp1.1.pos (((20 * v5) + 18)).toNat (by omega)
                    have hc30 := hqp1.1.le9 (((20 * v5) + 18)).toNat (by omega)
                    refine lv_iload_n hx hb dX9_merge_213 rfl (lv_at hl 5 rfl) ?_
                    refine rz_icmp_ne (tgt := 226) F (by omega) (by omega) dX9_merge_214 (by decide) (fun h214_30 => ?_) (fun h214_30 => ?_)
                    · refine lv_iconst (v := zI 0) hx hb dX9_merge_226 rfl ?_
                      have hms8 : Mst g_p x w (i 13) gq1 v5 (3 + 0) := Mst.s18 hms6 (by omega) hnw (by omega) (Or.inr ⟨by omega, rfl⟩)
                      refine lv_istore (lv' := [(7, .int (zI 0)), (6, .int (zI (20 * v5))), (5, .int (zI v5)), (0, .ref y), (1, .ref a), (2, .int (zI x)), (3, .int (zI w)), (4, .ref f)]) hx hb dX9_merge_227 hl (by decide) rfl (fun ls hl => ?_)
                      refine W.widen (k := 0) (n := 0) (Nat.le_of_ble_eq_true rfl) (Nat.le_of_ble_eq_true rfl) ?_
                      refine (?_ : ∀ (n9_3 : Nat) (v7 : Int) (gq2 : Nat → Int) (H : Heap) (locs : List Loc), (0 ≤ v7 ∧ v7 ≤ 4) → (4 - v7 : Int).toNat < n9_3 → (ProgOk gq2) → (MT g_p gq2 w) → (Mst g_p x w (i 13) gq2 v5 (3 + v7)) → va_P G vwCl [(y, .inr (9, [.int (zI (i 0)), .ref (q 0), .int (zI (i 1)), .int (zI (i 2)), .int (zI (i 3)), .int (zI (i 4)), .int (zI (i 5)), .int (zI (i 6)), .int (zI (i 7)), .int (zI (i 8)), .int (zI (i 9)), .int (zI (i 10)), .ref (q 1), .int (zI (i 11)), .int (zI (i 12)), .ref (q 2), .ref (q 3), .ref (q 4), .ref (q 5), .ref (q 6), .ref (q 7), .ref (q 8), .ref (q 9), .ref (q 10), .ref (q 11), .ref (q 12), .ref (q 13), .ref (q 14), .ref (q 15), .ref (q 16), .int (zI (i 13)), .int (zI (i 14)), .int (zI (i 15)), .int (zI (i 16)), .int (zI (i 17)), .int (zI (i 18)), .ref (q 17), .ref (q 18), .ref (q 19), .ref (q 20)])), (a, .inl (cI, 200, .inl (fun k => zI (g_p k)))), (f, .inl (cI, 200, .inl (fun k => zI (gq2 k))))] H → va_D A [(y, .inr (9, [.int (zI (i 0)), .ref (q 0), .int (zI (i 1)), .int (zI (i 2)), .int (zI (i 3)), .int (zI (i 4)), .int (zI (i 5)), .int (zI (i 6)), .int (zI (i 7)), .int (zI (i 8)), .int (zI (i 9)), .int (zI (i 10)), .ref (q 1), .int (zI (i 11)), .int (zI (i 12)), .ref (q 2), .ref (q 3), .ref (q 4), .ref (q 5), .ref (q 6), .ref (q 7), .ref (q 8), .ref (q 9), .ref (q 10), .ref (q 11), .ref (q 12), .ref (q 13), .ref (q 14), .ref (q 15), .ref (q 16), .int (zI (i 13)), .int (zI (i 14)), .int (zI (i 15)), .int (zI (i 16)), .int (zI (i 17)), .int (zI (i 18)), .ref (q 17), .ref (q 18), .ref (q 19), .ref (q 20)])), (a, .inl (cI, 200, .inl (fun k => zI (g_p k)))), (f, .inl (cI, 200, .inl (fun k => zI (gq2 k))))] → va_S A s.heap H locs → ∀ ls : Array Slot, lv_has ls 8 [(7, .int (zI v7)), (6, .int (zI (20 * v5))), (5, .int (zI v5)), (0, .ref y), (1, .ref a), (2, .int (zI x)), (3, .int (zI w)), (4, .ref f)] → W p l e rm_X9_mergeX s m ([.ref y, .ref a, .int (zI x), .int (zI w), .ref f] : List Value).toArray below meth c H locs 0 0 Q (F0 m 229 ls [])) ((4 - 0 : Int).toNat + 1) 0 gq1 _ _ (by omega) (by omega) hqp1 hmt1 hms8 hP hD hS ls hl
                      clear hP hD hS hl ls
                      intro n9_3
                      induction n9_3 with
                      | zero =>
                        intro v7 gq2 H locs hI hM
                        exact absurd hM (by omega)
                      | succ n9_3 ih3 =>
                        intro v7 gq2 H locs hI3 hM3 hqp2 hmt2 hms2 hP hD hS ls hl
                        refine lv_iload hx hb dX9_merge_229 (lv_at hl 0 rfl) ?_
                        refine lv_aload hx hb dX9_merge_231 (lv_at hl 7 rfl) ?_
                        refine lv_iload hx hb dX9_merge_233 (lv_at hl 1 rfl) ?_
                        refine lv_iconst (v := zI 1) hx hb dX9_merge_235 rfl ?_
                        refine r_iadd (v := zI ((20 * v5) + 1)) F dX9_merge_236 (zI_add _ _) ?_
                        refine rz_iald F hK hP 2 0 rfl rfl (by omega) (by omega) dX9_merge_237 ?_
                        have hpl32 : 0 ≤ (gq2 (((20 * v5) + 1)).toNat) ∧ (gq2 (((20 * v5) + 1)).toNat) ≤ 4 := ProgR.at hqp2.1 (e := ((20 * v5) + 1)) v5 1 (by omega) (by omega) (by decide) rfl
                        refine rz_icmp_ge (tgt := 296) F (by omega) (by omega) dX9_merge_238 (by decide) (fun h238_32 => ?_) (fun h238_32 => ?_)
                        · refine lv_iinc (v := zI (v5 + 1)) (lv' := [(5, .int (zI (v5 + 1))), (7, .int (zI v7)), (6, .int (zI (20 * v5))), (0, .ref y), (1, .ref a), (2, .int (zI x)), (3, .int (zI w)), (4, .ref f)]) hx hb dX9_merge_296 hl (k := 2) rfl (zI_add _ _) (by decide) rfl (fun ls hl => ?_)
                          refine lv_goto (tgt := 132) hx hb dX9_merge_299 (by decide) ?_
                          exact ih2 (v5 + 1) gq2 _ _ (by omega) (by omega) hqp2 hmt2 (Mst.fin hms2 (by omega) hnw ⟨by omega, by omega⟩) hP hD hS ls (lv_sub hl [0, 3, 4, 5, 6, 7] rfl)
                        · refine lv_aload hx hb dX9_merge_241 (lv_at hl 7 rfl) ?_
                          refine lv_iload hx hb dX9_merge_243 (lv_at hl 1 rfl) ?_
                          refine lv_iconst (v := zI 2) hx hb dX9_merge_245 rfl ?_
                          refine r_iadd (v := zI ((20 * v5) + 2)) F dX9_merge_246 (zI_add _ _) ?_
                          refine lv_iconst (v := zI 3) hx hb dX9_merge_247 rfl ?_
                          refine lv_iload hx hb dX9_merge_248 (lv_at hl 0 rfl) ?_
                          refine r_imul (v := zI (3 * v7)) F dX9_merge_250 (zI_mul _ _) ?_
                          refine r_iadd (v := zI (((20 * v5) + 2) + (3 * v7))) F dX9_merge_251 (zI_add _ _) ?_
                          refine rz_iald F hK hP 2 0 rfl rfl (by omega) (by omega) dX9_merge_252 ?_
                          have hc34 := ProgOk.act hqp2 (i := v5) (n := v7) (k := (((20 * v5) + 2) + (3 * v7))) (by omega) (by omega) (by omega)
                          refine lv_iconst (v := zI 3) hx hb dX9_merge_253 rfl ?_
                          refine rz_icmp_ne (tgt := 290) F (by omega) (by omega) dX9_merge_254 (by decide) (fun h254_34 => ?_) (fun h254_34 => ?_)
                          · refine lv_iinc (v := zI (v7 + 1)) (lv' := [(7, .int (zI (v7 + 1))), (6, .int (zI (20 * v5))), (5, .int (zI v5)), (0, .ref y), (1, .ref a), (2, .int (zI x)), (3, .int (zI w)), (4, .ref f)]) hx hb dX9_merge_290 hl (k := 0) rfl (zI_add _ _) (by decide) rfl (fun ls hl => ?_)
                            refine lv_goto (tgt := 229) hx hb dX9_merge_293 (by decide) ?_
                            exact ih3 (v7 + 1) gq2 _ _ (by omega) (by omega) hqp2 hmt2 (Mst.sA hms2 (by omega) hnw (by omega) ⟨by omega, by omega⟩ (Or.inr ⟨by omega, rfl⟩)) hP hD hS ls (lv_sub hl [0, 1, 2, 3, 4, 5, 6, 7] rfl)
                          · refine lv_aload hx hb dX9_merge_257 (lv_at hl 7 rfl) ?_
                            refine lv_iload hx hb dX9_merge_259 (lv_at hl 1 rfl) ?_
                            refine lv_iconst (v := zI 2) hx hb dX9_merge_261 rfl ?_
                            refine r_iadd (v := zI ((20 * v5) + 2)) F dX9_merge_262 (zI_add _ _) ?_
                            refine lv_iconst (v := zI 3) hx hb dX9_merge_263 rfl ?_
                            refine lv_iload hx hb dX9_merge_264 (lv_at hl 0 rfl) ?_
                            refine r_imul (v := zI (3 * v7)) F dX9_merge_266 (zI_mul _ _) ?_
                            refine r_iadd (v := zI (((20 * v5) + 2) + (3 * v7))) F dX9_merge_267 (zI_add _ _) ?_
                            refine lv_iconst (v := zI 1) hx hb dX9_merge_268 rfl ?_
                            refine r_iadd (v := zI ((((20 * v5) + 2) + (3 * v7)) + 1)) F dX9_merge_269 (zI_add _ _) ?_
                            refine rz_iald F hK hP 2 0 rfl rfl (by omega) (by omega) dX9_merge_270 ?_
                            have hc36 := hqp2.1.pos (((((20 * v5) + 2) + (3 * v7)) + 1)).toNat (by omega)
                            have hc37 := hqp2.1.le9 (((((20 * v5) + 2) + (3 * v7)) + 1)).toNat (by omega)
                            refine lv_iload_n hx hb dX9_merge_271 rfl (lv_at hl 6 rfl) ?_
                            refine rz_icmp_ne (tgt := 290) F (by omega) (by omega) dX9_merge_272 (by decide) (fun h272_37 => ?_) (fun h272_37 => ?_)
                            · refine lv_iinc (v := zI (v7 + 1)) (lv' := [(7, .int (zI (v7 + 1))), (6, .int (zI (20 * v5))), (5, .int (zI v5)), (0, .ref y), (1, .ref a), (2, .int (zI x)), (3, .int (zI w)), (4, .ref f)]) hx hb dX9_merge_290 hl (k := 0) rfl (zI_add _ _) (by decide) rfl (fun ls hl => ?_)
                              refine lv_goto (tgt := 229) hx hb dX9_merge_293 (by decide) ?_
                              exact ih3 (v7 + 1) gq2 _ _ (by omega) (by omega) hqp2 hmt2 (Mst.sA hms2 (by omega) hnw (by omega) ⟨by omega, by omega⟩ (Or.inr ⟨by omega, rfl⟩)) hP hD hS ls (lv_sub hl [0, 1, 2, 3, 4, 5, 6, 7] rfl)
                            · refine lv_aload hx hb dX9_merge_275 (lv_at hl 7 rfl) ?_
                              refine lv_iload hx hb dX9_merge_277 (lv_at hl 1 rfl) ?_
                              refine lv_iconst (v := zI 2) hx hb dX9_merge_279 rfl ?_
                              refine r_iadd (v := zI ((20 * v5) + 2)) F dX9_merge_280 (zI_add _ _) ?_
                              refine lv_iconst (v := zI 3) hx hb dX9_merge_281 rfl ?_
                              refine lv_iload hx hb dX9_merge_282 (lv_at hl 0 rfl) ?_
                              refine r_imul (v := zI (3 * v7)) F dX9_merge_284 (zI_mul _ _) ?_
                              refine r_iadd (v := zI (((20 * v5) + 2) + (3 * v7))) F dX9_merge_285 (zI_add _ _) ?_
                              refine lv_iconst (v := zI 1) hx hb dX9_merge_286 rfl ?_
                              refine r_iadd (v := zI ((((20 * v5) + 2) + (3 * v7)) + 1)) F dX9_merge_287 (zI_add _ _) ?_
                              refine lv_iload_n hx hb dX9_merge_288 rfl (lv_at hl 5 rfl) ?_
                              refine rz_iastG F hK hP hD hS 2 0 rfl rfl (by omega) (by omega) dX9_merge_289 (w1 := fun g39 => [(y, .inr (9, [.int (zI (i 0)), .ref (q 0), .int (zI (i 1)), .int (zI (i 2)), .int (zI (i 3)), .int (zI (i 4)), .int (zI (i 5)), .int (zI (i 6)), .int (zI (i 7)), .int (zI (i 8)), .int (zI (i 9)), .int (zI (i 10)), .ref (q 1), .int (zI (i 11)), .int (zI (i 12)), .ref (q 2), .ref (q 3), .ref (q 4), .ref (q 5), .ref (q 6), .ref (q 7), .ref (q 8), .ref (q 9), .ref (q 10), .ref (q 11), .ref (q 12), .ref (q 13), .ref (q 14), .ref (q 15), .ref (q 16), .int (zI (i 13)), .int (zI (i 14)), .int (zI (i 15)), .int (zI (i 16)), .int (zI (i 17)), .int (zI (i 18)), .ref (q 17), .ref (q 18), .ref (q 19), .ref (q 20)])), (a, .inl (cI, 200, .inl (fun k => zI (g_p k)))), (f, .inl (cI, 200, .inl (fun k => zI (g39 k))))]) (fun _ => rfl) (fun g39 e_g39 H locs hP hD hS => ?_)
                              have hqp40 : ProgOk g39 := ProgOk.tgt3 hqp2 e_g39 (i := v5) (n := v7) (by omega) (by omega) (by omega) (by omega) (j := (((20 * v5) + 2) + (3 * v7)).toNat) (by omega) (by omega)
                              have hmt41 := MT.keepA hmt2 e_g39 (i := v5) (n := v7) (by omega) (by omega) (by omega)
                              refine lv_iinc (v := zI (v7 + 1)) (lv' := [(7, .int (zI (v7 + 1))), (6, .int (zI (20 * v5))), (5, .int (zI v5)), (0, .ref y), (1, .ref a), (2, .int (zI x)), (3, .int (zI w)), (4, .ref f)]) hx hb dX9_merge_290 hl (k := 0) rfl (zI_add _ _) (by decide) rfl (fun ls hl => ?_)
                              refine lv_goto (tgt := 229) hx hb dX9_merge_293 (by decide) ?_
                              exact ih3 (v7 + 1) g39 _ _ (by omega) (by omega) hqp40 hmt41 (Mst.sA hms2 (by omega) hnw (by omega) ⟨by omega, by omega⟩ (Or.inl ⟨by omega, by omega, e_g39⟩)) hP hD hS ls (lv_sub hl [0, 1, 2, 3, 4, 5, 6, 7] rfl)
                    · refine lv_aload hx hb dX9_merge_217 (lv_at hl 6 rfl) ?_
                      refine lv_iload hx hb dX9_merge_219 (lv_at hl 0 rfl) ?_
                      refine lv_bipush (v := zI 18) hx hb dX9_merge_221 (by decide) ?_
                      refine r_iadd (v := zI ((20 * v5) + 18)) F dX9_merge_223 (zI_add _ _) ?_
                      refine lv_iload_n hx hb dX9_merge_224 rfl (lv_at hl 4 rfl) ?_
                      refine rz_iastG F hK hP hD hS 2 0 rfl rfl (by omega) (by omega) dX9_merge_225 (w1 := fun g42 => [(y, .inr (9, [.int (zI (i 0)), .ref (q 0), .int (zI (i 1)), .int (zI (i 2)), .int (zI (i 3)), .int (zI (i 4)), .int (zI (i 5)), .int (zI (i 6)), .int (zI (i 7)), .int (zI (i 8)), .int (zI (i 9)), .int (zI (i 10)), .ref (q 1), .int (zI (i 11)), .int (zI (i 12)), .ref (q 2), .ref (q 3), .ref (q 4), .ref (q 5), .ref (q 6), .ref (q 7), .ref (q 8), .ref (q 9), .ref (q 10), .ref (q 11), .ref (q 12), .ref (q 13), .ref (q 14), .ref (q 15), .ref (q 16), .int (zI (i 13)), .int (zI (i 14)), .int (zI (i 15)), .int (zI (i 16)), .int (zI (i 17)), .int (zI (i 18)), .ref (q 17), .ref (q 18), .ref (q 19), .ref (q 20)])), (a, .inl (cI, 200, .inl (fun k => zI (g_p k)))), (f, .inl (cI, 200, .inl (fun k => zI (g42 k))))]) (fun _ => rfl) (fun g42 e_g42 H locs hP hD hS => ?_)
                      have hqp43 : ProgOk g42 := ⟨hqp1.1.set (m := 9) e_g42 18 (by omega) rfl (by omega), hqp1.2.set e_g42 (by omega)⟩
                      have hmt44 := hmt1.keep e_g42 (by omega)
                      refine lv_iconst (v := zI 0) hx hb dX9_merge_226 rfl ?_
                      have hms8 : Mst g_p x w (i 13) g42 v5 (3 + 0) := Mst.s18 hms6 (by omega) hnw (by omega) (Or.inl ⟨by omega, by omega, e_g42⟩)
                      refine lv_istore (lv' := [(7, .int (zI 0)), (6, .int (zI (20 * v5))), (5, .int (zI v5)), (0, .ref y), (1, .ref a), (2, .int (zI x)), (3, .int (zI w)), (4, .ref f)]) hx hb dX9_merge_227 hl (by decide) rfl (fun ls hl => ?_)
                      refine W.widen (k := 0) (n := 0) (Nat.le_of_ble_eq_true rfl) (Nat.le_of_ble_eq_true rfl) ?_
                      refine (?_ : ∀ (n9_3 : Nat) (v7 : Int) (gq2 : Nat → Int) (H : Heap) (locs : List Loc), (0 ≤ v7 ∧ v7 ≤ 4) → (4 - v7 : Int).toNat < n9_3 → (ProgOk gq2) → (MT g_p gq2 w) → (Mst g_p x w (i 13) gq2 v5 (3 + v7)) → va_P G vwCl [(y, .inr (9, [.int (zI (i 0)), .ref (q 0), .int (zI (i 1)), .int (zI (i 2)), .int (zI (i 3)), .int (zI (i 4)), .int (zI (i 5)), .int (zI (i 6)), .int (zI (i 7)), .int (zI (i 8)), .int (zI (i 9)), .int (zI (i 10)), .ref (q 1), .int (zI (i 11)), .int (zI (i 12)), .ref (q 2), .ref (q 3), .ref (q 4), .ref (q 5), .ref (q 6), .ref (q 7), .ref (q 8), .ref (q 9), .ref (q 10), .ref (q 11), .ref (q 12), .ref (q 13), .ref (q 14), .ref (q 15), .ref (q 16), .int (zI (i 13)), .int (zI (i 14)), .int (zI (i 15)), .int (zI (i 16)), .int (zI (i 17)), .int (zI (i 18)), .ref (q 17), .ref (q 18), .ref (q 19), .ref (q 20)])), (a, .inl (cI, 200, .inl (fun k => zI (g_p k)))), (f, .inl (cI, 200, .inl (fun k => zI (gq2 k))))] H → va_D A [(y, .inr (9, [.int (zI (i 0)), .ref (q 0), .int (zI (i 1)), .int (zI (i 2)), .int (zI (i 3)), .int (zI (i 4)), .int (zI (i 5)), .int (zI (i 6)), .int (zI (i 7)), .int (zI (i 8)), .int (zI (i 9)), .int (zI (i 10)), .ref (q 1), .int (zI (i 11)), .int (zI (i 12)), .ref (q 2), .ref (q 3), .ref (q 4), .ref (q 5), .ref (q 6), .ref (q 7), .ref (q 8), .ref (q 9), .ref (q 10), .ref (q 11), .ref (q 12), .ref (q 13), .ref (q 14), .ref (q 15), .ref (q 16), .int (zI (i 13)), .int (zI (i 14)), .int (zI (i 15)), .int (zI (i 16)), .int (zI (i 17)), .int (zI (i 18)), .ref (q 17), .ref (q 18), .ref (q 19), .ref (q 20)])), (a, .inl (cI, 200, .inl (fun k => zI (g_p k)))), (f, .inl (cI, 200, .inl (fun k => zI (gq2 k))))] → va_S A s.heap H locs → ∀ ls : Array Slot, lv_has ls 8 [(7, .int (zI v7)), (6, .int (zI (20 * v5))), (5, .int (zI v5)), (0, .ref y), (1, .ref a), (2, .int (zI x)), (3, .int (zI w)), (4, .ref f)] → W p l e rm_X9_mergeX s m ([.ref y, .ref a, .int (zI x), .int (zI w), .ref f] : List Value).toArray below meth c H locs 0 0 Q (F0 m 229 ls [])) ((4 - 0 : Int).toNat + 1) 0 g42 _ _ (by omega) (by omega) hqp43 hmt44 hms8 hP hD hS ls hl
                      clear hP hD hS hl ls
                      intro n9_3
                      induction n9_3 with
                      | zero =>
                        intro v7 gq2 H locs hI hM
                        exact absurd hM (by omega)
                      | succ n9_3 ih3 =>
                        intro v7 gq2 H locs hI3 hM3 hqp2 hmt2 hms2 hP hD hS ls hl
                        refine lv_iload hx hb dX9_merge_229 (lv_at hl 0 rfl) ?_
                        refine lv_aload hx hb dX9_merge_231 (lv_at hl 7 rfl) ?_
                        refine lv_iload hx hb dX9_merge_233 (lv_at hl 1 rfl) ?_
                        refine lv_iconst (v := zI 1) hx hb dX9_merge_235 rfl ?_
                        refine r_iadd (v := zI ((20 * v5) + 1)) F dX9_merge_236 (zI_add _ _) ?_
                        refine rz_iald F hK hP 2 0 rfl rfl (by omega) (by omega) dX9_merge_237 ?_
                        have hpl45 : 0 ≤ (gq2 (((20 * v5) + 1)).toNat) ∧ (gq2 (((20 * v5) + 1)).toNat) ≤ 4 := ProgR.at hqp2.1 (e := ((20 * v5) + 1)) v5 1 (by omega) (by omega) (by decide) rfl
                        refine rz_icmp_ge (tgt := 296) F (by omega) (by omega) dX9_merge_238 (by decide) (fun h238_45 => ?_) (fun h238_45 => ?_)
                        · refine lv_iinc (v := zI (v5 + 1)) (lv' := [(5, .int (zI (v5 + 1))), (7, .int (zI v7)), (6, .int (zI (20 * v5))), (0, .ref y), (1, .ref a), (2, .int (zI x)), (3, .int (zI w)), (4, .ref f)]) hx hb dX9_merge_296 hl (k := 2) rfl (zI_add _ _) (by decide) rfl (fun ls hl => ?_)
                          refine lv_goto (tgt := 132) hx hb dX9_merge_299 (by decide) ?_
                          exact ih2 (v5 + 1) gq2 _ _ (by omega) (by omega) hqp2 hmt2 (Mst.fin hms2 (by omega) hnw ⟨by omega, by omega⟩) hP hD hS ls (lv_sub hl [0, 3, 4, 5, 6, 7] rfl)
                        · refine lv_aload hx hb dX9_merge_241 (lv_at hl 7 rfl) ?_
                          refine lv_iload hx hb dX9_merge_243 (lv_at hl 1 rfl) ?_
                          refine lv_iconst (v := zI 2) hx hb dX9_merge_245 rfl ?_
                          refine r_iadd (v := zI ((20 * v5) + 2)) F dX9_merge_246 (zI_add _ _) ?_
                          refine lv_iconst (v := zI 3) hx hb dX9_merge_247 rfl ?_
                          refine lv_iload hx hb dX9_merge_248 (lv_at hl 0 rfl) ?_
                          refine r_imul (v := zI (3 * v7)) F dX9_merge_250 (zI_mul _ _) ?_
                          refine r_iadd (v := zI (((20 * v5) + 2) + (3 * v7))) F dX9_merge_251 (zI_add _ _) ?_
                          refine rz_iald F hK hP 2 0 rfl rfl (by omega) (by omega) dX9_merge_252 ?_
                          have hc47 := ProgOk.act hqp2 (i := v5) (n := v7) (k := (((20 * v5) + 2) + (3 * v7))) (by omega) (by omega) (by omega)
                          refine lv_iconst (v := zI 3) hx hb dX9_merge_253 rfl ?_
                          refine rz_icmp_ne (tgt := 290) F (by omega) (by omega) dX9_merge_254 (by decide) (fun h254_47 => ?_) (fun h254_47 => ?_)
                          · refine lv_iinc (v := zI (v7 + 1)) (lv' := [(7, .int (zI (v7 + 1))), (6, .int (zI (20 * v5))), (5, .int (zI v5)), (0, .ref y), (1, .ref a), (2, .int (zI x)), (3, .int (zI w)), (4, .ref f)]) hx hb dX9_merge_290 hl (k := 0) rfl (zI_add _ _) (by decide) rfl (fun ls hl => ?_)
                            refine lv_goto (tgt := 229) hx hb dX9_merge_293 (by decide) ?_
                            exact ih3 (v7 + 1) gq2 _ _ (by omega) (by omega) hqp2 hmt2 (Mst.sA hms2 (by omega) hnw (by omega) ⟨by omega, by omega⟩ (Or.inr ⟨by omega, rfl⟩)) hP hD hS ls (lv_sub hl [0, 1, 2, 3, 4, 5, 6, 7] rfl)
                          · refine lv_aload hx hb dX9_merge_257 (lv_at hl 7 rfl) ?_
                            refine lv_iload hx hb dX9_merge_259 (lv_at hl 1 rfl) ?_
                            refine lv_iconst (v := zI 2) hx hb dX9_merge_261 rfl ?_
                            refine r_iadd (v := zI ((20 * v5) + 2)) F dX9_merge_262 (zI_add _ _) ?_
                            refine lv_iconst (v := zI 3) hx hb dX9_merge_263 rfl ?_
                            refine lv_iload hx hb dX9_merge_264 (lv_at hl 0 rfl) ?_
                            refine r_imul (v := zI (3 * v7)) F dX9_merge_266 (zI_mul _ _) ?_
                            refine r_iadd (v := zI (((20 * v5) + 2) + (3 * v7))) F dX9_merge_267 (zI_add _ _) ?_
                            refine lv_iconst (v := zI 1) hx hb dX9_merge_268 rfl ?_
                            refine r_iadd (v := zI ((((20 * v5) + 2) + (3 * v7)) + 1)) F dX9_merge_269 (zI_add _ _) ?_
                            refine rz_iald F hK hP 2 0 rfl rfl (by omega) (by omega) dX9_merge_270 ?_
                            have hc49 := hqp2.1.pos (((((20 * v5) + 2) + (3 * v7)) + 1)).toNat (by omega)
                            have hc50 := hqp2.1.le9 (((((20 * v5) + 2) + (3 * v7)) + 1)).toNat (by omega)
                            refine lv_iload_n hx hb dX9_merge_271 rfl (lv_at hl 6 rfl) ?_
                            refine rz_icmp_ne (tgt := 290) F (by omega) (by omega) dX9_merge_272 (by decide) (fun h272_50 => ?_) (fun h272_50 => ?_)
                            · refine lv_iinc (v := zI (v7 + 1)) (lv' := [(7, .int (zI (v7 + 1))), (6, .int (zI (20 * v5))), (5, .int (zI v5)), (0, .ref y), (1, .ref a), (2, .int (zI x)), (3, .int (zI w)), (4, .ref f)]) hx hb dX9_merge_290 hl (k := 0) rfl (zI_add _ _) (by decide) rfl (fun ls hl => ?_)
                              refine lv_goto (tgt := 229) hx hb dX9_merge_293 (by decide) ?_
                              exact ih3 (v7 + 1) gq2 _ _ (by omega) (by omega) hqp2 hmt2 (Mst.sA hms2 (by omega) hnw (by omega) ⟨by omega, by omega⟩ (Or.inr ⟨by omega, rfl⟩)) hP hD hS ls (lv_sub hl [0, 1, 2, 3, 4, 5, 6, 7] rfl)
                            · refine lv_aload hx hb dX9_merge_275 (lv_at hl 7 rfl) ?_
                              refine lv_iload hx hb dX9_merge_277 (lv_at hl 1 rfl) ?_
                              refine lv_iconst (v := zI 2) hx hb dX9_merge_279 rfl ?_
                              refine r_iadd (v := zI ((20 * v5) + 2)) F dX9_merge_280 (zI_add _ _) ?_
                              refine lv_iconst (v := zI 3) hx hb dX9_merge_281 rfl ?_
                              refine lv_iload hx hb dX9_merge_282 (lv_at hl 0 rfl) ?_
                              refine r_imul (v := zI (3 * v7)) F dX9_merge_284 (zI_mul _ _) ?_
                              refine r_iadd (v := zI (((20 * v5) + 2) + (3 * v7))) F dX9_merge_285 (zI_add _ _) ?_
                              refine lv_iconst (v := zI 1) hx hb dX9_merge_286 rfl ?_
                              refine r_iadd (v := zI ((((20 * v5) + 2) + (3 * v7)) + 1)) F dX9_merge_287 (zI_add _ _) ?_
                              refine lv_iload_n hx hb dX9_merge_288 rfl (lv_at hl 5 rfl) ?_
                              refine rz_iastG F hK hP hD hS 2 0 rfl rfl (by omega) (by omega) dX9_merge_289 (w1 := fun g52 => [(y, .inr (9, [.int (zI (i 0)), .ref (q 0), .int (zI (i 1)), .int (zI (i 2)), .int (zI (i 3)), .int (zI (i 4)), .int (zI (i 5)), .int (zI (i 6)), .int (zI (i 7)), .int (zI (i 8)), .int (zI (i 9)), .int (zI (i 10)), .ref (q 1), .int (zI (i 11)), .int (zI (i 12)), .ref (q 2), .ref (q 3), .ref (q 4), .ref (q 5), .ref (q 6), .ref (q 7), .ref (q 8), .ref (q 9), .ref (q 10), .ref (q 11), .ref (q 12), .ref (q 13), .ref (q 14), .ref (q 15), .ref (q 16), .int (zI (i 13)), .int (zI (i 14)), .int (zI (i 15)), .int (zI (i 16)), .int (zI (i 17)), .int (zI (i 18)), .ref (q 17), .ref (q 18), .ref (q 19), .ref (q 20)])), (a, .inl (cI, 200, .inl (fun k => zI (g_p k)))), (f, .inl (cI, 200, .inl (fun k => zI (g52 k))))]) (fun _ => rfl) (fun g52 e_g52 H locs hP hD hS => ?_)
                              have hqp53 : ProgOk g52 := ProgOk.tgt3 hqp2 e_g52 (i := v5) (n := v7) (by omega) (by omega) (by omega) (by omega) (j := (((20 * v5) + 2) + (3 * v7)).toNat) (by omega) (by omega)
                              have hmt54 := MT.keepA hmt2 e_g52 (i := v5) (n := v7) (by omega) (by omega) (by omega)
                              refine lv_iinc (v := zI (v7 + 1)) (lv' := [(7, .int (zI (v7 + 1))), (6, .int (zI (20 * v5))), (5, .int (zI v5)), (0, .ref y), (1, .ref a), (2, .int (zI x)), (3, .int (zI w)), (4, .ref f)]) hx hb dX9_merge_290 hl (k := 0) rfl (zI_add _ _) (by decide) rfl (fun ls hl => ?_)
                              refine lv_goto (tgt := 229) hx hb dX9_merge_293 (by decide) ?_
                              exact ih3 (v7 + 1) g52 _ _ (by omega) (by omega) hqp53 hmt54 (Mst.sA hms2 (by omega) hnw (by omega) ⟨by omega, by omega⟩ (Or.inl ⟨by omega, by omega, e_g52⟩)) hP hD hS ls (lv_sub hl [0, 1, 2, 3, 4, 5, 6, 7] rfl)
                · refine lv_aload hx hb dX9_merge_172 (lv_at hl 6 rfl) ?_
                  refine lv_iload hx hb dX9_merge_174 (lv_at hl 0 rfl) ?_
                  refine lv_bipush (v := zI 16) hx hb dX9_merge_176 (by decide) ?_
                  refine r_iadd (v := zI ((20 * v5) + 16)) F dX9_merge_178 (zI_add _ _) ?_
                  refine rz_iald F hK hP 2 0 rfl rfl (by omega) (by omega) dX9_merge_179 ?_
                  have hc55 := hqp1.1.pos (((20 * v5) + 16)).toNat (by omega)
                  have hc56 := hqp1.1.le9 (((20 * v5) + 16)).toNat (by omega)
                  refine lv_iload_n hx hb dX9_merge_180 rfl (lv_at hl 5 rfl) ?_
                  refine rz_icmp_ne (tgt := 193) F (by omega) (by omega) dX9_merge_181 (by decide) (fun h181_56 => ?_) (fun h181_56 => ?_)
                  · refine lv_aload hx hb dX9_merge_193 (lv_at hl 6 rfl) ?_
                    have hms6 : Mst g_p x w (i 13) gq1 v5 1 := Mst.s16 hms1 (by omega) hnw (by omega) (Or.inr ⟨by omega, rfl⟩)
                    refine lv_iload hx hb dX9_merge_195 (lv_at hl 0 rfl) ?_
                    refine lv_bipush (v := zI 14) hx hb dX9_merge_197 (by decide) ?_
                    refine r_iadd (v := zI ((20 * v5) + 14)) F dX9_merge_199 (zI_add _ _) ?_
                    refine rz_iald F hK hP 2 0 rfl rfl (by omega) (by omega) dX9_merge_200 ?_
                    have hc58 := hqp1.1.pos (((20 * v5) + 14)).toNat (by omega)
                    have hc59 := hqp1.1.le9 (((20 * v5) + 14)).toNat (by omega)
                    refine lv_iconst (v := zI 2) hx hb dX9_merge_201 rfl ?_
                    refine rz_icmp_ne (tgt := 226) F (by omega) (by omega) dX9_merge_202 (by decide) (fun h202_59 => ?_) (fun h202_59 => ?_)
                    · refine lv_iconst (v := zI 0) hx hb dX9_merge_226 rfl ?_
                      have hms8 : Mst g_p x w (i 13) gq1 v5 (3 + 0) := Mst.s18 hms6 (by omega) hnw (by omega) (Or.inr ⟨by omega, rfl⟩)
                      refine lv_istore (lv' := [(7, .int (zI 0)), (6, .int (zI (20 * v5))), (5, .int (zI v5)), (0, .ref y), (1, .ref a), (2, .int (zI x)), (3, .int (zI w)), (4, .ref f)]) hx hb dX9_merge_227 hl (by decide) rfl (fun ls hl => ?_)
                      refine W.widen (k := 0) (n := 0) (Nat.le_of_ble_eq_true rfl) (Nat.le_of_ble_eq_true rfl) ?_
                      refine (?_ : ∀ (n9_3 : Nat) (v7 : Int) (gq2 : Nat → Int) (H : Heap) (locs : List Loc), (0 ≤ v7 ∧ v7 ≤ 4) → (4 - v7 : Int).toNat < n9_3 → (ProgOk gq2) → (MT g_p gq2 w) → (Mst g_p x w (i 13) gq2 v5 (3 + v7)) → va_P G vwCl [(y, .inr (9, [.int (zI (i 0)), .ref (q 0), .int (zI (i 1)), .int (zI (i 2)), .int (zI (i 3)), .int (zI (i 4)), .int (zI (i 5)), .int (zI (i 6)), .int (zI (i 7)), .int (zI (i 8)), .int (zI (i 9)), .int (zI (i 10)), .ref (q 1), .int (zI (i 11)), .int (zI (i 12)), .ref (q 2), .ref (q 3), .ref (q 4), .ref (q 5), .ref (q 6), .ref (q 7), .ref (q 8), .ref (q 9), .ref (q 10), .ref (q 11), .ref (q 12), .ref (q 13), .ref (q 14), .ref (q 15), .ref (q 16), .int (zI (i 13)), .int (zI (i 14)), .int (zI (i 15)), .int (zI (i 16)), .int (zI (i 17)), .int (zI (i 18)), .ref (q 17), .ref (q 18), .ref (q 19), .ref (q 20)])), (a, .inl (cI, 200, .inl (fun k => zI (g_p k)))), (f, .inl (cI, 200, .inl (fun k => zI (gq2 k))))] H → va_D A [(y, .inr (9, [.int (zI (i 0)), .ref (q 0), .int (zI (i 1)), .int (zI (i 2)), .int (zI (i 3)), .int (zI (i 4)), .int (zI (i 5)), .int (zI (i 6)), .int (zI (i 7)), .int (zI (i 8)), .int (zI (i 9)), .int (zI (i 10)), .ref (q 1), .int (zI (i 11)), .int (zI (i 12)), .ref (q 2), .ref (q 3), .ref (q 4), .ref (q 5), .ref (q 6), .ref (q 7), .ref (q 8), .ref (q 9), .ref (q 10), .ref (q 11), .ref (q 12), .ref (q 13), .ref (q 14), .ref (q 15), .ref (q 16), .int (zI (i 13)), .int (zI (i 14)), .int (zI (i 15)), .int (zI (i 16)), .int (zI (i 17)), .int (zI (i 18)), .ref (q 17), .ref (q 18), .ref (q 19), .ref (q 20)])), (a, .inl (cI, 200, .inl (fun k => zI (g_p k)))), (f, .inl (cI, 200, .inl (fun k => zI (gq2 k))))] → va_S A s.heap H locs → ∀ ls : Array Slot, lv_has ls 8 [(7, .int (zI v7)), (6, .int (zI (20 * v5))), (5, .int (zI v5)), (0, .ref y), (1, .ref a), (2, .int (zI x)), (3, .int (zI w)), (4, .ref f)] → W p l e rm_X9_mergeX s m ([.ref y, .ref a, .int (zI x), .int (zI w), .ref f] : List Value).toArray below meth c H locs 0 0 Q (F0 m 229 ls [])) ((4 - 0 : Int).toNat + 1) 0 gq1 _ _ (by omega) (by omega) hqp1 hmt1 hms8 hP hD hS ls hl
                      clear hP hD hS hl ls
                      intro n9_3
                      induction n9_3 with
                      | zero =>
                        intro v7 gq2 H locs hI hM
                        exact absurd hM (by omega)
                      | succ n9_3 ih3 =>
                        intro v7 gq2 H locs hI3 hM3 hqp2 hmt2 hms2 hP hD hS ls hl
                        refine lv_iload hx hb dX9_merge_229 (lv_at hl 0 rfl) ?_
                        refine lv_aload hx hb dX9_merge_231 (lv_at hl 7 rfl) ?_
                        refine lv_iload hx hb dX9_merge_233 (lv_at hl 1 rfl) ?_
                        refine lv_iconst (v := zI 1) hx hb dX9_merge_235 rfl ?_
                        refine r_iadd (v := zI ((20 * v5) + 1)) F dX9_merge_236 (zI_add _ _) ?_
                        refine rz_iald F hK hP 2 0 rfl rfl (by omega) (by omega) dX9_merge_237 ?_
                        have hpl61 : 0 ≤ (gq2 (((20 * v5) + 1)).toNat) ∧ (gq2 (((20 * v5) + 1)).toNat) ≤ 4 := ProgR.at hqp2.1 (e := ((20 * v5) + 1)) v5 1 (by omega) (by omega) (by decide) rfl
                        refine rz_icmp_ge (tgt := 296) F (by omega) (by omega) dX9_merge_238 (by decide) (fun h238_61 => ?_) (fun h238_61 => ?_)
                        · refine lv_iinc (v := zI (v5 + 1)) (lv' := [(5, .int (zI (v5 + 1))), (7, .int (zI v7)), (6, .int (zI (20 * v5))), (0, .ref y), (1, .ref a), (2, .int (zI x)), (3, .int (zI w)), (4, .ref f)]) hx hb dX9_merge_296 hl (k := 2) rfl (zI_add _ _) (by decide) rfl (fun ls hl => ?_)
                          refine lv_goto (tgt := 132) hx hb dX9_merge_299 (by decide) ?_
                          exact ih2 (v5 + 1) gq2 _ _ (by omega) (by omega) hqp2 hmt2 (Mst.fin hms2 (by omega) hnw ⟨by omega, by omega⟩) hP hD hS ls (lv_sub hl [0, 3, 4, 5, 6, 7] rfl)
                        · refine lv_aload hx hb dX9_merge_241 (lv_at hl 7 rfl) ?_
                          refine lv_iload hx hb dX9_merge_243 (lv_at hl 1 rfl) ?_
                          refine lv_iconst (v := zI 2) hx hb dX9_merge_245 rfl ?_
                          refine r_iadd (v := zI ((20 * v5) + 2)) F dX9_merge_246 (zI_add _ _) ?_
                          refine lv_iconst (v := zI 3) hx hb dX9_merge_247 rfl ?_
                          refine lv_iload hx hb dX9_merge_248 (lv_at hl 0 rfl) ?_
                          refine r_imul (v := zI (3 * v7)) F dX9_merge_250 (zI_mul _ _) ?_
                          refine r_iadd (v := zI (((20 * v5) + 2) + (3 * v7))) F dX9_merge_251 (zI_add _ _) ?_
                          refine rz_iald F hK hP 2 0 rfl rfl (by omega) (by omega) dX9_merge_252 ?_
                          have hc63 := ProgOk.act hqp2 (i := v5) (n := v7) (k := (((20 * v5) + 2) + (3 * v7))) (by omega) (by omega) (by omega)
                          refine lv_iconst (v := zI 3) hx hb dX9_merge_253 rfl ?_
                          refine rz_icmp_ne (tgt := 290) F (by omega) (by omega) dX9_merge_254 (by decide) (fun h254_63 => ?_) (fun h254_63 => ?_)
                          · refine lv_iinc (v := zI (v7 + 1)) (lv' := [(7, .int (zI (v7 + 1))), (6, .int (zI (20 * v5))), (5, .int (zI v5)), (0, .ref y), (1, .ref a), (2, .int (zI x)), (3, .int (zI w)), (4, .ref f)]) hx hb dX9_merge_290 hl (k := 0) rfl (zI_add _ _) (by decide) rfl (fun ls hl => ?_)
                            refine lv_goto (tgt := 229) hx hb dX9_merge_293 (by decide) ?_
                            exact ih3 (v7 + 1) gq2 _ _ (by omega) (by omega) hqp2 hmt2 (Mst.sA hms2 (by omega) hnw (by omega) ⟨by omega, by omega⟩ (Or.inr ⟨by omega, rfl⟩)) hP hD hS ls (lv_sub hl [0, 1, 2, 3, 4, 5, 6, 7] rfl)
                          · refine lv_aload hx hb dX9_merge_257 (lv_at hl 7 rfl) ?_
                            refine lv_iload hx hb dX9_merge_259 (lv_at hl 1 rfl) ?_
                            refine lv_iconst (v := zI 2) hx hb dX9_merge_261 rfl ?_
                            refine r_iadd (v := zI ((20 * v5) + 2)) F dX9_merge_262 (zI_add _ _) ?_
                            refine lv_iconst (v := zI 3) hx hb dX9_merge_263 rfl ?_
                            refine lv_iload hx hb dX9_merge_264 (lv_at hl 0 rfl) ?_
                            refine r_imul (v := zI (3 * v7)) F dX9_merge_266 (zI_mul _ _) ?_
                            refine r_iadd (v := zI (((20 * v5) + 2) + (3 * v7))) F dX9_merge_267 (zI_add _ _) ?_
                            refine lv_iconst (v := zI 1) hx hb dX9_merge_268 rfl ?_
                            refine r_iadd (v := zI ((((20 * v5) + 2) + (3 * v7)) + 1)) F dX9_merge_269 (zI_add _ _) ?_
                            refine rz_iald F hK hP 2 0 rfl rfl (by omega) (by omega) dX9_merge_270 ?_
                            have hc65 := hqp2.1.pos (((((20 * v5) + 2) + (3 * v7)) + 1)).toNat (by omega)
                            have hc66 := hqp2.1.le9 (((((20 * v5) + 2) + (3 * v7)) + 1)).toNat (by omega)
                            refine lv_iload_n hx hb dX9_merge_271 rfl (lv_at hl 6 rfl) ?_
                            refine rz_icmp_ne (tgt := 290) F (by omega) (by omega) dX9_merge_272 (by decide) (fun h272_66 => ?_) (fun h272_66 => ?_)
                            · refine lv_iinc (v := zI (v7 + 1)) (lv' := [(7, .int (zI (v7 + 1))), (6, .int (zI (20 * v5))), (5, .int (zI v5)), (0, .ref y), (1, .ref a), (2, .int (zI x)), (3, .int (zI w)), (4, .ref f)]) hx hb dX9_merge_290 hl (k := 0) rfl (zI_add _ _) (by decide) rfl (fun ls hl => ?_)
                              refine lv_goto (tgt := 229) hx hb dX9_merge_293 (by decide) ?_
                              exact ih3 (v7 + 1) gq2 _ _ (by omega) (by omega) hqp2 hmt2 (Mst.sA hms2 (by omega) hnw (by omega) ⟨by omega, by omega⟩ (Or.inr ⟨by omega, rfl⟩)) hP hD hS ls (lv_sub hl [0, 1, 2, 3, 4, 5, 6, 7] rfl)
                            · refine lv_aload hx hb dX9_merge_275 (lv_at hl 7 rfl) ?_
                              refine lv_iload hx hb dX9_merge_277 (lv_at hl 1 rfl) ?_
                              refine lv_iconst (v := zI 2) hx hb dX9_merge_279 rfl ?_
                              refine r_iadd (v := zI ((20 * v5) + 2)) F dX9_merge_280 (zI_add _ _) ?_
                              refine lv_iconst (v := zI 3) hx hb dX9_merge_281 rfl ?_
                              refine lv_iload hx hb dX9_merge_282 (lv_at hl 0 rfl) ?_
                              refine r_imul (v := zI (3 * v7)) F dX9_merge_284 (zI_mul _ _) ?_
                              refine r_iadd (v := zI (((20 * v5) + 2) + (3 * v7))) F dX9_merge_285 (zI_add _ _) ?_
                              refine lv_iconst (v := zI 1) hx hb dX9_merge_286 rfl ?_
                              refine r_iadd (v := zI ((((20 * v5) + 2) + (3 * v7)) + 1)) F dX9_merge_287 (zI_add _ _) ?_
                              refine lv_iload_n hx hb dX9_merge_288 rfl (lv_at hl 5 rfl) ?_
                              refine rz_iastG F hK hP hD hS 2 0 rfl rfl (by omega) (by omega) dX9_merge_289 (w1 := fun g68 => [(y, .inr (9, [.int (zI (i 0)), .ref (q 0), .int (zI (i 1)), .int (zI (i 2)), .int (zI (i 3)), .int (zI (i 4)), .int (zI (i 5)), .int (zI (i 6)), .int (zI (i 7)), .int (zI (i 8)), .int (zI (i 9)), .int (zI (i 10)), .ref (q 1), .int (zI (i 11)), .int (zI (i 12)), .ref (q 2), .ref (q 3), .ref (q 4), .ref (q 5), .ref (q 6), .ref (q 7), .ref (q 8), .ref (q 9), .ref (q 10), .ref (q 11), .ref (q 12), .ref (q 13), .ref (q 14), .ref (q 15), .ref (q 16), .int (zI (i 13)), .int (zI (i 14)), .int (zI (i 15)), .int (zI (i 16)), .int (zI (i 17)), .int (zI (i 18)), .ref (q 17), .ref (q 18), .ref (q 19), .ref (q 20)])), (a, .inl (cI, 200, .inl (fun k => zI (g_p k)))), (f, .inl (cI, 200, .inl (fun k => zI (g68 k))))]) (fun _ => rfl) (fun g68 e_g68 H locs hP hD hS => ?_)
                              have hqp69 : ProgOk g68 := ProgOk.tgt3 hqp2 e_g68 (i := v5) (n := v7) (by omega) (by omega) (by omega) (by omega) (j := (((20 * v5) + 2) + (3 * v7)).toNat) (by omega) (by omega)
                              have hmt70 := MT.keepA hmt2 e_g68 (i := v5) (n := v7) (by omega) (by omega) (by omega)
                              refine lv_iinc (v := zI (v7 + 1)) (lv' := [(7, .int (zI (v7 + 1))), (6, .int (zI (20 * v5))), (5, .int (zI v5)), (0, .ref y), (1, .ref a), (2, .int (zI x)), (3, .int (zI w)), (4, .ref f)]) hx hb dX9_merge_290 hl (k := 0) rfl (zI_add _ _) (by decide) rfl (fun ls hl => ?_)
                              refine lv_goto (tgt := 229) hx hb dX9_merge_293 (by decide) ?_
                              exact ih3 (v7 + 1) g68 _ _ (by omega) (by omega) hqp69 hmt70 (Mst.sA hms2 (by omega) hnw (by omega) ⟨by omega, by omega⟩ (Or.inl ⟨by omega, by omega, e_g68⟩)) hP hD hS ls (lv_sub hl [0, 1, 2, 3, 4, 5, 6, 7] rfl)
                    · refine lv_aload hx hb dX9_merge_205 (lv_at hl 6 rfl) ?_
                      refine lv_iload hx hb dX9_merge_207 (lv_at hl 0 rfl) ?_
                      refine lv_bipush (v := zI 18) hx hb dX9_merge_209 (by decide) ?_
                      refine r_iadd (v := zI ((20 * v5) + 18)) F dX9_merge_211 (zI_add _ _) ?_
                      refine rz_iald F hK hP 2 0 rfl rfl (by omega) (by omega) dX9_merge_212 ?_
                      have hc71 := hqp1.1.pos (((20 * v5) + 18)).toNat (by omega)
                      have hc72 := hqp1.1.le9 (((20 * v5) + 18)).toNat (by omega)
                      refine lv_iload_n hx hb dX9_merge_213 rfl (lv_at hl 5 rfl) ?_
                      refine rz_icmp_ne (tgt := 226) F (by omega) (by omega) dX9_merge_214 (by decide) (fun h214_72 => ?_) (fun h214_72 => ?_)
                      · refine lv_iconst (v := zI 0) hx hb dX9_merge_226 rfl ?_
                        have hms8 : Mst g_p x w (i 13) gq1 v5 (3 + 0) := Mst.s18 hms6 (by omega) hnw (by omega) (Or.inr ⟨by omega, rfl⟩)
                        refine lv_istore (lv' := [(7, .int (zI 0)), (6, .int (zI (20 * v5))), (5, .int (zI v5)), (0, .ref y), (1, .ref a), (2, .int (zI x)), (3, .int (zI w)), (4, .ref f)]) hx hb dX9_merge_227 hl (by decide) rfl (fun ls hl => ?_)
                        refine W.widen (k := 0) (n := 0) (Nat.le_of_ble_eq_true rfl) (Nat.le_of_ble_eq_true rfl) ?_
                        refine (?_ : ∀ (n9_3 : Nat) (v7 : Int) (gq2 : Nat → Int) (H : Heap) (locs : List Loc), (0 ≤ v7 ∧ v7 ≤ 4) → (4 - v7 : Int).toNat < n9_3 → (ProgOk gq2) → (MT g_p gq2 w) → (Mst g_p x w (i 13) gq2 v5 (3 + v7)) → va_P G vwCl [(y, .inr (9, [.int (zI (i 0)), .ref (q 0), .int (zI (i 1)), .int (zI (i 2)), .int (zI (i 3)), .int (zI (i 4)), .int (zI (i 5)), .int (zI (i 6)), .int (zI (i 7)), .int (zI (i 8)), .int (zI (i 9)), .int (zI (i 10)), .ref (q 1), .int (zI (i 11)), .int (zI (i 12)), .ref (q 2), .ref (q 3), .ref (q 4), .ref (q 5), .ref (q 6), .ref (q 7), .ref (q 8), .ref (q 9), .ref (q 10), .ref (q 11), .ref (q 12), .ref (q 13), .ref (q 14), .ref (q 15), .ref (q 16), .int (zI (i 13)), .int (zI (i 14)), .int (zI (i 15)), .int (zI (i 16)), .int (zI (i 17)), .int (zI (i 18)), .ref (q 17), .ref (q 18), .ref (q 19), .ref (q 20)])), (a, .inl (cI, 200, .inl (fun k => zI (g_p k)))), (f, .inl (cI, 200, .inl (fun k => zI (gq2 k))))] H → va_D A [(y, .inr (9, [.int (zI (i 0)), .ref (q 0), .int (zI (i 1)), .int (zI (i 2)), .int (zI (i 3)), .int (zI (i 4)), .int (zI (i 5)), .int (zI (i 6)), .int (zI (i 7)), .int (zI (i 8)), .int (zI (i 9)), .int (zI (i 10)), .ref (q 1), .int (zI (i 11)), .int (zI (i 12)), .ref (q 2), .ref (q 3), .ref (q 4), .ref (q 5), .ref (q 6), .ref (q 7), .ref (q 8), .ref (q 9), .ref (q 10), .ref (q 11), .ref (q 12), .ref (q 13), .ref (q 14), .ref (q 15), .ref (q 16), .int (zI (i 13)), .int (zI (i 14)), .int (zI (i 15)), .int (zI (i 16)), .int (zI (i 17)), .int (zI (i 18)), .ref (q 17), .ref (q 18), .ref (q 19), .ref (q 20)])), (a, .inl (cI, 200, .inl (fun k => zI (g_p k)))), (f, .inl (cI, 200, .inl (fun k => zI (gq2 k))))] → va_S A s.heap H locs → ∀ ls : Array Slot, lv_has ls 8 [(7, .int (zI v7)), (6, .int (zI (20 * v5))), (5, .int (zI v5)), (0, .ref y), (1, .ref a), (2, .int (zI x)), (3, .int (zI w)), (4, .ref f)] → W p l e rm_X9_mergeX s m ([.ref y, .ref a, .int (zI x), .int (zI w), .ref f] : List Value).toArray below meth c H locs 0 0 Q (F0 m 229 ls [])) ((4 - 0 : Int).toNat + 1) 0 gq1 _ _ (by omega) (by omega) hqp1 hmt1 hms8 hP hD hS ls hl
                        clear hP hD hS hl ls
                        intro n9_3
                        induction n9_3 with
                        | zero =>
                          intro v7 gq2 H locs hI hM
                          exact absurd hM (by omega)
                        | succ n9_3 ih3 =>
                          intro v7 gq2 H locs hI3 hM3 hqp2 hmt2 hms2 hP hD hS ls hl
                          refine lv_iload hx hb dX9_merge_229 (lv_at hl 0 rfl) ?_
                          refine lv_aload hx hb dX9_merge_231 (lv_at hl 7 rfl) ?_
                          refine lv_iload hx hb dX9_merge_233 (lv_at hl 1 rfl) ?_
                          refine lv_iconst (v := zI 1) hx hb dX9_merge_235 rfl ?_
                          refine r_iadd (v := zI ((20 * v5) + 1)) F dX9_merge_236 (zI_add _ _) ?_
                          refine rz_iald F hK hP 2 0 rfl rfl (by omega) (by omega) dX9_merge_237 ?_
                          have hpl74 : 0 ≤ (gq2 (((20 * v5) + 1)).toNat) ∧ (gq2 (((20 * v5) + 1)).toNat) ≤ 4 := ProgR.at hqp2.1 (e := ((20 * v5) + 1)) v5 1 (by omega) (by omega) (by decide) rfl
                          refine rz_icmp_ge (tgt := 296) F (by omega) (by omega) dX9_merge_238 (by decide) (fun h238_74 => ?_) (fun h238_74 => ?_)
                          · refine lv_iinc (v := zI (v5 + 1)) (lv' := [(5, .int (zI (v5 + 1))), (7, .int (zI v7)), (6, .int (zI (20 * v5))), (0, .ref y), (1, .ref a), (2, .int (zI x)), (3, .int (zI w)), (4, .ref f)]) hx hb dX9_merge_296 hl (k := 2) rfl (zI_add _ _) (by decide) rfl (fun ls hl => ?_)
                            refine lv_goto (tgt := 132) hx hb dX9_merge_299 (by decide) ?_
                            exact ih2 (v5 + 1) gq2 _ _ (by omega) (by omega) hqp2 hmt2 (Mst.fin hms2 (by omega) hnw ⟨by omega, by omega⟩) hP hD hS ls (lv_sub hl [0, 3, 4, 5, 6, 7] rfl)
                          · refine lv_aload hx hb dX9_merge_241 (lv_at hl 7 rfl) ?_
                            refine lv_iload hx hb dX9_merge_243 (lv_at hl 1 rfl) ?_
                            refine lv_iconst (v := zI 2) hx hb dX9_merge_245 rfl ?_
                            refine r_iadd (v := zI ((20 * v5) + 2)) F dX9_merge_246 (zI_add _ _) ?_
                            refine lv_iconst (v := zI 3) hx hb dX9_merge_247 rfl ?_
                            refine lv_iload hx hb dX9_merge_248 (lv_at hl 0 rfl) ?_
                            refine r_imul (v := zI (3 * v7)) F dX9_merge_250 (zI_mul _ _) ?_
                            refine r_iadd (v := zI (((20 * v5) + 2) + (3 * v7))) F dX9_merge_251 (zI_add _ _) ?_
                            refine rz_iald F hK hP 2 0 rfl rfl (by omega) (by omega) dX9_merge_252 ?_
                            have hc76 := ProgOk.act hqp2 (i := v5) (n := v7) (k := (((20 * v5) + 2) + (3 * v7))) (by omega) (by omega) (by omega)
                            refine lv_iconst (v := zI 3) hx hb dX9_merge_253 rfl ?_
                            refine rz_icmp_ne (tgt := 290) F (by omega) (by omega) dX9_merge_254 (by decide) (fun h254_76 => ?_) (fun h254_76 => ?_)
                            · refine lv_iinc (v := zI (v7 + 1)) (lv' := [(7, .int (zI (v7 + 1))), (6, .int (zI (20 * v5))), (5, .int (zI v5)), (0, .ref y), (1, .ref a), (2, .int (zI x)), (3, .int (zI w)), (4, .ref f)]) hx hb dX9_merge_290 hl (k := 0) rfl (zI_add _ _) (by decide) rfl (fun ls hl => ?_)
                              refine lv_goto (tgt := 229) hx hb dX9_merge_293 (by decide) ?_
                              exact ih3 (v7 + 1) gq2 _ _ (by omega) (by omega) hqp2 hmt2 (Mst.sA hms2 (by omega) hnw (by omega) ⟨by omega, by omega⟩ (Or.inr ⟨by omega, rfl⟩)) hP hD hS ls (lv_sub hl [0, 1, 2, 3, 4, 5, 6, 7] rfl)
                            · refine lv_aload hx hb dX9_merge_257 (lv_at hl 7 rfl) ?_
                              refine lv_iload hx hb dX9_merge_259 (lv_at hl 1 rfl) ?_
                              refine lv_iconst (v := zI 2) hx hb dX9_merge_261 rfl ?_
                              refine r_iadd (v := zI ((20 * v5) + 2)) F dX9_merge_262 (zI_add _ _) ?_
                              refine lv_iconst (v := zI 3) hx hb dX9_merge_263 rfl ?_
                              refine lv_iload hx hb dX9_merge_264 (lv_at hl 0 rfl) ?_
                              refine r_imul (v := zI (3 * v7)) F dX9_merge_266 (zI_mul _ _) ?_
                              refine r_iadd (v := zI (((20 * v5) + 2) + (3 * v7))) F dX9_merge_267 (zI_add _ _) ?_
                              refine lv_iconst (v := zI 1) hx hb dX9_merge_268 rfl ?_
                              refine r_iadd (v := zI ((((20 * v5) + 2) + (3 * v7)) + 1)) F dX9_merge_269 (zI_add _ _) ?_
                              refine rz_iald F hK hP 2 0 rfl rfl (by omega) (by omega) dX9_merge_270 ?_
                              have hc78 := hqp2.1.pos (((((20 * v5) + 2) + (3 * v7)) + 1)).toNat (by omega)
                              have hc79 := hqp2.1.le9 (((((20 * v5) + 2) + (3 * v7)) + 1)).toNat (by omega)
                              refine lv_iload_n hx hb dX9_merge_271 rfl (lv_at hl 6 rfl) ?_
                              refine rz_icmp_ne (tgt := 290) F (by omega) (by omega) dX9_merge_272 (by decide) (fun h272_79 => ?_) (fun h272_79 => ?_)
                              · refine lv_iinc (v := zI (v7 + 1)) (lv' := [(7, .int (zI (v7 + 1))), (6, .int (zI (20 * v5))), (5, .int (zI v5)), (0, .ref y), (1, .ref a), (2, .int (zI x)), (3, .int (zI w)), (4, .ref f)]) hx hb dX9_merge_290 hl (k := 0) rfl (zI_add _ _) (by decide) rfl (fun ls hl => ?_)
                                refine lv_goto (tgt := 229) hx hb dX9_merge_293 (by decide) ?_
                                exact ih3 (v7 + 1) gq2 _ _ (by omega) (by omega) hqp2 hmt2 (Mst.sA hms2 (by omega) hnw (by omega) ⟨by omega, by omega⟩ (Or.inr ⟨by omega, rfl⟩)) hP hD hS ls (lv_sub hl [0, 1, 2, 3, 4, 5, 6, 7] rfl)
                              · refine lv_aload hx hb dX9_merge_275 (lv_at hl 7 rfl) ?_
                                refine lv_iload hx hb dX9_merge_277 (lv_at hl 1 rfl) ?_
                                refine lv_iconst (v := zI 2) hx hb dX9_merge_279 rfl ?_
                                refine r_iadd (v := zI ((20 * v5) + 2)) F dX9_merge_280 (zI_add _ _) ?_
                                refine lv_iconst (v := zI 3) hx hb dX9_merge_281 rfl ?_
                                refine lv_iload hx hb dX9_merge_282 (lv_at hl 0 rfl) ?_
                                refine r_imul (v := zI (3 * v7)) F dX9_merge_284 (zI_mul _ _) ?_
                                refine r_iadd (v := zI (((20 * v5) + 2) + (3 * v7))) F dX9_merge_285 (zI_add _ _) ?_
                                refine lv_iconst (v := zI 1) hx hb dX9_merge_286 rfl ?_
                                refine r_iadd (v := zI ((((20 * v5) + 2) + (3 * v7)) + 1)) F dX9_merge_287 (zI_add _ _) ?_
                                refine lv_iload_n hx hb dX9_merge_288 rfl (lv_at hl 5 rfl) ?_
                                refine rz_iastG F hK hP hD hS 2 0 rfl rfl (by omega) (by omega) dX9_merge_289 (w1 := fun g81 => [(y, .inr (9, [.int (zI (i 0)), .ref (q 0), .int (zI (i 1)), .int (zI (i 2)), .int (zI (i 3)), .int (zI (i 4)), .int (zI (i 5)), .int (zI (i 6)), .int (zI (i 7)), .int (zI (i 8)), .int (zI (i 9)), .int (zI (i 10)), .ref (q 1), .int (zI (i 11)), .int (zI (i 12)), .ref (q 2), .ref (q 3), .ref (q 4), .ref (q 5), .ref (q 6), .ref (q 7), .ref (q 8), .ref (q 9), .ref (q 10), .ref (q 11), .ref (q 12), .ref (q 13), .ref (q 14), .ref (q 15), .ref (q 16), .int (zI (i 13)), .int (zI (i 14)), .int (zI (i 15)), .int (zI (i 16)), .int (zI (i 17)), .int (zI (i 18)), .ref (q 17), .ref (q 18), .ref (q 19), .ref (q 20)])), (a, .inl (cI, 200, .inl (fun k => zI (g_p k)))), (f, .inl (cI, 200, .inl (fun k => zI (g81 k))))]) (fun _ => rfl) (fun g81 e_g81 H locs hP hD hS => ?_)
                                have hqp82 : ProgOk g81 := ProgOk.tgt3 hqp2 e_g81 (i := v5) (n := v7) (by omega) (by omega) (by omega) (by omega) (j := (((20 * v5) + 2) + (3 * v7)).toNat) (by omega) (by omega)
                                have hmt83 := MT.keepA hmt2 e_g81 (i := v5) (n := v7) (by omega) (by omega) (by omega)
                                refine lv_iinc (v := zI (v7 + 1)) (lv' := [(7, .int (zI (v7 + 1))), (6, .int (zI (20 * v5))), (5, .int (zI v5)), (0, .ref y), (1, .ref a), (2, .int (zI x)), (3, .int (zI w)), (4, .ref f)]) hx hb dX9_merge_290 hl (k := 0) rfl (zI_add _ _) (by decide) rfl (fun ls hl => ?_)
                                refine lv_goto (tgt := 229) hx hb dX9_merge_293 (by decide) ?_
                                exact ih3 (v7 + 1) g81 _ _ (by omega) (by omega) hqp82 hmt83 (Mst.sA hms2 (by omega) hnw (by omega) ⟨by omega, by omega⟩ (Or.inl ⟨by omega, by omega, e_g81⟩)) hP hD hS ls (lv_sub hl [0, 1, 2, 3, 4, 5, 6, 7] rfl)
                      · refine lv_aload hx hb dX9_merge_217 (lv_at hl 6 rfl) ?_
                        refine lv_iload hx hb dX9_merge_219 (lv_at hl 0 rfl) ?_
                        refine lv_bipush (v := zI 18) hx hb dX9_merge_221 (by decide) ?_
                        refine r_iadd (v := zI ((20 * v5) + 18)) F dX9_merge_223 (zI_add _ _) ?_
                        refine lv_iload_n hx hb dX9_merge_224 rfl (lv_at hl 4 rfl) ?_
                        refine rz_iastG F hK hP hD hS 2 0 rfl rfl (by omega) (by omega) dX9_merge_225 (w1 := fun g84 => [(y, .inr (9, [.int (zI (i 0)), .ref (q 0), .int (zI (i 1)), .int (zI (i 2)), .int (zI (i 3)), .int (zI (i 4)), .int (zI (i 5)), .int (zI (i 6)), .int (zI (i 7)), .int (zI (i 8)), .int (zI (i 9)), .int (zI (i 10)), .ref (q 1), .int (zI (i 11)), .int (zI (i 12)), .ref (q 2), .ref (q 3), .ref (q 4), .ref (q 5), .ref (q 6), .ref (q 7), .ref (q 8), .ref (q 9), .ref (q 10), .ref (q 11), .ref (q 12), .ref (q 13), .ref (q 14), .ref (q 15), .ref (q 16), .int (zI (i 13)), .int (zI (i 14)), .int (zI (i 15)), .int (zI (i 16)), .int (zI (i 17)), .int (zI (i 18)), .ref (q 17), .ref (q 18), .ref (q 19), .ref (q 20)])), (a, .inl (cI, 200, .inl (fun k => zI (g_p k)))), (f, .inl (cI, 200, .inl (fun k => zI (g84 k))))]) (fun _ => rfl) (fun g84 e_g84 H locs hP hD hS => ?_)
                        have hqp85 : ProgOk g84 := ⟨hqp1.1.set (m := 9) e_g84 18 (by omega) rfl (by omega), hqp1.2.set e_g84 (by omega)⟩
                        have hmt86 := hmt1.keep e_g84 (by omega)
                        refine lv_iconst (v := zI 0) hx hb dX9_merge_226 rfl ?_
                        have hms8 : Mst g_p x w (i 13) g84 v5 (3 + 0) := Mst.s18 hms6 (by omega) hnw (by omega) (Or.inl ⟨by omega, by omega, e_g84⟩)
                        refine lv_istore (lv' := [(7, .int (zI 0)), (6, .int (zI (20 * v5))), (5, .int (zI v5)), (0, .ref y), (1, .ref a), (2, .int (zI x)), (3, .int (zI w)), (4, .ref f)]) hx hb dX9_merge_227 hl (by decide) rfl (fun ls hl => ?_)
                        refine W.widen (k := 0) (n := 0) (Nat.le_of_ble_eq_true rfl) (Nat.le_of_ble_eq_true rfl) ?_
                        refine (?_ : ∀ (n9_3 : Nat) (v7 : Int) (gq2 : Nat → Int) (H : Heap) (locs : List Loc), (0 ≤ v7 ∧ v7 ≤ 4) → (4 - v7 : Int).toNat < n9_3 → (ProgOk gq2) → (MT g_p gq2 w) → (Mst g_p x w (i 13) gq2 v5 (3 + v7)) → va_P G vwCl [(y, .inr (9, [.int (zI (i 0)), .ref (q 0), .int (zI (i 1)), .int (zI (i 2)), .int (zI (i 3)), .int (zI (i 4)), .int (zI (i 5)), .int (zI (i 6)), .int (zI (i 7)), .int (zI (i 8)), .int (zI (i 9)), .int (zI (i 10)), .ref (q 1), .int (zI (i 11)), .int (zI (i 12)), .ref (q 2), .ref (q 3), .ref (q 4), .ref (q 5), .ref (q 6), .ref (q 7), .ref (q 8), .ref (q 9), .ref (q 10), .ref (q 11), .ref (q 12), .ref (q 13), .ref (q 14), .ref (q 15), .ref (q 16), .int (zI (i 13)), .int (zI (i 14)), .int (zI (i 15)), .int (zI (i 16)), .int (zI (i 17)), .int (zI (i 18)), .ref (q 17), .ref (q 18), .ref (q 19), .ref (q 20)])), (a, .inl (cI, 200, .inl (fun k => zI (g_p k)))), (f, .inl (cI, 200, .inl (fun k => zI (gq2 k))))] H → va_D A [(y, .inr (9, [.int (zI (i 0)), .ref (q 0), .int (zI (i 1)), .int (zI (i 2)), .int (zI (i 3)), .int (zI (i 4)), .int (zI (i 5)), .int (zI (i 6)), .int (zI (i 7)), .int (zI (i 8)), .int (zI (i 9)), .int (zI (i 10)), .ref (q 1), .int (zI (i 11)), .int (zI (i 12)), .ref (q 2), .ref (q 3), .ref (q 4), .ref (q 5), .ref (q 6), .ref (q 7), .ref (q 8), .ref (q 9), .ref (q 10), .ref (q 11), .ref (q 12), .ref (q 13), .ref (q 14), .ref (q 15), .ref (q 16), .int (zI (i 13)), .int (zI (i 14)), .int (zI (i 15)), .int (zI (i 16)), .int (zI (i 17)), .int (zI (i 18)), .ref (q 17), .ref (q 18), .ref (q 19), .ref (q 20)])), (a, .inl (cI, 200, .inl (fun k => zI (g_p k)))), (f, .inl (cI, 200, .inl (fun k => zI (gq2 k))))] → va_S A s.heap H locs → ∀ ls : Array Slot, lv_has ls 8 [(7, .int (zI v7)), (6, .int (zI (20 * v5))), (5, .int (zI v5)), (0, .ref y), (1, .ref a), (2, .int (zI x)), (3, .int (zI w)), (4, .ref f)] → W p l e rm_X9_mergeX s m ([.ref y, .ref a, .int (zI x), .int (zI w), .ref f] : List Value).toArray below meth c H locs 0 0 Q (F0 m 229 ls [])) ((4 - 0 : Int).toNat + 1) 0 g84 _ _ (by omega) (by omega) hqp85 hmt86 hms8 hP hD hS ls hl
                        clear hP hD hS hl ls
                        intro n9_3
                        induction n9_3 with
                        | zero =>
                          intro v7 gq2 H locs hI hM
                          exact absurd hM (by omega)
                        | succ n9_3 ih3 =>
                          intro v7 gq2 H locs hI3 hM3 hqp2 hmt2 hms2 hP hD hS ls hl
                          refine lv_iload hx hb dX9_merge_229 (lv_at hl 0 rfl) ?_
                          refine lv_aload hx hb dX9_merge_231 (lv_at hl 7 rfl) ?_
                          refine lv_iload hx hb dX9_merge_233 (lv_at hl 1 rfl) ?_
                          refine lv_iconst (v := zI 1) hx hb dX9_merge_235 rfl ?_
                          refine r_iadd (v := zI ((20 * v5) + 1)) F dX9_merge_236 (zI_add _ _) ?_
                          refine rz_iald F hK hP 2 0 rfl rfl (by omega) (by omega) dX9_merge_237 ?_
                          have hpl87 : 0 ≤ (gq2 (((20 * v5) + 1)).toNat) ∧ (gq2 (((20 * v5) + 1)).toNat) ≤ 4 := ProgR.at hqp2.1 (e := ((20 * v5) + 1)) v5 1 (by omega) (by omega) (by decide) rfl
                          refine rz_icmp_ge (tgt := 296) F (by omega) (by omega) dX9_merge_238 (by decide) (fun h238_87 => ?_) (fun h238_87 => ?_)
                          · refine lv_iinc (v := zI (v5 + 1)) (lv' := [(5, .int (zI (v5 + 1))), (7, .int (zI v7)), (6, .int (zI (20 * v5))), (0, .ref y), (1, .ref a), (2, .int (zI x)), (3, .int (zI w)), (4, .ref f)]) hx hb dX9_merge_296 hl (k := 2) rfl (zI_add _ _) (by decide) rfl (fun ls hl => ?_)
                            refine lv_goto (tgt := 132) hx hb dX9_merge_299 (by decide) ?_
                            exact ih2 (v5 + 1) gq2 _ _ (by omega) (by omega) hqp2 hmt2 (Mst.fin hms2 (by omega) hnw ⟨by omega, by omega⟩) hP hD hS ls (lv_sub hl [0, 3, 4, 5, 6, 7] rfl)
                          · refine lv_aload hx hb dX9_merge_241 (lv_at hl 7 rfl) ?_
                            refine lv_iload hx hb dX9_merge_243 (lv_at hl 1 rfl) ?_
                            refine lv_iconst (v := zI 2) hx hb dX9_merge_245 rfl ?_
                            refine r_iadd (v := zI ((20 * v5) + 2)) F dX9_merge_246 (zI_add _ _) ?_
                            refine lv_iconst (v := zI 3) hx hb dX9_merge_247 rfl ?_
                            refine lv_iload hx hb dX9_merge_248 (lv_at hl 0 rfl) ?_
                            refine r_imul (v := zI (3 * v7)) F dX9_merge_250 (zI_mul _ _) ?_
                            refine r_iadd (v := zI (((20 * v5) + 2) + (3 * v7))) F dX9_merge_251 (zI_add _ _) ?_
                            refine rz_iald F hK hP 2 0 rfl rfl (by omega) (by omega) dX9_merge_252 ?_
                            have hc89 := ProgOk.act hqp2 (i := v5) (n := v7) (k := (((20 * v5) + 2) + (3 * v7))) (by omega) (by omega) (by omega)
                            refine lv_iconst (v := zI 3) hx hb dX9_merge_253 rfl ?_
                            refine rz_icmp_ne (tgt := 290) F (by omega) (by omega) dX9_merge_254 (by decide) (fun h254_89 => ?_) (fun h254_89 => ?_)
                            · refine lv_iinc (v := zI (v7 + 1)) (lv' := [(7, .int (zI (v7 + 1))), (6, .int (zI (20 * v5))), (5, .int (zI v5)), (0, .ref y), (1, .ref a), (2, .int (zI x)), (3, .int (zI w)), (4, .ref f)]) hx hb dX9_merge_290 hl (k := 0) rfl (zI_add _ _) (by decide) rfl (fun ls hl => ?_)
                              refine lv_goto (tgt := 229) hx hb dX9_merge_293 (by decide) ?_
                              exact ih3 (v7 + 1) gq2 _ _ (by omega) (by omega) hqp2 hmt2 (Mst.sA hms2 (by omega) hnw (by omega) ⟨by omega, by omega⟩ (Or.inr ⟨by omega, rfl⟩)) hP hD hS ls (lv_sub hl [0, 1, 2, 3, 4, 5, 6, 7] rfl)
                            · refine lv_aload hx hb dX9_merge_257 (lv_at hl 7 rfl) ?_
                              refine lv_iload hx hb dX9_merge_259 (lv_at hl 1 rfl) ?_
                              refine lv_iconst (v := zI 2) hx hb dX9_merge_261 rfl ?_
                              refine r_iadd (v := zI ((20 * v5) + 2)) F dX9_merge_262 (zI_add _ _) ?_
                              refine lv_iconst (v := zI 3) hx hb dX9_merge_263 rfl ?_
                              refine lv_iload hx hb dX9_merge_264 (lv_at hl 0 rfl) ?_
                              refine r_imul (v := zI (3 * v7)) F dX9_merge_266 (zI_mul _ _) ?_
                              refine r_iadd (v := zI (((20 * v5) + 2) + (3 * v7))) F dX9_merge_267 (zI_add _ _) ?_
                              refine lv_iconst (v := zI 1) hx hb dX9_merge_268 rfl ?_
                              refine r_iadd (v := zI ((((20 * v5) + 2) + (3 * v7)) + 1)) F dX9_merge_269 (zI_add _ _) ?_
                              refine rz_iald F hK hP 2 0 rfl rfl (by omega) (by omega) dX9_merge_270 ?_
                              have hc91 := hqp2.1.pos (((((20 * v5) + 2) + (3 * v7)) + 1)).toNat (by omega)
                              have hc92 := hqp2.1.le9 (((((20 * v5) + 2) + (3 * v7)) + 1)).toNat (by omega)
                              refine lv_iload_n hx hb dX9_merge_271 rfl (lv_at hl 6 rfl) ?_
                              refine rz_icmp_ne (tgt := 290) F (by omega) (by omega) dX9_merge_272 (by decide) (fun h272_92 => ?_) (fun h272_92 => ?_)
                              · refine lv_iinc (v := zI (v7 + 1)) (lv' := [(7, .int (zI (v7 + 1))), (6, .int (zI (20 * v5))), (5, .int (zI v5)), (0, .ref y), (1, .ref a), (2, .int (zI x)), (3, .int (zI w)), (4, .ref f)]) hx hb dX9_merge_290 hl (k := 0) rfl (zI_add _ _) (by decide) rfl (fun ls hl => ?_)
                                refine lv_goto (tgt := 229) hx hb dX9_merge_293 (by decide) ?_
                                exact ih3 (v7 + 1) gq2 _ _ (by omega) (by omega) hqp2 hmt2 (Mst.sA hms2 (by omega) hnw (by omega) ⟨by omega, by omega⟩ (Or.inr ⟨by omega, rfl⟩)) hP hD hS ls (lv_sub hl [0, 1, 2, 3, 4, 5, 6, 7] rfl)
                              · refine lv_aload hx hb dX9_merge_275 (lv_at hl 7 rfl) ?_
                                refine lv_iload hx hb dX9_merge_277 (lv_at hl 1 rfl) ?_
                                refine lv_iconst (v := zI 2) hx hb dX9_merge_279 rfl ?_
                                refine r_iadd (v := zI ((20 * v5) + 2)) F dX9_merge_280 (zI_add _ _) ?_
                                refine lv_iconst (v := zI 3) hx hb dX9_merge_281 rfl ?_
                                refine lv_iload hx hb dX9_merge_282 (lv_at hl 0 rfl) ?_
                                refine r_imul (v := zI (3 * v7)) F dX9_merge_284 (zI_mul _ _) ?_
                                refine r_iadd (v := zI (((20 * v5) + 2) + (3 * v7))) F dX9_merge_285 (zI_add _ _) ?_
                                refine lv_iconst (v := zI 1) hx hb dX9_merge_286 rfl ?_
                                refine r_iadd (v := zI ((((20 * v5) + 2) + (3 * v7)) + 1)) F dX9_merge_287 (zI_add _ _) ?_
                                refine lv_iload_n hx hb dX9_merge_288 rfl (lv_at hl 5 rfl) ?_
                                refine rz_iastG F hK hP hD hS 2 0 rfl rfl (by omega) (by omega) dX9_merge_289 (w1 := fun g94 => [(y, .inr (9, [.int (zI (i 0)), .ref (q 0), .int (zI (i 1)), .int (zI (i 2)), .int (zI (i 3)), .int (zI (i 4)), .int (zI (i 5)), .int (zI (i 6)), .int (zI (i 7)), .int (zI (i 8)), .int (zI (i 9)), .int (zI (i 10)), .ref (q 1), .int (zI (i 11)), .int (zI (i 12)), .ref (q 2), .ref (q 3), .ref (q 4), .ref (q 5), .ref (q 6), .ref (q 7), .ref (q 8), .ref (q 9), .ref (q 10), .ref (q 11), .ref (q 12), .ref (q 13), .ref (q 14), .ref (q 15), .ref (q 16), .int (zI (i 13)), .int (zI (i 14)), .int (zI (i 15)), .int (zI (i 16)), .int (zI (i 17)), .int (zI (i 18)), .ref (q 17), .ref (q 18), .ref (q 19), .ref (q 20)])), (a, .inl (cI, 200, .inl (fun k => zI (g_p k)))), (f, .inl (cI, 200, .inl (fun k => zI (g94 k))))]) (fun _ => rfl) (fun g94 e_g94 H locs hP hD hS => ?_)
                                have hqp95 : ProgOk g94 := ProgOk.tgt3 hqp2 e_g94 (i := v5) (n := v7) (by omega) (by omega) (by omega) (by omega) (j := (((20 * v5) + 2) + (3 * v7)).toNat) (by omega) (by omega)
                                have hmt96 := MT.keepA hmt2 e_g94 (i := v5) (n := v7) (by omega) (by omega) (by omega)
                                refine lv_iinc (v := zI (v7 + 1)) (lv' := [(7, .int (zI (v7 + 1))), (6, .int (zI (20 * v5))), (5, .int (zI v5)), (0, .ref y), (1, .ref a), (2, .int (zI x)), (3, .int (zI w)), (4, .ref f)]) hx hb dX9_merge_290 hl (k := 0) rfl (zI_add _ _) (by decide) rfl (fun ls hl => ?_)
                                refine lv_goto (tgt := 229) hx hb dX9_merge_293 (by decide) ?_
                                exact ih3 (v7 + 1) g94 _ _ (by omega) (by omega) hqp95 hmt96 (Mst.sA hms2 (by omega) hnw (by omega) ⟨by omega, by omega⟩ (Or.inl ⟨by omega, by omega, e_g94⟩)) hP hD hS ls (lv_sub hl [0, 1, 2, 3, 4, 5, 6, 7] rfl)
                  · refine lv_aload hx hb dX9_merge_184 (lv_at hl 6 rfl) ?_
                    refine lv_iload hx hb dX9_merge_186 (lv_at hl 0 rfl) ?_
                    refine lv_bipush (v := zI 16) hx hb dX9_merge_188 (by decide) ?_
                    refine r_iadd (v := zI ((20 * v5) + 16)) F dX9_merge_190 (zI_add _ _) ?_
                    refine lv_iload_n hx hb dX9_merge_191 rfl (lv_at hl 4 rfl) ?_
                    refine rz_iastG F hK hP hD hS 2 0 rfl rfl (by omega) (by omega) dX9_merge_192 (w1 := fun g97 => [(y, .inr (9, [.int (zI (i 0)), .ref (q 0), .int (zI (i 1)), .int (zI (i 2)), .int (zI (i 3)), .int (zI (i 4)), .int (zI (i 5)), .int (zI (i 6)), .int (zI (i 7)), .int (zI (i 8)), .int (zI (i 9)), .int (zI (i 10)), .ref (q 1), .int (zI (i 11)), .int (zI (i 12)), .ref (q 2), .ref (q 3), .ref (q 4), .ref (q 5), .ref (q 6), .ref (q 7), .ref (q 8), .ref (q 9), .ref (q 10), .ref (q 11), .ref (q 12), .ref (q 13), .ref (q 14), .ref (q 15), .ref (q 16), .int (zI (i 13)), .int (zI (i 14)), .int (zI (i 15)), .int (zI (i 16)), .int (zI (i 17)), .int (zI (i 18)), .ref (q 17), .ref (q 18), .ref (q 19), .ref (q 20)])), (a, .inl (cI, 200, .inl (fun k => zI (g_p k)))), (f, .inl (cI, 200, .inl (fun k => zI (g97 k))))]) (fun _ => rfl) (fun g97 e_g97 H locs hP hD hS => ?_)
                    have hqp98 : ProgOk g97 := ⟨hqp1.1.set (m := 9) e_g97 16 (by omega) rfl (by omega), hqp1.2.set e_g97 (by omega)⟩
                    have hmt99 := hmt1.keep e_g97 (by omega)
                    refine lv_aload hx hb dX9_merge_193 (lv_at hl 6 rfl) ?_
                    have hms6 : Mst g_p x w (i 13) g97 v5 1 := Mst.s16 hms1 (by omega) hnw (by omega) (Or.inl ⟨by omega, by omega, e_g97⟩)
                    refine lv_iload hx hb dX9_merge_195 (lv_at hl 0 rfl) ?_
                    refine lv_bipush (v := zI 14) hx hb dX9_merge_197 (by decide) ?_
                    refine r_iadd (v := zI ((20 * v5) + 14)) F dX9_merge_199 (zI_add _ _) ?_
                    refine rz_iald F hK hP 2 0 rfl rfl (by omega) (by omega) dX9_merge_200 ?_
                    have hc100 := hqp98.1.pos (((20 * v5) + 14)).toNat (by omega)
                    have hc101 := hqp98.1.le9 (((20 * v5) + 14)).toNat (by omega)
                    refine lv_iconst (v := zI 2) hx hb dX9_merge_201 rfl ?_
                    refine rz_icmp_ne (tgt := 226) F (by omega) (by omega) dX9_merge_202 (by decide) (fun h202_101 => ?_) (fun h202_101 => ?_)
                    · refine lv_iconst (v := zI 0) hx hb dX9_merge_226 rfl ?_
                      have hms8 : Mst g_p x w (i 13) g97 v5 (3 + 0) := Mst.s18 hms6 (by omega) hnw (by omega) (Or.inr ⟨by omega, rfl⟩)
                      refine lv_istore (lv' := [(7, .int (zI 0)), (6, .int (zI (20 * v5))), (5, .int (zI v5)), (0, .ref y), (1, .ref a), (2, .int (zI x)), (3, .int (zI w)), (4, .ref f)]) hx hb dX9_merge_227 hl (by decide) rfl (fun ls hl => ?_)
                      refine W.widen (k := 0) (n := 0) (Nat.le_of_ble_eq_true rfl) (Nat.le_of_ble_eq_true rfl) ?_
                      refine (?_ : ∀ (n9_3 : Nat) (v7 : Int) (gq2 : Nat → Int) (H : Heap) (locs : List Loc), (0 ≤ v7 ∧ v7 ≤ 4) → (4 - v7 : Int).toNat < n9_3 → (ProgOk gq2) → (MT g_p gq2 w) → (Mst g_p x w (i 13) gq2 v5 (3 + v7)) → va_P G vwCl [(y, .inr (9, [.int (zI (i 0)), .ref (q 0), .int (zI (i 1)), .int (zI (i 2)), .int (zI (i 3)), .int (zI (i 4)), .int (zI (i 5)), .int (zI (i 6)), .int (zI (i 7)), .int (zI (i 8)), .int (zI (i 9)), .int (zI (i 10)), .ref (q 1), .int (zI (i 11)), .int (zI (i 12)), .ref (q 2), .ref (q 3), .ref (q 4), .ref (q 5), .ref (q 6), .ref (q 7), .ref (q 8), .ref (q 9), .ref (q 10), .ref (q 11), .ref (q 12), .ref (q 13), .ref (q 14), .ref (q 15), .ref (q 16), .int (zI (i 13)), .int (zI (i 14)), .int (zI (i 15)), .int (zI (i 16)), .int (zI (i 17)), .int (zI (i 18)), .ref (q 17), .ref (q 18), .ref (q 19), .ref (q 20)])), (a, .inl (cI, 200, .inl (fun k => zI (g_p k)))), (f, .inl (cI, 200, .inl (fun k => zI (gq2 k))))] H → va_D A [(y, .inr (9, [.int (zI (i 0)), .ref (q 0), .int (zI (i 1)), .int (zI (i 2)), .int (zI (i 3)), .int (zI (i 4)), .int (zI (i 5)), .int (zI (i 6)), .int (zI (i 7)), .int (zI (i 8)), .int (zI (i 9)), .int (zI (i 10)), .ref (q 1), .int (zI (i 11)), .int (zI (i 12)), .ref (q 2), .ref (q 3), .ref (q 4), .ref (q 5), .ref (q 6), .ref (q 7), .ref (q 8), .ref (q 9), .ref (q 10), .ref (q 11), .ref (q 12), .ref (q 13), .ref (q 14), .ref (q 15), .ref (q 16), .int (zI (i 13)), .int (zI (i 14)), .int (zI (i 15)), .int (zI (i 16)), .int (zI (i 17)), .int (zI (i 18)), .ref (q 17), .ref (q 18), .ref (q 19), .ref (q 20)])), (a, .inl (cI, 200, .inl (fun k => zI (g_p k)))), (f, .inl (cI, 200, .inl (fun k => zI (gq2 k))))] → va_S A s.heap H locs → ∀ ls : Array Slot, lv_has ls 8 [(7, .int (zI v7)), (6, .int (zI (20 * v5))), (5, .int (zI v5)), (0, .ref y), (1, .ref a), (2, .int (zI x)), (3, .int (zI w)), (4, .ref f)] → W p l e rm_X9_mergeX s m ([.ref y, .ref a, .int (zI x), .int (zI w), .ref f] : List Value).toArray below meth c H locs 0 0 Q (F0 m 229 ls [])) ((4 - 0 : Int).toNat + 1) 0 g97 _ _ (by omega) (by omega) hqp98 hmt99 hms8 hP hD hS ls hl
                      clear hP hD hS hl ls
                      intro n9_3
                      induction n9_3 with
                      | zero =>
                        intro v7 gq2 H locs hI hM
                        exact absurd hM (by omega)
                      | succ n9_3 ih3 =>
                        intro v7 gq2 H locs hI3 hM3 hqp2 hmt2 hms2 hP hD hS ls hl
                        refine lv_iload hx hb dX9_merge_229 (lv_at hl 0 rfl) ?_
                        refine lv_aload hx hb dX9_merge_231 (lv_at hl 7 rfl) ?_
                        refine lv_iload hx hb dX9_merge_233 (lv_at hl 1 rfl) ?_
                        refine lv_iconst (v := zI 1) hx hb dX9_merge_235 rfl ?_
                        refine r_iadd (v := zI ((20 * v5) + 1)) F dX9_merge_236 (zI_add _ _) ?_
                        refine rz_iald F hK hP 2 0 rfl rfl (by omega) (by omega) dX9_merge_237 ?_
                        have hpl103 : 0 ≤ (gq2 (((20 * v5) + 1)).toNat) ∧ (gq2 (((20 * v5) + 1)).toNat) ≤ 4 := ProgR.at hqp2.1 (e := ((20 * v5) + 1)) v5 1 (by omega) (by omega) (by decide) rfl
                        refine rz_icmp_ge (tgt := 296) F (by omega) (by omega) dX9_merge_238 (by decide) (fun h238_103 => ?_) (fun h238_103 => ?_)
                        · refine lv_iinc (v := zI (v5 + 1)) (lv' := [(5, .int (zI (v5 + 1))), (7, .int (zI v7)), (6, .int (zI (20 * v5))), (0, .ref y), (1, .ref a), (2, .int (zI x)), (3, .int (zI w)), (4, .ref f)]) hx hb dX9_merge_296 hl (k := 2) rfl (zI_add _ _) (by decide) rfl (fun ls hl => ?_)
                          refine lv_goto (tgt := 132) hx hb dX9_merge_299 (by decide) ?_
                          exact ih2 (v5 + 1) gq2 _ _ (by omega) (by omega) hqp2 hmt2 (Mst.fin hms2 (by omega) hnw ⟨by omega, by omega⟩) hP hD hS ls (lv_sub hl [0, 3, 4, 5, 6, 7] rfl)
                        · refine lv_aload hx hb dX9_merge_241 (lv_at hl 7 rfl) ?_
                          refine lv_iload hx hb dX9_merge_243 (lv_at hl 1 rfl) ?_
                          refine lv_iconst (v := zI 2) hx hb dX9_merge_245 rfl ?_
                          refine r_iadd (v := zI ((20 * v5) + 2)) F dX9_merge_246 (zI_add _ _) ?_
                          refine lv_iconst (v := zI 3) hx hb dX9_merge_247 rfl ?_
                          refine lv_iload hx hb dX9_merge_248 (lv_at hl 0 rfl) ?_
                          refine r_imul (v := zI (3 * v7)) F dX9_merge_250 (zI_mul _ _) ?_
                          refine r_iadd (v := zI (((20 * v5) + 2) + (3 * v7))) F dX9_merge_251 (zI_add _ _) ?_
                          refine rz_iald F hK hP 2 0 rfl rfl (by omega) (by omega) dX9_merge_252 ?_
                          have hc105 := ProgOk.act hqp2 (i := v5) (n := v7) (k := (((20 * v5) + 2) + (3 * v7))) (by omega) (by omega) (by omega)
                          refine lv_iconst (v := zI 3) hx hb dX9_merge_253 rfl ?_
                          refine rz_icmp_ne (tgt := 290) F (by omega) (by omega) dX9_merge_254 (by decide) (fun h254_105 => ?_) (fun h254_105 => ?_)
                          · refine lv_iinc (v := zI (v7 + 1)) (lv' := [(7, .int (zI (v7 + 1))), (6, .int (zI (20 * v5))), (5, .int (zI v5)), (0, .ref y), (1, .ref a), (2, .int (zI x)), (3, .int (zI w)), (4, .ref f)]) hx hb dX9_merge_290 hl (k := 0) rfl (zI_add _ _) (by decide) rfl (fun ls hl => ?_)
                            refine lv_goto (tgt := 229) hx hb dX9_merge_293 (by decide) ?_
                            exact ih3 (v7 + 1) gq2 _ _ (by omega) (by omega) hqp2 hmt2 (Mst.sA hms2 (by omega) hnw (by omega) ⟨by omega, by omega⟩ (Or.inr ⟨by omega, rfl⟩)) hP hD hS ls (lv_sub hl [0, 1, 2, 3, 4, 5, 6, 7] rfl)
                          · refine lv_aload hx hb dX9_merge_257 (lv_at hl 7 rfl) ?_
                            refine lv_iload hx hb dX9_merge_259 (lv_at hl 1 rfl) ?_
                            refine lv_iconst (v := zI 2) hx hb dX9_merge_261 rfl ?_
                            refine r_iadd (v := zI ((20 * v5) + 2)) F dX9_merge_262 (zI_add _ _) ?_
                            refine lv_iconst (v := zI 3) hx hb dX9_merge_263 rfl ?_
                            refine lv_iload hx hb dX9_merge_264 (lv_at hl 0 rfl) ?_
                            refine r_imul (v := zI (3 * v7)) F dX9_merge_266 (zI_mul _ _) ?_
                            refine r_iadd (v := zI (((20 * v5) + 2) + (3 * v7))) F dX9_merge_267 (zI_add _ _) ?_
                            refine lv_iconst (v := zI 1) hx hb dX9_merge_268 rfl ?_
                            refine r_iadd (v := zI ((((20 * v5) + 2) + (3 * v7)) + 1)) F dX9_merge_269 (zI_add _ _) ?_
                            refine rz_iald F hK hP 2 0 rfl rfl (by omega) (by omega) dX9_merge_270 ?_
                            have hc107 := hqp2.1.pos (((((20 * v5) + 2) + (3 * v7)) + 1)).toNat (by omega)
                            have hc108 := hqp2.1.le9 (((((20 * v5) + 2) + (3 * v7)) + 1)).toNat (by omega)
                            refine lv_iload_n hx hb dX9_merge_271 rfl (lv_at hl 6 rfl) ?_
                            refine rz_icmp_ne (tgt := 290) F (by omega) (by omega) dX9_merge_272 (by decide) (fun h272_108 => ?_) (fun h272_108 => ?_)
                            · refine lv_iinc (v := zI (v7 + 1)) (lv' := [(7, .int (zI (v7 + 1))), (6, .int (zI (20 * v5))), (5, .int (zI v5)), (0, .ref y), (1, .ref a), (2, .int (zI x)), (3, .int (zI w)), (4, .ref f)]) hx hb dX9_merge_290 hl (k := 0) rfl (zI_add _ _) (by decide) rfl (fun ls hl => ?_)
                              refine lv_goto (tgt := 229) hx hb dX9_merge_293 (by decide) ?_
                              exact ih3 (v7 + 1) gq2 _ _ (by omega) (by omega) hqp2 hmt2 (Mst.sA hms2 (by omega) hnw (by omega) ⟨by omega, by omega⟩ (Or.inr ⟨by omega, rfl⟩)) hP hD hS ls (lv_sub hl [0, 1, 2, 3, 4, 5, 6, 7] rfl)
                            · refine lv_aload hx hb dX9_merge_275 (lv_at hl 7 rfl) ?_
                              refine lv_iload hx hb dX9_merge_277 (lv_at hl 1 rfl) ?_
                              refine lv_iconst (v := zI 2) hx hb dX9_merge_279 rfl ?_
                              refine r_iadd (v := zI ((20 * v5) + 2)) F dX9_merge_280 (zI_add _ _) ?_
                              refine lv_iconst (v := zI 3) hx hb dX9_merge_281 rfl ?_
                              refine lv_iload hx hb dX9_merge_282 (lv_at hl 0 rfl) ?_
                              refine r_imul (v := zI (3 * v7)) F dX9_merge_284 (zI_mul _ _) ?_
                              refine r_iadd (v := zI (((20 * v5) + 2) + (3 * v7))) F dX9_merge_285 (zI_add _ _) ?_
                              refine lv_iconst (v := zI 1) hx hb dX9_merge_286 rfl ?_
                              refine r_iadd (v := zI ((((20 * v5) + 2) + (3 * v7)) + 1)) F dX9_merge_287 (zI_add _ _) ?_
                              refine lv_iload_n hx hb dX9_merge_288 rfl (lv_at hl 5 rfl) ?_
                              refine rz_iastG F hK hP hD hS 2 0 rfl rfl (by omega) (by omega) dX9_merge_289 (w1 := fun g110 => [(y, .inr (9, [.int (zI (i 0)), .ref (q 0), .int (zI (i 1)), .int (zI (i 2)), .int (zI (i 3)), .int (zI (i 4)), .int (zI (i 5)), .int (zI (i 6)), .int (zI (i 7)), .int (zI (i 8)), .int (zI (i 9)), .int (zI (i 10)), .ref (q 1), .int (zI (i 11)), .int (zI (i 12)), .ref (q 2), .ref (q 3), .ref (q 4), .ref (q 5), .ref (q 6), .ref (q 7), .ref (q 8), .ref (q 9), .ref (q 10), .ref (q 11), .ref (q 12), .ref (q 13), .ref (q 14), .ref (q 15), .ref (q 16), .int (zI (i 13)), .int (zI (i 14)), .int (zI (i 15)), .int (zI (i 16)), .int (zI (i 17)), .int (zI (i 18)), .ref (q 17), .ref (q 18), .ref (q 19), .ref (q 20)])), (a, .inl (cI, 200, .inl (fun k => zI (g_p k)))), (f, .inl (cI, 200, .inl (fun k => zI (g110 k))))]) (fun _ => rfl) (fun g110 e_g110 H locs hP hD hS => ?_)
                              have hqp111 : ProgOk g110 := ProgOk.tgt3 hqp2 e_g110 (i := v5) (n := v7) (by omega) (by omega) (by omega) (by omega) (j := (((20 * v5) + 2) + (3 * v7)).toNat) (by omega) (by omega)
                              have hmt112 := MT.keepA hmt2 e_g110 (i := v5) (n := v7) (by omega) (by omega) (by omega)
                              refine lv_iinc (v := zI (v7 + 1)) (lv' := [(7, .int (zI (v7 + 1))), (6, .int (zI (20 * v5))), (5, .int (zI v5)), (0, .ref y), (1, .ref a), (2, .int (zI x)), (3, .int (zI w)), (4, .ref f)]) hx hb dX9_merge_290 hl (k := 0) rfl (zI_add _ _) (by decide) rfl (fun ls hl => ?_)
                              refine lv_goto (tgt := 229) hx hb dX9_merge_293 (by decide) ?_
                              exact ih3 (v7 + 1) g110 _ _ (by omega) (by omega) hqp111 hmt112 (Mst.sA hms2 (by omega) hnw (by omega) ⟨by omega, by omega⟩ (Or.inl ⟨by omega, by omega, e_g110⟩)) hP hD hS ls (lv_sub hl [0, 1, 2, 3, 4, 5, 6, 7] rfl)
                    · refine lv_aload hx hb dX9_merge_205 (lv_at hl 6 rfl) ?_
                      refine lv_iload hx hb dX9_merge_207 (lv_at hl 0 rfl) ?_
                      refine lv_bipush (v := zI 18) hx hb dX9_merge_209 (by decide) ?_
                      refine r_iadd (v := zI ((20 * v5) + 18)) F dX9_merge_211 (zI_add _ _) ?_
                      refine rz_iald F hK hP 2 0 rfl rfl (by omega) (by omega) dX9_merge_212 ?_
                      have hc113 := hqp98.1.pos (((20 * v5) + 18)).toNat (by omega)
                      have hc114 := hqp98.1.le9 (((20 * v5) + 18)).toNat (by omega)
                      refine lv_iload_n hx hb dX9_merge_213 rfl (lv_at hl 5 rfl) ?_
                      refine rz_icmp_ne (tgt := 226) F (by omega) (by omega) dX9_merge_214 (by decide) (fun h214_114 => ?_) (fun h214_114 => ?_)
                      · refine lv_iconst (v := zI 0) hx hb dX9_merge_226 rfl ?_
                        have hms8 : Mst g_p x w (i 13) g97 v5 (3 + 0) := Mst.s18 hms6 (by omega) hnw (by omega) (Or.inr ⟨by omega, rfl⟩)
                        refine lv_istore (lv' := [(7, .int (zI 0)), (6, .int (zI (20 * v5))), (5, .int (zI v5)), (0, .ref y), (1, .ref a), (2, .int (zI x)), (3, .int (zI w)), (4, .ref f)]) hx hb dX9_merge_227 hl (by decide) rfl (fun ls hl => ?_)
                        refine W.widen (k := 0) (n := 0) (Nat.le_of_ble_eq_true rfl) (Nat.le_of_ble_eq_true rfl) ?_
                        refine (?_ : ∀ (n9_3 : Nat) (v7 : Int) (gq2 : Nat → Int) (H : Heap) (locs : List Loc), (0 ≤ v7 ∧ v7 ≤ 4) → (4 - v7 : Int).toNat < n9_3 → (ProgOk gq2) → (MT g_p gq2 w) → (Mst g_p x w (i 13) gq2 v5 (3 + v7)) → va_P G vwCl [(y, .inr (9, [.int (zI (i 0)), .ref (q 0), .int (zI (i 1)), .int (zI (i 2)), .int (zI (i 3)), .int (zI (i 4)), .int (zI (i 5)), .int (zI (i 6)), .int (zI (i 7)), .int (zI (i 8)), .int (zI (i 9)), .int (zI (i 10)), .ref (q 1), .int (zI (i 11)), .int (zI (i 12)), .ref (q 2), .ref (q 3), .ref (q 4), .ref (q 5), .ref (q 6), .ref (q 7), .ref (q 8), .ref (q 9), .ref (q 10), .ref (q 11), .ref (q 12), .ref (q 13), .ref (q 14), .ref (q 15), .ref (q 16), .int (zI (i 13)), .int (zI (i 14)), .int (zI (i 15)), .int (zI (i 16)), .int (zI (i 17)), .int (zI (i 18)), .ref (q 17), .ref (q 18), .ref (q 19), .ref (q 20)])), (a, .inl (cI, 200, .inl (fun k => zI (g_p k)))), (f, .inl (cI, 200, .inl (fun k => zI (gq2 k))))] H → va_D A [(y, .inr (9, [.int (zI (i 0)), .ref (q 0), .int (zI (i 1)), .int (zI (i 2)), .int (zI (i 3)), .int (zI (i 4)), .int (zI (i 5)), .int (zI (i 6)), .int (zI (i 7)), .int (zI (i 8)), .int (zI (i 9)), .int (zI (i 10)), .ref (q 1), .int (zI (i 11)), .int (zI (i 12)), .ref (q 2), .ref (q 3), .ref (q 4), .ref (q 5), .ref (q 6), .ref (q 7), .ref (q 8), .ref (q 9), .ref (q 10), .ref (q 11), .ref (q 12), .ref (q 13), .ref (q 14), .ref (q 15), .ref (q 16), .int (zI (i 13)), .int (zI (i 14)), .int (zI (i 15)), .int (zI (i 16)), .int (zI (i 17)), .int (zI (i 18)), .ref (q 17), .ref (q 18), .ref (q 19), .ref (q 20)])), (a, .inl (cI, 200, .inl (fun k => zI (g_p k)))), (f, .inl (cI, 200, .inl (fun k => zI (gq2 k))))] → va_S A s.heap H locs → ∀ ls : Array Slot, lv_has ls 8 [(7, .int (zI v7)), (6, .int (zI (20 * v5))), (5, .int (zI v5)), (0, .ref y), (1, .ref a), (2, .int (zI x)), (3, .int (zI w)), (4, .ref f)] → W p l e rm_X9_mergeX s m ([.ref y, .ref a, .int (zI x), .int (zI w), .ref f] : List Value).toArray below meth c H locs 0 0 Q (F0 m 229 ls [])) ((4 - 0 : Int).toNat + 1) 0 g97 _ _ (by omega) (by omega) hqp98 hmt99 hms8 hP hD hS ls hl
                        clear hP hD hS hl ls
                        intro n9_3
                        induction n9_3 with
                        | zero =>
                          intro v7 gq2 H locs hI hM
                          exact absurd hM (by omega)
                        | succ n9_3 ih3 =>
                          intro v7 gq2 H locs hI3 hM3 hqp2 hmt2 hms2 hP hD hS ls hl
                          refine lv_iload hx hb dX9_merge_229 (lv_at hl 0 rfl) ?_
                          refine lv_aload hx hb dX9_merge_231 (lv_at hl 7 rfl) ?_
                          refine lv_iload hx hb dX9_merge_233 (lv_at hl 1 rfl) ?_
                          refine lv_iconst (v := zI 1) hx hb dX9_merge_235 rfl ?_
                          refine r_iadd (v := zI ((20 * v5) + 1)) F dX9_merge_236 (zI_add _ _) ?_
                          refine rz_iald F hK hP 2 0 rfl rfl (by omega) (by omega) dX9_merge_237 ?_
                          have hpl116 : 0 ≤ (gq2 (((20 * v5) + 1)).toNat) ∧ (gq2 (((20 * v5) + 1)).toNat) ≤ 4 := ProgR.at hqp2.1 (e := ((20 * v5) + 1)) v5 1 (by omega) (by omega) (by decide) rfl
                          refine rz_icmp_ge (tgt := 296) F (by omega) (by omega) dX9_merge_238 (by decide) (fun h238_116 => ?_) (fun h238_116 => ?_)
                          · refine lv_iinc (v := zI (v5 + 1)) (lv' := [(5, .int (zI (v5 + 1))), (7, .int (zI v7)), (6, .int (zI (20 * v5))), (0, .ref y), (1, .ref a), (2, .int (zI x)), (3, .int (zI w)), (4, .ref f)]) hx hb dX9_merge_296 hl (k := 2) rfl (zI_add _ _) (by decide) rfl (fun ls hl => ?_)
                            refine lv_goto (tgt := 132) hx hb dX9_merge_299 (by decide) ?_
                            exact ih2 (v5 + 1) gq2 _ _ (by omega) (by omega) hqp2 hmt2 (Mst.fin hms2 (by omega) hnw ⟨by omega, by omega⟩) hP hD hS ls (lv_sub hl [0, 3, 4, 5, 6, 7] rfl)
                          · refine lv_aload hx hb dX9_merge_241 (lv_at hl 7 rfl) ?_
                            refine lv_iload hx hb dX9_merge_243 (lv_at hl 1 rfl) ?_
                            refine lv_iconst (v := zI 2) hx hb dX9_merge_245 rfl ?_
                            refine r_iadd (v := zI ((20 * v5) + 2)) F dX9_merge_246 (zI_add _ _) ?_
                            refine lv_iconst (v := zI 3) hx hb dX9_merge_247 rfl ?_
                            refine lv_iload hx hb dX9_merge_248 (lv_at hl 0 rfl) ?_
                            refine r_imul (v := zI (3 * v7)) F dX9_merge_250 (zI_mul _ _) ?_
                            refine r_iadd (v := zI (((20 * v5) + 2) + (3 * v7))) F dX9_merge_251 (zI_add _ _) ?_
                            refine rz_iald F hK hP 2 0 rfl rfl (by omega) (by omega) dX9_merge_252 ?_
                            have hc118 := ProgOk.act hqp2 (i := v5) (n := v7) (k := (((20 * v5) + 2) + (3 * v7))) (by omega) (by omega) (by omega)
                            refine lv_iconst (v := zI 3) hx hb dX9_merge_253 rfl ?_
                            refine rz_icmp_ne (tgt := 290) F (by omega) (by omega) dX9_merge_254 (by decide) (fun h254_118 => ?_) (fun h254_118 => ?_)
                            · refine lv_iinc (v := zI (v7 + 1)) (lv' := [(7, .int (zI (v7 + 1))), (6, .int (zI (20 * v5))), (5, .int (zI v5)), (0, .ref y), (1, .ref a), (2, .int (zI x)), (3, .int (zI w)), (4, .ref f)]) hx hb dX9_merge_290 hl (k := 0) rfl (zI_add _ _) (by decide) rfl (fun ls hl => ?_)
                              refine lv_goto (tgt := 229) hx hb dX9_merge_293 (by decide) ?_
                              exact ih3 (v7 + 1) gq2 _ _ (by omega) (by omega) hqp2 hmt2 (Mst.sA hms2 (by omega) hnw (by omega) ⟨by omega, by omega⟩ (Or.inr ⟨by omega, rfl⟩)) hP hD hS ls (lv_sub hl [0, 1, 2, 3, 4, 5, 6, 7] rfl)
                            · refine lv_aload hx hb dX9_merge_257 (lv_at hl 7 rfl) ?_
                              refine lv_iload hx hb dX9_merge_259 (lv_at hl 1 rfl) ?_
                              refine lv_iconst (v := zI 2) hx hb dX9_merge_261 rfl ?_
                              refine r_iadd (v := zI ((20 * v5) + 2)) F dX9_merge_262 (zI_add _ _) ?_
                              refine lv_iconst (v := zI 3) hx hb dX9_merge_263 rfl ?_
                              refine lv_iload hx hb dX9_merge_264 (lv_at hl 0 rfl) ?_
                              refine r_imul (v := zI (3 * v7)) F dX9_merge_266 (zI_mul _ _) ?_
                              refine r_iadd (v := zI (((20 * v5) + 2) + (3 * v7))) F dX9_merge_267 (zI_add _ _) ?_
                              refine lv_iconst (v := zI 1) hx hb dX9_merge_268 rfl ?_
                              refine r_iadd (v := zI ((((20 * v5) + 2) + (3 * v7)) + 1)) F dX9_merge_269 (zI_add _ _) ?_
                              refine rz_iald F hK hP 2 0 rfl rfl (by omega) (by omega) dX9_merge_270 ?_
                              have hc120 := hqp2.1.pos (((((20 * v5) + 2) + (3 * v7)) + 1)).toNat (by omega)
                              have hc121 := hqp2.1.le9 (((((20 * v5) + 2) + (3 * v7)) + 1)).toNat (by omega)
                              refine lv_iload_n hx hb dX9_merge_271 rfl (lv_at hl 6 rfl) ?_
                              refine rz_icmp_ne (tgt := 290) F (by omega) (by omega) dX9_merge_272 (by decide) (fun h272_121 => ?_) (fun h272_121 => ?_)
                              · refine lv_iinc (v := zI (v7 + 1)) (lv' := [(7, .int (zI (v7 + 1))), (6, .int (zI (20 * v5))), (5, .int (zI v5)), (0, .ref y), (1, .ref a), (2, .int (zI x)), (3, .int (zI w)), (4, .ref f)]) hx hb dX9_merge_290 hl (k := 0) rfl (zI_add _ _) (by decide) rfl (fun ls hl => ?_)
                                refine lv_goto (tgt := 229) hx hb dX9_merge_293 (by decide) ?_
                                exact ih3 (v7 + 1) gq2 _ _ (by omega) (by omega) hqp2 hmt2 (Mst.sA hms2 (by omega) hnw (by omega) ⟨by omega, by omega⟩ (Or.inr ⟨by omega, rfl⟩)) hP hD hS ls (lv_sub hl [0, 1, 2, 3, 4, 5, 6, 7] rfl)
                              · refine lv_aload hx hb dX9_merge_275 (lv_at hl 7 rfl) ?_
                                refine lv_iload hx hb dX9_merge_277 (lv_at hl 1 rfl) ?_
                                refine lv_iconst (v := zI 2) hx hb dX9_merge_279 rfl ?_
                                refine r_iadd (v := zI ((20 * v5) + 2)) F dX9_merge_280 (zI_add _ _) ?_
                                refine lv_iconst (v := zI 3) hx hb dX9_merge_281 rfl ?_
                                refine lv_iload hx hb dX9_merge_282 (lv_at hl 0 rfl) ?_
                                refine r_imul (v := zI (3 * v7)) F dX9_merge_284 (zI_mul _ _) ?_
                                refine r_iadd (v := zI (((20 * v5) + 2) + (3 * v7))) F dX9_merge_285 (zI_add _ _) ?_
                                refine lv_iconst (v := zI 1) hx hb dX9_merge_286 rfl ?_
                                refine r_iadd (v := zI ((((20 * v5) + 2) + (3 * v7)) + 1)) F dX9_merge_287 (zI_add _ _) ?_
                                refine lv_iload_n hx hb dX9_merge_288 rfl (lv_at hl 5 rfl) ?_
                                refine rz_iastG F hK hP hD hS 2 0 rfl rfl (by omega) (by omega) dX9_merge_289 (w1 := fun g123 => [(y, .inr (9, [.int (zI (i 0)), .ref (q 0), .int (zI (i 1)), .int (zI (i 2)), .int (zI (i 3)), .int (zI (i 4)), .int (zI (i 5)), .int (zI (i 6)), .int (zI (i 7)), .int (zI (i 8)), .int (zI (i 9)), .int (zI (i 10)), .ref (q 1), .int (zI (i 11)), .int (zI (i 12)), .ref (q 2), .ref (q 3), .ref (q 4), .ref (q 5), .ref (q 6), .ref (q 7), .ref (q 8), .ref (q 9), .ref (q 10), .ref (q 11), .ref (q 12), .ref (q 13), .ref (q 14), .ref (q 15), .ref (q 16), .int (zI (i 13)), .int (zI (i 14)), .int (zI (i 15)), .int (zI (i 16)), .int (zI (i 17)), .int (zI (i 18)), .ref (q 17), .ref (q 18), .ref (q 19), .ref (q 20)])), (a, .inl (cI, 200, .inl (fun k => zI (g_p k)))), (f, .inl (cI, 200, .inl (fun k => zI (g123 k))))]) (fun _ => rfl) (fun g123 e_g123 H locs hP hD hS => ?_)
                                have hqp124 : ProgOk g123 := ProgOk.tgt3 hqp2 e_g123 (i := v5) (n := v7) (by omega) (by omega) (by omega) (by omega) (j := (((20 * v5) + 2) + (3 * v7)).toNat) (by omega) (by omega)
                                have hmt125 := MT.keepA hmt2 e_g123 (i := v5) (n := v7) (by omega) (by omega) (by omega)
                                refine lv_iinc (v := zI (v7 + 1)) (lv' := [(7, .int (zI (v7 + 1))), (6, .int (zI (20 * v5))), (5, .int (zI v5)), (0, .ref y), (1, .ref a), (2, .int (zI x)), (3, .int (zI w)), (4, .ref f)]) hx hb dX9_merge_290 hl (k := 0) rfl (zI_add _ _) (by decide) rfl (fun ls hl => ?_)
                                refine lv_goto (tgt := 229) hx hb dX9_merge_293 (by decide) ?_
                                exact ih3 (v7 + 1) g123 _ _ (by omega) (by omega) hqp124 hmt125 (Mst.sA hms2 (by omega) hnw (by omega) ⟨by omega, by omega⟩ (Or.inl ⟨by omega, by omega, e_g123⟩)) hP hD hS ls (lv_sub hl [0, 1, 2, 3, 4, 5, 6, 7] rfl)
                      · refine lv_aload hx hb dX9_merge_217 (lv_at hl 6 rfl) ?_
                        refine lv_iload hx hb dX9_merge_219 (lv_at hl 0 rfl) ?_
                        refine lv_bipush (v := zI 18) hx hb dX9_merge_221 (by decide) ?_
                        refine r_iadd (v := zI ((20 * v5) + 18)) F dX9_merge_223 (zI_add _ _) ?_
                        refine lv_iload_n hx hb dX9_merge_224 rfl (lv_at hl 4 rfl) ?_
                        refine rz_iastG F hK hP hD hS 2 0 rfl rfl (by omega) (by omega) dX9_merge_225 (w1 := fun g126 => [(y, .inr (9, [.int (zI (i 0)), .ref (q 0), .int (zI (i 1)), .int (zI (i 2)), .int (zI (i 3)), .int (zI (i 4)), .int (zI (i 5)), .int (zI (i 6)), .int (zI (i 7)), .int (zI (i 8)), .int (zI (i 9)), .int (zI (i 10)), .ref (q 1), .int (zI (i 11)), .int (zI (i 12)), .ref (q 2), .ref (q 3), .ref (q 4), .ref (q 5), .ref (q 6), .ref (q 7), .ref (q 8), .ref (q 9), .ref (q 10), .ref (q 11), .ref (q 12), .ref (q 13), .ref (q 14), .ref (q 15), .ref (q 16), .int (zI (i 13)), .int (zI (i 14)), .int (zI (i 15)), .int (zI (i 16)), .int (zI (i 17)), .int (zI (i 18)), .ref (q 17), .ref (q 18), .ref (q 19), .ref (q 20)])), (a, .inl (cI, 200, .inl (fun k => zI (g_p k)))), (f, .inl (cI, 200, .inl (fun k => zI (g126 k))))]) (fun _ => rfl) (fun g126 e_g126 H locs hP hD hS => ?_)
                        have hqp127 : ProgOk g126 := ⟨hqp98.1.set (m := 9) e_g126 18 (by omega) rfl (by omega), hqp98.2.set e_g126 (by omega)⟩
                        have hmt128 := hmt99.keep e_g126 (by omega)
                        refine lv_iconst (v := zI 0) hx hb dX9_merge_226 rfl ?_
                        have hms8 : Mst g_p x w (i 13) g126 v5 (3 + 0) := Mst.s18 hms6 (by omega) hnw (by omega) (Or.inl ⟨by omega, by omega, e_g126⟩)
                        refine lv_istore (lv' := [(7, .int (zI 0)), (6, .int (zI (20 * v5))), (5, .int (zI v5)), (0, .ref y), (1, .ref a), (2, .int (zI x)), (3, .int (zI w)), (4, .ref f)]) hx hb dX9_merge_227 hl (by decide) rfl (fun ls hl => ?_)
                        refine W.widen (k := 0) (n := 0) (Nat.le_of_ble_eq_true rfl) (Nat.le_of_ble_eq_true rfl) ?_
                        refine (?_ : ∀ (n9_3 : Nat) (v7 : Int) (gq2 : Nat → Int) (H : Heap) (locs : List Loc), (0 ≤ v7 ∧ v7 ≤ 4) → (4 - v7 : Int).toNat < n9_3 → (ProgOk gq2) → (MT g_p gq2 w) → (Mst g_p x w (i 13) gq2 v5 (3 + v7)) → va_P G vwCl [(y, .inr (9, [.int (zI (i 0)), .ref (q 0), .int (zI (i 1)), .int (zI (i 2)), .int (zI (i 3)), .int (zI (i 4)), .int (zI (i 5)), .int (zI (i 6)), .int (zI (i 7)), .int (zI (i 8)), .int (zI (i 9)), .int (zI (i 10)), .ref (q 1), .int (zI (i 11)), .int (zI (i 12)), .ref (q 2), .ref (q 3), .ref (q 4), .ref (q 5), .ref (q 6), .ref (q 7), .ref (q 8), .ref (q 9), .ref (q 10), .ref (q 11), .ref (q 12), .ref (q 13), .ref (q 14), .ref (q 15), .ref (q 16), .int (zI (i 13)), .int (zI (i 14)), .int (zI (i 15)), .int (zI (i 16)), .int (zI (i 17)), .int (zI (i 18)), .ref (q 17), .ref (q 18), .ref (q 19), .ref (q 20)])), (a, .inl (cI, 200, .inl (fun k => zI (g_p k)))), (f, .inl (cI, 200, .inl (fun k => zI (gq2 k))))] H → va_D A [(y, .inr (9, [.int (zI (i 0)), .ref (q 0), .int (zI (i 1)), .int (zI (i 2)), .int (zI (i 3)), .int (zI (i 4)), .int (zI (i 5)), .int (zI (i 6)), .int (zI (i 7)), .int (zI (i 8)), .int (zI (i 9)), .int (zI (i 10)), .ref (q 1), .int (zI (i 11)), .int (zI (i 12)), .ref (q 2), .ref (q 3), .ref (q 4), .ref (q 5), .ref (q 6), .ref (q 7), .ref (q 8), .ref (q 9), .ref (q 10), .ref (q 11), .ref (q 12), .ref (q 13), .ref (q 14), .ref (q 15), .ref (q 16), .int (zI (i 13)), .int (zI (i 14)), .int (zI (i 15)), .int (zI (i 16)), .int (zI (i 17)), .int (zI (i 18)), .ref (q 17), .ref (q 18), .ref (q 19), .ref (q 20)])), (a, .inl (cI, 200, .inl (fun k => zI (g_p k)))), (f, .inl (cI, 200, .inl (fun k => zI (gq2 k))))] → va_S A s.heap H locs → ∀ ls : Array Slot, lv_has ls 8 [(7, .int (zI v7)), (6, .int (zI (20 * v5))), (5, .int (zI v5)), (0, .ref y), (1, .ref a), (2, .int (zI x)), (3, .int (zI w)), (4, .ref f)] → W p l e rm_X9_mergeX s m ([.ref y, .ref a, .int (zI x), .int (zI w), .ref f] : List Value).toArray below meth c H locs 0 0 Q (F0 m 229 ls [])) ((4 - 0 : Int).toNat + 1) 0 g126 _ _ (by omega) (by omega) hqp127 hmt128 hms8 hP hD hS ls hl
                        clear hP hD hS hl ls
                        intro n9_3
                        induction n9_3 with
                        | zero =>
                          intro v7 gq2 H locs hI hM
                          exact absurd hM (by omega)
                        | succ n9_3 ih3 =>
                          intro v7 gq2 H locs hI3 hM3 hqp2 hmt2 hms2 hP hD hS ls hl
                          refine lv_iload hx hb dX9_merge_229 (lv_at hl 0 rfl) ?_
                          refine lv_aload hx hb dX9_merge_231 (lv_at hl 7 rfl) ?_
                          refine lv_iload hx hb dX9_merge_233 (lv_at hl 1 rfl) ?_
                          refine lv_iconst (v := zI 1) hx hb dX9_merge_235 rfl ?_
                          refine r_iadd (v := zI ((20 * v5) + 1)) F dX9_merge_236 (zI_add _ _) ?_
                          refine rz_iald F hK hP 2 0 rfl rfl (by omega) (by omega) dX9_merge_237 ?_
                          have hpl129 : 0 ≤ (gq2 (((20 * v5) + 1)).toNat) ∧ (gq2 (((20 * v5) + 1)).toNat) ≤ 4 := ProgR.at hqp2.1 (e := ((20 * v5) + 1)) v5 1 (by omega) (by omega) (by decide) rfl
                          refine rz_icmp_ge (tgt := 296) F (by omega) (by omega) dX9_merge_238 (by decide) (fun h238_129 => ?_) (fun h238_129 => ?_)
                          · refine lv_iinc (v := zI (v5 + 1)) (lv' := [(5, .int (zI (v5 + 1))), (7, .int (zI v7)), (6, .int (zI (20 * v5))), (0, .ref y), (1, .ref a), (2, .int (zI x)), (3, .int (zI w)), (4, .ref f)]) hx hb dX9_merge_296 hl (k := 2) rfl (zI_add _ _) (by decide) rfl (fun ls hl => ?_)
                            refine lv_goto (tgt := 132) hx hb dX9_merge_299 (by decide) ?_
                            exact ih2 (v5 + 1) gq2 _ _ (by omega) (by omega) hqp2 hmt2 (Mst.fin hms2 (by omega) hnw ⟨by omega, by omega⟩) hP hD hS ls (lv_sub hl [0, 3, 4, 5, 6, 7] rfl)
                          · refine lv_aload hx hb dX9_merge_241 (lv_at hl 7 rfl) ?_
                            refine lv_iload hx hb dX9_merge_243 (lv_at hl 1 rfl) ?_
                            refine lv_iconst (v := zI 2) hx hb dX9_merge_245 rfl ?_
                            refine r_iadd (v := zI ((20 * v5) + 2)) F dX9_merge_246 (zI_add _ _) ?_
                            refine lv_iconst (v := zI 3) hx hb dX9_merge_247 rfl ?_
                            refine lv_iload hx hb dX9_merge_248 (lv_at hl 0 rfl) ?_
                            refine r_imul (v := zI (3 * v7)) F dX9_merge_250 (zI_mul _ _) ?_
                            refine r_iadd (v := zI (((20 * v5) + 2) + (3 * v7))) F dX9_merge_251 (zI_add _ _) ?_
                            refine rz_iald F hK hP 2 0 rfl rfl (by omega) (by omega) dX9_merge_252 ?_
                            have hc131 := ProgOk.act hqp2 (i := v5) (n := v7) (k := (((20 * v5) + 2) + (3 * v7))) (by omega) (by omega) (by omega)
                            refine lv_iconst (v := zI 3) hx hb dX9_merge_253 rfl ?_
                            refine rz_icmp_ne (tgt := 290) F (by omega) (by omega) dX9_merge_254 (by decide) (fun h254_131 => ?_) (fun h254_131 => ?_)
                            · refine lv_iinc (v := zI (v7 + 1)) (lv' := [(7, .int (zI (v7 + 1))), (6, .int (zI (20 * v5))), (5, .int (zI v5)), (0, .ref y), (1, .ref a), (2, .int (zI x)), (3, .int (zI w)), (4, .ref f)]) hx hb dX9_merge_290 hl (k := 0) rfl (zI_add _ _) (by decide) rfl (fun ls hl => ?_)
                              refine lv_goto (tgt := 229) hx hb dX9_merge_293 (by decide) ?_
                              exact ih3 (v7 + 1) gq2 _ _ (by omega) (by omega) hqp2 hmt2 (Mst.sA hms2 (by omega) hnw (by omega) ⟨by omega, by omega⟩ (Or.inr ⟨by omega, rfl⟩)) hP hD hS ls (lv_sub hl [0, 1, 2, 3, 4, 5, 6, 7] rfl)
                            · refine lv_aload hx hb dX9_merge_257 (lv_at hl 7 rfl) ?_
                              refine lv_iload hx hb dX9_merge_259 (lv_at hl 1 rfl) ?_
                              refine lv_iconst (v := zI 2) hx hb dX9_merge_261 rfl ?_
                              refine r_iadd (v := zI ((20 * v5) + 2)) F dX9_merge_262 (zI_add _ _) ?_
                              refine lv_iconst (v := zI 3) hx hb dX9_merge_263 rfl ?_
                              refine lv_iload hx hb dX9_merge_264 (lv_at hl 0 rfl) ?_
                              refine r_imul (v := zI (3 * v7)) F dX9_merge_266 (zI_mul _ _) ?_
                              refine r_iadd (v := zI (((20 * v5) + 2) + (3 * v7))) F dX9_merge_267 (zI_add _ _) ?_
                              refine lv_iconst (v := zI 1) hx hb dX9_merge_268 rfl ?_
                              refine r_iadd (v := zI ((((20 * v5) + 2) + (3 * v7)) + 1)) F dX9_merge_269 (zI_add _ _) ?_
                              refine rz_iald F hK hP 2 0 rfl rfl (by omega) (by omega) dX9_merge_270 ?_
                              have hc133 := hqp2.1.pos (((((20 * v5) + 2) + (3 * v7)) + 1)).toNat (by omega)
                              have hc134 := hqp2.1.le9 (((((20 * v5) + 2) + (3 * v7)) + 1)).toNat (by omega)
                              refine lv_iload_n hx hb dX9_merge_271 rfl (lv_at hl 6 rfl) ?_
                              refine rz_icmp_ne (tgt := 290) F (by omega) (by omega) dX9_merge_272 (by decide) (fun h272_134 => ?_) (fun h272_134 => ?_)
                              · refine lv_iinc (v := zI (v7 + 1)) (lv' := [(7, .int (zI (v7 + 1))), (6, .int (zI (20 * v5))), (5, .int (zI v5)), (0, .ref y), (1, .ref a), (2, .int (zI x)), (3, .int (zI w)), (4, .ref f)]) hx hb dX9_merge_290 hl (k := 0) rfl (zI_add _ _) (by decide) rfl (fun ls hl => ?_)
                                refine lv_goto (tgt := 229) hx hb dX9_merge_293 (by decide) ?_
                                exact ih3 (v7 + 1) gq2 _ _ (by omega) (by omega) hqp2 hmt2 (Mst.sA hms2 (by omega) hnw (by omega) ⟨by omega, by omega⟩ (Or.inr ⟨by omega, rfl⟩)) hP hD hS ls (lv_sub hl [0, 1, 2, 3, 4, 5, 6, 7] rfl)
                              · refine lv_aload hx hb dX9_merge_275 (lv_at hl 7 rfl) ?_
                                refine lv_iload hx hb dX9_merge_277 (lv_at hl 1 rfl) ?_
                                refine lv_iconst (v := zI 2) hx hb dX9_merge_279 rfl ?_
                                refine r_iadd (v := zI ((20 * v5) + 2)) F dX9_merge_280 (zI_add _ _) ?_
                                refine lv_iconst (v := zI 3) hx hb dX9_merge_281 rfl ?_
                                refine lv_iload hx hb dX9_merge_282 (lv_at hl 0 rfl) ?_
                                refine r_imul (v := zI (3 * v7)) F dX9_merge_284 (zI_mul _ _) ?_
                                refine r_iadd (v := zI (((20 * v5) + 2) + (3 * v7))) F dX9_merge_285 (zI_add _ _) ?_
                                refine lv_iconst (v := zI 1) hx hb dX9_merge_286 rfl ?_
                                refine r_iadd (v := zI ((((20 * v5) + 2) + (3 * v7)) + 1)) F dX9_merge_287 (zI_add _ _) ?_
                                refine lv_iload_n hx hb dX9_merge_288 rfl (lv_at hl 5 rfl) ?_
                                refine rz_iastG F hK hP hD hS 2 0 rfl rfl (by omega) (by omega) dX9_merge_289 (w1 := fun g136 => [(y, .inr (9, [.int (zI (i 0)), .ref (q 0), .int (zI (i 1)), .int (zI (i 2)), .int (zI (i 3)), .int (zI (i 4)), .int (zI (i 5)), .int (zI (i 6)), .int (zI (i 7)), .int (zI (i 8)), .int (zI (i 9)), .int (zI (i 10)), .ref (q 1), .int (zI (i 11)), .int (zI (i 12)), .ref (q 2), .ref (q 3), .ref (q 4), .ref (q 5), .ref (q 6), .ref (q 7), .ref (q 8), .ref (q 9), .ref (q 10), .ref (q 11), .ref (q 12), .ref (q 13), .ref (q 14), .ref (q 15), .ref (q 16), .int (zI (i 13)), .int (zI (i 14)), .int (zI (i 15)), .int (zI (i 16)), .int (zI (i 17)), .int (zI (i 18)), .ref (q 17), .ref (q 18), .ref (q 19), .ref (q 20)])), (a, .inl (cI, 200, .inl (fun k => zI (g_p k)))), (f, .inl (cI, 200, .inl (fun k => zI (g136 k))))]) (fun _ => rfl) (fun g136 e_g136 H locs hP hD hS => ?_)
                                have hqp137 : ProgOk g136 := ProgOk.tgt3 hqp2 e_g136 (i := v5) (n := v7) (by omega) (by omega) (by omega) (by omega) (j := (((20 * v5) + 2) + (3 * v7)).toNat) (by omega) (by omega)
                                have hmt138 := MT.keepA hmt2 e_g136 (i := v5) (n := v7) (by omega) (by omega) (by omega)
                                refine lv_iinc (v := zI (v7 + 1)) (lv' := [(7, .int (zI (v7 + 1))), (6, .int (zI (20 * v5))), (5, .int (zI v5)), (0, .ref y), (1, .ref a), (2, .int (zI x)), (3, .int (zI w)), (4, .ref f)]) hx hb dX9_merge_290 hl (k := 0) rfl (zI_add _ _) (by decide) rfl (fun ls hl => ?_)
                                refine lv_goto (tgt := 229) hx hb dX9_merge_293 (by decide) ?_
                                exact ih3 (v7 + 1) g136 _ _ (by omega) (by omega) hqp137 hmt138 (Mst.sA hms2 (by omega) hnw (by omega) ⟨by omega, by omega⟩ (Or.inl ⟨by omega, by omega, e_g136⟩)) hP hD hS ls (lv_sub hl [0, 1, 2, 3, 4, 5, 6, 7] rfl)
              · refine lv_goto (tgt := 296) hx hb dX9_merge_158 (by decide) ?_
                refine lv_iinc (v := zI (v5 + 1)) (lv' := [(5, .int (zI (v5 + 1))), (6, .int (zI (20 * v5))), (0, .ref y), (1, .ref a), (2, .int (zI x)), (3, .int (zI w)), (4, .ref f)]) hx hb dX9_merge_296 hl (k := 1) rfl (zI_add _ _) (by decide) rfl (fun ls hl => ?_)
                refine lv_goto (tgt := 132) hx hb dX9_merge_299 (by decide) ?_
                exact ih2 (v5 + 1) gq1 _ _ (by omega) (by omega) hqp1 hmt1 (Mst.skip hms1 (by omega) (by omega)) hP hD hS ls (lv_sub hl [0, 2, 3, 4, 5, 6] rfl)
        · refine lv_aload hx hb dX9_merge_95 (lv_at hl 5 rfl) ?_
          refine lv_bipush (v := zI 20) hx hb dX9_merge_97 (by decide) ?_
          refine lv_iload_n hx hb dX9_merge_99 rfl (lv_at hl 3 rfl) ?_
          refine r_imul (v := zI (20 * x)) F dX9_merge_100 (zI_mul _ _) ?_
          refine lv_bipush (v := zI 19) hx hb dX9_merge_101 (by decide) ?_
          refine r_iadd (v := zI ((20 * x) + 19)) F dX9_merge_103 (zI_add _ _) ?_
          refine lv_bipush (v := zI 9) hx hb dX9_merge_104 (by decide) ?_
          refine lv_aload_n hx hb dX9_merge_106 rfl (lv_at hl 2 rfl) ?_
          refine lv_bipush (v := zI 20) hx hb dX9_merge_107 (by decide) ?_
          refine lv_iload_n hx hb dX9_merge_109 rfl (lv_at hl 3 rfl) ?_
          refine r_imul (v := zI (20 * x)) F dX9_merge_110 (zI_mul _ _) ?_
          refine lv_bipush (v := zI 19) hx hb dX9_merge_111 (by decide) ?_
          refine r_iadd (v := zI ((20 * x) + 19)) F dX9_merge_113 (zI_add _ _) ?_
          refine rz_iald F hK hP 1 0 rfl rfl (by omega) (by omega) dX9_merge_114 ?_
          have hpl139 : 0 ≤ (g_p (((20 * x) + 19)).toNat) ∧ (g_p (((20 * x) + 19)).toNat) ≤ 9 := ProgR.at hp.1 (e := ((20 * x) + 19)) x 19 (by omega) (by omega) (by decide) rfl
          refine lv_aload_n hx hb dX9_merge_115 rfl (lv_at hl 2 rfl) ?_
          refine lv_bipush (v := zI 20) hx hb dX9_merge_116 (by decide) ?_
          refine lv_iload_n hx hb dX9_merge_118 rfl (lv_at hl 4 rfl) ?_
          refine r_imul (v := zI (20 * w)) F dX9_merge_119 (zI_mul _ _) ?_
          refine lv_bipush (v := zI 19) hx hb dX9_merge_120 (by decide) ?_
          refine r_iadd (v := zI ((20 * w) + 19)) F dX9_merge_122 (zI_add _ _) ?_
          refine rz_iald F hK hP 1 0 rfl rfl (by omega) (by omega) dX9_merge_123 ?_
          have hpl140 : 0 ≤ (g_p (((20 * w) + 19)).toNat) ∧ (g_p (((20 * w) + 19)).toNat) ≤ 9 := ProgR.at hp.1 (e := ((20 * w) + 19)) w 19 (by omega) (by omega) (by decide) rfl
          refine r_iadd (v := zI ((g_p (((20 * x) + 19)).toNat) + (g_p (((20 * w) + 19)).toNat))) F dX9_merge_124 (zI_add _ _) ?_
          refine r_callSi (As := [.int (zI 9), .int (zI ((g_p (((20 * x) + 19)).toNat) + (g_p (((20 * w) + 19)).toNat)))]) (rest := [.int (zI ((20 * x) + 19)), .ref f]) (wr := [(y, .inr (9, [.int (zI (i 0)), .ref (q 0), .int (zI (i 1)), .int (zI (i 2)), .int (zI (i 3)), .int (zI (i 4)), .int (zI (i 5)), .int (zI (i 6)), .int (zI (i 7)), .int (zI (i 8)), .int (zI (i 9)), .int (zI (i 10)), .ref (q 1), .int (zI (i 11)), .int (zI (i 12)), .ref (q 2), .ref (q 3), .ref (q 4), .ref (q 5), .ref (q 6), .ref (q 7), .ref (q 8), .ref (q 9), .ref (q 10), .ref (q 11), .ref (q 12), .ref (q 13), .ref (q 14), .ref (q 15), .ref (q 16), .int (zI (i 13)), .int (zI (i 14)), .int (zI (i 15)), .int (zI (i 16)), .int (zI (i 17)), .int (zI (i 18)), .ref (q 17), .ref (q 18), .ref (q 19), .ref (q 20)])), (a, .inl (cI, 200, .inl (fun k => zI (g_p k)))), (f, .inl (cI, 200, .inl (fun k => zI (gz9 k))))]) F hK hP hD hS hA hO hE (c_X9_less hO 9 ((g_p (((20 * x) + 19)).toNat) + (g_p (((20 * w) + 19)).toNat)) (by omega) (by omega)) k_1456 ks_X9_less 2 rfl (by decide +kernel) ⟨Nat.le_of_ble_eq_true rfl, Nat.le_of_ble_eq_true rfl⟩ [] [0, 1, 2] rfl rfl (by decide) (by decide) (by decide) hl.1 rfl (Nat.le_of_ble_eq_true rfl) dX9_merge_125 ⟨Nat.le_of_ble_eq_true rfl, Nat.le_of_ble_eq_true rfl⟩ (w1 := fun u141 => [(y, .inr (9, [.int (zI (i 0)), .ref (q 0), .int (zI (i 1)), .int (zI (i 2)), .int (zI (i 3)), .int (zI (i 4)), .int (zI (i 5)), .int (zI (i 6)), .int (zI (i 7)), .int (zI (i 8)), .int (zI (i 9)), .int (zI (i 10)), .ref (q 1), .int (zI (i 11)), .int (zI (i 12)), .ref (q 2), .ref (q 3), .ref (q 4), .ref (q 5), .ref (q 6), .ref (q 7), .ref (q 8), .ref (q 9), .ref (q 10), .ref (q 11), .ref (q 12), .ref (q 13), .ref (q 14), .ref (q 15), .ref (q 16), .int (zI (i 13)), .int (zI (i 14)), .int (zI (i 15)), .int (zI (i 16)), .int (zI (i 17)), .int (zI (i 18)), .ref (q 17), .ref (q 18), .ref (q 19), .ref (q 20)])), (a, .inl (cI, 200, .inl (fun k => zI (g_p k)))), (f, .inl (cI, 200, .inl (fun k => zI (gz9 k))))]) (fun _ => rfl) (fun r142 u141 H locs hp143 hP hD hS => ?_)
          obtain ⟨z144, rfl, h_z144⟩ := hp143
          refine rz_iastG F hK hP hD hS 2 0 rfl rfl (by omega) (by omega) dX9_merge_128 (w1 := fun g145 => [(y, .inr (9, [.int (zI (i 0)), .ref (q 0), .int (zI (i 1)), .int (zI (i 2)), .int (zI (i 3)), .int (zI (i 4)), .int (zI (i 5)), .int (zI (i 6)), .int (zI (i 7)), .int (zI (i 8)), .int (zI (i 9)), .int (zI (i 10)), .ref (q 1), .int (zI (i 11)), .int (zI (i 12)), .ref (q 2), .ref (q 3), .ref (q 4), .ref (q 5), .ref (q 6), .ref (q 7), .ref (q 8), .ref (q 9), .ref (q 10), .ref (q 11), .ref (q 12), .ref (q 13), .ref (q 14), .ref (q 15), .ref (q 16), .int (zI (i 13)), .int (zI (i 14)), .int (zI (i 15)), .int (zI (i 16)), .int (zI (i 17)), .int (zI (i 18)), .ref (q 17), .ref (q 18), .ref (q 19), .ref (q 20)])), (a, .inl (cI, 200, .inl (fun k => zI (g_p k)))), (f, .inl (cI, 200, .inl (fun k => zI (g145 k))))]) (fun _ => rfl) (fun g145 e_g145 H locs hP hD hS => ?_)
          have hqp146 : ProgOk g145 := ⟨hqp0.1.set (m := 9) e_g145 19 (by omega) rfl (by omega), hqp0.2.set e_g145 (by omega)⟩
          have hmt147 := hmt0.keep e_g145 (by omega)
          refine lv_iconst (v := zI 0) hx hb dX9_merge_129 rfl ?_
          have hms0 : Mst g_p x w (i 13) g145 0 0 := Mst.start (q := gz9) (q1 := gz9) hx8 hxw (fun k hk => by rw [hz9 k hk, show v5 = 20 by omega]) (Or.inr ⟨by omega, rfl⟩) (Or.inl ⟨by omega, (by rw [← (lessZ_eq h_z144)]; exact e_g145)⟩)
          refine lv_istore (lv' := [(5, .int (zI 0)), (0, .ref y), (1, .ref a), (2, .int (zI x)), (3, .int (zI w)), (4, .ref f)]) hx hb dX9_merge_130 hl (by decide) rfl (fun ls hl => ?_)
          refine W.widen (k := 0) (n := 0) (Nat.le_of_ble_eq_true rfl) (Nat.le_of_ble_eq_true rfl) ?_
          refine (?_ : ∀ (n9_2 : Nat) (v5 : Int) (gq1 : Nat → Int) (H : Heap) (locs : List Loc), (0 ≤ v5 ∧ v5 ≤ 10 ∧ v5 ≤ i 13) → (10 - v5 : Int).toNat < n9_2 → (ProgOk gq1) → (MT g_p gq1 w) → (Mst g_p x w (i 13) gq1 v5 0) → va_P G vwCl [(y, .inr (9, [.int (zI (i 0)), .ref (q 0), .int (zI (i 1)), .int (zI (i 2)), .int (zI (i 3)), .int (zI (i 4)), .int (zI (i 5)), .int (zI (i 6)), .int (zI (i 7)), .int (zI (i 8)), .int (zI (i 9)), .int (zI (i 10)), .ref (q 1), .int (zI (i 11)), .int (zI (i 12)), .ref (q 2), .ref (q 3), .ref (q 4), .ref (q 5), .ref (q 6), .ref (q 7), .ref (q 8), .ref (q 9), .ref (q 10), .ref (q 11), .ref (q 12), .ref (q 13), .ref (q 14), .ref (q 15), .ref (q 16), .int (zI (i 13)), .int (zI (i 14)), .int (zI (i 15)), .int (zI (i 16)), .int (zI (i 17)), .int (zI (i 18)), .ref (q 17), .ref (q 18), .ref (q 19), .ref (q 20)])), (a, .inl (cI, 200, .inl (fun k => zI (g_p k)))), (f, .inl (cI, 200, .inl (fun k => zI (gq1 k))))] H → va_D A [(y, .inr (9, [.int (zI (i 0)), .ref (q 0), .int (zI (i 1)), .int (zI (i 2)), .int (zI (i 3)), .int (zI (i 4)), .int (zI (i 5)), .int (zI (i 6)), .int (zI (i 7)), .int (zI (i 8)), .int (zI (i 9)), .int (zI (i 10)), .ref (q 1), .int (zI (i 11)), .int (zI (i 12)), .ref (q 2), .ref (q 3), .ref (q 4), .ref (q 5), .ref (q 6), .ref (q 7), .ref (q 8), .ref (q 9), .ref (q 10), .ref (q 11), .ref (q 12), .ref (q 13), .ref (q 14), .ref (q 15), .ref (q 16), .int (zI (i 13)), .int (zI (i 14)), .int (zI (i 15)), .int (zI (i 16)), .int (zI (i 17)), .int (zI (i 18)), .ref (q 17), .ref (q 18), .ref (q 19), .ref (q 20)])), (a, .inl (cI, 200, .inl (fun k => zI (g_p k)))), (f, .inl (cI, 200, .inl (fun k => zI (gq1 k))))] → va_S A s.heap H locs → ∀ ls : Array Slot, lv_has ls 8 [(5, .int (zI v5)), (0, .ref y), (1, .ref a), (2, .int (zI x)), (3, .int (zI w)), (4, .ref f)] → W p l e rm_X9_mergeX s m ([.ref y, .ref a, .int (zI x), .int (zI w), .ref f] : List Value).toArray below meth c H locs 0 0 Q (F0 m 132 ls [])) ((10 - 0 : Int).toNat + 1) 0 g145 _ _ (by omega) (by omega) hqp146 hmt147 hms0 hP hD hS ls hl
          clear hP hD hS hl ls
          intro n9_2
          induction n9_2 with
          | zero =>
            intro v5 gq1 H locs hI hM
            exact absurd hM (by omega)
          | succ n9_2 ih2 =>
            intro v5 gq1 H locs hI2 hM2 hqp1 hmt1 hms1 hP hD hS ls hl
            refine lv_iload hx hb dX9_merge_132 (lv_at hl 0 rfl) ?_
            refine lv_aload_n hx hb dX9_merge_134 rfl (lv_at hl 1 rfl) ?_
            refine r_get F hK hP 0 30 rfl rfl in_X9 (by decide) k_1193 rfl dX9_merge_135 ?_
            refine rz_icmp_ge (tgt := 302) F (by omega) (by omega) dX9_merge_138 (by decide) (fun h138_147 => ?_) (fun h138_147 => ?_)
            · exact ret (fun k => [((fun _ => 0), fun _ _ => 0), (fun _ => 0, fun _ => gq1)].getD k (fun _ => 0, fun _ _ => 0)) _ _ _ _ _ _ ⟨⟨hqp1, hmt1⟩, Mst.all hms1 (Or.inl (by omega)) (by omega)⟩ (bw_subP (isC := [0, 1, 2]) hP rfl) (hD.sub [0, 1, 2] (by decide) rfl) hS (Nat.le_of_ble_eq_true rfl) (Nat.le_of_ble_eq_true rfl) dX9_merge_302
            · refine lv_bipush (v := zI 20) hx hb dX9_merge_141 (by decide) ?_
              refine lv_iload hx hb dX9_merge_143 (lv_at hl 0 rfl) ?_
              refine r_imul (v := zI (20 * v5)) F dX9_merge_145 (zI_mul _ _) ?_
              refine lv_istore (lv' := [(6, .int (zI (20 * v5))), (5, .int (zI v5)), (0, .ref y), (1, .ref a), (2, .int (zI x)), (3, .int (zI w)), (4, .ref f)]) hx hb dX9_merge_146 hl (by decide) rfl (fun ls hl => ?_)
              refine lv_aload hx hb dX9_merge_148 (lv_at hl 6 rfl) ?_
              refine lv_iload hx hb dX9_merge_150 (lv_at hl 0 rfl) ?_
              refine lv_iconst (v := zI 0) hx hb dX9_merge_152 rfl ?_
              refine r_iadd (v := zI ((20 * v5) + 0)) F dX9_merge_153 (zI_add _ _) ?_
              refine rz_iald F hK hP 2 0 rfl rfl (by omega) (by omega) dX9_merge_154 ?_
              have hc149 := hqp1.1.pos (((20 * v5) + 0)).toNat (by omega)
              have hc150 := hqp1.1.le9 (((20 * v5) + 0)).toNat (by omega)
              refine rz_if_ne (tgt := 161) F (by omega) dX9_merge_155 (by decide) (fun h155_150 => ?_) (fun h155_150 => ?_)
              · refine lv_aload hx hb dX9_merge_161 (lv_at hl 6 rfl) ?_
                have hnw := Mst.told hms1 (by omega) (by omega)
                refine lv_iload hx hb dX9_merge_163 (lv_at hl 0 rfl) ?_
                refine lv_bipush (v := zI 14) hx hb dX9_merge_165 (by decide) ?_
                refine r_iadd (v := zI ((20 * v5) + 14)) F dX9_merge_167 (zI_add _ _) ?_
                refine rz_iald F hK hP 2 0 rfl rfl (by omega) (by omega) dX9_merge_168 ?_
                have hc152 := hqp1.1.pos (((20 * v5) + 14)).toNat (by omega)
                have hc153 := hqp1.1.le9 (((20 * v5) + 14)).toNat (by omega)
                refine rz_if_le (tgt := 193) F (by omega) dX9_merge_169 (by decide) (fun h169_153 => ?_) (fun h169_153 => ?_)
                · refine lv_aload hx hb dX9_merge_193 (lv_at hl 6 rfl) ?_
                  have hms6 : Mst g_p x w (i 13) gq1 v5 1 := Mst.s16 hms1 (by omega) hnw (by omega) (Or.inr ⟨by omega, rfl⟩)
                  refine lv_iload hx hb dX9_merge_195 (lv_at hl 0 rfl) ?_
                  refine lv_bipush (v := zI 14) hx hb dX9_merge_197 (by decide) ?_
                  refine r_iadd (v := zI ((20 * v5) + 14)) F dX9_merge_199 (zI_add _ _) ?_
                  refine rz_iald F hK hP 2 0 rfl rfl (by omega) (by omega) dX9_merge_200 ?_
                  have hc155 := hqp1.1.pos (((20 * v5) + 14)).toNat (by omega)
                  have hc156 := hqp1.1.le9 (((20 * v5) + 14)).toNat (by omega)
                  refine lv_iconst (v := zI 2) hx hb dX9_merge_201 rfl ?_
                  refine rz_icmp_ne (tgt := 226) F (by omega) (by omega) dX9_merge_202 (by decide) (fun h202_156 => ?_) (fun h202_156 => ?_)
                  · refine lv_iconst (v := zI 0) hx hb dX9_merge_226 rfl ?_
                    have hms8 : Mst g_p x w (i 13) gq1 v5 (3 + 0) := Mst.s18 hms6 (by omega) hnw (by omega) (Or.inr ⟨by omega, rfl⟩)
                    refine lv_istore (lv' := [(7, .int (zI 0)), (6, .int (zI (20 * v5))), (5, .int (zI v5)), (0, .ref y), (1, .ref a), (2, .int (zI x)), (3, .int (zI w)), (4, .ref f)]) hx hb dX9_merge_227 hl (by decide) rfl (fun ls hl => ?_)
                    refine W.widen (k := 0) (n := 0) (Nat.le_of_ble_eq_true rfl) (Nat.le_of_ble_eq_true rfl) ?_
                    refine (?_ : ∀ (n9_3 : Nat) (v7 : Int) (gq2 : Nat → Int) (H : Heap) (locs : List Loc), (0 ≤ v7 ∧ v7 ≤ 4) → (4 - v7 : Int).toNat < n9_3 → (ProgOk gq2) → (MT g_p gq2 w) → (Mst g_p x w (i 13) gq2 v5 (3 + v7)) → va_P G vwCl [(y, .inr (9, [.int (zI (i 0)), .ref (q 0), .int (zI (i 1)), .int (zI (i 2)), .int (zI (i 3)), .int (zI (i 4)), .int (zI (i 5)), .int (zI (i 6)), .int (zI (i 7)), .int (zI (i 8)), .int (zI (i 9)), .int (zI (i 10)), .ref (q 1), .int (zI (i 11)), .int (zI (i 12)), .ref (q 2), .ref (q 3), .ref (q 4), .ref (q 5), .ref (q 6), .ref (q 7), .ref (q 8), .ref (q 9), .ref (q 10), .ref (q 11), .ref (q 12), .ref (q 13), .ref (q 14), .ref (q 15), .ref (q 16), .int (zI (i 13)), .int (zI (i 14)), .int (zI (i 15)), .int (zI (i 16)), .int (zI (i 17)), .int (zI (i 18)), .ref (q 17), .ref (q 18), .ref (q 19), .ref (q 20)])), (a, .inl (cI, 200, .inl (fun k => zI (g_p k)))), (f, .inl (cI, 200, .inl (fun k => zI (gq2 k))))] H → va_D A [(y, .inr (9, [.int (zI (i 0)), .ref (q 0), .int (zI (i 1)), .int (zI (i 2)), .int (zI (i 3)), .int (zI (i 4)), .int (zI (i 5)), .int (zI (i 6)), .int (zI (i 7)), .int (zI (i 8)), .int (zI (i 9)), .int (zI (i 10)), .ref (q 1), .int (zI (i 11)), .int (zI (i 12)), .ref (q 2), .ref (q 3), .ref (q 4), .ref (q 5), .ref (q 6), .ref (q 7), .ref (q 8), .ref (q 9), .ref (q 10), .ref (q 11), .ref (q 12), .ref (q 13), .ref (q 14), .ref (q 15), .ref (q 16), .int (zI (i 13)), .int (zI (i 14)), .int (zI (i 15)), .int (zI (i 16)), .int (zI (i 17)), .int (zI (i 18)), .ref (q 17), .ref (q 18), .ref (q 19), .ref (q 20)])), (a, .inl (cI, 200, .inl (fun k => zI (g_p k)))), (f, .inl (cI, 200, .inl (fun k => zI (gq2 k))))] → va_S A s.heap H locs → ∀ ls : Array Slot, lv_has ls 8 [(7, .int (zI v7)), (6, .int (zI (20 * v5))), (5, .int (zI v5)), (0, .ref y), (1, .ref a), (2, .int (zI x)), (3, .int (zI w)), (4, .ref f)] → W p l e rm_X9_mergeX s m ([.ref y, .ref a, .int (zI x), .int (zI w), .ref f] : List Value).toArray below meth c H locs 0 0 Q (F0 m 229 ls [])) ((4 - 0 : Int).toNat + 1) 0 gq1 _ _ (by omega) (by omega) hqp1 hmt1 hms8 hP hD hS ls hl
                    clear hP hD hS hl ls
                    intro n9_3
                    induction n9_3 with
                    | zero =>
                      intro v7 gq2 H locs hI hM
                      exact absurd hM (by omega)
                    | succ n9_3 ih3 =>
                      intro v7 gq2 H locs hI3 hM3 hqp2 hmt2 hms2 hP hD hS ls hl
                      refine lv_iload hx hb dX9_merge_229 (lv_at hl 0 rfl) ?_
                      refine lv_aload hx hb dX9_merge_231 (lv_at hl 7 rfl) ?_
                      refine lv_iload hx hb dX9_merge_233 (lv_at hl 1 rfl) ?_
                      refine lv_iconst (v := zI 1) hx hb dX9_merge_235 rfl ?_
                      refine r_iadd (v := zI ((20 * v5) + 1)) F dX9_merge_236 (zI_add _ _) ?_
                      refine rz_iald F hK hP 2 0 rfl rfl (by omega) (by omega) dX9_merge_237 ?_
                      have hpl158 : 0 ≤ (gq2 (((20 * v5) + 1)).toNat) ∧ (gq2 (((20 * v5) + 1)).toNat) ≤ 4 := ProgR.at hqp2.1 (e := ((20 * v5) + 1)) v5 1 (by omega) (by omega) (by decide) rfl
                      refine rz_icmp_ge (tgt := 296) F (by omega) (by omega) dX9_merge_238 (by decide) (fun h238_158 => ?_) (fun h238_158 => ?_)
                      · refine lv_iinc (v := zI (v5 + 1)) (lv' := [(5, .int (zI (v5 + 1))), (7, .int (zI v7)), (6, .int (zI (20 * v5))), (0, .ref y), (1, .ref a), (2, .int (zI x)), (3, .int (zI w)), (4, .ref f)]) hx hb dX9_merge_296 hl (k := 2) rfl (zI_add _ _) (by decide) rfl (fun ls hl => ?_)
                        refine lv_goto (tgt := 132) hx hb dX9_merge_299 (by decide) ?_
                        exact ih2 (v5 + 1) gq2 _ _ (by omega) (by omega) hqp2 hmt2 (Mst.fin hms2 (by omega) hnw ⟨by omega, by omega⟩) hP hD hS ls (lv_sub hl [0, 3, 4, 5, 6, 7] rfl)
                      · refine lv_aload hx hb dX9_merge_241 (lv_at hl 7 rfl) ?_
                        refine lv_iload hx hb dX9_merge_243 (lv_at hl 1 rfl) ?_
                        refine lv_iconst (v := zI 2) hx hb dX9_merge_245 rfl ?_
                        refine r_iadd (v := zI ((20 * v5) + 2)) F dX9_merge_246 (zI_add _ _) ?_
                        refine lv_iconst (v := zI 3) hx hb dX9_merge_247 rfl ?_
                        refine lv_iload hx hb dX9_merge_248 (lv_at hl 0 rfl) ?_
                        refine r_imul (v := zI (3 * v7)) F dX9_merge_250 (zI_mul _ _) ?_
                        refine r_iadd (v := zI (((20 * v5) + 2) + (3 * v7))) F dX9_merge_251 (zI_add _ _) ?_
                        refine rz_iald F hK hP 2 0 rfl rfl (by omega) (by omega) dX9_merge_252 ?_
                        have hc160 := ProgOk.act hqp2 (i := v5) (n := v7) (k := (((20 * v5) + 2) + (3 * v7))) (by omega) (by omega) (by omega)
                        refine lv_iconst (v := zI 3) hx hb dX9_merge_253 rfl ?_
                        refine rz_icmp_ne (tgt := 290) F (by omega) (by omega) dX9_merge_254 (by decide) (fun h254_160 => ?_) (fun h254_160 => ?_)
                        · refine lv_iinc (v := zI (v7 + 1)) (lv' := [(7, .int (zI (v7 + 1))), (6, .int (zI (20 * v5))), (5, .int (zI v5)), (0, .ref y), (1, .ref a), (2, .int (zI x)), (3, .int (zI w)), (4, .ref f)]) hx hb dX9_merge_290 hl (k := 0) rfl (zI_add _ _) (by decide) rfl (fun ls hl => ?_)
                          refine lv_goto (tgt := 229) hx hb dX9_merge_293 (by decide) ?_
                          exact ih3 (v7 + 1) gq2 _ _ (by omega) (by omega) hqp2 hmt2 (Mst.sA hms2 (by omega) hnw (by omega) ⟨by omega, by omega⟩ (Or.inr ⟨by omega, rfl⟩)) hP hD hS ls (lv_sub hl [0, 1, 2, 3, 4, 5, 6, 7] rfl)
                        · refine lv_aload hx hb dX9_merge_257 (lv_at hl 7 rfl) ?_
                          refine lv_iload hx hb dX9_merge_259 (lv_at hl 1 rfl) ?_
                          refine lv_iconst (v := zI 2) hx hb dX9_merge_261 rfl ?_
                          refine r_iadd (v := zI ((20 * v5) + 2)) F dX9_merge_262 (zI_add _ _) ?_
                          refine lv_iconst (v := zI 3) hx hb dX9_merge_263 rfl ?_
                          refine lv_iload hx hb dX9_merge_264 (lv_at hl 0 rfl) ?_
                          refine r_imul (v := zI (3 * v7)) F dX9_merge_266 (zI_mul _ _) ?_
                          refine r_iadd (v := zI (((20 * v5) + 2) + (3 * v7))) F dX9_merge_267 (zI_add _ _) ?_
                          refine lv_iconst (v := zI 1) hx hb dX9_merge_268 rfl ?_
                          refine r_iadd (v := zI ((((20 * v5) + 2) + (3 * v7)) + 1)) F dX9_merge_269 (zI_add _ _) ?_
                          refine rz_iald F hK hP 2 0 rfl rfl (by omega) (by omega) dX9_merge_270 ?_
                          have hc162 := hqp2.1.pos (((((20 * v5) + 2) + (3 * v7)) + 1)).toNat (by omega)
                          have hc163 := hqp2.1.le9 (((((20 * v5) + 2) + (3 * v7)) + 1)).toNat (by omega)
                          refine lv_iload_n hx hb dX9_merge_271 rfl (lv_at hl 6 rfl) ?_
                          refine rz_icmp_ne (tgt := 290) F (by omega) (by omega) dX9_merge_272 (by decide) (fun h272_163 => ?_) (fun h272_163 => ?_)
                          · refine lv_iinc (v := zI (v7 + 1)) (lv' := [(7, .int (zI (v7 + 1))), (6, .int (zI (20 * v5))), (5, .int (zI v5)), (0, .ref y), (1, .ref a), (2, .int (zI x)), (3, .int (zI w)), (4, .ref f)]) hx hb dX9_merge_290 hl (k := 0) rfl (zI_add _ _) (by decide) rfl (fun ls hl => ?_)
                            refine lv_goto (tgt := 229) hx hb dX9_merge_293 (by decide) ?_
                            exact ih3 (v7 + 1) gq2 _ _ (by omega) (by omega) hqp2 hmt2 (Mst.sA hms2 (by omega) hnw (by omega) ⟨by omega, by omega⟩ (Or.inr ⟨by omega, rfl⟩)) hP hD hS ls (lv_sub hl [0, 1, 2, 3, 4, 5, 6, 7] rfl)
                          · refine lv_aload hx hb dX9_merge_275 (lv_at hl 7 rfl) ?_
                            refine lv_iload hx hb dX9_merge_277 (lv_at hl 1 rfl) ?_
                            refine lv_iconst (v := zI 2) hx hb dX9_merge_279 rfl ?_
                            refine r_iadd (v := zI ((20 * v5) + 2)) F dX9_merge_280 (zI_add _ _) ?_
                            refine lv_iconst (v := zI 3) hx hb dX9_merge_281 rfl ?_
                            refine lv_iload hx hb dX9_merge_282 (lv_at hl 0 rfl) ?_
                            refine r_imul (v := zI (3 * v7)) F dX9_merge_284 (zI_mul _ _) ?_
                            refine r_iadd (v := zI (((20 * v5) + 2) + (3 * v7))) F dX9_merge_285 (zI_add _ _) ?_
                            refine lv_iconst (v := zI 1) hx hb dX9_merge_286 rfl ?_
                            refine r_iadd (v := zI ((((20 * v5) + 2) + (3 * v7)) + 1)) F dX9_merge_287 (zI_add _ _) ?_
                            refine lv_iload_n hx hb dX9_merge_288 rfl (lv_at hl 5 rfl) ?_
                            refine rz_iastG F hK hP hD hS 2 0 rfl rfl (by omega) (by omega) dX9_merge_289 (w1 := fun g165 => [(y, .inr (9, [.int (zI (i 0)), .ref (q 0), .int (zI (i 1)), .int (zI (i 2)), .int (zI (i 3)), .int (zI (i 4)), .int (zI (i 5)), .int (zI (i 6)), .int (zI (i 7)), .int (zI (i 8)), .int (zI (i 9)), .int (zI (i 10)), .ref (q 1), .int (zI (i 11)), .int (zI (i 12)), .ref (q 2), .ref (q 3), .ref (q 4), .ref (q 5), .ref (q 6), .ref (q 7), .ref (q 8), .ref (q 9), .ref (q 10), .ref (q 11), .ref (q 12), .ref (q 13), .ref (q 14), .ref (q 15), .ref (q 16), .int (zI (i 13)), .int (zI (i 14)), .int (zI (i 15)), .int (zI (i 16)), .int (zI (i 17)), .int (zI (i 18)), .ref (q 17), .ref (q 18), .ref (q 19), .ref (q 20)])), (a, .inl (cI, 200, .inl (fun k => zI (g_p k)))), (f, .inl (cI, 200, .inl (fun k => zI (g165 k))))]) (fun _ => rfl) (fun g165 e_g165 H locs hP hD hS => ?_)
                            have hqp166 : ProgOk g165 := ProgOk.tgt3 hqp2 e_g165 (i := v5) (n := v7) (by omega) (by omega) (by omega) (by omega) (j := (((20 * v5) + 2) + (3 * v7)).toNat) (by omega) (by omega)
                            have hmt167 := MT.keepA hmt2 e_g165 (i := v5) (n := v7) (by omega) (by omega) (by omega)
                            refine lv_iinc (v := zI (v7 + 1)) (lv' := [(7, .int (zI (v7 + 1))), (6, .int (zI (20 * v5))), (5, .int (zI v5)), (0, .ref y), (1, .ref a), (2, .int (zI x)), (3, .int (zI w)), (4, .ref f)]) hx hb dX9_merge_290 hl (k := 0) rfl (zI_add _ _) (by decide) rfl (fun ls hl => ?_)
                            refine lv_goto (tgt := 229) hx hb dX9_merge_293 (by decide) ?_
                            exact ih3 (v7 + 1) g165 _ _ (by omega) (by omega) hqp166 hmt167 (Mst.sA hms2 (by omega) hnw (by omega) ⟨by omega, by omega⟩ (Or.inl ⟨by omega, by omega, e_g165⟩)) hP hD hS ls (lv_sub hl [0, 1, 2, 3, 4, 5, 6, 7] rfl)
                  · refine lv_aload hx hb dX9_merge_205 (lv_at hl 6 rfl) ?_
                    refine lv_iload hx hb dX9_merge_207 (lv_at hl 0 rfl) ?_
                    refine lv_bipush (v := zI 18) hx hb dX9_merge_209 (by decide) ?_
                    refine r_iadd (v := zI ((20 * v5) + 18)) F dX9_merge_211 (zI_add _ _) ?_
                    refine rz_iald F hK hP 2 0 rfl rfl (by omega) (by omega) dX9_merge_212 ?_
                    have hc168 := hqp1.1.pos (((20 * v5) + 18)).toNat (by omega)
                    have hc169 := hqp1.1.le9 (((20 * v5) + 18)).toNat (by omega)
                    refine lv_iload_n hx hb dX9_merge_213 rfl (lv_at hl 5 rfl) ?_
                    refine rz_icmp_ne (tgt := 226) F (by omega) (by omega) dX9_merge_214 (by decide) (fun h214_169 => ?_) (fun h214_169 => ?_)
                    · refine lv_iconst (v := zI 0) hx hb dX9_merge_226 rfl ?_
                      have hms8 : Mst g_p x w (i 13) gq1 v5 (3 + 0) := Mst.s18 hms6 (by omega) hnw (by omega) (Or.inr ⟨by omega, rfl⟩)
                      refine lv_istore (lv' := [(7, .int (zI 0)), (6, .int (zI (20 * v5))), (5, .int (zI v5)), (0, .ref y), (1, .ref a), (2, .int (zI x)), (3, .int (zI w)), (4, .ref f)]) hx hb dX9_merge_227 hl (by decide) rfl (fun ls hl => ?_)
                      refine W.widen (k := 0) (n := 0) (Nat.le_of_ble_eq_true rfl) (Nat.le_of_ble_eq_true rfl) ?_
                      refine (?_ : ∀ (n9_3 : Nat) (v7 : Int) (gq2 : Nat → Int) (H : Heap) (locs : List Loc), (0 ≤ v7 ∧ v7 ≤ 4) → (4 - v7 : Int).toNat < n9_3 → (ProgOk gq2) → (MT g_p gq2 w) → (Mst g_p x w (i 13) gq2 v5 (3 + v7)) → va_P G vwCl [(y, .inr (9, [.int (zI (i 0)), .ref (q 0), .int (zI (i 1)), .int (zI (i 2)), .int (zI (i 3)), .int (zI (i 4)), .int (zI (i 5)), .int (zI (i 6)), .int (zI (i 7)), .int (zI (i 8)), .int (zI (i 9)), .int (zI (i 10)), .ref (q 1), .int (zI (i 11)), .int (zI (i 12)), .ref (q 2), .ref (q 3), .ref (q 4), .ref (q 5), .ref (q 6), .ref (q 7), .ref (q 8), .ref (q 9), .ref (q 10), .ref (q 11), .ref (q 12), .ref (q 13), .ref (q 14), .ref (q 15), .ref (q 16), .int (zI (i 13)), .int (zI (i 14)), .int (zI (i 15)), .int (zI (i 16)), .int (zI (i 17)), .int (zI (i 18)), .ref (q 17), .ref (q 18), .ref (q 19), .ref (q 20)])), (a, .inl (cI, 200, .inl (fun k => zI (g_p k)))), (f, .inl (cI, 200, .inl (fun k => zI (gq2 k))))] H → va_D A [(y, .inr (9, [.int (zI (i 0)), .ref (q 0), .int (zI (i 1)), .int (zI (i 2)), .int (zI (i 3)), .int (zI (i 4)), .int (zI (i 5)), .int (zI (i 6)), .int (zI (i 7)), .int (zI (i 8)), .int (zI (i 9)), .int (zI (i 10)), .ref (q 1), .int (zI (i 11)), .int (zI (i 12)), .ref (q 2), .ref (q 3), .ref (q 4), .ref (q 5), .ref (q 6), .ref (q 7), .ref (q 8), .ref (q 9), .ref (q 10), .ref (q 11), .ref (q 12), .ref (q 13), .ref (q 14), .ref (q 15), .ref (q 16), .int (zI (i 13)), .int (zI (i 14)), .int (zI (i 15)), .int (zI (i 16)), .int (zI (i 17)), .int (zI (i 18)), .ref (q 17), .ref (q 18), .ref (q 19), .ref (q 20)])), (a, .inl (cI, 200, .inl (fun k => zI (g_p k)))), (f, .inl (cI, 200, .inl (fun k => zI (gq2 k))))] → va_S A s.heap H locs → ∀ ls : Array Slot, lv_has ls 8 [(7, .int (zI v7)), (6, .int (zI (20 * v5))), (5, .int (zI v5)), (0, .ref y), (1, .ref a), (2, .int (zI x)), (3, .int (zI w)), (4, .ref f)] → W p l e rm_X9_mergeX s m ([.ref y, .ref a, .int (zI x), .int (zI w), .ref f] : List Value).toArray below meth c H locs 0 0 Q (F0 m 229 ls [])) ((4 - 0 : Int).toNat + 1) 0 gq1 _ _ (by omega) (by omega) hqp1 hmt1 hms8 hP hD hS ls hl
                      clear hP hD hS hl ls
                      intro n9_3
                      induction n9_3 with
                      | zero =>
                        intro v7 gq2 H locs hI hM
                        exact absurd hM (by omega)
                      | succ n9_3 ih3 =>
                        intro v7 gq2 H locs hI3 hM3 hqp2 hmt2 hms2 hP hD hS ls hl
                        refine lv_iload hx hb dX9_merge_229 (lv_at hl 0 rfl) ?_
                        refine lv_aload hx hb dX9_merge_231 (lv_at hl 7 rfl) ?_
                        refine lv_iload hx hb dX9_merge_233 (lv_at hl 1 rfl) ?_
                        refine lv_iconst (v := zI 1) hx hb dX9_merge_235 rfl ?_
                        refine r_iadd (v := zI ((20 * v5) + 1)) F dX9_merge_236 (zI_add _ _) ?_
                        refine rz_iald F hK hP 2 0 rfl rfl (by omega) (by omega) dX9_merge_237 ?_
                        have hpl171 : 0 ≤ (gq2 (((20 * v5) + 1)).toNat) ∧ (gq2 (((20 * v5) + 1)).toNat) ≤ 4 := ProgR.at hqp2.1 (e := ((20 * v5) + 1)) v5 1 (by omega) (by omega) (by decide) rfl
                        refine rz_icmp_ge (tgt := 296) F (by omega) (by omega) dX9_merge_238 (by decide) (fun h238_171 => ?_) (fun h238_171 => ?_)
                        · refine lv_iinc (v := zI (v5 + 1)) (lv' := [(5, .int (zI (v5 + 1))), (7, .int (zI v7)), (6, .int (zI (20 * v5))), (0, .ref y), (1, .ref a), (2, .int (zI x)), (3, .int (zI w)), (4, .ref f)]) hx hb dX9_merge_296 hl (k := 2) rfl (zI_add _ _) (by decide) rfl (fun ls hl => ?_)
                          refine lv_goto (tgt := 132) hx hb dX9_merge_299 (by decide) ?_
                          exact ih2 (v5 + 1) gq2 _ _ (by omega) (by omega) hqp2 hmt2 (Mst.fin hms2 (by omega) hnw ⟨by omega, by omega⟩) hP hD hS ls (lv_sub hl [0, 3, 4, 5, 6, 7] rfl)
                        · refine lv_aload hx hb dX9_merge_241 (lv_at hl 7 rfl) ?_
                          refine lv_iload hx hb dX9_merge_243 (lv_at hl 1 rfl) ?_
                          refine lv_iconst (v := zI 2) hx hb dX9_merge_245 rfl ?_
                          refine r_iadd (v := zI ((20 * v5) + 2)) F dX9_merge_246 (zI_add _ _) ?_
                          refine lv_iconst (v := zI 3) hx hb dX9_merge_247 rfl ?_
                          refine lv_iload hx hb dX9_merge_248 (lv_at hl 0 rfl) ?_
                          refine r_imul (v := zI (3 * v7)) F dX9_merge_250 (zI_mul _ _) ?_
                          refine r_iadd (v := zI (((20 * v5) + 2) + (3 * v7))) F dX9_merge_251 (zI_add _ _) ?_
                          refine rz_iald F hK hP 2 0 rfl rfl (by omega) (by omega) dX9_merge_252 ?_
                          have hc173 := ProgOk.act hqp2 (i := v5) (n := v7) (k := (((20 * v5) + 2) + (3 * v7))) (by omega) (by omega) (by omega)
                          refine lv_iconst (v := zI 3) hx hb dX9_merge_253 rfl ?_
                          refine rz_icmp_ne (tgt := 290) F (by omega) (by omega) dX9_merge_254 (by decide) (fun h254_173 => ?_) (fun h254_173 => ?_)
                          · refine lv_iinc (v := zI (v7 + 1)) (lv' := [(7, .int (zI (v7 + 1))), (6, .int (zI (20 * v5))), (5, .int (zI v5)), (0, .ref y), (1, .ref a), (2, .int (zI x)), (3, .int (zI w)), (4, .ref f)]) hx hb dX9_merge_290 hl (k := 0) rfl (zI_add _ _) (by decide) rfl (fun ls hl => ?_)
                            refine lv_goto (tgt := 229) hx hb dX9_merge_293 (by decide) ?_
                            exact ih3 (v7 + 1) gq2 _ _ (by omega) (by omega) hqp2 hmt2 (Mst.sA hms2 (by omega) hnw (by omega) ⟨by omega, by omega⟩ (Or.inr ⟨by omega, rfl⟩)) hP hD hS ls (lv_sub hl [0, 1, 2, 3, 4, 5, 6, 7] rfl)
                          · refine lv_aload hx hb dX9_merge_257 (lv_at hl 7 rfl) ?_
                            refine lv_iload hx hb dX9_merge_259 (lv_at hl 1 rfl) ?_
                            refine lv_iconst (v := zI 2) hx hb dX9_merge_261 rfl ?_
                            refine r_iadd (v := zI ((20 * v5) + 2)) F dX9_merge_262 (zI_add _ _) ?_
                            refine lv_iconst (v := zI 3) hx hb dX9_merge_263 rfl ?_
                            refine lv_iload hx hb dX9_merge_264 (lv_at hl 0 rfl) ?_
                            refine r_imul (v := zI (3 * v7)) F dX9_merge_266 (zI_mul _ _) ?_
                            refine r_iadd (v := zI (((20 * v5) + 2) + (3 * v7))) F dX9_merge_267 (zI_add _ _) ?_
                            refine lv_iconst (v := zI 1) hx hb dX9_merge_268 rfl ?_
                            refine r_iadd (v := zI ((((20 * v5) + 2) + (3 * v7)) + 1)) F dX9_merge_269 (zI_add _ _) ?_
                            refine rz_iald F hK hP 2 0 rfl rfl (by omega) (by omega) dX9_merge_270 ?_
                            have hc175 := hqp2.1.pos (((((20 * v5) + 2) + (3 * v7)) + 1)).toNat (by omega)
                            have hc176 := hqp2.1.le9 (((((20 * v5) + 2) + (3 * v7)) + 1)).toNat (by omega)
                            refine lv_iload_n hx hb dX9_merge_271 rfl (lv_at hl 6 rfl) ?_
                            refine rz_icmp_ne (tgt := 290) F (by omega) (by omega) dX9_merge_272 (by decide) (fun h272_176 => ?_) (fun h272_176 => ?_)
                            · refine lv_iinc (v := zI (v7 + 1)) (lv' := [(7, .int (zI (v7 + 1))), (6, .int (zI (20 * v5))), (5, .int (zI v5)), (0, .ref y), (1, .ref a), (2, .int (zI x)), (3, .int (zI w)), (4, .ref f)]) hx hb dX9_merge_290 hl (k := 0) rfl (zI_add _ _) (by decide) rfl (fun ls hl => ?_)
                              refine lv_goto (tgt := 229) hx hb dX9_merge_293 (by decide) ?_
                              exact ih3 (v7 + 1) gq2 _ _ (by omega) (by omega) hqp2 hmt2 (Mst.sA hms2 (by omega) hnw (by omega) ⟨by omega, by omega⟩ (Or.inr ⟨by omega, rfl⟩)) hP hD hS ls (lv_sub hl [0, 1, 2, 3, 4, 5, 6, 7] rfl)
                            · refine lv_aload hx hb dX9_merge_275 (lv_at hl 7 rfl) ?_
                              refine lv_iload hx hb dX9_merge_277 (lv_at hl 1 rfl) ?_
                              refine lv_iconst (v := zI 2) hx hb dX9_merge_279 rfl ?_
                              refine r_iadd (v := zI ((20 * v5) + 2)) F dX9_merge_280 (zI_add _ _) ?_
                              refine lv_iconst (v := zI 3) hx hb dX9_merge_281 rfl ?_
                              refine lv_iload hx hb dX9_merge_282 (lv_at hl 0 rfl) ?_
                              refine r_imul (v := zI (3 * v7)) F dX9_merge_284 (zI_mul _ _) ?_
                              refine r_iadd (v := zI (((20 * v5) + 2) + (3 * v7))) F dX9_merge_285 (zI_add _ _) ?_
                              refine lv_iconst (v := zI 1) hx hb dX9_merge_286 rfl ?_
                              refine r_iadd (v := zI ((((20 * v5) + 2) + (3 * v7)) + 1)) F dX9_merge_287 (zI_add _ _) ?_
                              refine lv_iload_n hx hb dX9_merge_288 rfl (lv_at hl 5 rfl) ?_
                              refine rz_iastG F hK hP hD hS 2 0 rfl rfl (by omega) (by omega) dX9_merge_289 (w1 := fun g178 => [(y, .inr (9, [.int (zI (i 0)), .ref (q 0), .int (zI (i 1)), .int (zI (i 2)), .int (zI (i 3)), .int (zI (i 4)), .int (zI (i 5)), .int (zI (i 6)), .int (zI (i 7)), .int (zI (i 8)), .int (zI (i 9)), .int (zI (i 10)), .ref (q 1), .int (zI (i 11)), .int (zI (i 12)), .ref (q 2), .ref (q 3), .ref (q 4), .ref (q 5), .ref (q 6), .ref (q 7), .ref (q 8), .ref (q 9), .ref (q 10), .ref (q 11), .ref (q 12), .ref (q 13), .ref (q 14), .ref (q 15), .ref (q 16), .int (zI (i 13)), .int (zI (i 14)), .int (zI (i 15)), .int (zI (i 16)), .int (zI (i 17)), .int (zI (i 18)), .ref (q 17), .ref (q 18), .ref (q 19), .ref (q 20)])), (a, .inl (cI, 200, .inl (fun k => zI (g_p k)))), (f, .inl (cI, 200, .inl (fun k => zI (g178 k))))]) (fun _ => rfl) (fun g178 e_g178 H locs hP hD hS => ?_)
                              have hqp179 : ProgOk g178 := ProgOk.tgt3 hqp2 e_g178 (i := v5) (n := v7) (by omega) (by omega) (by omega) (by omega) (j := (((20 * v5) + 2) + (3 * v7)).toNat) (by omega) (by omega)
                              have hmt180 := MT.keepA hmt2 e_g178 (i := v5) (n := v7) (by omega) (by omega) (by omega)
                              refine lv_iinc (v := zI (v7 + 1)) (lv' := [(7, .int (zI (v7 + 1))), (6, .int (zI (20 * v5))), (5, .int (zI v5)), (0, .ref y), (1, .ref a), (2, .int (zI x)), (3, .int (zI w)), (4, .ref f)]) hx hb dX9_merge_290 hl (k := 0) rfl (zI_add _ _) (by decide) rfl (fun ls hl => ?_)
                              refine lv_goto (tgt := 229) hx hb dX9_merge_293 (by decide) ?_
                              exact ih3 (v7 + 1) g178 _ _ (by omega) (by omega) hqp179 hmt180 (Mst.sA hms2 (by omega) hnw (by omega) ⟨by omega, by omega⟩ (Or.inl ⟨by omega, by omega, e_g178⟩)) hP hD hS ls (lv_sub hl [0, 1, 2, 3, 4, 5, 6, 7] rfl)
                    · refine lv_aload hx hb dX9_merge_217 (lv_at hl 6 rfl) ?_
                      refine lv_iload hx hb dX9_merge_219 (lv_at hl 0 rfl) ?_
                      refine lv_bipush (v := zI 18) hx hb dX9_merge_221 (by decide) ?_
                      refine r_iadd (v := zI ((20 * v5) + 18)) F dX9_merge_223 (zI_add _ _) ?_
                      refine lv_iload_n hx hb dX9_merge_224 rfl (lv_at hl 4 rfl) ?_
                      refine rz_iastG F hK hP hD hS 2 0 rfl rfl (by omega) (by omega) dX9_merge_225 (w1 := fun g181 => [(y, .inr (9, [.int (zI (i 0)), .ref (q 0), .int (zI (i 1)), .int (zI (i 2)), .int (zI (i 3)), .int (zI (i 4)), .int (zI (i 5)), .int (zI (i 6)), .int (zI (i 7)), .int (zI (i 8)), .int (zI (i 9)), .int (zI (i 10)), .ref (q 1), .int (zI (i 11)), .int (zI (i 12)), .ref (q 2), .ref (q 3), .ref (q 4), .ref (q 5), .ref (q 6), .ref (q 7), .ref (q 8), .ref (q 9), .ref (q 10), .ref (q 11), .ref (q 12), .ref (q 13), .ref (q 14), .ref (q 15), .ref (q 16), .int (zI (i 13)), .int (zI (i 14)), .int (zI (i 15)), .int (zI (i 16)), .int (zI (i 17)), .int (zI (i 18)), .ref (q 17), .ref (q 18), .ref (q 19), .ref (q 20)])), (a, .inl (cI, 200, .inl (fun k => zI (g_p k)))), (f, .inl (cI, 200, .inl (fun k => zI (g181 k))))]) (fun _ => rfl) (fun g181 e_g181 H locs hP hD hS => ?_)
                      have hqp182 : ProgOk g181 := ⟨hqp1.1.set (m := 9) e_g181 18 (by omega) rfl (by omega), hqp1.2.set e_g181 (by omega)⟩
                      have hmt183 := hmt1.keep e_g181 (by omega)
                      refine lv_iconst (v := zI 0) hx hb dX9_merge_226 rfl ?_
                      have hms8 : Mst g_p x w (i 13) g181 v5 (3 + 0) := Mst.s18 hms6 (by omega) hnw (by omega) (Or.inl ⟨by omega, by omega, e_g181⟩)
                      refine lv_istore (lv' := [(7, .int (zI 0)), (6, .int (zI (20 * v5))), (5, .int (zI v5)), (0, .ref y), (1, .ref a), (2, .int (zI x)), (3, .int (zI w)), (4, .ref f)]) hx hb dX9_merge_227 hl (by decide) rfl (fun ls hl => ?_)
                      refine W.widen (k := 0) (n := 0) (Nat.le_of_ble_eq_true rfl) (Nat.le_of_ble_eq_true rfl) ?_
                      refine (?_ : ∀ (n9_3 : Nat) (v7 : Int) (gq2 : Nat → Int) (H : Heap) (locs : List Loc), (0 ≤ v7 ∧ v7 ≤ 4) → (4 - v7 : Int).toNat < n9_3 → (ProgOk gq2) → (MT g_p gq2 w) → (Mst g_p x w (i 13) gq2 v5 (3 + v7)) → va_P G vwCl [(y, .inr (9, [.int (zI (i 0)), .ref (q 0), .int (zI (i 1)), .int (zI (i 2)), .int (zI (i 3)), .int (zI (i 4)), .int (zI (i 5)), .int (zI (i 6)), .int (zI (i 7)), .int (zI (i 8)), .int (zI (i 9)), .int (zI (i 10)), .ref (q 1), .int (zI (i 11)), .int (zI (i 12)), .ref (q 2), .ref (q 3), .ref (q 4), .ref (q 5), .ref (q 6), .ref (q 7), .ref (q 8), .ref (q 9), .ref (q 10), .ref (q 11), .ref (q 12), .ref (q 13), .ref (q 14), .ref (q 15), .ref (q 16), .int (zI (i 13)), .int (zI (i 14)), .int (zI (i 15)), .int (zI (i 16)), .int (zI (i 17)), .int (zI (i 18)), .ref (q 17), .ref (q 18), .ref (q 19), .ref (q 20)])), (a, .inl (cI, 200, .inl (fun k => zI (g_p k)))), (f, .inl (cI, 200, .inl (fun k => zI (gq2 k))))] H → va_D A [(y, .inr (9, [.int (zI (i 0)), .ref (q 0), .int (zI (i 1)), .int (zI (i 2)), .int (zI (i 3)), .int (zI (i 4)), .int (zI (i 5)), .int (zI (i 6)), .int (zI (i 7)), .int (zI (i 8)), .int (zI (i 9)), .int (zI (i 10)), .ref (q 1), .int (zI (i 11)), .int (zI (i 12)), .ref (q 2), .ref (q 3), .ref (q 4), .ref (q 5), .ref (q 6), .ref (q 7), .ref (q 8), .ref (q 9), .ref (q 10), .ref (q 11), .ref (q 12), .ref (q 13), .ref (q 14), .ref (q 15), .ref (q 16), .int (zI (i 13)), .int (zI (i 14)), .int (zI (i 15)), .int (zI (i 16)), .int (zI (i 17)), .int (zI (i 18)), .ref (q 17), .ref (q 18), .ref (q 19), .ref (q 20)])), (a, .inl (cI, 200, .inl (fun k => zI (g_p k)))), (f, .inl (cI, 200, .inl (fun k => zI (gq2 k))))] → va_S A s.heap H locs → ∀ ls : Array Slot, lv_has ls 8 [(7, .int (zI v7)), (6, .int (zI (20 * v5))), (5, .int (zI v5)), (0, .ref y), (1, .ref a), (2, .int (zI x)), (3, .int (zI w)), (4, .ref f)] → W p l e rm_X9_mergeX s m ([.ref y, .ref a, .int (zI x), .int (zI w), .ref f] : List Value).toArray below meth c H locs 0 0 Q (F0 m 229 ls [])) ((4 - 0 : Int).toNat + 1) 0 g181 _ _ (by omega) (by omega) hqp182 hmt183 hms8 hP hD hS ls hl
                      clear hP hD hS hl ls
                      intro n9_3
                      induction n9_3 with
                      | zero =>
                        intro v7 gq2 H locs hI hM
                        exact absurd hM (by omega)
                      | succ n9_3 ih3 =>
                        intro v7 gq2 H locs hI3 hM3 hqp2 hmt2 hms2 hP hD hS ls hl
                        refine lv_iload hx hb dX9_merge_229 (lv_at hl 0 rfl) ?_
                        refine lv_aload hx hb dX9_merge_231 (lv_at hl 7 rfl) ?_
                        refine lv_iload hx hb dX9_merge_233 (lv_at hl 1 rfl) ?_
                        refine lv_iconst (v := zI 1) hx hb dX9_merge_235 rfl ?_
                        refine r_iadd (v := zI ((20 * v5) + 1)) F dX9_merge_236 (zI_add _ _) ?_
                        refine rz_iald F hK hP 2 0 rfl rfl (by omega) (by omega) dX9_merge_237 ?_
                        have hpl184 : 0 ≤ (gq2 (((20 * v5) + 1)).toNat) ∧ (gq2 (((20 * v5) + 1)).toNat) ≤ 4 := ProgR.at hqp2.1 (e := ((20 * v5) + 1)) v5 1 (by omega) (by omega) (by decide) rfl
                        refine rz_icmp_ge (tgt := 296) F (by omega) (by omega) dX9_merge_238 (by decide) (fun h238_184 => ?_) (fun h238_184 => ?_)
                        · refine lv_iinc (v := zI (v5 + 1)) (lv' := [(5, .int (zI (v5 + 1))), (7, .int (zI v7)), (6, .int (zI (20 * v5))), (0, .ref y), (1, .ref a), (2, .int (zI x)), (3, .int (zI w)), (4, .ref f)]) hx hb dX9_merge_296 hl (k := 2) rfl (zI_add _ _) (by decide) rfl (fun ls hl => ?_)
                          refine lv_goto (tgt := 132) hx hb dX9_merge_299 (by decide) ?_
                          exact ih2 (v5 + 1) gq2 _ _ (by omega) (by omega) hqp2 hmt2 (Mst.fin hms2 (by omega) hnw ⟨by omega, by omega⟩) hP hD hS ls (lv_sub hl [0, 3, 4, 5, 6, 7] rfl)
                        · refine lv_aload hx hb dX9_merge_241 (lv_at hl 7 rfl) ?_
                          refine lv_iload hx hb dX9_merge_243 (lv_at hl 1 rfl) ?_
                          refine lv_iconst (v := zI 2) hx hb dX9_merge_245 rfl ?_
                          refine r_iadd (v := zI ((20 * v5) + 2)) F dX9_merge_246 (zI_add _ _) ?_
                          refine lv_iconst (v := zI 3) hx hb dX9_merge_247 rfl ?_
                          refine lv_iload hx hb dX9_merge_248 (lv_at hl 0 rfl) ?_
                          refine r_imul (v := zI (3 * v7)) F dX9_merge_250 (zI_mul _ _) ?_
                          refine r_iadd (v := zI (((20 * v5) + 2) + (3 * v7))) F dX9_merge_251 (zI_add _ _) ?_
                          refine rz_iald F hK hP 2 0 rfl rfl (by omega) (by omega) dX9_merge_252 ?_
                          have hc186 := ProgOk.act hqp2 (i := v5) (n := v7) (k := (((20 * v5) + 2) + (3 * v7))) (by omega) (by omega) (by omega)
                          refine lv_iconst (v := zI 3) hx hb dX9_merge_253 rfl ?_
                          refine rz_icmp_ne (tgt := 290) F (by omega) (by omega) dX9_merge_254 (by decide) (fun h254_186 => ?_) (fun h254_186 => ?_)
                          · refine lv_iinc (v := zI (v7 + 1)) (lv' := [(7, .int (zI (v7 + 1))), (6, .int (zI (20 * v5))), (5, .int (zI v5)), (0, .ref y), (1, .ref a), (2, .int (zI x)), (3, .int (zI w)), (4, .ref f)]) hx hb dX9_merge_290 hl (k := 0) rfl (zI_add _ _) (by decide) rfl (fun ls hl => ?_)
                            refine lv_goto (tgt := 229) hx hb dX9_merge_293 (by decide) ?_
                            exact ih3 (v7 + 1) gq2 _ _ (by omega) (by omega) hqp2 hmt2 (Mst.sA hms2 (by omega) hnw (by omega) ⟨by omega, by omega⟩ (Or.inr ⟨by omega, rfl⟩)) hP hD hS ls (lv_sub hl [0, 1, 2, 3, 4, 5, 6, 7] rfl)
                          · refine lv_aload hx hb dX9_merge_257 (lv_at hl 7 rfl) ?_
                            refine lv_iload hx hb dX9_merge_259 (lv_at hl 1 rfl) ?_
                            refine lv_iconst (v := zI 2) hx hb dX9_merge_261 rfl ?_
                            refine r_iadd (v := zI ((20 * v5) + 2)) F dX9_merge_262 (zI_add _ _) ?_
                            refine lv_iconst (v := zI 3) hx hb dX9_merge_263 rfl ?_
                            refine lv_iload hx hb dX9_merge_264 (lv_at hl 0 rfl) ?_
                            refine r_imul (v := zI (3 * v7)) F dX9_merge_266 (zI_mul _ _) ?_
                            refine r_iadd (v := zI (((20 * v5) + 2) + (3 * v7))) F dX9_merge_267 (zI_add _ _) ?_
                            refine lv_iconst (v := zI 1) hx hb dX9_merge_268 rfl ?_
                            refine r_iadd (v := zI ((((20 * v5) + 2) + (3 * v7)) + 1)) F dX9_merge_269 (zI_add _ _) ?_
                            refine rz_iald F hK hP 2 0 rfl rfl (by omega) (by omega) dX9_merge_270 ?_
                            have hc188 := hqp2.1.pos (((((20 * v5) + 2) + (3 * v7)) + 1)).toNat (by omega)
                            have hc189 := hqp2.1.le9 (((((20 * v5) + 2) + (3 * v7)) + 1)).toNat (by omega)
                            refine lv_iload_n hx hb dX9_merge_271 rfl (lv_at hl 6 rfl) ?_
                            refine rz_icmp_ne (tgt := 290) F (by omega) (by omega) dX9_merge_272 (by decide) (fun h272_189 => ?_) (fun h272_189 => ?_)
                            · refine lv_iinc (v := zI (v7 + 1)) (lv' := [(7, .int (zI (v7 + 1))), (6, .int (zI (20 * v5))), (5, .int (zI v5)), (0, .ref y), (1, .ref a), (2, .int (zI x)), (3, .int (zI w)), (4, .ref f)]) hx hb dX9_merge_290 hl (k := 0) rfl (zI_add _ _) (by decide) rfl (fun ls hl => ?_)
                              refine lv_goto (tgt := 229) hx hb dX9_merge_293 (by decide) ?_
                              exact ih3 (v7 + 1) gq2 _ _ (by omega) (by omega) hqp2 hmt2 (Mst.sA hms2 (by omega) hnw (by omega) ⟨by omega, by omega⟩ (Or.inr ⟨by omega, rfl⟩)) hP hD hS ls (lv_sub hl [0, 1, 2, 3, 4, 5, 6, 7] rfl)
                            · refine lv_aload hx hb dX9_merge_275 (lv_at hl 7 rfl) ?_
                              refine lv_iload hx hb dX9_merge_277 (lv_at hl 1 rfl) ?_
                              refine lv_iconst (v := zI 2) hx hb dX9_merge_279 rfl ?_
                              refine r_iadd (v := zI ((20 * v5) + 2)) F dX9_merge_280 (zI_add _ _) ?_
                              refine lv_iconst (v := zI 3) hx hb dX9_merge_281 rfl ?_
                              refine lv_iload hx hb dX9_merge_282 (lv_at hl 0 rfl) ?_
                              refine r_imul (v := zI (3 * v7)) F dX9_merge_284 (zI_mul _ _) ?_
                              refine r_iadd (v := zI (((20 * v5) + 2) + (3 * v7))) F dX9_merge_285 (zI_add _ _) ?_
                              refine lv_iconst (v := zI 1) hx hb dX9_merge_286 rfl ?_
                              refine r_iadd (v := zI ((((20 * v5) + 2) + (3 * v7)) + 1)) F dX9_merge_287 (zI_add _ _) ?_
                              refine lv_iload_n hx hb dX9_merge_288 rfl (lv_at hl 5 rfl) ?_
                              refine rz_iastG F hK hP hD hS 2 0 rfl rfl (by omega) (by omega) dX9_merge_289 (w1 := fun g191 => [(y, .inr (9, [.int (zI (i 0)), .ref (q 0), .int (zI (i 1)), .int (zI (i 2)), .int (zI (i 3)), .int (zI (i 4)), .int (zI (i 5)), .int (zI (i 6)), .int (zI (i 7)), .int (zI (i 8)), .int (zI (i 9)), .int (zI (i 10)), .ref (q 1), .int (zI (i 11)), .int (zI (i 12)), .ref (q 2), .ref (q 3), .ref (q 4), .ref (q 5), .ref (q 6), .ref (q 7), .ref (q 8), .ref (q 9), .ref (q 10), .ref (q 11), .ref (q 12), .ref (q 13), .ref (q 14), .ref (q 15), .ref (q 16), .int (zI (i 13)), .int (zI (i 14)), .int (zI (i 15)), .int (zI (i 16)), .int (zI (i 17)), .int (zI (i 18)), .ref (q 17), .ref (q 18), .ref (q 19), .ref (q 20)])), (a, .inl (cI, 200, .inl (fun k => zI (g_p k)))), (f, .inl (cI, 200, .inl (fun k => zI (g191 k))))]) (fun _ => rfl) (fun g191 e_g191 H locs hP hD hS => ?_)
                              have hqp192 : ProgOk g191 := ProgOk.tgt3 hqp2 e_g191 (i := v5) (n := v7) (by omega) (by omega) (by omega) (by omega) (j := (((20 * v5) + 2) + (3 * v7)).toNat) (by omega) (by omega)
                              have hmt193 := MT.keepA hmt2 e_g191 (i := v5) (n := v7) (by omega) (by omega) (by omega)
                              refine lv_iinc (v := zI (v7 + 1)) (lv' := [(7, .int (zI (v7 + 1))), (6, .int (zI (20 * v5))), (5, .int (zI v5)), (0, .ref y), (1, .ref a), (2, .int (zI x)), (3, .int (zI w)), (4, .ref f)]) hx hb dX9_merge_290 hl (k := 0) rfl (zI_add _ _) (by decide) rfl (fun ls hl => ?_)
                              refine lv_goto (tgt := 229) hx hb dX9_merge_293 (by decide) ?_
                              exact ih3 (v7 + 1) g191 _ _ (by omega) (by omega) hqp192 hmt193 (Mst.sA hms2 (by omega) hnw (by omega) ⟨by omega, by omega⟩ (Or.inl ⟨by omega, by omega, e_g191⟩)) hP hD hS ls (lv_sub hl [0, 1, 2, 3, 4, 5, 6, 7] rfl)
                · refine lv_aload hx hb dX9_merge_172 (lv_at hl 6 rfl) ?_
                  refine lv_iload hx hb dX9_merge_174 (lv_at hl 0 rfl) ?_
                  refine lv_bipush (v := zI 16) hx hb dX9_merge_176 (by decide) ?_
                  refine r_iadd (v := zI ((20 * v5) + 16)) F dX9_merge_178 (zI_add _ _) ?_
                  refine rz_iald F hK hP 2 0 rfl rfl (by omega) (by omega) dX9_merge_179 ?_
                  have hc194 := hqp1.1.pos (((20 * v5) + 16)).toNat (by omega)
                  have hc195 := hqp1.1.le9 (((20 * v5) + 16)).toNat (by omega)
                  refine lv_iload_n hx hb dX9_merge_180 rfl (lv_at hl 5 rfl) ?_
                  refine rz_icmp_ne (tgt := 193) F (by omega) (by omega) dX9_merge_181 (by decide) (fun h181_195 => ?_) (fun h181_195 => ?_)
                  · refine lv_aload hx hb dX9_merge_193 (lv_at hl 6 rfl) ?_
                    have hms6 : Mst g_p x w (i 13) gq1 v5 1 := Mst.s16 hms1 (by omega) hnw (by omega) (Or.inr ⟨by omega, rfl⟩)
                    refine lv_iload hx hb dX9_merge_195 (lv_at hl 0 rfl) ?_
                    refine lv_bipush (v := zI 14) hx hb dX9_merge_197 (by decide) ?_
                    refine r_iadd (v := zI ((20 * v5) + 14)) F dX9_merge_199 (zI_add _ _) ?_
                    refine rz_iald F hK hP 2 0 rfl rfl (by omega) (by omega) dX9_merge_200 ?_
                    have hc197 := hqp1.1.pos (((20 * v5) + 14)).toNat (by omega)
                    have hc198 := hqp1.1.le9 (((20 * v5) + 14)).toNat (by omega)
                    refine lv_iconst (v := zI 2) hx hb dX9_merge_201 rfl ?_
                    refine rz_icmp_ne (tgt := 226) F (by omega) (by omega) dX9_merge_202 (by decide) (fun h202_198 => ?_) (fun h202_198 => ?_)
                    · refine lv_iconst (v := zI 0) hx hb dX9_merge_226 rfl ?_
                      have hms8 : Mst g_p x w (i 13) gq1 v5 (3 + 0) := Mst.s18 hms6 (by omega) hnw (by omega) (Or.inr ⟨by omega, rfl⟩)
                      refine lv_istore (lv' := [(7, .int (zI 0)), (6, .int (zI (20 * v5))), (5, .int (zI v5)), (0, .ref y), (1, .ref a), (2, .int (zI x)), (3, .int (zI w)), (4, .ref f)]) hx hb dX9_merge_227 hl (by decide) rfl (fun ls hl => ?_)
                      refine W.widen (k := 0) (n := 0) (Nat.le_of_ble_eq_true rfl) (Nat.le_of_ble_eq_true rfl) ?_
                      refine (?_ : ∀ (n9_3 : Nat) (v7 : Int) (gq2 : Nat → Int) (H : Heap) (locs : List Loc), (0 ≤ v7 ∧ v7 ≤ 4) → (4 - v7 : Int).toNat < n9_3 → (ProgOk gq2) → (MT g_p gq2 w) → (Mst g_p x w (i 13) gq2 v5 (3 + v7)) → va_P G vwCl [(y, .inr (9, [.int (zI (i 0)), .ref (q 0), .int (zI (i 1)), .int (zI (i 2)), .int (zI (i 3)), .int (zI (i 4)), .int (zI (i 5)), .int (zI (i 6)), .int (zI (i 7)), .int (zI (i 8)), .int (zI (i 9)), .int (zI (i 10)), .ref (q 1), .int (zI (i 11)), .int (zI (i 12)), .ref (q 2), .ref (q 3), .ref (q 4), .ref (q 5), .ref (q 6), .ref (q 7), .ref (q 8), .ref (q 9), .ref (q 10), .ref (q 11), .ref (q 12), .ref (q 13), .ref (q 14), .ref (q 15), .ref (q 16), .int (zI (i 13)), .int (zI (i 14)), .int (zI (i 15)), .int (zI (i 16)), .int (zI (i 17)), .int (zI (i 18)), .ref (q 17), .ref (q 18), .ref (q 19), .ref (q 20)])), (a, .inl (cI, 200, .inl (fun k => zI (g_p k)))), (f, .inl (cI, 200, .inl (fun k => zI (gq2 k))))] H → va_D A [(y, .inr (9, [.int (zI (i 0)), .ref (q 0), .int (zI (i 1)), .int (zI (i 2)), .int (zI (i 3)), .int (zI (i 4)), .int (zI (i 5)), .int (zI (i 6)), .int (zI (i 7)), .int (zI (i 8)), .int (zI (i 9)), .int (zI (i 10)), .ref (q 1), .int (zI (i 11)), .int (zI (i 12)), .ref (q 2), .ref (q 3), .ref (q 4), .ref (q 5), .ref (q 6), .ref (q 7), .ref (q 8), .ref (q 9), .ref (q 10), .ref (q 11), .ref (q 12), .ref (q 13), .ref (q 14), .ref (q 15), .ref (q 16), .int (zI (i 13)), .int (zI (i 14)), .int (zI (i 15)), .int (zI (i 16)), .int (zI (i 17)), .int (zI (i 18)), .ref (q 17), .ref (q 18), .ref (q 19), .ref (q 20)])), (a, .inl (cI, 200, .inl (fun k => zI (g_p k)))), (f, .inl (cI, 200, .inl (fun k => zI (gq2 k))))] → va_S A s.heap H locs → ∀ ls : Array Slot, lv_has ls 8 [(7, .int (zI v7)), (6, .int (zI (20 * v5))), (5, .int (zI v5)), (0, .ref y), (1, .ref a), (2, .int (zI x)), (3, .int (zI w)), (4, .ref f)] → W p l e rm_X9_mergeX s m ([.ref y, .ref a, .int (zI x), .int (zI w), .ref f] : List Value).toArray below meth c H locs 0 0 Q (F0 m 229 ls [])) ((4 - 0 : Int).toNat + 1) 0 gq1 _ _ (by omega) (by omega) hqp1 hmt1 hms8 hP hD hS ls hl
                      clear hP hD hS hl ls
                      intro n9_3
                      induction n9_3 with
                      | zero =>
                        intro v7 gq2 H locs hI hM
                        exact absurd hM (by omega)
                      | succ n9_3 ih3 =>
                        intro v7 gq2 H locs hI3 hM3 hqp2 hmt2 hms2 hP hD hS ls hl
                        refine lv_iload hx hb dX9_merge_229 (lv_at hl 0 rfl) ?_
                        refine lv_aload hx hb dX9_merge_231 (lv_at hl 7 rfl) ?_
                        refine lv_iload hx hb dX9_merge_233 (lv_at hl 1 rfl) ?_
                        refine lv_iconst (v := zI 1) hx hb dX9_merge_235 rfl ?_
                        refine r_iadd (v := zI ((20 * v5) + 1)) F dX9_merge_236 (zI_add _ _) ?_
                        refine rz_iald F hK hP 2 0 rfl rfl (by omega) (by omega) dX9_merge_237 ?_
                        have hpl200 : 0 ≤ (gq2 (((20 * v5) + 1)).toNat) ∧ (gq2 (((20 * v5) + 1)).toNat) ≤ 4 := ProgR.at hqp2.1 (e := ((20 * v5) + 1)) v5 1 (by omega) (by omega) (by decide) rfl
                        refine rz_icmp_ge (tgt := 296) F (by omega) (by omega) dX9_merge_238 (by decide) (fun h238_200 => ?_) (fun h238_200 => ?_)
                        · refine lv_iinc (v := zI (v5 + 1)) (lv' := [(5, .int (zI (v5 + 1))), (7, .int (zI v7)), (6, .int (zI (20 * v5))), (0, .ref y), (1, .ref a), (2, .int (zI x)), (3, .int (zI w)), (4, .ref f)]) hx hb dX9_merge_296 hl (k := 2) rfl (zI_add _ _) (by decide) rfl (fun ls hl => ?_)
                          refine lv_goto (tgt := 132) hx hb dX9_merge_299 (by decide) ?_
                          exact ih2 (v5 + 1) gq2 _ _ (by omega) (by omega) hqp2 hmt2 (Mst.fin hms2 (by omega) hnw ⟨by omega, by omega⟩) hP hD hS ls (lv_sub hl [0, 3, 4, 5, 6, 7] rfl)
                        · refine lv_aload hx hb dX9_merge_241 (lv_at hl 7 rfl) ?_
                          refine lv_iload hx hb dX9_merge_243 (lv_at hl 1 rfl) ?_
                          refine lv_iconst (v := zI 2) hx hb dX9_merge_245 rfl ?_
                          refine r_iadd (v := zI ((20 * v5) + 2)) F dX9_merge_246 (zI_add _ _) ?_
                          refine lv_iconst (v := zI 3) hx hb dX9_merge_247 rfl ?_
                          refine lv_iload hx hb dX9_merge_248 (lv_at hl 0 rfl) ?_
                          refine r_imul (v := zI (3 * v7)) F dX9_merge_250 (zI_mul _ _) ?_
                          refine r_iadd (v := zI (((20 * v5) + 2) + (3 * v7))) F dX9_merge_251 (zI_add _ _) ?_
                          refine rz_iald F hK hP 2 0 rfl rfl (by omega) (by omega) dX9_merge_252 ?_
                          have hc202 := ProgOk.act hqp2 (i := v5) (n := v7) (k := (((20 * v5) + 2) + (3 * v7))) (by omega) (by omega) (by omega)
                          refine lv_iconst (v := zI 3) hx hb dX9_merge_253 rfl ?_
                          refine rz_icmp_ne (tgt := 290) F (by omega) (by omega) dX9_merge_254 (by decide) (fun h254_202 => ?_) (fun h254_202 => ?_)
                          · refine lv_iinc (v := zI (v7 + 1)) (lv' := [(7, .int (zI (v7 + 1))), (6, .int (zI (20 * v5))), (5, .int (zI v5)), (0, .ref y), (1, .ref a), (2, .int (zI x)), (3, .int (zI w)), (4, .ref f)]) hx hb dX9_merge_290 hl (k := 0) rfl (zI_add _ _) (by decide) rfl (fun ls hl => ?_)
                            refine lv_goto (tgt := 229) hx hb dX9_merge_293 (by decide) ?_
                            exact ih3 (v7 + 1) gq2 _ _ (by omega) (by omega) hqp2 hmt2 (Mst.sA hms2 (by omega) hnw (by omega) ⟨by omega, by omega⟩ (Or.inr ⟨by omega, rfl⟩)) hP hD hS ls (lv_sub hl [0, 1, 2, 3, 4, 5, 6, 7] rfl)
                          · refine lv_aload hx hb dX9_merge_257 (lv_at hl 7 rfl) ?_
                            refine lv_iload hx hb dX9_merge_259 (lv_at hl 1 rfl) ?_
                            refine lv_iconst (v := zI 2) hx hb dX9_merge_261 rfl ?_
                            refine r_iadd (v := zI ((20 * v5) + 2)) F dX9_merge_262 (zI_add _ _) ?_
                            refine lv_iconst (v := zI 3) hx hb dX9_merge_263 rfl ?_
                            refine lv_iload hx hb dX9_merge_264 (lv_at hl 0 rfl) ?_
                            refine r_imul (v := zI (3 * v7)) F dX9_merge_266 (zI_mul _ _) ?_
                            refine r_iadd (v := zI (((20 * v5) + 2) + (3 * v7))) F dX9_merge_267 (zI_add _ _) ?_
                            refine lv_iconst (v := zI 1) hx hb dX9_merge_268 rfl ?_
                            refine r_iadd (v := zI ((((20 * v5) + 2) + (3 * v7)) + 1)) F dX9_merge_269 (zI_add _ _) ?_
                            refine rz_iald F hK hP 2 0 rfl rfl (by omega) (by omega) dX9_merge_270 ?_
                            have hc204 := hqp2.1.pos (((((20 * v5) + 2) + (3 * v7)) + 1)).toNat (by omega)
                            have hc205 := hqp2.1.le9 (((((20 * v5) + 2) + (3 * v7)) + 1)).toNat (by omega)
                            refine lv_iload_n hx hb dX9_merge_271 rfl (lv_at hl 6 rfl) ?_
                            refine rz_icmp_ne (tgt := 290) F (by omega) (by omega) dX9_merge_272 (by decide) (fun h272_205 => ?_) (fun h272_205 => ?_)
                            · refine lv_iinc (v := zI (v7 + 1)) (lv' := [(7, .int (zI (v7 + 1))), (6, .int (zI (20 * v5))), (5, .int (zI v5)), (0, .ref y), (1, .ref a), (2, .int (zI x)), (3, .int (zI w)), (4, .ref f)]) hx hb dX9_merge_290 hl (k := 0) rfl (zI_add _ _) (by decide) rfl (fun ls hl => ?_)
                              refine lv_goto (tgt := 229) hx hb dX9_merge_293 (by decide) ?_
                              exact ih3 (v7 + 1) gq2 _ _ (by omega) (by omega) hqp2 hmt2 (Mst.sA hms2 (by omega) hnw (by omega) ⟨by omega, by omega⟩ (Or.inr ⟨by omega, rfl⟩)) hP hD hS ls (lv_sub hl [0, 1, 2, 3, 4, 5, 6, 7] rfl)
                            · refine lv_aload hx hb dX9_merge_275 (lv_at hl 7 rfl) ?_
                              refine lv_iload hx hb dX9_merge_277 (lv_at hl 1 rfl) ?_
                              refine lv_iconst (v := zI 2) hx hb dX9_merge_279 rfl ?_
                              refine r_iadd (v := zI ((20 * v5) + 2)) F dX9_merge_280 (zI_add _ _) ?_
                              refine lv_iconst (v := zI 3) hx hb dX9_merge_281 rfl ?_
                              refine lv_iload hx hb dX9_merge_282 (lv_at hl 0 rfl) ?_
                              refine r_imul (v := zI (3 * v7)) F dX9_merge_284 (zI_mul _ _) ?_
                              refine r_iadd (v := zI (((20 * v5) + 2) + (3 * v7))) F dX9_merge_285 (zI_add _ _) ?_
                              refine lv_iconst (v := zI 1) hx hb dX9_merge_286 rfl ?_
                              refine r_iadd (v := zI ((((20 * v5) + 2) + (3 * v7)) + 1)) F dX9_merge_287 (zI_add _ _) ?_
                              refine lv_iload_n hx hb dX9_merge_288 rfl (lv_at hl 5 rfl) ?_
                              refine rz_iastG F hK hP hD hS 2 0 rfl rfl (by omega) (by omega) dX9_merge_289 (w1 := fun g207 => [(y, .inr (9, [.int (zI (i 0)), .ref (q 0), .int (zI (i 1)), .int (zI (i 2)), .int (zI (i 3)), .int (zI (i 4)), .int (zI (i 5)), .int (zI (i 6)), .int (zI (i 7)), .int (zI (i 8)), .int (zI (i 9)), .int (zI (i 10)), .ref (q 1), .int (zI (i 11)), .int (zI (i 12)), .ref (q 2), .ref (q 3), .ref (q 4), .ref (q 5), .ref (q 6), .ref (q 7), .ref (q 8), .ref (q 9), .ref (q 10), .ref (q 11), .ref (q 12), .ref (q 13), .ref (q 14), .ref (q 15), .ref (q 16), .int (zI (i 13)), .int (zI (i 14)), .int (zI (i 15)), .int (zI (i 16)), .int (zI (i 17)), .int (zI (i 18)), .ref (q 17), .ref (q 18), .ref (q 19), .ref (q 20)])), (a, .inl (cI, 200, .inl (fun k => zI (g_p k)))), (f, .inl (cI, 200, .inl (fun k => zI (g207 k))))]) (fun _ => rfl) (fun g207 e_g207 H locs hP hD hS => ?_)
                              have hqp208 : ProgOk g207 := ProgOk.tgt3 hqp2 e_g207 (i := v5) (n := v7) (by omega) (by omega) (by omega) (by omega) (j := (((20 * v5) + 2) + (3 * v7)).toNat) (by omega) (by omega)
                              have hmt209 := MT.keepA hmt2 e_g207 (i := v5) (n := v7) (by omega) (by omega) (by omega)
                              refine lv_iinc (v := zI (v7 + 1)) (lv' := [(7, .int (zI (v7 + 1))), (6, .int (zI (20 * v5))), (5, .int (zI v5)), (0, .ref y), (1, .ref a), (2, .int (zI x)), (3, .int (zI w)), (4, .ref f)]) hx hb dX9_merge_290 hl (k := 0) rfl (zI_add _ _) (by decide) rfl (fun ls hl => ?_)
                              refine lv_goto (tgt := 229) hx hb dX9_merge_293 (by decide) ?_
                              exact ih3 (v7 + 1) g207 _ _ (by omega) (by omega) hqp208 hmt209 (Mst.sA hms2 (by omega) hnw (by omega) ⟨by omega, by omega⟩ (Or.inl ⟨by omega, by omega, e_g207⟩)) hP hD hS ls (lv_sub hl [0, 1, 2, 3, 4, 5, 6, 7] rfl)
                    · refine lv_aload hx hb dX9_merge_205 (lv_at hl 6 rfl) ?_
                      refine lv_iload hx hb dX9_merge_207 (lv_at hl 0 rfl) ?_
                      refine lv_bipush (v := zI 18) hx hb dX9_merge_209 (by decide) ?_
                      refine r_iadd (v := zI ((20 * v5) + 18)) F dX9_merge_211 (zI_add _ _) ?_
                      refine rz_iald F hK hP 2 0 rfl rfl (by omega) (by omega) dX9_merge_212 ?_
                      have hc210 := hqp1.1.pos (((20 * v5) + 18)).toNat (by omega)
                      have hc211 := hqp1.1.le9 (((20 * v5) + 18)).toNat (by omega)
                      refine lv_iload_n hx hb dX9_merge_213 rfl (lv_at hl 5 rfl) ?_
                      refine rz_icmp_ne (tgt := 226) F (by omega) (by omega) dX9_merge_214 (by decide) (fun h214_211 => ?_) (fun h214_211 => ?_)
                      · refine lv_iconst (v := zI 0) hx hb dX9_merge_226 rfl ?_
                        have hms8 : Mst g_p x w (i 13) gq1 v5 (3 + 0) := Mst.s18 hms6 (by omega) hnw (by omega) (Or.inr ⟨by omega, rfl⟩)
                        refine lv_istore (lv' := [(7, .int (zI 0)), (6, .int (zI (20 * v5))), (5, .int (zI v5)), (0, .ref y), (1, .ref a), (2, .int (zI x)), (3, .int (zI w)), (4, .ref f)]) hx hb dX9_merge_227 hl (by decide) rfl (fun ls hl => ?_)
                        refine W.widen (k := 0) (n := 0) (Nat.le_of_ble_eq_true rfl) (Nat.le_of_ble_eq_true rfl) ?_
                        refine (?_ : ∀ (n9_3 : Nat) (v7 : Int) (gq2 : Nat → Int) (H : Heap) (locs : List Loc), (0 ≤ v7 ∧ v7 ≤ 4) → (4 - v7 : Int).toNat < n9_3 → (ProgOk gq2) → (MT g_p gq2 w) → (Mst g_p x w (i 13) gq2 v5 (3 + v7)) → va_P G vwCl [(y, .inr (9, [.int (zI (i 0)), .ref (q 0), .int (zI (i 1)), .int (zI (i 2)), .int (zI (i 3)), .int (zI (i 4)), .int (zI (i 5)), .int (zI (i 6)), .int (zI (i 7)), .int (zI (i 8)), .int (zI (i 9)), .int (zI (i 10)), .ref (q 1), .int (zI (i 11)), .int (zI (i 12)), .ref (q 2), .ref (q 3), .ref (q 4), .ref (q 5), .ref (q 6), .ref (q 7), .ref (q 8), .ref (q 9), .ref (q 10), .ref (q 11), .ref (q 12), .ref (q 13), .ref (q 14), .ref (q 15), .ref (q 16), .int (zI (i 13)), .int (zI (i 14)), .int (zI (i 15)), .int (zI (i 16)), .int (zI (i 17)), .int (zI (i 18)), .ref (q 17), .ref (q 18), .ref (q 19), .ref (q 20)])), (a, .inl (cI, 200, .inl (fun k => zI (g_p k)))), (f, .inl (cI, 200, .inl (fun k => zI (gq2 k))))] H → va_D A [(y, .inr (9, [.int (zI (i 0)), .ref (q 0), .int (zI (i 1)), .int (zI (i 2)), .int (zI (i 3)), .int (zI (i 4)), .int (zI (i 5)), .int (zI (i 6)), .int (zI (i 7)), .int (zI (i 8)), .int (zI (i 9)), .int (zI (i 10)), .ref (q 1), .int (zI (i 11)), .int (zI (i 12)), .ref (q 2), .ref (q 3), .ref (q 4), .ref (q 5), .ref (q 6), .ref (q 7), .ref (q 8), .ref (q 9), .ref (q 10), .ref (q 11), .ref (q 12), .ref (q 13), .ref (q 14), .ref (q 15), .ref (q 16), .int (zI (i 13)), .int (zI (i 14)), .int (zI (i 15)), .int (zI (i 16)), .int (zI (i 17)), .int (zI (i 18)), .ref (q 17), .ref (q 18), .ref (q 19), .ref (q 20)])), (a, .inl (cI, 200, .inl (fun k => zI (g_p k)))), (f, .inl (cI, 200, .inl (fun k => zI (gq2 k))))] → va_S A s.heap H locs → ∀ ls : Array Slot, lv_has ls 8 [(7, .int (zI v7)), (6, .int (zI (20 * v5))), (5, .int (zI v5)), (0, .ref y), (1, .ref a), (2, .int (zI x)), (3, .int (zI w)), (4, .ref f)] → W p l e rm_X9_mergeX s m ([.ref y, .ref a, .int (zI x), .int (zI w), .ref f] : List Value).toArray below meth c H locs 0 0 Q (F0 m 229 ls [])) ((4 - 0 : Int).toNat + 1) 0 gq1 _ _ (by omega) (by omega) hqp1 hmt1 hms8 hP hD hS ls hl
                        clear hP hD hS hl ls
                        intro n9_3
                        induction n9_3 with
                        | zero =>
                          intro v7 gq2 H locs hI hM
                          exact absurd hM (by omega)
                        | succ n9_3 ih3 =>
                          intro v7 gq2 H locs hI3 hM3 hqp2 hmt2 hms2 hP hD hS ls hl
                          refine lv_iload hx hb dX9_merge_229 (lv_at hl 0 rfl) ?_
                          refine lv_aload hx hb dX9_merge_231 (lv_at hl 7 rfl) ?_
                          refine lv_iload hx hb dX9_merge_233 (lv_at hl 1 rfl) ?_
                          refine lv_iconst (v := zI 1) hx hb dX9_merge_235 rfl ?_
                          refine r_iadd (v := zI ((20 * v5) + 1)) F dX9_merge_236 (zI_add _ _) ?_
                          refine rz_iald F hK hP 2 0 rfl rfl (by omega) (by omega) dX9_merge_237 ?_
                          have hpl213 : 0 ≤ (gq2 (((20 * v5) + 1)).toNat) ∧ (gq2 (((20 * v5) + 1)).toNat) ≤ 4 := ProgR.at hqp2.1 (e := ((20 * v5) + 1)) v5 1 (by omega) (by omega) (by decide) rfl
                          refine rz_icmp_ge (tgt := 296) F (by omega) (by omega) dX9_merge_238 (by decide) (fun h238_213 => ?_) (fun h238_213 => ?_)
                          · refine lv_iinc (v := zI (v5 + 1)) (lv' := [(5, .int (zI (v5 + 1))), (7, .int (zI v7)), (6, .int (zI (20 * v5))), (0, .ref y), (1, .ref a), (2, .int (zI x)), (3, .int (zI w)), (4, .ref f)]) hx hb dX9_merge_296 hl (k := 2) rfl (zI_add _ _) (by decide) rfl (fun ls hl => ?_)
                            refine lv_goto (tgt := 132) hx hb dX9_merge_299 (by decide) ?_
                            exact ih2 (v5 + 1) gq2 _ _ (by omega) (by omega) hqp2 hmt2 (Mst.fin hms2 (by omega) hnw ⟨by omega, by omega⟩) hP hD hS ls (lv_sub hl [0, 3, 4, 5, 6, 7] rfl)
                          · refine lv_aload hx hb dX9_merge_241 (lv_at hl 7 rfl) ?_
                            refine lv_iload hx hb dX9_merge_243 (lv_at hl 1 rfl) ?_
                            refine lv_iconst (v := zI 2) hx hb dX9_merge_245 rfl ?_
                            refine r_iadd (v := zI ((20 * v5) + 2)) F dX9_merge_246 (zI_add _ _) ?_
                            refine lv_iconst (v := zI 3) hx hb dX9_merge_247 rfl ?_
                            refine lv_iload hx hb dX9_merge_248 (lv_at hl 0 rfl) ?_
                            refine r_imul (v := zI (3 * v7)) F dX9_merge_250 (zI_mul _ _) ?_
                            refine r_iadd (v := zI (((20 * v5) + 2) + (3 * v7))) F dX9_merge_251 (zI_add _ _) ?_
                            refine rz_iald F hK hP 2 0 rfl rfl (by omega) (by omega) dX9_merge_252 ?_
                            have hc215 := ProgOk.act hqp2 (i := v5) (n := v7) (k := (((20 * v5) + 2) + (3 * v7))) (by omega) (by omega) (by omega)
                            refine lv_iconst (v := zI 3) hx hb dX9_merge_253 rfl ?_
                            refine rz_icmp_ne (tgt := 290) F (by omega) (by omega) dX9_merge_254 (by decide) (fun h254_215 => ?_) (fun h254_215 => ?_)
                            · refine lv_iinc (v := zI (v7 + 1)) (lv' := [(7, .int (zI (v7 + 1))), (6, .int (zI (20 * v5))), (5, .int (zI v5)), (0, .ref y), (1, .ref a), (2, .int (zI x)), (3, .int (zI w)), (4, .ref f)]) hx hb dX9_merge_290 hl (k := 0) rfl (zI_add _ _) (by decide) rfl (fun ls hl => ?_)
                              refine lv_goto (tgt := 229) hx hb dX9_merge_293 (by decide) ?_
                              exact ih3 (v7 + 1) gq2 _ _ (by omega) (by omega) hqp2 hmt2 (Mst.sA hms2 (by omega) hnw (by omega) ⟨by omega, by omega⟩ (Or.inr ⟨by omega, rfl⟩)) hP hD hS ls (lv_sub hl [0, 1, 2, 3, 4, 5, 6, 7] rfl)
                            · refine lv_aload hx hb dX9_merge_257 (lv_at hl 7 rfl) ?_
                              refine lv_iload hx hb dX9_merge_259 (lv_at hl 1 rfl) ?_
                              refine lv_iconst (v := zI 2) hx hb dX9_merge_261 rfl ?_
                              refine r_iadd (v := zI ((20 * v5) + 2)) F dX9_merge_262 (zI_add _ _) ?_
                              refine lv_iconst (v := zI 3) hx hb dX9_merge_263 rfl ?_
                              refine lv_iload hx hb dX9_merge_264 (lv_at hl 0 rfl) ?_
                              refine r_imul (v := zI (3 * v7)) F dX9_merge_266 (zI_mul _ _) ?_
                              refine r_iadd (v := zI (((20 * v5) + 2) + (3 * v7))) F dX9_merge_267 (zI_add _ _) ?_
                              refine lv_iconst (v := zI 1) hx hb dX9_merge_268 rfl ?_
                              refine r_iadd (v := zI ((((20 * v5) + 2) + (3 * v7)) + 1)) F dX9_merge_269 (zI_add _ _) ?_
                              refine rz_iald F hK hP 2 0 rfl rfl (by omega) (by omega) dX9_merge_270 ?_
                              have hc217 := hqp2.1.pos (((((20 * v5) + 2) + (3 * v7)) + 1)).toNat (by omega)
                              have hc218 := hqp2.1.le9 (((((20 * v5) + 2) + (3 * v7)) + 1)).toNat (by omega)
                              refine lv_iload_n hx hb dX9_merge_271 rfl (lv_at hl 6 rfl) ?_
                              refine rz_icmp_ne (tgt := 290) F (by omega) (by omega) dX9_merge_272 (by decide) (fun h272_218 => ?_) (fun h272_218 => ?_)
                              · refine lv_iinc (v := zI (v7 + 1)) (lv' := [(7, .int (zI (v7 + 1))), (6, .int (zI (20 * v5))), (5, .int (zI v5)), (0, .ref y), (1, .ref a), (2, .int (zI x)), (3, .int (zI w)), (4, .ref f)]) hx hb dX9_merge_290 hl (k := 0) rfl (zI_add _ _) (by decide) rfl (fun ls hl => ?_)
                                refine lv_goto (tgt := 229) hx hb dX9_merge_293 (by decide) ?_
                                exact ih3 (v7 + 1) gq2 _ _ (by omega) (by omega) hqp2 hmt2 (Mst.sA hms2 (by omega) hnw (by omega) ⟨by omega, by omega⟩ (Or.inr ⟨by omega, rfl⟩)) hP hD hS ls (lv_sub hl [0, 1, 2, 3, 4, 5, 6, 7] rfl)
                              · refine lv_aload hx hb dX9_merge_275 (lv_at hl 7 rfl) ?_
                                refine lv_iload hx hb dX9_merge_277 (lv_at hl 1 rfl) ?_
                                refine lv_iconst (v := zI 2) hx hb dX9_merge_279 rfl ?_
                                refine r_iadd (v := zI ((20 * v5) + 2)) F dX9_merge_280 (zI_add _ _) ?_
                                refine lv_iconst (v := zI 3) hx hb dX9_merge_281 rfl ?_
                                refine lv_iload hx hb dX9_merge_282 (lv_at hl 0 rfl) ?_
                                refine r_imul (v := zI (3 * v7)) F dX9_merge_284 (zI_mul _ _) ?_
                                refine r_iadd (v := zI (((20 * v5) + 2) + (3 * v7))) F dX9_merge_285 (zI_add _ _) ?_
                                refine lv_iconst (v := zI 1) hx hb dX9_merge_286 rfl ?_
                                refine r_iadd (v := zI ((((20 * v5) + 2) + (3 * v7)) + 1)) F dX9_merge_287 (zI_add _ _) ?_
                                refine lv_iload_n hx hb dX9_merge_288 rfl (lv_at hl 5 rfl) ?_
                                refine rz_iastG F hK hP hD hS 2 0 rfl rfl (by omega) (by omega) dX9_merge_289 (w1 := fun g220 => [(y, .inr (9, [.int (zI (i 0)), .ref (q 0), .int (zI (i 1)), .int (zI (i 2)), .int (zI (i 3)), .int (zI (i 4)), .int (zI (i 5)), .int (zI (i 6)), .int (zI (i 7)), .int (zI (i 8)), .int (zI (i 9)), .int (zI (i 10)), .ref (q 1), .int (zI (i 11)), .int (zI (i 12)), .ref (q 2), .ref (q 3), .ref (q 4), .ref (q 5), .ref (q 6), .ref (q 7), .ref (q 8), .ref (q 9), .ref (q 10), .ref (q 11), .ref (q 12), .ref (q 13), .ref (q 14), .ref (q 15), .ref (q 16), .int (zI (i 13)), .int (zI (i 14)), .int (zI (i 15)), .int (zI (i 16)), .int (zI (i 17)), .int (zI (i 18)), .ref (q 17), .ref (q 18), .ref (q 19), .ref (q 20)])), (a, .inl (cI, 200, .inl (fun k => zI (g_p k)))), (f, .inl (cI, 200, .inl (fun k => zI (g220 k))))]) (fun _ => rfl) (fun g220 e_g220 H locs hP hD hS => ?_)
                                have hqp221 : ProgOk g220 := ProgOk.tgt3 hqp2 e_g220 (i := v5) (n := v7) (by omega) (by omega) (by omega) (by omega) (j := (((20 * v5) + 2) + (3 * v7)).toNat) (by omega) (by omega)
                                have hmt222 := MT.keepA hmt2 e_g220 (i := v5) (n := v7) (by omega) (by omega) (by omega)
                                refine lv_iinc (v := zI (v7 + 1)) (lv' := [(7, .int (zI (v7 + 1))), (6, .int (zI (20 * v5))), (5, .int (zI v5)), (0, .ref y), (1, .ref a), (2, .int (zI x)), (3, .int (zI w)), (4, .ref f)]) hx hb dX9_merge_290 hl (k := 0) rfl (zI_add _ _) (by decide) rfl (fun ls hl => ?_)
                                refine lv_goto (tgt := 229) hx hb dX9_merge_293 (by decide) ?_
                                exact ih3 (v7 + 1) g220 _ _ (by omega) (by omega) hqp221 hmt222 (Mst.sA hms2 (by omega) hnw (by omega) ⟨by omega, by omega⟩ (Or.inl ⟨by omega, by omega, e_g220⟩)) hP hD hS ls (lv_sub hl [0, 1, 2, 3, 4, 5, 6, 7] rfl)
                      · refine lv_aload hx hb dX9_merge_217 (lv_at hl 6 rfl) ?_
                        refine lv_iload hx hb dX9_merge_219 (lv_at hl 0 rfl) ?_
                        refine lv_bipush (v := zI 18) hx hb dX9_merge_221 (by decide) ?_
                        refine r_iadd (v := zI ((20 * v5) + 18)) F dX9_merge_223 (zI_add _ _) ?_
                        refine lv_iload_n hx hb dX9_merge_224 rfl (lv_at hl 4 rfl) ?_
                        refine rz_iastG F hK hP hD hS 2 0 rfl rfl (by omega) (by omega) dX9_merge_225 (w1 := fun g223 => [(y, .inr (9, [.int (zI (i 0)), .ref (q 0), .int (zI (i 1)), .int (zI (i 2)), .int (zI (i 3)), .int (zI (i 4)), .int (zI (i 5)), .int (zI (i 6)), .int (zI (i 7)), .int (zI (i 8)), .int (zI (i 9)), .int (zI (i 10)), .ref (q 1), .int (zI (i 11)), .int (zI (i 12)), .ref (q 2), .ref (q 3), .ref (q 4), .ref (q 5), .ref (q 6), .ref (q 7), .ref (q 8), .ref (q 9), .ref (q 10), .ref (q 11), .ref (q 12), .ref (q 13), .ref (q 14), .ref (q 15), .ref (q 16), .int (zI (i 13)), .int (zI (i 14)), .int (zI (i 15)), .int (zI (i 16)), .int (zI (i 17)), .int (zI (i 18)), .ref (q 17), .ref (q 18), .ref (q 19), .ref (q 20)])), (a, .inl (cI, 200, .inl (fun k => zI (g_p k)))), (f, .inl (cI, 200, .inl (fun k => zI (g223 k))))]) (fun _ => rfl) (fun g223 e_g223 H locs hP hD hS => ?_)
                        have hqp224 : ProgOk g223 := ⟨hqp1.1.set (m := 9) e_g223 18 (by omega) rfl (by omega), hqp1.2.set e_g223 (by omega)⟩
                        have hmt225 := hmt1.keep e_g223 (by omega)
                        refine lv_iconst (v := zI 0) hx hb dX9_merge_226 rfl ?_
                        have hms8 : Mst g_p x w (i 13) g223 v5 (3 + 0) := Mst.s18 hms6 (by omega) hnw (by omega) (Or.inl ⟨by omega, by omega, e_g223⟩)
                        refine lv_istore (lv' := [(7, .int (zI 0)), (6, .int (zI (20 * v5))), (5, .int (zI v5)), (0, .ref y), (1, .ref a), (2, .int (zI x)), (3, .int (zI w)), (4, .ref f)]) hx hb dX9_merge_227 hl (by decide) rfl (fun ls hl => ?_)
                        refine W.widen (k := 0) (n := 0) (Nat.le_of_ble_eq_true rfl) (Nat.le_of_ble_eq_true rfl) ?_
                        refine (?_ : ∀ (n9_3 : Nat) (v7 : Int) (gq2 : Nat → Int) (H : Heap) (locs : List Loc), (0 ≤ v7 ∧ v7 ≤ 4) → (4 - v7 : Int).toNat < n9_3 → (ProgOk gq2) → (MT g_p gq2 w) → (Mst g_p x w (i 13) gq2 v5 (3 + v7)) → va_P G vwCl [(y, .inr (9, [.int (zI (i 0)), .ref (q 0), .int (zI (i 1)), .int (zI (i 2)), .int (zI (i 3)), .int (zI (i 4)), .int (zI (i 5)), .int (zI (i 6)), .int (zI (i 7)), .int (zI (i 8)), .int (zI (i 9)), .int (zI (i 10)), .ref (q 1), .int (zI (i 11)), .int (zI (i 12)), .ref (q 2), .ref (q 3), .ref (q 4), .ref (q 5), .ref (q 6), .ref (q 7), .ref (q 8), .ref (q 9), .ref (q 10), .ref (q 11), .ref (q 12), .ref (q 13), .ref (q 14), .ref (q 15), .ref (q 16), .int (zI (i 13)), .int (zI (i 14)), .int (zI (i 15)), .int (zI (i 16)), .int (zI (i 17)), .int (zI (i 18)), .ref (q 17), .ref (q 18), .ref (q 19), .ref (q 20)])), (a, .inl (cI, 200, .inl (fun k => zI (g_p k)))), (f, .inl (cI, 200, .inl (fun k => zI (gq2 k))))] H → va_D A [(y, .inr (9, [.int (zI (i 0)), .ref (q 0), .int (zI (i 1)), .int (zI (i 2)), .int (zI (i 3)), .int (zI (i 4)), .int (zI (i 5)), .int (zI (i 6)), .int (zI (i 7)), .int (zI (i 8)), .int (zI (i 9)), .int (zI (i 10)), .ref (q 1), .int (zI (i 11)), .int (zI (i 12)), .ref (q 2), .ref (q 3), .ref (q 4), .ref (q 5), .ref (q 6), .ref (q 7), .ref (q 8), .ref (q 9), .ref (q 10), .ref (q 11), .ref (q 12), .ref (q 13), .ref (q 14), .ref (q 15), .ref (q 16), .int (zI (i 13)), .int (zI (i 14)), .int (zI (i 15)), .int (zI (i 16)), .int (zI (i 17)), .int (zI (i 18)), .ref (q 17), .ref (q 18), .ref (q 19), .ref (q 20)])), (a, .inl (cI, 200, .inl (fun k => zI (g_p k)))), (f, .inl (cI, 200, .inl (fun k => zI (gq2 k))))] → va_S A s.heap H locs → ∀ ls : Array Slot, lv_has ls 8 [(7, .int (zI v7)), (6, .int (zI (20 * v5))), (5, .int (zI v5)), (0, .ref y), (1, .ref a), (2, .int (zI x)), (3, .int (zI w)), (4, .ref f)] → W p l e rm_X9_mergeX s m ([.ref y, .ref a, .int (zI x), .int (zI w), .ref f] : List Value).toArray below meth c H locs 0 0 Q (F0 m 229 ls [])) ((4 - 0 : Int).toNat + 1) 0 g223 _ _ (by omega) (by omega) hqp224 hmt225 hms8 hP hD hS ls hl
                        clear hP hD hS hl ls
                        intro n9_3
                        induction n9_3 with
                        | zero =>
                          intro v7 gq2 H locs hI hM
                          exact absurd hM (by omega)
                        | succ n9_3 ih3 =>
                          intro v7 gq2 H locs hI3 hM3 hqp2 hmt2 hms2 hP hD hS ls hl
                          refine lv_iload hx hb dX9_merge_229 (lv_at hl 0 rfl) ?_
                          refine lv_aload hx hb dX9_merge_231 (lv_at hl 7 rfl) ?_
                          refine lv_iload hx hb dX9_merge_233 (lv_at hl 1 rfl) ?_
                          refine lv_iconst (v := zI 1) hx hb dX9_merge_235 rfl ?_
                          refine r_iadd (v := zI ((20 * v5) + 1)) F dX9_merge_236 (zI_add _ _) ?_
                          refine rz_iald F hK hP 2 0 rfl rfl (by omega) (by omega) dX9_merge_237 ?_
                          have hpl226 : 0 ≤ (gq2 (((20 * v5) + 1)).toNat) ∧ (gq2 (((20 * v5) + 1)).toNat) ≤ 4 := ProgR.at hqp2.1 (e := ((20 * v5) + 1)) v5 1 (by omega) (by omega) (by decide) rfl
                          refine rz_icmp_ge (tgt := 296) F (by omega) (by omega) dX9_merge_238 (by decide) (fun h238_226 => ?_) (fun h238_226 => ?_)
                          · refine lv_iinc (v := zI (v5 + 1)) (lv' := [(5, .int (zI (v5 + 1))), (7, .int (zI v7)), (6, .int (zI (20 * v5))), (0, .ref y), (1, .ref a), (2, .int (zI x)), (3, .int (zI w)), (4, .ref f)]) hx hb dX9_merge_296 hl (k := 2) rfl (zI_add _ _) (by decide) rfl (fun ls hl => ?_)
                            refine lv_goto (tgt := 132) hx hb dX9_merge_299 (by decide) ?_
                            exact ih2 (v5 + 1) gq2 _ _ (by omega) (by omega) hqp2 hmt2 (Mst.fin hms2 (by omega) hnw ⟨by omega, by omega⟩) hP hD hS ls (lv_sub hl [0, 3, 4, 5, 6, 7] rfl)
                          · refine lv_aload hx hb dX9_merge_241 (lv_at hl 7 rfl) ?_
                            refine lv_iload hx hb dX9_merge_243 (lv_at hl 1 rfl) ?_
                            refine lv_iconst (v := zI 2) hx hb dX9_merge_245 rfl ?_
                            refine r_iadd (v := zI ((20 * v5) + 2)) F dX9_merge_246 (zI_add _ _) ?_
                            refine lv_iconst (v := zI 3) hx hb dX9_merge_247 rfl ?_
                            refine lv_iload hx hb dX9_merge_248 (lv_at hl 0 rfl) ?_
                            refine r_imul (v := zI (3 * v7)) F dX9_merge_250 (zI_mul _ _) ?_
                            refine r_iadd (v := zI (((20 * v5) + 2) + (3 * v7))) F dX9_merge_251 (zI_add _ _) ?_
                            refine rz_iald F hK hP 2 0 rfl rfl (by omega) (by omega) dX9_merge_252 ?_
                            have hc228 := ProgOk.act hqp2 (i := v5) (n := v7) (k := (((20 * v5) + 2) + (3 * v7))) (by omega) (by omega) (by omega)
                            refine lv_iconst (v := zI 3) hx hb dX9_merge_253 rfl ?_
                            refine rz_icmp_ne (tgt := 290) F (by omega) (by omega) dX9_merge_254 (by decide) (fun h254_228 => ?_) (fun h254_228 => ?_)
                            · refine lv_iinc (v := zI (v7 + 1)) (lv' := [(7, .int (zI (v7 + 1))), (6, .int (zI (20 * v5))), (5, .int (zI v5)), (0, .ref y), (1, .ref a), (2, .int (zI x)), (3, .int (zI w)), (4, .ref f)]) hx hb dX9_merge_290 hl (k := 0) rfl (zI_add _ _) (by decide) rfl (fun ls hl => ?_)
                              refine lv_goto (tgt := 229) hx hb dX9_merge_293 (by decide) ?_
                              exact ih3 (v7 + 1) gq2 _ _ (by omega) (by omega) hqp2 hmt2 (Mst.sA hms2 (by omega) hnw (by omega) ⟨by omega, by omega⟩ (Or.inr ⟨by omega, rfl⟩)) hP hD hS ls (lv_sub hl [0, 1, 2, 3, 4, 5, 6, 7] rfl)
                            · refine lv_aload hx hb dX9_merge_257 (lv_at hl 7 rfl) ?_
                              refine lv_iload hx hb dX9_merge_259 (lv_at hl 1 rfl) ?_
                              refine lv_iconst (v := zI 2) hx hb dX9_merge_261 rfl ?_
                              refine r_iadd (v := zI ((20 * v5) + 2)) F dX9_merge_262 (zI_add _ _) ?_
                              refine lv_iconst (v := zI 3) hx hb dX9_merge_263 rfl ?_
                              refine lv_iload hx hb dX9_merge_264 (lv_at hl 0 rfl) ?_
                              refine r_imul (v := zI (3 * v7)) F dX9_merge_266 (zI_mul _ _) ?_
                              refine r_iadd (v := zI (((20 * v5) + 2) + (3 * v7))) F dX9_merge_267 (zI_add _ _) ?_
                              refine lv_iconst (v := zI 1) hx hb dX9_merge_268 rfl ?_
                              refine r_iadd (v := zI ((((20 * v5) + 2) + (3 * v7)) + 1)) F dX9_merge_269 (zI_add _ _) ?_
                              refine rz_iald F hK hP 2 0 rfl rfl (by omega) (by omega) dX9_merge_270 ?_
                              have hc230 := hqp2.1.pos (((((20 * v5) + 2) + (3 * v7)) + 1)).toNat (by omega)
                              have hc231 := hqp2.1.le9 (((((20 * v5) + 2) + (3 * v7)) + 1)).toNat (by omega)
                              refine lv_iload_n hx hb dX9_merge_271 rfl (lv_at hl 6 rfl) ?_
                              refine rz_icmp_ne (tgt := 290) F (by omega) (by omega) dX9_merge_272 (by decide) (fun h272_231 => ?_) (fun h272_231 => ?_)
                              · refine lv_iinc (v := zI (v7 + 1)) (lv' := [(7, .int (zI (v7 + 1))), (6, .int (zI (20 * v5))), (5, .int (zI v5)), (0, .ref y), (1, .ref a), (2, .int (zI x)), (3, .int (zI w)), (4, .ref f)]) hx hb dX9_merge_290 hl (k := 0) rfl (zI_add _ _) (by decide) rfl (fun ls hl => ?_)
                                refine lv_goto (tgt := 229) hx hb dX9_merge_293 (by decide) ?_
                                exact ih3 (v7 + 1) gq2 _ _ (by omega) (by omega) hqp2 hmt2 (Mst.sA hms2 (by omega) hnw (by omega) ⟨by omega, by omega⟩ (Or.inr ⟨by omega, rfl⟩)) hP hD hS ls (lv_sub hl [0, 1, 2, 3, 4, 5, 6, 7] rfl)
                              · refine lv_aload hx hb dX9_merge_275 (lv_at hl 7 rfl) ?_
                                refine lv_iload hx hb dX9_merge_277 (lv_at hl 1 rfl) ?_
                                refine lv_iconst (v := zI 2) hx hb dX9_merge_279 rfl ?_
                                refine r_iadd (v := zI ((20 * v5) + 2)) F dX9_merge_280 (zI_add _ _) ?_
                                refine lv_iconst (v := zI 3) hx hb dX9_merge_281 rfl ?_
                                refine lv_iload hx hb dX9_merge_282 (lv_at hl 0 rfl) ?_
                                refine r_imul (v := zI (3 * v7)) F dX9_merge_284 (zI_mul _ _) ?_
                                refine r_iadd (v := zI (((20 * v5) + 2) + (3 * v7))) F dX9_merge_285 (zI_add _ _) ?_
                                refine lv_iconst (v := zI 1) hx hb dX9_merge_286 rfl ?_
                                refine r_iadd (v := zI ((((20 * v5) + 2) + (3 * v7)) + 1)) F dX9_merge_287 (zI_add _ _) ?_
                                refine lv_iload_n hx hb dX9_merge_288 rfl (lv_at hl 5 rfl) ?_
                                refine rz_iastG F hK hP hD hS 2 0 rfl rfl (by omega) (by omega) dX9_merge_289 (w1 := fun g233 => [(y, .inr (9, [.int (zI (i 0)), .ref (q 0), .int (zI (i 1)), .int (zI (i 2)), .int (zI (i 3)), .int (zI (i 4)), .int (zI (i 5)), .int (zI (i 6)), .int (zI (i 7)), .int (zI (i 8)), .int (zI (i 9)), .int (zI (i 10)), .ref (q 1), .int (zI (i 11)), .int (zI (i 12)), .ref (q 2), .ref (q 3), .ref (q 4), .ref (q 5), .ref (q 6), .ref (q 7), .ref (q 8), .ref (q 9), .ref (q 10), .ref (q 11), .ref (q 12), .ref (q 13), .ref (q 14), .ref (q 15), .ref (q 16), .int (zI (i 13)), .int (zI (i 14)), .int (zI (i 15)), .int (zI (i 16)), .int (zI (i 17)), .int (zI (i 18)), .ref (q 17), .ref (q 18), .ref (q 19), .ref (q 20)])), (a, .inl (cI, 200, .inl (fun k => zI (g_p k)))), (f, .inl (cI, 200, .inl (fun k => zI (g233 k))))]) (fun _ => rfl) (fun g233 e_g233 H locs hP hD hS => ?_)
                                have hqp234 : ProgOk g233 := ProgOk.tgt3 hqp2 e_g233 (i := v5) (n := v7) (by omega) (by omega) (by omega) (by omega) (j := (((20 * v5) + 2) + (3 * v7)).toNat) (by omega) (by omega)
                                have hmt235 := MT.keepA hmt2 e_g233 (i := v5) (n := v7) (by omega) (by omega) (by omega)
                                refine lv_iinc (v := zI (v7 + 1)) (lv' := [(7, .int (zI (v7 + 1))), (6, .int (zI (20 * v5))), (5, .int (zI v5)), (0, .ref y), (1, .ref a), (2, .int (zI x)), (3, .int (zI w)), (4, .ref f)]) hx hb dX9_merge_290 hl (k := 0) rfl (zI_add _ _) (by decide) rfl (fun ls hl => ?_)
                                refine lv_goto (tgt := 229) hx hb dX9_merge_293 (by decide) ?_
                                exact ih3 (v7 + 1) g233 _ _ (by omega) (by omega) hqp234 hmt235 (Mst.sA hms2 (by omega) hnw (by omega) ⟨by omega, by omega⟩ (Or.inl ⟨by omega, by omega, e_g233⟩)) hP hD hS ls (lv_sub hl [0, 1, 2, 3, 4, 5, 6, 7] rfl)
                  · refine lv_aload hx hb dX9_merge_184 (lv_at hl 6 rfl) ?_
                    refine lv_iload hx hb dX9_merge_186 (lv_at hl 0 rfl) ?_
                    refine lv_bipush (v := zI 16) hx hb dX9_merge_188 (by decide) ?_
                    refine r_iadd (v := zI ((20 * v5) + 16)) F dX9_merge_190 (zI_add _ _) ?_
                    refine lv_iload_n hx hb dX9_merge_191 rfl (lv_at hl 4 rfl) ?_
                    refine rz_iastG F hK hP hD hS 2 0 rfl rfl (by omega) (by omega) dX9_merge_192 (w1 := fun g236 => [(y, .inr (9, [.int (zI (i 0)), .ref (q 0), .int (zI (i 1)), .int (zI (i 2)), .int (zI (i 3)), .int (zI (i 4)), .int (zI (i 5)), .int (zI (i 6)), .int (zI (i 7)), .int (zI (i 8)), .int (zI (i 9)), .int (zI (i 10)), .ref (q 1), .int (zI (i 11)), .int (zI (i 12)), .ref (q 2), .ref (q 3), .ref (q 4), .ref (q 5), .ref (q 6), .ref (q 7), .ref (q 8), .ref (q 9), .ref (q 10), .ref (q 11), .ref (q 12), .ref (q 13), .ref (q 14), .ref (q 15), .ref (q 16), .int (zI (i 13)), .int (zI (i 14)), .int (zI (i 15)), .int (zI (i 16)), .int (zI (i 17)), .int (zI (i 18)), .ref (q 17), .ref (q 18), .ref (q 19), .ref (q 20)])), (a, .inl (cI, 200, .inl (fun k => zI (g_p k)))), (f, .inl (cI, 200, .inl (fun k => zI (g236 k))))]) (fun _ => rfl) (fun g236 e_g236 H locs hP hD hS => ?_)
                    have hqp237 : ProgOk g236 := ⟨hqp1.1.set (m := 9) e_g236 16 (by omega) rfl (by omega), hqp1.2.set e_g236 (by omega)⟩
                    have hmt238 := hmt1.keep e_g236 (by omega)
                    refine lv_aload hx hb dX9_merge_193 (lv_at hl 6 rfl) ?_
                    have hms6 : Mst g_p x w (i 13) g236 v5 1 := Mst.s16 hms1 (by omega) hnw (by omega) (Or.inl ⟨by omega, by omega, e_g236⟩)
                    refine lv_iload hx hb dX9_merge_195 (lv_at hl 0 rfl) ?_
                    refine lv_bipush (v := zI 14) hx hb dX9_merge_197 (by decide) ?_
                    refine r_iadd (v := zI ((20 * v5) + 14)) F dX9_merge_199 (zI_add _ _) ?_
                    refine rz_iald F hK hP 2 0 rfl rfl (by omega) (by omega) dX9_merge_200 ?_
                    have hc239 := hqp237.1.pos (((20 * v5) + 14)).toNat (by omega)
                    have hc240 := hqp237.1.le9 (((20 * v5) + 14)).toNat (by omega)
                    refine lv_iconst (v := zI 2) hx hb dX9_merge_201 rfl ?_
                    refine rz_icmp_ne (tgt := 226) F (by omega) (by omega) dX9_merge_202 (by decide) (fun h202_240 => ?_) (fun h202_240 => ?_)
                    · refine lv_iconst (v := zI 0) hx hb dX9_merge_226 rfl ?_
                      have hms8 : Mst g_p x w (i 13) g236 v5 (3 + 0) := Mst.s18 hms6 (by omega) hnw (by omega) (Or.inr ⟨by omega, rfl⟩)
                      refine lv_istore (lv' := [(7, .int (zI 0)), (6, .int (zI (20 * v5))), (5, .int (zI v5)), (0, .ref y), (1, .ref a), (2, .int (zI x)), (3, .int (zI w)), (4, .ref f)]) hx hb dX9_merge_227 hl (by decide) rfl (fun ls hl => ?_)
                      refine W.widen (k := 0) (n := 0) (Nat.le_of_ble_eq_true rfl) (Nat.le_of_ble_eq_true rfl) ?_
                      refine (?_ : ∀ (n9_3 : Nat) (v7 : Int) (gq2 : Nat → Int) (H : Heap) (locs : List Loc), (0 ≤ v7 ∧ v7 ≤ 4) → (4 - v7 : Int).toNat < n9_3 → (ProgOk gq2) → (MT g_p gq2 w) → (Mst g_p x w (i 13) gq2 v5 (3 + v7)) → va_P G vwCl [(y, .inr (9, [.int (zI (i 0)), .ref (q 0), .int (zI (i 1)), .int (zI (i 2)), .int (zI (i 3)), .int (zI (i 4)), .int (zI (i 5)), .int (zI (i 6)), .int (zI (i 7)), .int (zI (i 8)), .int (zI (i 9)), .int (zI (i 10)), .ref (q 1), .int (zI (i 11)), .int (zI (i 12)), .ref (q 2), .ref (q 3), .ref (q 4), .ref (q 5), .ref (q 6), .ref (q 7), .ref (q 8), .ref (q 9), .ref (q 10), .ref (q 11), .ref (q 12), .ref (q 13), .ref (q 14), .ref (q 15), .ref (q 16), .int (zI (i 13)), .int (zI (i 14)), .int (zI (i 15)), .int (zI (i 16)), .int (zI (i 17)), .int (zI (i 18)), .ref (q 17), .ref (q 18), .ref (q 19), .ref (q 20)])), (a, .inl (cI, 200, .inl (fun k => zI (g_p k)))), (f, .inl (cI, 200, .inl (fun k => zI (gq2 k))))] H → va_D A [(y, .inr (9, [.int (zI (i 0)), .ref (q 0), .int (zI (i 1)), .int (zI (i 2)), .int (zI (i 3)), .int (zI (i 4)), .int (zI (i 5)), .int (zI (i 6)), .int (zI (i 7)), .int (zI (i 8)), .int (zI (i 9)), .int (zI (i 10)), .ref (q 1), .int (zI (i 11)), .int (zI (i 12)), .ref (q 2), .ref (q 3), .ref (q 4), .ref (q 5), .ref (q 6), .ref (q 7), .ref (q 8), .ref (q 9), .ref (q 10), .ref (q 11), .ref (q 12), .ref (q 13), .ref (q 14), .ref (q 15), .ref (q 16), .int (zI (i 13)), .int (zI (i 14)), .int (zI (i 15)), .int (zI (i 16)), .int (zI (i 17)), .int (zI (i 18)), .ref (q 17), .ref (q 18), .ref (q 19), .ref (q 20)])), (a, .inl (cI, 200, .inl (fun k => zI (g_p k)))), (f, .inl (cI, 200, .inl (fun k => zI (gq2 k))))] → va_S A s.heap H locs → ∀ ls : Array Slot, lv_has ls 8 [(7, .int (zI v7)), (6, .int (zI (20 * v5))), (5, .int (zI v5)), (0, .ref y), (1, .ref a), (2, .int (zI x)), (3, .int (zI w)), (4, .ref f)] → W p l e rm_X9_mergeX s m ([.ref y, .ref a, .int (zI x), .int (zI w), .ref f] : List Value).toArray below meth c H locs 0 0 Q (F0 m 229 ls [])) ((4 - 0 : Int).toNat + 1) 0 g236 _ _ (by omega) (by omega) hqp237 hmt238 hms8 hP hD hS ls hl
                      clear hP hD hS hl ls
                      intro n9_3
                      induction n9_3 with
                      | zero =>
                        intro v7 gq2 H locs hI hM
                        exact absurd hM (by omega)
                      | succ n9_3 ih3 =>
                        intro v7 gq2 H locs hI3 hM3 hqp2 hmt2 hms2 hP hD hS ls hl
                        refine lv_iload hx hb dX9_merge_229 (lv_at hl 0 rfl) ?_
                        refine lv_aload hx hb dX9_merge_231 (lv_at hl 7 rfl) ?_
                        refine lv_iload hx hb dX9_merge_233 (lv_at hl 1 rfl) ?_
                        refine lv_iconst (v := zI 1) hx hb dX9_merge_235 rfl ?_
                        refine r_iadd (v := zI ((20 * v5) + 1)) F dX9_merge_236 (zI_add _ _) ?_
                        refine rz_iald F hK hP 2 0 rfl rfl (by omega) (by omega) dX9_merge_237 ?_
                        have hpl242 : 0 ≤ (gq2 (((20 * v5) + 1)).toNat) ∧ (gq2 (((20 * v5) + 1)).toNat) ≤ 4 := ProgR.at hqp2.1 (e := ((20 * v5) + 1)) v5 1 (by omega) (by omega) (by decide) rfl
                        refine rz_icmp_ge (tgt := 296) F (by omega) (by omega) dX9_merge_238 (by decide) (fun h238_242 => ?_) (fun h238_242 => ?_)
                        · refine lv_iinc (v := zI (v5 + 1)) (lv' := [(5, .int (zI (v5 + 1))), (7, .int (zI v7)), (6, .int (zI (20 * v5))), (0, .ref y), (1, .ref a), (2, .int (zI x)), (3, .int (zI w)), (4, .ref f)]) hx hb dX9_merge_296 hl (k := 2) rfl (zI_add _ _) (by decide) rfl (fun ls hl => ?_)
                          refine lv_goto (tgt := 132) hx hb dX9_merge_299 (by decide) ?_
                          exact ih2 (v5 + 1) gq2 _ _ (by omega) (by omega) hqp2 hmt2 (Mst.fin hms2 (by omega) hnw ⟨by omega, by omega⟩) hP hD hS ls (lv_sub hl [0, 3, 4, 5, 6, 7] rfl)
                        · refine lv_aload hx hb dX9_merge_241 (lv_at hl 7 rfl) ?_
                          refine lv_iload hx hb dX9_merge_243 (lv_at hl 1 rfl) ?_
                          refine lv_iconst (v := zI 2) hx hb dX9_merge_245 rfl ?_
                          refine r_iadd (v := zI ((20 * v5) + 2)) F dX9_merge_246 (zI_add _ _) ?_
                          refine lv_iconst (v := zI 3) hx hb dX9_merge_247 rfl ?_
                          refine lv_iload hx hb dX9_merge_248 (lv_at hl 0 rfl) ?_
                          refine r_imul (v := zI (3 * v7)) F dX9_merge_250 (zI_mul _ _) ?_
                          refine r_iadd (v := zI (((20 * v5) + 2) + (3 * v7))) F dX9_merge_251 (zI_add _ _) ?_
                          refine rz_iald F hK hP 2 0 rfl rfl (by omega) (by omega) dX9_merge_252 ?_
                          have hc244 := ProgOk.act hqp2 (i := v5) (n := v7) (k := (((20 * v5) + 2) + (3 * v7))) (by omega) (by omega) (by omega)
                          refine lv_iconst (v := zI 3) hx hb dX9_merge_253 rfl ?_
                          refine rz_icmp_ne (tgt := 290) F (by omega) (by omega) dX9_merge_254 (by decide) (fun h254_244 => ?_) (fun h254_244 => ?_)
                          · refine lv_iinc (v := zI (v7 + 1)) (lv' := [(7, .int (zI (v7 + 1))), (6, .int (zI (20 * v5))), (5, .int (zI v5)), (0, .ref y), (1, .ref a), (2, .int (zI x)), (3, .int (zI w)), (4, .ref f)]) hx hb dX9_merge_290 hl (k := 0) rfl (zI_add _ _) (by decide) rfl (fun ls hl => ?_)
                            refine lv_goto (tgt := 229) hx hb dX9_merge_293 (by decide) ?_
                            exact ih3 (v7 + 1) gq2 _ _ (by omega) (by omega) hqp2 hmt2 (Mst.sA hms2 (by omega) hnw (by omega) ⟨by omega, by omega⟩ (Or.inr ⟨by omega, rfl⟩)) hP hD hS ls (lv_sub hl [0, 1, 2, 3, 4, 5, 6, 7] rfl)
                          · refine lv_aload hx hb dX9_merge_257 (lv_at hl 7 rfl) ?_
                            refine lv_iload hx hb dX9_merge_259 (lv_at hl 1 rfl) ?_
                            refine lv_iconst (v := zI 2) hx hb dX9_merge_261 rfl ?_
                            refine r_iadd (v := zI ((20 * v5) + 2)) F dX9_merge_262 (zI_add _ _) ?_
                            refine lv_iconst (v := zI 3) hx hb dX9_merge_263 rfl ?_
                            refine lv_iload hx hb dX9_merge_264 (lv_at hl 0 rfl) ?_
                            refine r_imul (v := zI (3 * v7)) F dX9_merge_266 (zI_mul _ _) ?_
                            refine r_iadd (v := zI (((20 * v5) + 2) + (3 * v7))) F dX9_merge_267 (zI_add _ _) ?_
                            refine lv_iconst (v := zI 1) hx hb dX9_merge_268 rfl ?_
                            refine r_iadd (v := zI ((((20 * v5) + 2) + (3 * v7)) + 1)) F dX9_merge_269 (zI_add _ _) ?_
                            refine rz_iald F hK hP 2 0 rfl rfl (by omega) (by omega) dX9_merge_270 ?_
                            have hc246 := hqp2.1.pos (((((20 * v5) + 2) + (3 * v7)) + 1)).toNat (by omega)
                            have hc247 := hqp2.1.le9 (((((20 * v5) + 2) + (3 * v7)) + 1)).toNat (by omega)
                            refine lv_iload_n hx hb dX9_merge_271 rfl (lv_at hl 6 rfl) ?_
                            refine rz_icmp_ne (tgt := 290) F (by omega) (by omega) dX9_merge_272 (by decide) (fun h272_247 => ?_) (fun h272_247 => ?_)
                            · refine lv_iinc (v := zI (v7 + 1)) (lv' := [(7, .int (zI (v7 + 1))), (6, .int (zI (20 * v5))), (5, .int (zI v5)), (0, .ref y), (1, .ref a), (2, .int (zI x)), (3, .int (zI w)), (4, .ref f)]) hx hb dX9_merge_290 hl (k := 0) rfl (zI_add _ _) (by decide) rfl (fun ls hl => ?_)
                              refine lv_goto (tgt := 229) hx hb dX9_merge_293 (by decide) ?_
                              exact ih3 (v7 + 1) gq2 _ _ (by omega) (by omega) hqp2 hmt2 (Mst.sA hms2 (by omega) hnw (by omega) ⟨by omega, by omega⟩ (Or.inr ⟨by omega, rfl⟩)) hP hD hS ls (lv_sub hl [0, 1, 2, 3, 4, 5, 6, 7] rfl)
                            · refine lv_aload hx hb dX9_merge_275 (lv_at hl 7 rfl) ?_
                              refine lv_iload hx hb dX9_merge_277 (lv_at hl 1 rfl) ?_
                              refine lv_iconst (v := zI 2) hx hb dX9_merge_279 rfl ?_
                              refine r_iadd (v := zI ((20 * v5) + 2)) F dX9_merge_280 (zI_add _ _) ?_
                              refine lv_iconst (v := zI 3) hx hb dX9_merge_281 rfl ?_
                              refine lv_iload hx hb dX9_merge_282 (lv_at hl 0 rfl) ?_
                              refine r_imul (v := zI (3 * v7)) F dX9_merge_284 (zI_mul _ _) ?_
                              refine r_iadd (v := zI (((20 * v5) + 2) + (3 * v7))) F dX9_merge_285 (zI_add _ _) ?_
                              refine lv_iconst (v := zI 1) hx hb dX9_merge_286 rfl ?_
                              refine r_iadd (v := zI ((((20 * v5) + 2) + (3 * v7)) + 1)) F dX9_merge_287 (zI_add _ _) ?_
                              refine lv_iload_n hx hb dX9_merge_288 rfl (lv_at hl 5 rfl) ?_
                              refine rz_iastG F hK hP hD hS 2 0 rfl rfl (by omega) (by omega) dX9_merge_289 (w1 := fun g249 => [(y, .inr (9, [.int (zI (i 0)), .ref (q 0), .int (zI (i 1)), .int (zI (i 2)), .int (zI (i 3)), .int (zI (i 4)), .int (zI (i 5)), .int (zI (i 6)), .int (zI (i 7)), .int (zI (i 8)), .int (zI (i 9)), .int (zI (i 10)), .ref (q 1), .int (zI (i 11)), .int (zI (i 12)), .ref (q 2), .ref (q 3), .ref (q 4), .ref (q 5), .ref (q 6), .ref (q 7), .ref (q 8), .ref (q 9), .ref (q 10), .ref (q 11), .ref (q 12), .ref (q 13), .ref (q 14), .ref (q 15), .ref (q 16), .int (zI (i 13)), .int (zI (i 14)), .int (zI (i 15)), .int (zI (i 16)), .int (zI (i 17)), .int (zI (i 18)), .ref (q 17), .ref (q 18), .ref (q 19), .ref (q 20)])), (a, .inl (cI, 200, .inl (fun k => zI (g_p k)))), (f, .inl (cI, 200, .inl (fun k => zI (g249 k))))]) (fun _ => rfl) (fun g249 e_g249 H locs hP hD hS => ?_)
                              have hqp250 : ProgOk g249 := ProgOk.tgt3 hqp2 e_g249 (i := v5) (n := v7) (by omega) (by omega) (by omega) (by omega) (j := (((20 * v5) + 2) + (3 * v7)).toNat) (by omega) (by omega)
                              have hmt251 := MT.keepA hmt2 e_g249 (i := v5) (n := v7) (by omega) (by omega) (by omega)
                              refine lv_iinc (v := zI (v7 + 1)) (lv' := [(7, .int (zI (v7 + 1))), (6, .int (zI (20 * v5))), (5, .int (zI v5)), (0, .ref y), (1, .ref a), (2, .int (zI x)), (3, .int (zI w)), (4, .ref f)]) hx hb dX9_merge_290 hl (k := 0) rfl (zI_add _ _) (by decide) rfl (fun ls hl => ?_)
                              refine lv_goto (tgt := 229) hx hb dX9_merge_293 (by decide) ?_
                              exact ih3 (v7 + 1) g249 _ _ (by omega) (by omega) hqp250 hmt251 (Mst.sA hms2 (by omega) hnw (by omega) ⟨by omega, by omega⟩ (Or.inl ⟨by omega, by omega, e_g249⟩)) hP hD hS ls (lv_sub hl [0, 1, 2, 3, 4, 5, 6, 7] rfl)
                    · refine lv_aload hx hb dX9_merge_205 (lv_at hl 6 rfl) ?_
                      refine lv_iload hx hb dX9_merge_207 (lv_at hl 0 rfl) ?_
                      refine lv_bipush (v := zI 18) hx hb dX9_merge_209 (by decide) ?_
                      refine r_iadd (v := zI ((20 * v5) + 18)) F dX9_merge_211 (zI_add _ _) ?_
                      refine rz_iald F hK hP 2 0 rfl rfl (by omega) (by omega) dX9_merge_212 ?_
                      have hc252 := hqp237.1.pos (((20 * v5) + 18)).toNat (by omega)
                      have hc253 := hqp237.1.le9 (((20 * v5) + 18)).toNat (by omega)
                      refine lv_iload_n hx hb dX9_merge_213 rfl (lv_at hl 5 rfl) ?_
                      refine rz_icmp_ne (tgt := 226) F (by omega) (by omega) dX9_merge_214 (by decide) (fun h214_253 => ?_) (fun h214_253 => ?_)
                      · refine lv_iconst (v := zI 0) hx hb dX9_merge_226 rfl ?_
                        have hms8 : Mst g_p x w (i 13) g236 v5 (3 + 0) := Mst.s18 hms6 (by omega) hnw (by omega) (Or.inr ⟨by omega, rfl⟩)
                        refine lv_istore (lv' := [(7, .int (zI 0)), (6, .int (zI (20 * v5))), (5, .int (zI v5)), (0, .ref y), (1, .ref a), (2, .int (zI x)), (3, .int (zI w)), (4, .ref f)]) hx hb dX9_merge_227 hl (by decide) rfl (fun ls hl => ?_)
                        refine W.widen (k := 0) (n := 0) (Nat.le_of_ble_eq_true rfl) (Nat.le_of_ble_eq_true rfl) ?_
                        refine (?_ : ∀ (n9_3 : Nat) (v7 : Int) (gq2 : Nat → Int) (H : Heap) (locs : List Loc), (0 ≤ v7 ∧ v7 ≤ 4) → (4 - v7 : Int).toNat < n9_3 → (ProgOk gq2) → (MT g_p gq2 w) → (Mst g_p x w (i 13) gq2 v5 (3 + v7)) → va_P G vwCl [(y, .inr (9, [.int (zI (i 0)), .ref (q 0), .int (zI (i 1)), .int (zI (i 2)), .int (zI (i 3)), .int (zI (i 4)), .int (zI (i 5)), .int (zI (i 6)), .int (zI (i 7)), .int (zI (i 8)), .int (zI (i 9)), .int (zI (i 10)), .ref (q 1), .int (zI (i 11)), .int (zI (i 12)), .ref (q 2), .ref (q 3), .ref (q 4), .ref (q 5), .ref (q 6), .ref (q 7), .ref (q 8), .ref (q 9), .ref (q 10), .ref (q 11), .ref (q 12), .ref (q 13), .ref (q 14), .ref (q 15), .ref (q 16), .int (zI (i 13)), .int (zI (i 14)), .int (zI (i 15)), .int (zI (i 16)), .int (zI (i 17)), .int (zI (i 18)), .ref (q 17), .ref (q 18), .ref (q 19), .ref (q 20)])), (a, .inl (cI, 200, .inl (fun k => zI (g_p k)))), (f, .inl (cI, 200, .inl (fun k => zI (gq2 k))))] H → va_D A [(y, .inr (9, [.int (zI (i 0)), .ref (q 0), .int (zI (i 1)), .int (zI (i 2)), .int (zI (i 3)), .int (zI (i 4)), .int (zI (i 5)), .int (zI (i 6)), .int (zI (i 7)), .int (zI (i 8)), .int (zI (i 9)), .int (zI (i 10)), .ref (q 1), .int (zI (i 11)), .int (zI (i 12)), .ref (q 2), .ref (q 3), .ref (q 4), .ref (q 5), .ref (q 6), .ref (q 7), .ref (q 8), .ref (q 9), .ref (q 10), .ref (q 11), .ref (q 12), .ref (q 13), .ref (q 14), .ref (q 15), .ref (q 16), .int (zI (i 13)), .int (zI (i 14)), .int (zI (i 15)), .int (zI (i 16)), .int (zI (i 17)), .int (zI (i 18)), .ref (q 17), .ref (q 18), .ref (q 19), .ref (q 20)])), (a, .inl (cI, 200, .inl (fun k => zI (g_p k)))), (f, .inl (cI, 200, .inl (fun k => zI (gq2 k))))] → va_S A s.heap H locs → ∀ ls : Array Slot, lv_has ls 8 [(7, .int (zI v7)), (6, .int (zI (20 * v5))), (5, .int (zI v5)), (0, .ref y), (1, .ref a), (2, .int (zI x)), (3, .int (zI w)), (4, .ref f)] → W p l e rm_X9_mergeX s m ([.ref y, .ref a, .int (zI x), .int (zI w), .ref f] : List Value).toArray below meth c H locs 0 0 Q (F0 m 229 ls [])) ((4 - 0 : Int).toNat + 1) 0 g236 _ _ (by omega) (by omega) hqp237 hmt238 hms8 hP hD hS ls hl
                        clear hP hD hS hl ls
                        intro n9_3
                        induction n9_3 with
                        | zero =>
                          intro v7 gq2 H locs hI hM
                          exact absurd hM (by omega)
                        | succ n9_3 ih3 =>
                          intro v7 gq2 H locs hI3 hM3 hqp2 hmt2 hms2 hP hD hS ls hl
                          refine lv_iload hx hb dX9_merge_229 (lv_at hl 0 rfl) ?_
                          refine lv_aload hx hb dX9_merge_231 (lv_at hl 7 rfl) ?_
                          refine lv_iload hx hb dX9_merge_233 (lv_at hl 1 rfl) ?_
                          refine lv_iconst (v := zI 1) hx hb dX9_merge_235 rfl ?_
                          refine r_iadd (v := zI ((20 * v5) + 1)) F dX9_merge_236 (zI_add _ _) ?_
                          refine rz_iald F hK hP 2 0 rfl rfl (by omega) (by omega) dX9_merge_237 ?_
                          have hpl255 : 0 ≤ (gq2 (((20 * v5) + 1)).toNat) ∧ (gq2 (((20 * v5) + 1)).toNat) ≤ 4 := ProgR.at hqp2.1 (e := ((20 * v5) + 1)) v5 1 (by omega) (by omega) (by decide) rfl
                          refine rz_icmp_ge (tgt := 296) F (by omega) (by omega) dX9_merge_238 (by decide) (fun h238_255 => ?_) (fun h238_255 => ?_)
                          · refine lv_iinc (v := zI (v5 + 1)) (lv' := [(5, .int (zI (v5 + 1))), (7, .int (zI v7)), (6, .int (zI (20 * v5))), (0, .ref y), (1, .ref a), (2, .int (zI x)), (3, .int (zI w)), (4, .ref f)]) hx hb dX9_merge_296 hl (k := 2) rfl (zI_add _ _) (by decide) rfl (fun ls hl => ?_)
                            refine lv_goto (tgt := 132) hx hb dX9_merge_299 (by decide) ?_
                            exact ih2 (v5 + 1) gq2 _ _ (by omega) (by omega) hqp2 hmt2 (Mst.fin hms2 (by omega) hnw ⟨by omega, by omega⟩) hP hD hS ls (lv_sub hl [0, 3, 4, 5, 6, 7] rfl)
                          · refine lv_aload hx hb dX9_merge_241 (lv_at hl 7 rfl) ?_
                            refine lv_iload hx hb dX9_merge_243 (lv_at hl 1 rfl) ?_
                            refine lv_iconst (v := zI 2) hx hb dX9_merge_245 rfl ?_
                            refine r_iadd (v := zI ((20 * v5) + 2)) F dX9_merge_246 (zI_add _ _) ?_
                            refine lv_iconst (v := zI 3) hx hb dX9_merge_247 rfl ?_
                            refine lv_iload hx hb dX9_merge_248 (lv_at hl 0 rfl) ?_
                            refine r_imul (v := zI (3 * v7)) F dX9_merge_250 (zI_mul _ _) ?_
                            refine r_iadd (v := zI (((20 * v5) + 2) + (3 * v7))) F dX9_merge_251 (zI_add _ _) ?_
                            refine rz_iald F hK hP 2 0 rfl rfl (by omega) (by omega) dX9_merge_252 ?_
                            have hc257 := ProgOk.act hqp2 (i := v5) (n := v7) (k := (((20 * v5) + 2) + (3 * v7))) (by omega) (by omega) (by omega)
                            refine lv_iconst (v := zI 3) hx hb dX9_merge_253 rfl ?_
                            refine rz_icmp_ne (tgt := 290) F (by omega) (by omega) dX9_merge_254 (by decide) (fun h254_257 => ?_) (fun h254_257 => ?_)
                            · refine lv_iinc (v := zI (v7 + 1)) (lv' := [(7, .int (zI (v7 + 1))), (6, .int (zI (20 * v5))), (5, .int (zI v5)), (0, .ref y), (1, .ref a), (2, .int (zI x)), (3, .int (zI w)), (4, .ref f)]) hx hb dX9_merge_290 hl (k := 0) rfl (zI_add _ _) (by decide) rfl (fun ls hl => ?_)
                              refine lv_goto (tgt := 229) hx hb dX9_merge_293 (by decide) ?_
                              exact ih3 (v7 + 1) gq2 _ _ (by omega) (by omega) hqp2 hmt2 (Mst.sA hms2 (by omega) hnw (by omega) ⟨by omega, by omega⟩ (Or.inr ⟨by omega, rfl⟩)) hP hD hS ls (lv_sub hl [0, 1, 2, 3, 4, 5, 6, 7] rfl)
                            · refine lv_aload hx hb dX9_merge_257 (lv_at hl 7 rfl) ?_
                              refine lv_iload hx hb dX9_merge_259 (lv_at hl 1 rfl) ?_
                              refine lv_iconst (v := zI 2) hx hb dX9_merge_261 rfl ?_
                              refine r_iadd (v := zI ((20 * v5) + 2)) F dX9_merge_262 (zI_add _ _) ?_
                              refine lv_iconst (v := zI 3) hx hb dX9_merge_263 rfl ?_
                              refine lv_iload hx hb dX9_merge_264 (lv_at hl 0 rfl) ?_
                              refine r_imul (v := zI (3 * v7)) F dX9_merge_266 (zI_mul _ _) ?_
                              refine r_iadd (v := zI (((20 * v5) + 2) + (3 * v7))) F dX9_merge_267 (zI_add _ _) ?_
                              refine lv_iconst (v := zI 1) hx hb dX9_merge_268 rfl ?_
                              refine r_iadd (v := zI ((((20 * v5) + 2) + (3 * v7)) + 1)) F dX9_merge_269 (zI_add _ _) ?_
                              refine rz_iald F hK hP 2 0 rfl rfl (by omega) (by omega) dX9_merge_270 ?_
                              have hc259 := hqp2.1.pos (((((20 * v5) + 2) + (3 * v7)) + 1)).toNat (by omega)
                              have hc260 := hqp2.1.le9 (((((20 * v5) + 2) + (3 * v7)) + 1)).toNat (by omega)
                              refine lv_iload_n hx hb dX9_merge_271 rfl (lv_at hl 6 rfl) ?_
                              refine rz_icmp_ne (tgt := 290) F (by omega) (by omega) dX9_merge_272 (by decide) (fun h272_260 => ?_) (fun h272_260 => ?_)
                              · refine lv_iinc (v := zI (v7 + 1)) (lv' := [(7, .int (zI (v7 + 1))), (6, .int (zI (20 * v5))), (5, .int (zI v5)), (0, .ref y), (1, .ref a), (2, .int (zI x)), (3, .int (zI w)), (4, .ref f)]) hx hb dX9_merge_290 hl (k := 0) rfl (zI_add _ _) (by decide) rfl (fun ls hl => ?_)
                                refine lv_goto (tgt := 229) hx hb dX9_merge_293 (by decide) ?_
                                exact ih3 (v7 + 1) gq2 _ _ (by omega) (by omega) hqp2 hmt2 (Mst.sA hms2 (by omega) hnw (by omega) ⟨by omega, by omega⟩ (Or.inr ⟨by omega, rfl⟩)) hP hD hS ls (lv_sub hl [0, 1, 2, 3, 4, 5, 6, 7] rfl)
                              · refine lv_aload hx hb dX9_merge_275 (lv_at hl 7 rfl) ?_
                                refine lv_iload hx hb dX9_merge_277 (lv_at hl 1 rfl) ?_
                                refine lv_iconst (v := zI 2) hx hb dX9_merge_279 rfl ?_
                                refine r_iadd (v := zI ((20 * v5) + 2)) F dX9_merge_280 (zI_add _ _) ?_
                                refine lv_iconst (v := zI 3) hx hb dX9_merge_281 rfl ?_
                                refine lv_iload hx hb dX9_merge_282 (lv_at hl 0 rfl) ?_
                                refine r_imul (v := zI (3 * v7)) F dX9_merge_284 (zI_mul _ _) ?_
                                refine r_iadd (v := zI (((20 * v5) + 2) + (3 * v7))) F dX9_merge_285 (zI_add _ _) ?_
                                refine lv_iconst (v := zI 1) hx hb dX9_merge_286 rfl ?_
                                refine r_iadd (v := zI ((((20 * v5) + 2) + (3 * v7)) + 1)) F dX9_merge_287 (zI_add _ _) ?_
                                refine lv_iload_n hx hb dX9_merge_288 rfl (lv_at hl 5 rfl) ?_
                                refine rz_iastG F hK hP hD hS 2 0 rfl rfl (by omega) (by omega) dX9_merge_289 (w1 := fun g262 => [(y, .inr (9, [.int (zI (i 0)), .ref (q 0), .int (zI (i 1)), .int (zI (i 2)), .int (zI (i 3)), .int (zI (i 4)), .int (zI (i 5)), .int (zI (i 6)), .int (zI (i 7)), .int (zI (i 8)), .int (zI (i 9)), .int (zI (i 10)), .ref (q 1), .int (zI (i 11)), .int (zI (i 12)), .ref (q 2), .ref (q 3), .ref (q 4), .ref (q 5), .ref (q 6), .ref (q 7), .ref (q 8), .ref (q 9), .ref (q 10), .ref (q 11), .ref (q 12), .ref (q 13), .ref (q 14), .ref (q 15), .ref (q 16), .int (zI (i 13)), .int (zI (i 14)), .int (zI (i 15)), .int (zI (i 16)), .int (zI (i 17)), .int (zI (i 18)), .ref (q 17), .ref (q 18), .ref (q 19), .ref (q 20)])), (a, .inl (cI, 200, .inl (fun k => zI (g_p k)))), (f, .inl (cI, 200, .inl (fun k => zI (g262 k))))]) (fun _ => rfl) (fun g262 e_g262 H locs hP hD hS => ?_)
                                have hqp263 : ProgOk g262 := ProgOk.tgt3 hqp2 e_g262 (i := v5) (n := v7) (by omega) (by omega) (by omega) (by omega) (j := (((20 * v5) + 2) + (3 * v7)).toNat) (by omega) (by omega)
                                have hmt264 := MT.keepA hmt2 e_g262 (i := v5) (n := v7) (by omega) (by omega) (by omega)
                                refine lv_iinc (v := zI (v7 + 1)) (lv' := [(7, .int (zI (v7 + 1))), (6, .int (zI (20 * v5))), (5, .int (zI v5)), (0, .ref y), (1, .ref a), (2, .int (zI x)), (3, .int (zI w)), (4, .ref f)]) hx hb dX9_merge_290 hl (k := 0) rfl (zI_add _ _) (by decide) rfl (fun ls hl => ?_)
                                refine lv_goto (tgt := 229) hx hb dX9_merge_293 (by decide) ?_
                                exact ih3 (v7 + 1) g262 _ _ (by omega) (by omega) hqp263 hmt264 (Mst.sA hms2 (by omega) hnw (by omega) ⟨by omega, by omega⟩ (Or.inl ⟨by omega, by omega, e_g262⟩)) hP hD hS ls (lv_sub hl [0, 1, 2, 3, 4, 5, 6, 7] rfl)
                      · refine lv_aload hx hb dX9_merge_217 (lv_at hl 6 rfl) ?_
                        refine lv_iload hx hb dX9_merge_219 (lv_at hl 0 rfl) ?_
                        refine lv_bipush (v := zI 18) hx hb dX9_merge_221 (by decide) ?_
                        refine r_iadd (v := zI ((20 * v5) + 18)) F dX9_merge_223 (zI_add _ _) ?_
                        refine lv_iload_n hx hb dX9_merge_224 rfl (lv_at hl 4 rfl) ?_
                        refine rz_iastG F hK hP hD hS 2 0 rfl rfl (by omega) (by omega) dX9_merge_225 (w1 := fun g265 => [(y, .inr (9, [.int (zI (i 0)), .ref (q 0), .int (zI (i 1)), .int (zI (i 2)), .int (zI (i 3)), .int (zI (i 4)), .int (zI (i 5)), .int (zI (i 6)), .int (zI (i 7)), .int (zI (i 8)), .int (zI (i 9)), .int (zI (i 10)), .ref (q 1), .int (zI (i 11)), .int (zI (i 12)), .ref (q 2), .ref (q 3), .ref (q 4), .ref (q 5), .ref (q 6), .ref (q 7), .ref (q 8), .ref (q 9), .ref (q 10), .ref (q 11), .ref (q 12), .ref (q 13), .ref (q 14), .ref (q 15), .ref (q 16), .int (zI (i 13)), .int (zI (i 14)), .int (zI (i 15)), .int (zI (i 16)), .int (zI (i 17)), .int (zI (i 18)), .ref (q 17), .ref (q 18), .ref (q 19), .ref (q 20)])), (a, .inl (cI, 200, .inl (fun k => zI (g_p k)))), (f, .inl (cI, 200, .inl (fun k => zI (g265 k))))]) (fun _ => rfl) (fun g265 e_g265 H locs hP hD hS => ?_)
                        have hqp266 : ProgOk g265 := ⟨hqp237.1.set (m := 9) e_g265 18 (by omega) rfl (by omega), hqp237.2.set e_g265 (by omega)⟩
                        have hmt267 := hmt238.keep e_g265 (by omega)
                        refine lv_iconst (v := zI 0) hx hb dX9_merge_226 rfl ?_
                        have hms8 : Mst g_p x w (i 13) g265 v5 (3 + 0) := Mst.s18 hms6 (by omega) hnw (by omega) (Or.inl ⟨by omega, by omega, e_g265⟩)
                        refine lv_istore (lv' := [(7, .int (zI 0)), (6, .int (zI (20 * v5))), (5, .int (zI v5)), (0, .ref y), (1, .ref a), (2, .int (zI x)), (3, .int (zI w)), (4, .ref f)]) hx hb dX9_merge_227 hl (by decide) rfl (fun ls hl => ?_)
                        refine W.widen (k := 0) (n := 0) (Nat.le_of_ble_eq_true rfl) (Nat.le_of_ble_eq_true rfl) ?_
                        refine (?_ : ∀ (n9_3 : Nat) (v7 : Int) (gq2 : Nat → Int) (H : Heap) (locs : List Loc), (0 ≤ v7 ∧ v7 ≤ 4) → (4 - v7 : Int).toNat < n9_3 → (ProgOk gq2) → (MT g_p gq2 w) → (Mst g_p x w (i 13) gq2 v5 (3 + v7)) → va_P G vwCl [(y, .inr (9, [.int (zI (i 0)), .ref (q 0), .int (zI (i 1)), .int (zI (i 2)), .int (zI (i 3)), .int (zI (i 4)), .int (zI (i 5)), .int (zI (i 6)), .int (zI (i 7)), .int (zI (i 8)), .int (zI (i 9)), .int (zI (i 10)), .ref (q 1), .int (zI (i 11)), .int (zI (i 12)), .ref (q 2), .ref (q 3), .ref (q 4), .ref (q 5), .ref (q 6), .ref (q 7), .ref (q 8), .ref (q 9), .ref (q 10), .ref (q 11), .ref (q 12), .ref (q 13), .ref (q 14), .ref (q 15), .ref (q 16), .int (zI (i 13)), .int (zI (i 14)), .int (zI (i 15)), .int (zI (i 16)), .int (zI (i 17)), .int (zI (i 18)), .ref (q 17), .ref (q 18), .ref (q 19), .ref (q 20)])), (a, .inl (cI, 200, .inl (fun k => zI (g_p k)))), (f, .inl (cI, 200, .inl (fun k => zI (gq2 k))))] H → va_D A [(y, .inr (9, [.int (zI (i 0)), .ref (q 0), .int (zI (i 1)), .int (zI (i 2)), .int (zI (i 3)), .int (zI (i 4)), .int (zI (i 5)), .int (zI (i 6)), .int (zI (i 7)), .int (zI (i 8)), .int (zI (i 9)), .int (zI (i 10)), .ref (q 1), .int (zI (i 11)), .int (zI (i 12)), .ref (q 2), .ref (q 3), .ref (q 4), .ref (q 5), .ref (q 6), .ref (q 7), .ref (q 8), .ref (q 9), .ref (q 10), .ref (q 11), .ref (q 12), .ref (q 13), .ref (q 14), .ref (q 15), .ref (q 16), .int (zI (i 13)), .int (zI (i 14)), .int (zI (i 15)), .int (zI (i 16)), .int (zI (i 17)), .int (zI (i 18)), .ref (q 17), .ref (q 18), .ref (q 19), .ref (q 20)])), (a, .inl (cI, 200, .inl (fun k => zI (g_p k)))), (f, .inl (cI, 200, .inl (fun k => zI (gq2 k))))] → va_S A s.heap H locs → ∀ ls : Array Slot, lv_has ls 8 [(7, .int (zI v7)), (6, .int (zI (20 * v5))), (5, .int (zI v5)), (0, .ref y), (1, .ref a), (2, .int (zI x)), (3, .int (zI w)), (4, .ref f)] → W p l e rm_X9_mergeX s m ([.ref y, .ref a, .int (zI x), .int (zI w), .ref f] : List Value).toArray below meth c H locs 0 0 Q (F0 m 229 ls [])) ((4 - 0 : Int).toNat + 1) 0 g265 _ _ (by omega) (by omega) hqp266 hmt267 hms8 hP hD hS ls hl
                        clear hP hD hS hl ls
                        intro n9_3
                        induction n9_3 with
                        | zero =>
                          intro v7 gq2 H locs hI hM
                          exact absurd hM (by omega)
                        | succ n9_3 ih3 =>
                          intro v7 gq2 H locs hI3 hM3 hqp2 hmt2 hms2 hP hD hS ls hl
                          refine lv_iload hx hb dX9_merge_229 (lv_at hl 0 rfl) ?_
                          refine lv_aload hx hb dX9_merge_231 (lv_at hl 7 rfl) ?_
                          refine lv_iload hx hb dX9_merge_233 (lv_at hl 1 rfl) ?_
                          refine lv_iconst (v := zI 1) hx hb dX9_merge_235 rfl ?_
                          refine r_iadd (v := zI ((20 * v5) + 1)) F dX9_merge_236 (zI_add _ _) ?_
                          refine rz_iald F hK hP 2 0 rfl rfl (by omega) (by omega) dX9_merge_237 ?_
                          have hpl268 : 0 ≤ (gq2 (((20 * v5) + 1)).toNat) ∧ (gq2 (((20 * v5) + 1)).toNat) ≤ 4 := ProgR.at hqp2.1 (e := ((20 * v5) + 1)) v5 1 (by omega) (by omega) (by decide) rfl
                          refine rz_icmp_ge (tgt := 296) F (by omega) (by omega) dX9_merge_238 (by decide) (fun h238_268 => ?_) (fun h238_268 => ?_)
                          · refine lv_iinc (v := zI (v5 + 1)) (lv' := [(5, .int (zI (v5 + 1))), (7, .int (zI v7)), (6, .int (zI (20 * v5))), (0, .ref y), (1, .ref a), (2, .int (zI x)), (3, .int (zI w)), (4, .ref f)]) hx hb dX9_merge_296 hl (k := 2) rfl (zI_add _ _) (by decide) rfl (fun ls hl => ?_)
                            refine lv_goto (tgt := 132) hx hb dX9_merge_299 (by decide) ?_
                            exact ih2 (v5 + 1) gq2 _ _ (by omega) (by omega) hqp2 hmt2 (Mst.fin hms2 (by omega) hnw ⟨by omega, by omega⟩) hP hD hS ls (lv_sub hl [0, 3, 4, 5, 6, 7] rfl)
                          · refine lv_aload hx hb dX9_merge_241 (lv_at hl 7 rfl) ?_
                            refine lv_iload hx hb dX9_merge_243 (lv_at hl 1 rfl) ?_
                            refine lv_iconst (v := zI 2) hx hb dX9_merge_245 rfl ?_
                            refine r_iadd (v := zI ((20 * v5) + 2)) F dX9_merge_246 (zI_add _ _) ?_
                            refine lv_iconst (v := zI 3) hx hb dX9_merge_247 rfl ?_
                            refine lv_iload hx hb dX9_merge_248 (lv_at hl 0 rfl) ?_
                            refine r_imul (v := zI (3 * v7)) F dX9_merge_250 (zI_mul _ _) ?_
                            refine r_iadd (v := zI (((20 * v5) + 2) + (3 * v7))) F dX9_merge_251 (zI_add _ _) ?_
                            refine rz_iald F hK hP 2 0 rfl rfl (by omega) (by omega) dX9_merge_252 ?_
                            have hc270 := ProgOk.act hqp2 (i := v5) (n := v7) (k := (((20 * v5) + 2) + (3 * v7))) (by omega) (by omega) (by omega)
                            refine lv_iconst (v := zI 3) hx hb dX9_merge_253 rfl ?_
                            refine rz_icmp_ne (tgt := 290) F (by omega) (by omega) dX9_merge_254 (by decide) (fun h254_270 => ?_) (fun h254_270 => ?_)
                            · refine lv_iinc (v := zI (v7 + 1)) (lv' := [(7, .int (zI (v7 + 1))), (6, .int (zI (20 * v5))), (5, .int (zI v5)), (0, .ref y), (1, .ref a), (2, .int (zI x)), (3, .int (zI w)), (4, .ref f)]) hx hb dX9_merge_290 hl (k := 0) rfl (zI_add _ _) (by decide) rfl (fun ls hl => ?_)
                              refine lv_goto (tgt := 229) hx hb dX9_merge_293 (by decide) ?_
                              exact ih3 (v7 + 1) gq2 _ _ (by omega) (by omega) hqp2 hmt2 (Mst.sA hms2 (by omega) hnw (by omega) ⟨by omega, by omega⟩ (Or.inr ⟨by omega, rfl⟩)) hP hD hS ls (lv_sub hl [0, 1, 2, 3, 4, 5, 6, 7] rfl)
                            · refine lv_aload hx hb dX9_merge_257 (lv_at hl 7 rfl) ?_
                              refine lv_iload hx hb dX9_merge_259 (lv_at hl 1 rfl) ?_
                              refine lv_iconst (v := zI 2) hx hb dX9_merge_261 rfl ?_
                              refine r_iadd (v := zI ((20 * v5) + 2)) F dX9_merge_262 (zI_add _ _) ?_
                              refine lv_iconst (v := zI 3) hx hb dX9_merge_263 rfl ?_
                              refine lv_iload hx hb dX9_merge_264 (lv_at hl 0 rfl) ?_
                              refine r_imul (v := zI (3 * v7)) F dX9_merge_266 (zI_mul _ _) ?_
                              refine r_iadd (v := zI (((20 * v5) + 2) + (3 * v7))) F dX9_merge_267 (zI_add _ _) ?_
                              refine lv_iconst (v := zI 1) hx hb dX9_merge_268 rfl ?_
                              refine r_iadd (v := zI ((((20 * v5) + 2) + (3 * v7)) + 1)) F dX9_merge_269 (zI_add _ _) ?_
                              refine rz_iald F hK hP 2 0 rfl rfl (by omega) (by omega) dX9_merge_270 ?_
                              have hc272 := hqp2.1.pos (((((20 * v5) + 2) + (3 * v7)) + 1)).toNat (by omega)
                              have hc273 := hqp2.1.le9 (((((20 * v5) + 2) + (3 * v7)) + 1)).toNat (by omega)
                              refine lv_iload_n hx hb dX9_merge_271 rfl (lv_at hl 6 rfl) ?_
                              refine rz_icmp_ne (tgt := 290) F (by omega) (by omega) dX9_merge_272 (by decide) (fun h272_273 => ?_) (fun h272_273 => ?_)
                              · refine lv_iinc (v := zI (v7 + 1)) (lv' := [(7, .int (zI (v7 + 1))), (6, .int (zI (20 * v5))), (5, .int (zI v5)), (0, .ref y), (1, .ref a), (2, .int (zI x)), (3, .int (zI w)), (4, .ref f)]) hx hb dX9_merge_290 hl (k := 0) rfl (zI_add _ _) (by decide) rfl (fun ls hl => ?_)
                                refine lv_goto (tgt := 229) hx hb dX9_merge_293 (by decide) ?_
                                exact ih3 (v7 + 1) gq2 _ _ (by omega) (by omega) hqp2 hmt2 (Mst.sA hms2 (by omega) hnw (by omega) ⟨by omega, by omega⟩ (Or.inr ⟨by omega, rfl⟩)) hP hD hS ls (lv_sub hl [0, 1, 2, 3, 4, 5, 6, 7] rfl)
                              · refine lv_aload hx hb dX9_merge_275 (lv_at hl 7 rfl) ?_
                                refine lv_iload hx hb dX9_merge_277 (lv_at hl 1 rfl) ?_
                                refine lv_iconst (v := zI 2) hx hb dX9_merge_279 rfl ?_
                                refine r_iadd (v := zI ((20 * v5) + 2)) F dX9_merge_280 (zI_add _ _) ?_
                                refine lv_iconst (v := zI 3) hx hb dX9_merge_281 rfl ?_
                                refine lv_iload hx hb dX9_merge_282 (lv_at hl 0 rfl) ?_
                                refine r_imul (v := zI (3 * v7)) F dX9_merge_284 (zI_mul _ _) ?_
                                refine r_iadd (v := zI (((20 * v5) + 2) + (3 * v7))) F dX9_merge_285 (zI_add _ _) ?_
                                refine lv_iconst (v := zI 1) hx hb dX9_merge_286 rfl ?_
                                refine r_iadd (v := zI ((((20 * v5) + 2) + (3 * v7)) + 1)) F dX9_merge_287 (zI_add _ _) ?_
                                refine lv_iload_n hx hb dX9_merge_288 rfl (lv_at hl 5 rfl) ?_
                                refine rz_iastG F hK hP hD hS 2 0 rfl rfl (by omega) (by omega) dX9_merge_289 (w1 := fun g275 => [(y, .inr (9, [.int (zI (i 0)), .ref (q 0), .int (zI (i 1)), .int (zI (i 2)), .int (zI (i 3)), .int (zI (i 4)), .int (zI (i 5)), .int (zI (i 6)), .int (zI (i 7)), .int (zI (i 8)), .int (zI (i 9)), .int (zI (i 10)), .ref (q 1), .int (zI (i 11)), .int (zI (i 12)), .ref (q 2), .ref (q 3), .ref (q 4), .ref (q 5), .ref (q 6), .ref (q 7), .ref (q 8), .ref (q 9), .ref (q 10), .ref (q 11), .ref (q 12), .ref (q 13), .ref (q 14), .ref (q 15), .ref (q 16), .int (zI (i 13)), .int (zI (i 14)), .int (zI (i 15)), .int (zI (i 16)), .int (zI (i 17)), .int (zI (i 18)), .ref (q 17), .ref (q 18), .ref (q 19), .ref (q 20)])), (a, .inl (cI, 200, .inl (fun k => zI (g_p k)))), (f, .inl (cI, 200, .inl (fun k => zI (g275 k))))]) (fun _ => rfl) (fun g275 e_g275 H locs hP hD hS => ?_)
                                have hqp276 : ProgOk g275 := ProgOk.tgt3 hqp2 e_g275 (i := v5) (n := v7) (by omega) (by omega) (by omega) (by omega) (j := (((20 * v5) + 2) + (3 * v7)).toNat) (by omega) (by omega)
                                have hmt277 := MT.keepA hmt2 e_g275 (i := v5) (n := v7) (by omega) (by omega) (by omega)
                                refine lv_iinc (v := zI (v7 + 1)) (lv' := [(7, .int (zI (v7 + 1))), (6, .int (zI (20 * v5))), (5, .int (zI v5)), (0, .ref y), (1, .ref a), (2, .int (zI x)), (3, .int (zI w)), (4, .ref f)]) hx hb dX9_merge_290 hl (k := 0) rfl (zI_add _ _) (by decide) rfl (fun ls hl => ?_)
                                refine lv_goto (tgt := 229) hx hb dX9_merge_293 (by decide) ?_
                                exact ih3 (v7 + 1) g275 _ _ (by omega) (by omega) hqp276 hmt277 (Mst.sA hms2 (by omega) hnw (by omega) ⟨by omega, by omega⟩ (Or.inl ⟨by omega, by omega, e_g275⟩)) hP hD hS ls (lv_sub hl [0, 1, 2, 3, 4, 5, 6, 7] rfl)
              · refine lv_goto (tgt := 296) hx hb dX9_merge_158 (by decide) ?_
                refine lv_iinc (v := zI (v5 + 1)) (lv' := [(5, .int (zI (v5 + 1))), (6, .int (zI (20 * v5))), (0, .ref y), (1, .ref a), (2, .int (zI x)), (3, .int (zI w)), (4, .ref f)]) hx hb dX9_merge_296 hl (k := 1) rfl (zI_add _ _) (by decide) rfl (fun ls hl => ?_)
                refine lv_goto (tgt := 132) hx hb dX9_merge_299 (by decide) ?_
                exact ih2 (v5 + 1) gq1 _ _ (by omega) (by omega) hqp1 hmt1 (Mst.skip hms1 (by omega) (by omega)) hP hD hS ls (lv_sub hl [0, 2, 3, 4, 5, 6] rfl)
      · refine lv_aload hx hb dX9_merge_48 (lv_at hl 5 rfl) ?_
        refine lv_bipush (v := zI 20) hx hb dX9_merge_50 (by decide) ?_
        refine lv_iload_n hx hb dX9_merge_52 rfl (lv_at hl 3 rfl) ?_
        refine r_imul (v := zI (20 * x)) F dX9_merge_53 (zI_mul _ _) ?_
        refine lv_bipush (v := zI 17) hx hb dX9_merge_54 (by decide) ?_
        refine r_iadd (v := zI ((20 * x) + 17)) F dX9_merge_56 (zI_add _ _) ?_
        refine lv_bipush (v := zI 9) hx hb dX9_merge_57 (by decide) ?_
        refine lv_aload_n hx hb dX9_merge_59 rfl (lv_at hl 2 rfl) ?_
        refine lv_bipush (v := zI 20) hx hb dX9_merge_60 (by decide) ?_
        refine lv_iload_n hx hb dX9_merge_62 rfl (lv_at hl 3 rfl) ?_
        refine r_imul (v := zI (20 * x)) F dX9_merge_63 (zI_mul _ _) ?_
        refine lv_bipush (v := zI 17) hx hb dX9_merge_64 (by decide) ?_
        refine r_iadd (v := zI ((20 * x) + 17)) F dX9_merge_66 (zI_add _ _) ?_
        refine rz_iald F hK hP 1 0 rfl rfl (by omega) (by omega) dX9_merge_67 ?_
        have hpl278 : 0 ≤ (g_p (((20 * x) + 17)).toNat) ∧ (g_p (((20 * x) + 17)).toNat) ≤ 9 := ProgR.at hp.1 (e := ((20 * x) + 17)) x 17 (by omega) (by omega) (by decide) rfl
        refine lv_aload_n hx hb dX9_merge_68 rfl (lv_at hl 2 rfl) ?_
        refine lv_bipush (v := zI 20) hx hb dX9_merge_69 (by decide) ?_
        refine lv_iload_n hx hb dX9_merge_71 rfl (lv_at hl 4 rfl) ?_
        refine r_imul (v := zI (20 * w)) F dX9_merge_72 (zI_mul _ _) ?_
        refine lv_bipush (v := zI 17) hx hb dX9_merge_73 (by decide) ?_
        refine r_iadd (v := zI ((20 * w) + 17)) F dX9_merge_75 (zI_add _ _) ?_
        refine rz_iald F hK hP 1 0 rfl rfl (by omega) (by omega) dX9_merge_76 ?_
        have hpl279 : 0 ≤ (g_p (((20 * w) + 17)).toNat) ∧ (g_p (((20 * w) + 17)).toNat) ≤ 9 := ProgR.at hp.1 (e := ((20 * w) + 17)) w 17 (by omega) (by omega) (by decide) rfl
        refine r_iadd (v := zI ((g_p (((20 * x) + 17)).toNat) + (g_p (((20 * w) + 17)).toNat))) F dX9_merge_77 (zI_add _ _) ?_
        refine r_callSi (As := [.int (zI 9), .int (zI ((g_p (((20 * x) + 17)).toNat) + (g_p (((20 * w) + 17)).toNat)))]) (rest := [.int (zI ((20 * x) + 17)), .ref f]) (wr := [(y, .inr (9, [.int (zI (i 0)), .ref (q 0), .int (zI (i 1)), .int (zI (i 2)), .int (zI (i 3)), .int (zI (i 4)), .int (zI (i 5)), .int (zI (i 6)), .int (zI (i 7)), .int (zI (i 8)), .int (zI (i 9)), .int (zI (i 10)), .ref (q 1), .int (zI (i 11)), .int (zI (i 12)), .ref (q 2), .ref (q 3), .ref (q 4), .ref (q 5), .ref (q 6), .ref (q 7), .ref (q 8), .ref (q 9), .ref (q 10), .ref (q 11), .ref (q 12), .ref (q 13), .ref (q 14), .ref (q 15), .ref (q 16), .int (zI (i 13)), .int (zI (i 14)), .int (zI (i 15)), .int (zI (i 16)), .int (zI (i 17)), .int (zI (i 18)), .ref (q 17), .ref (q 18), .ref (q 19), .ref (q 20)])), (a, .inl (cI, 200, .inl (fun k => zI (g_p k)))), (f, .inl (cI, 200, .inl (fun k => zI (gz9 k))))]) F hK hP hD hS hA hO hE (c_X9_less hO 9 ((g_p (((20 * x) + 17)).toNat) + (g_p (((20 * w) + 17)).toNat)) (by omega) (by omega)) k_1456 ks_X9_less 2 rfl (by decide +kernel) ⟨Nat.le_of_ble_eq_true rfl, Nat.le_of_ble_eq_true rfl⟩ [] [0, 1, 2] rfl rfl (by decide) (by decide) (by decide) hl.1 rfl (Nat.le_of_ble_eq_true rfl) dX9_merge_78 ⟨Nat.le_of_ble_eq_true rfl, Nat.le_of_ble_eq_true rfl⟩ (w1 := fun u280 => [(y, .inr (9, [.int (zI (i 0)), .ref (q 0), .int (zI (i 1)), .int (zI (i 2)), .int (zI (i 3)), .int (zI (i 4)), .int (zI (i 5)), .int (zI (i 6)), .int (zI (i 7)), .int (zI (i 8)), .int (zI (i 9)), .int (zI (i 10)), .ref (q 1), .int (zI (i 11)), .int (zI (i 12)), .ref (q 2), .ref (q 3), .ref (q 4), .ref (q 5), .ref (q 6), .ref (q 7), .ref (q 8), .ref (q 9), .ref (q 10), .ref (q 11), .ref (q 12), .ref (q 13), .ref (q 14), .ref (q 15), .ref (q 16), .int (zI (i 13)), .int (zI (i 14)), .int (zI (i 15)), .int (zI (i 16)), .int (zI (i 17)), .int (zI (i 18)), .ref (q 17), .ref (q 18), .ref (q 19), .ref (q 20)])), (a, .inl (cI, 200, .inl (fun k => zI (g_p k)))), (f, .inl (cI, 200, .inl (fun k => zI (gz9 k))))]) (fun _ => rfl) (fun r281 u280 H locs hp282 hP hD hS => ?_)
        obtain ⟨z283, rfl, h_z283⟩ := hp282
        refine rz_iastG F hK hP hD hS 2 0 rfl rfl (by omega) (by omega) dX9_merge_81 (w1 := fun g284 => [(y, .inr (9, [.int (zI (i 0)), .ref (q 0), .int (zI (i 1)), .int (zI (i 2)), .int (zI (i 3)), .int (zI (i 4)), .int (zI (i 5)), .int (zI (i 6)), .int (zI (i 7)), .int (zI (i 8)), .int (zI (i 9)), .int (zI (i 10)), .ref (q 1), .int (zI (i 11)), .int (zI (i 12)), .ref (q 2), .ref (q 3), .ref (q 4), .ref (q 5), .ref (q 6), .ref (q 7), .ref (q 8), .ref (q 9), .ref (q 10), .ref (q 11), .ref (q 12), .ref (q 13), .ref (q 14), .ref (q 15), .ref (q 16), .int (zI (i 13)), .int (zI (i 14)), .int (zI (i 15)), .int (zI (i 16)), .int (zI (i 17)), .int (zI (i 18)), .ref (q 17), .ref (q 18), .ref (q 19), .ref (q 20)])), (a, .inl (cI, 200, .inl (fun k => zI (g_p k)))), (f, .inl (cI, 200, .inl (fun k => zI (g284 k))))]) (fun _ => rfl) (fun g284 e_g284 H locs hP hD hS => ?_)
        have hqp285 : ProgOk g284 := ⟨hqp0.1.set (m := 9) e_g284 17 (by omega) rfl (by omega), hqp0.2.set e_g284 (by omega)⟩
        have hmt286 := hmt0.keep e_g284 (by omega)
        refine lv_aload_n hx hb dX9_merge_82 rfl (lv_at hl 2 rfl) ?_
        refine lv_bipush (v := zI 20) hx hb dX9_merge_83 (by decide) ?_
        refine lv_iload_n hx hb dX9_merge_85 rfl (lv_at hl 3 rfl) ?_
        refine r_imul (v := zI (20 * x)) F dX9_merge_86 (zI_mul _ _) ?_
        refine lv_bipush (v := zI 14) hx hb dX9_merge_87 (by decide) ?_
        refine r_iadd (v := zI ((20 * x) + 14)) F dX9_merge_89 (zI_add _ _) ?_
        refine rz_iald F hK hP 1 0 rfl rfl (by omega) (by omega) dX9_merge_90 ?_
        have hpl287 : 0 ≤ (g_p (((20 * x) + 14)).toNat) ∧ (g_p (((20 * x) + 14)).toNat) ≤ 2 := ProgR.at hp.1 (e := ((20 * x) + 14)) x 14 (by omega) (by omega) (by decide) rfl
        refine lv_iconst (v := zI 2) hx hb dX9_merge_91 rfl ?_
        refine rz_icmp_ne (tgt := 129) F (by omega) (by omega) dX9_merge_92 (by decide) (fun h92_287 => ?_) (fun h92_287 => ?_)
        · refine lv_iconst (v := zI 0) hx hb dX9_merge_129 rfl ?_
          have hms0 : Mst g_p x w (i 13) g284 0 0 := Mst.start (q := gz9) (q1 := g284) hx8 hxw (fun k hk => by rw [hz9 k hk, show v5 = 20 by omega]) (Or.inl ⟨by omega, (by rw [← (lessZ_eq h_z283)]; exact e_g284)⟩) (Or.inr ⟨by omega, rfl⟩)
          refine lv_istore (lv' := [(5, .int (zI 0)), (0, .ref y), (1, .ref a), (2, .int (zI x)), (3, .int (zI w)), (4, .ref f)]) hx hb dX9_merge_130 hl (by decide) rfl (fun ls hl => ?_)
          refine W.widen (k := 0) (n := 0) (Nat.le_of_ble_eq_true rfl) (Nat.le_of_ble_eq_true rfl) ?_
          refine (?_ : ∀ (n9_2 : Nat) (v5 : Int) (gq1 : Nat → Int) (H : Heap) (locs : List Loc), (0 ≤ v5 ∧ v5 ≤ 10 ∧ v5 ≤ i 13) → (10 - v5 : Int).toNat < n9_2 → (ProgOk gq1) → (MT g_p gq1 w) → (Mst g_p x w (i 13) gq1 v5 0) → va_P G vwCl [(y, .inr (9, [.int (zI (i 0)), .ref (q 0), .int (zI (i 1)), .int (zI (i 2)), .int (zI (i 3)), .int (zI (i 4)), .int (zI (i 5)), .int (zI (i 6)), .int (zI (i 7)), .int (zI (i 8)), .int (zI (i 9)), .int (zI (i 10)), .ref (q 1), .int (zI (i 11)), .int (zI (i 12)), .ref (q 2), .ref (q 3), .ref (q 4), .ref (q 5), .ref (q 6), .ref (q 7), .ref (q 8), .ref (q 9), .ref (q 10), .ref (q 11), .ref (q 12), .ref (q 13), .ref (q 14), .ref (q 15), .ref (q 16), .int (zI (i 13)), .int (zI (i 14)), .int (zI (i 15)), .int (zI (i 16)), .int (zI (i 17)), .int (zI (i 18)), .ref (q 17), .ref (q 18), .ref (q 19), .ref (q 20)])), (a, .inl (cI, 200, .inl (fun k => zI (g_p k)))), (f, .inl (cI, 200, .inl (fun k => zI (gq1 k))))] H → va_D A [(y, .inr (9, [.int (zI (i 0)), .ref (q 0), .int (zI (i 1)), .int (zI (i 2)), .int (zI (i 3)), .int (zI (i 4)), .int (zI (i 5)), .int (zI (i 6)), .int (zI (i 7)), .int (zI (i 8)), .int (zI (i 9)), .int (zI (i 10)), .ref (q 1), .int (zI (i 11)), .int (zI (i 12)), .ref (q 2), .ref (q 3), .ref (q 4), .ref (q 5), .ref (q 6), .ref (q 7), .ref (q 8), .ref (q 9), .ref (q 10), .ref (q 11), .ref (q 12), .ref (q 13), .ref (q 14), .ref (q 15), .ref (q 16), .int (zI (i 13)), .int (zI (i 14)), .int (zI (i 15)), .int (zI (i 16)), .int (zI (i 17)), .int (zI (i 18)), .ref (q 17), .ref (q 18), .ref (q 19), .ref (q 20)])), (a, .inl (cI, 200, .inl (fun k => zI (g_p k)))), (f, .inl (cI, 200, .inl (fun k => zI (gq1 k))))] → va_S A s.heap H locs → ∀ ls : Array Slot, lv_has ls 8 [(5, .int (zI v5)), (0, .ref y), (1, .ref a), (2, .int (zI x)), (3, .int (zI w)), (4, .ref f)] → W p l e rm_X9_mergeX s m ([.ref y, .ref a, .int (zI x), .int (zI w), .ref f] : List Value).toArray below meth c H locs 0 0 Q (F0 m 132 ls [])) ((10 - 0 : Int).toNat + 1) 0 g284 _ _ (by omega) (by omega) hqp285 hmt286 hms0 hP hD hS ls hl
          clear hP hD hS hl ls
          intro n9_2
          induction n9_2 with
          | zero =>
            intro v5 gq1 H locs hI hM
            exact absurd hM (by omega)
          | succ n9_2 ih2 =>
            intro v5 gq1 H locs hI2 hM2 hqp1 hmt1 hms1 hP hD hS ls hl
            refine lv_iload hx hb dX9_merge_132 (lv_at hl 0 rfl) ?_
            refine lv_aload_n hx hb dX9_merge_134 rfl (lv_at hl 1 rfl) ?_
            refine r_get F hK hP 0 30 rfl rfl in_X9 (by decide) k_1193 rfl dX9_merge_135 ?_
            refine rz_icmp_ge (tgt := 302) F (by omega) (by omega) dX9_merge_138 (by decide) (fun h138_288 => ?_) (fun h138_288 => ?_)
            · exact ret (fun k => [((fun _ => 0), fun _ _ => 0), (fun _ => 0, fun _ => gq1)].getD k (fun _ => 0, fun _ _ => 0)) _ _ _ _ _ _ ⟨⟨hqp1, hmt1⟩, Mst.all hms1 (Or.inl (by omega)) (by omega)⟩ (bw_subP (isC := [0, 1, 2]) hP rfl) (hD.sub [0, 1, 2] (by decide) rfl) hS (Nat.le_of_ble_eq_true rfl) (Nat.le_of_ble_eq_true rfl) dX9_merge_302
            · refine lv_bipush (v := zI 20) hx hb dX9_merge_141 (by decide) ?_
              refine lv_iload hx hb dX9_merge_143 (lv_at hl 0 rfl) ?_
              refine r_imul (v := zI (20 * v5)) F dX9_merge_145 (zI_mul _ _) ?_
              refine lv_istore (lv' := [(6, .int (zI (20 * v5))), (5, .int (zI v5)), (0, .ref y), (1, .ref a), (2, .int (zI x)), (3, .int (zI w)), (4, .ref f)]) hx hb dX9_merge_146 hl (by decide) rfl (fun ls hl => ?_)
              refine lv_aload hx hb dX9_merge_148 (lv_at hl 6 rfl) ?_
              refine lv_iload hx hb dX9_merge_150 (lv_at hl 0 rfl) ?_
              refine lv_iconst (v := zI 0) hx hb dX9_merge_152 rfl ?_
              refine r_iadd (v := zI ((20 * v5) + 0)) F dX9_merge_153 (zI_add _ _) ?_
              refine rz_iald F hK hP 2 0 rfl rfl (by omega) (by omega) dX9_merge_154 ?_
              have hc290 := hqp1.1.pos (((20 * v5) + 0)).toNat (by omega)
              have hc291 := hqp1.1.le9 (((20 * v5) + 0)).toNat (by omega)
              refine rz_if_ne (tgt := 161) F (by omega) dX9_merge_155 (by decide) (fun h155_291 => ?_) (fun h155_291 => ?_)
              · refine lv_aload hx hb dX9_merge_161 (lv_at hl 6 rfl) ?_
                have hnw := Mst.told hms1 (by omega) (by omega)
                refine lv_iload hx hb dX9_merge_163 (lv_at hl 0 rfl) ?_
                refine lv_bipush (v := zI 14) hx hb dX9_merge_165 (by decide) ?_
                refine r_iadd (v := zI ((20 * v5) + 14)) F dX9_merge_167 (zI_add _ _) ?_
                refine rz_iald F hK hP 2 0 rfl rfl (by omega) (by omega) dX9_merge_168 ?_
                have hc293 := hqp1.1.pos (((20 * v5) + 14)).toNat (by omega)
                have hc294 := hqp1.1.le9 (((20 * v5) + 14)).toNat (by omega)
                refine rz_if_le (tgt := 193) F (by omega) dX9_merge_169 (by decide) (fun h169_294 => ?_) (fun h169_294 => ?_)
                · refine lv_aload hx hb dX9_merge_193 (lv_at hl 6 rfl) ?_
                  have hms6 : Mst g_p x w (i 13) gq1 v5 1 := Mst.s16 hms1 (by omega) hnw (by omega) (Or.inr ⟨by omega, rfl⟩)
                  refine lv_iload hx hb dX9_merge_195 (lv_at hl 0 rfl) ?_
                  refine lv_bipush (v := zI 14) hx hb dX9_merge_197 (by decide) ?_
                  refine r_iadd (v := zI ((20 * v5) + 14)) F dX9_merge_199 (zI_add _ _) ?_
                  refine rz_iald F hK hP 2 0 rfl rfl (by omega) (by omega) dX9_merge_200 ?_
                  have hc296 := hqp1.1.pos (((20 * v5) + 14)).toNat (by omega)
                  have hc297 := hqp1.1.le9 (((20 * v5) + 14)).toNat (by omega)
                  refine lv_iconst (v := zI 2) hx hb dX9_merge_201 rfl ?_
                  refine rz_icmp_ne (tgt := 226) F (by omega) (by omega) dX9_merge_202 (by decide) (fun h202_297 => ?_) (fun h202_297 => ?_)
                  · refine lv_iconst (v := zI 0) hx hb dX9_merge_226 rfl ?_
                    have hms8 : Mst g_p x w (i 13) gq1 v5 (3 + 0) := Mst.s18 hms6 (by omega) hnw (by omega) (Or.inr ⟨by omega, rfl⟩)
                    refine lv_istore (lv' := [(7, .int (zI 0)), (6, .int (zI (20 * v5))), (5, .int (zI v5)), (0, .ref y), (1, .ref a), (2, .int (zI x)), (3, .int (zI w)), (4, .ref f)]) hx hb dX9_merge_227 hl (by decide) rfl (fun ls hl => ?_)
                    refine W.widen (k := 0) (n := 0) (Nat.le_of_ble_eq_true rfl) (Nat.le_of_ble_eq_true rfl) ?_
                    refine (?_ : ∀ (n9_3 : Nat) (v7 : Int) (gq2 : Nat → Int) (H : Heap) (locs : List Loc), (0 ≤ v7 ∧ v7 ≤ 4) → (4 - v7 : Int).toNat < n9_3 → (ProgOk gq2) → (MT g_p gq2 w) → (Mst g_p x w (i 13) gq2 v5 (3 + v7)) → va_P G vwCl [(y, .inr (9, [.int (zI (i 0)), .ref (q 0), .int (zI (i 1)), .int (zI (i 2)), .int (zI (i 3)), .int (zI (i 4)), .int (zI (i 5)), .int (zI (i 6)), .int (zI (i 7)), .int (zI (i 8)), .int (zI (i 9)), .int (zI (i 10)), .ref (q 1), .int (zI (i 11)), .int (zI (i 12)), .ref (q 2), .ref (q 3), .ref (q 4), .ref (q 5), .ref (q 6), .ref (q 7), .ref (q 8), .ref (q 9), .ref (q 10), .ref (q 11), .ref (q 12), .ref (q 13), .ref (q 14), .ref (q 15), .ref (q 16), .int (zI (i 13)), .int (zI (i 14)), .int (zI (i 15)), .int (zI (i 16)), .int (zI (i 17)), .int (zI (i 18)), .ref (q 17), .ref (q 18), .ref (q 19), .ref (q 20)])), (a, .inl (cI, 200, .inl (fun k => zI (g_p k)))), (f, .inl (cI, 200, .inl (fun k => zI (gq2 k))))] H → va_D A [(y, .inr (9, [.int (zI (i 0)), .ref (q 0), .int (zI (i 1)), .int (zI (i 2)), .int (zI (i 3)), .int (zI (i 4)), .int (zI (i 5)), .int (zI (i 6)), .int (zI (i 7)), .int (zI (i 8)), .int (zI (i 9)), .int (zI (i 10)), .ref (q 1), .int (zI (i 11)), .int (zI (i 12)), .ref (q 2), .ref (q 3), .ref (q 4), .ref (q 5), .ref (q 6), .ref (q 7), .ref (q 8), .ref (q 9), .ref (q 10), .ref (q 11), .ref (q 12), .ref (q 13), .ref (q 14), .ref (q 15), .ref (q 16), .int (zI (i 13)), .int (zI (i 14)), .int (zI (i 15)), .int (zI (i 16)), .int (zI (i 17)), .int (zI (i 18)), .ref (q 17), .ref (q 18), .ref (q 19), .ref (q 20)])), (a, .inl (cI, 200, .inl (fun k => zI (g_p k)))), (f, .inl (cI, 200, .inl (fun k => zI (gq2 k))))] → va_S A s.heap H locs → ∀ ls : Array Slot, lv_has ls 8 [(7, .int (zI v7)), (6, .int (zI (20 * v5))), (5, .int (zI v5)), (0, .ref y), (1, .ref a), (2, .int (zI x)), (3, .int (zI w)), (4, .ref f)] → W p l e rm_X9_mergeX s m ([.ref y, .ref a, .int (zI x), .int (zI w), .ref f] : List Value).toArray below meth c H locs 0 0 Q (F0 m 229 ls [])) ((4 - 0 : Int).toNat + 1) 0 gq1 _ _ (by omega) (by omega) hqp1 hmt1 hms8 hP hD hS ls hl
                    clear hP hD hS hl ls
                    intro n9_3
                    induction n9_3 with
                    | zero =>
                      intro v7 gq2 H locs hI hM
                      exact absurd hM (by omega)
                    | succ n9_3 ih3 =>
                      intro v7 gq2 H locs hI3 hM3 hqp2 hmt2 hms2 hP hD hS ls hl
                      refine lv_iload hx hb dX9_merge_229 (lv_at hl 0 rfl) ?_
                      refine lv_aload hx hb dX9_merge_231 (lv_at hl 7 rfl) ?_
                      refine lv_iload hx hb dX9_merge_233 (lv_at hl 1 rfl) ?_
                      refine lv_iconst (v := zI 1) hx hb dX9_merge_235 rfl ?_
                      refine r_iadd (v := zI ((20 * v5) + 1)) F dX9_merge_236 (zI_add _ _) ?_
                      refine rz_iald F hK hP 2 0 rfl rfl (by omega) (by omega) dX9_merge_237 ?_
                      have hpl299 : 0 ≤ (gq2 (((20 * v5) + 1)).toNat) ∧ (gq2 (((20 * v5) + 1)).toNat) ≤ 4 := ProgR.at hqp2.1 (e := ((20 * v5) + 1)) v5 1 (by omega) (by omega) (by decide) rfl
                      refine rz_icmp_ge (tgt := 296) F (by omega) (by omega) dX9_merge_238 (by decide) (fun h238_299 => ?_) (fun h238_299 => ?_)
                      · refine lv_iinc (v := zI (v5 + 1)) (lv' := [(5, .int (zI (v5 + 1))), (7, .int (zI v7)), (6, .int (zI (20 * v5))), (0, .ref y), (1, .ref a), (2, .int (zI x)), (3, .int (zI w)), (4, .ref f)]) hx hb dX9_merge_296 hl (k := 2) rfl (zI_add _ _) (by decide) rfl (fun ls hl => ?_)
                        refine lv_goto (tgt := 132) hx hb dX9_merge_299 (by decide) ?_
                        exact ih2 (v5 + 1) gq2 _ _ (by omega) (by omega) hqp2 hmt2 (Mst.fin hms2 (by omega) hnw ⟨by omega, by omega⟩) hP hD hS ls (lv_sub hl [0, 3, 4, 5, 6, 7] rfl)
                      · refine lv_aload hx hb dX9_merge_241 (lv_at hl 7 rfl) ?_
                        refine lv_iload hx hb dX9_merge_243 (lv_at hl 1 rfl) ?_
                        refine lv_iconst (v := zI 2) hx hb dX9_merge_245 rfl ?_
                        refine r_iadd (v := zI ((20 * v5) + 2)) F dX9_merge_246 (zI_add _ _) ?_
                        refine lv_iconst (v := zI 3) hx hb dX9_merge_247 rfl ?_
                        refine lv_iload hx hb dX9_merge_248 (lv_at hl 0 rfl) ?_
                        refine r_imul (v := zI (3 * v7)) F dX9_merge_250 (zI_mul _ _) ?_
                        refine r_iadd (v := zI (((20 * v5) + 2) + (3 * v7))) F dX9_merge_251 (zI_add _ _) ?_
                        refine rz_iald F hK hP 2 0 rfl rfl (by omega) (by omega) dX9_merge_252 ?_
                        have hc301 := ProgOk.act hqp2 (i := v5) (n := v7) (k := (((20 * v5) + 2) + (3 * v7))) (by omega) (by omega) (by omega)
                        refine lv_iconst (v := zI 3) hx hb dX9_merge_253 rfl ?_
                        refine rz_icmp_ne (tgt := 290) F (by omega) (by omega) dX9_merge_254 (by decide) (fun h254_301 => ?_) (fun h254_301 => ?_)
                        · refine lv_iinc (v := zI (v7 + 1)) (lv' := [(7, .int (zI (v7 + 1))), (6, .int (zI (20 * v5))), (5, .int (zI v5)), (0, .ref y), (1, .ref a), (2, .int (zI x)), (3, .int (zI w)), (4, .ref f)]) hx hb dX9_merge_290 hl (k := 0) rfl (zI_add _ _) (by decide) rfl (fun ls hl => ?_)
                          refine lv_goto (tgt := 229) hx hb dX9_merge_293 (by decide) ?_
                          exact ih3 (v7 + 1) gq2 _ _ (by omega) (by omega) hqp2 hmt2 (Mst.sA hms2 (by omega) hnw (by omega) ⟨by omega, by omega⟩ (Or.inr ⟨by omega, rfl⟩)) hP hD hS ls (lv_sub hl [0, 1, 2, 3, 4, 5, 6, 7] rfl)
                        · refine lv_aload hx hb dX9_merge_257 (lv_at hl 7 rfl) ?_
                          refine lv_iload hx hb dX9_merge_259 (lv_at hl 1 rfl) ?_
                          refine lv_iconst (v := zI 2) hx hb dX9_merge_261 rfl ?_
                          refine r_iadd (v := zI ((20 * v5) + 2)) F dX9_merge_262 (zI_add _ _) ?_
                          refine lv_iconst (v := zI 3) hx hb dX9_merge_263 rfl ?_
                          refine lv_iload hx hb dX9_merge_264 (lv_at hl 0 rfl) ?_
                          refine r_imul (v := zI (3 * v7)) F dX9_merge_266 (zI_mul _ _) ?_
                          refine r_iadd (v := zI (((20 * v5) + 2) + (3 * v7))) F dX9_merge_267 (zI_add _ _) ?_
                          refine lv_iconst (v := zI 1) hx hb dX9_merge_268 rfl ?_
                          refine r_iadd (v := zI ((((20 * v5) + 2) + (3 * v7)) + 1)) F dX9_merge_269 (zI_add _ _) ?_
                          refine rz_iald F hK hP 2 0 rfl rfl (by omega) (by omega) dX9_merge_270 ?_
                          have hc303 := hqp2.1.pos (((((20 * v5) + 2) + (3 * v7)) + 1)).toNat (by omega)
                          have hc304 := hqp2.1.le9 (((((20 * v5) + 2) + (3 * v7)) + 1)).toNat (by omega)
                          refine lv_iload_n hx hb dX9_merge_271 rfl (lv_at hl 6 rfl) ?_
                          refine rz_icmp_ne (tgt := 290) F (by omega) (by omega) dX9_merge_272 (by decide) (fun h272_304 => ?_) (fun h272_304 => ?_)
                          · refine lv_iinc (v := zI (v7 + 1)) (lv' := [(7, .int (zI (v7 + 1))), (6, .int (zI (20 * v5))), (5, .int (zI v5)), (0, .ref y), (1, .ref a), (2, .int (zI x)), (3, .int (zI w)), (4, .ref f)]) hx hb dX9_merge_290 hl (k := 0) rfl (zI_add _ _) (by decide) rfl (fun ls hl => ?_)
                            refine lv_goto (tgt := 229) hx hb dX9_merge_293 (by decide) ?_
                            exact ih3 (v7 + 1) gq2 _ _ (by omega) (by omega) hqp2 hmt2 (Mst.sA hms2 (by omega) hnw (by omega) ⟨by omega, by omega⟩ (Or.inr ⟨by omega, rfl⟩)) hP hD hS ls (lv_sub hl [0, 1, 2, 3, 4, 5, 6, 7] rfl)
                          · refine lv_aload hx hb dX9_merge_275 (lv_at hl 7 rfl) ?_
                            refine lv_iload hx hb dX9_merge_277 (lv_at hl 1 rfl) ?_
                            refine lv_iconst (v := zI 2) hx hb dX9_merge_279 rfl ?_
                            refine r_iadd (v := zI ((20 * v5) + 2)) F dX9_merge_280 (zI_add _ _) ?_
                            refine lv_iconst (v := zI 3) hx hb dX9_merge_281 rfl ?_
                            refine lv_iload hx hb dX9_merge_282 (lv_at hl 0 rfl) ?_
                            refine r_imul (v := zI (3 * v7)) F dX9_merge_284 (zI_mul _ _) ?_
                            refine r_iadd (v := zI (((20 * v5) + 2) + (3 * v7))) F dX9_merge_285 (zI_add _ _) ?_
                            refine lv_iconst (v := zI 1) hx hb dX9_merge_286 rfl ?_
                            refine r_iadd (v := zI ((((20 * v5) + 2) + (3 * v7)) + 1)) F dX9_merge_287 (zI_add _ _) ?_
                            refine lv_iload_n hx hb dX9_merge_288 rfl (lv_at hl 5 rfl) ?_
                            refine rz_iastG F hK hP hD hS 2 0 rfl rfl (by omega) (by omega) dX9_merge_289 (w1 := fun g306 => [(y, .inr (9, [.int (zI (i 0)), .ref (q 0), .int (zI (i 1)), .int (zI (i 2)), .int (zI (i 3)), .int (zI (i 4)), .int (zI (i 5)), .int (zI (i 6)), .int (zI (i 7)), .int (zI (i 8)), .int (zI (i 9)), .int (zI (i 10)), .ref (q 1), .int (zI (i 11)), .int (zI (i 12)), .ref (q 2), .ref (q 3), .ref (q 4), .ref (q 5), .ref (q 6), .ref (q 7), .ref (q 8), .ref (q 9), .ref (q 10), .ref (q 11), .ref (q 12), .ref (q 13), .ref (q 14), .ref (q 15), .ref (q 16), .int (zI (i 13)), .int (zI (i 14)), .int (zI (i 15)), .int (zI (i 16)), .int (zI (i 17)), .int (zI (i 18)), .ref (q 17), .ref (q 18), .ref (q 19), .ref (q 20)])), (a, .inl (cI, 200, .inl (fun k => zI (g_p k)))), (f, .inl (cI, 200, .inl (fun k => zI (g306 k))))]) (fun _ => rfl) (fun g306 e_g306 H locs hP hD hS => ?_)
                            have hqp307 : ProgOk g306 := ProgOk.tgt3 hqp2 e_g306 (i := v5) (n := v7) (by omega) (by omega) (by omega) (by omega) (j := (((20 * v5) + 2) + (3 * v7)).toNat) (by omega) (by omega)
                            have hmt308 := MT.keepA hmt2 e_g306 (i := v5) (n := v7) (by omega) (by omega) (by omega)
                            refine lv_iinc (v := zI (v7 + 1)) (lv' := [(7, .int (zI (v7 + 1))), (6, .int (zI (20 * v5))), (5, .int (zI v5)), (0, .ref y), (1, .ref a), (2, .int (zI x)), (3, .int (zI w)), (4, .ref f)]) hx hb dX9_merge_290 hl (k := 0) rfl (zI_add _ _) (by decide) rfl (fun ls hl => ?_)
                            refine lv_goto (tgt := 229) hx hb dX9_merge_293 (by decide) ?_
                            exact ih3 (v7 + 1) g306 _ _ (by omega) (by omega) hqp307 hmt308 (Mst.sA hms2 (by omega) hnw (by omega) ⟨by omega, by omega⟩ (Or.inl ⟨by omega, by omega, e_g306⟩)) hP hD hS ls (lv_sub hl [0, 1, 2, 3, 4, 5, 6, 7] rfl)
                  · refine lv_aload hx hb dX9_merge_205 (lv_at hl 6 rfl) ?_
                    refine lv_iload hx hb dX9_merge_207 (lv_at hl 0 rfl) ?_
                    refine lv_bipush (v := zI 18) hx hb dX9_merge_209 (by decide) ?_
                    refine r_iadd (v := zI ((20 * v5) + 18)) F dX9_merge_211 (zI_add _ _) ?_
                    refine rz_iald F hK hP 2 0 rfl rfl (by omega) (by omega) dX9_merge_212 ?_
                    have hc309 := hqp1.1.pos (((20 * v5) + 18)).toNat (by omega)
                    have hc310 := hqp1.1.le9 (((20 * v5) + 18)).toNat (by omega)
                    refine lv_iload_n hx hb dX9_merge_213 rfl (lv_at hl 5 rfl) ?_
                    refine rz_icmp_ne (tgt := 226) F (by omega) (by omega) dX9_merge_214 (by decide) (fun h214_310 => ?_) (fun h214_310 => ?_)
                    · refine lv_iconst (v := zI 0) hx hb dX9_merge_226 rfl ?_
                      have hms8 : Mst g_p x w (i 13) gq1 v5 (3 + 0) := Mst.s18 hms6 (by omega) hnw (by omega) (Or.inr ⟨by omega, rfl⟩)
                      refine lv_istore (lv' := [(7, .int (zI 0)), (6, .int (zI (20 * v5))), (5, .int (zI v5)), (0, .ref y), (1, .ref a), (2, .int (zI x)), (3, .int (zI w)), (4, .ref f)]) hx hb dX9_merge_227 hl (by decide) rfl (fun ls hl => ?_)
                      refine W.widen (k := 0) (n := 0) (Nat.le_of_ble_eq_true rfl) (Nat.le_of_ble_eq_true rfl) ?_
                      refine (?_ : ∀ (n9_3 : Nat) (v7 : Int) (gq2 : Nat → Int) (H : Heap) (locs : List Loc), (0 ≤ v7 ∧ v7 ≤ 4) → (4 - v7 : Int).toNat < n9_3 → (ProgOk gq2) → (MT g_p gq2 w) → (Mst g_p x w (i 13) gq2 v5 (3 + v7)) → va_P G vwCl [(y, .inr (9, [.int (zI (i 0)), .ref (q 0), .int (zI (i 1)), .int (zI (i 2)), .int (zI (i 3)), .int (zI (i 4)), .int (zI (i 5)), .int (zI (i 6)), .int (zI (i 7)), .int (zI (i 8)), .int (zI (i 9)), .int (zI (i 10)), .ref (q 1), .int (zI (i 11)), .int (zI (i 12)), .ref (q 2), .ref (q 3), .ref (q 4), .ref (q 5), .ref (q 6), .ref (q 7), .ref (q 8), .ref (q 9), .ref (q 10), .ref (q 11), .ref (q 12), .ref (q 13), .ref (q 14), .ref (q 15), .ref (q 16), .int (zI (i 13)), .int (zI (i 14)), .int (zI (i 15)), .int (zI (i 16)), .int (zI (i 17)), .int (zI (i 18)), .ref (q 17), .ref (q 18), .ref (q 19), .ref (q 20)])), (a, .inl (cI, 200, .inl (fun k => zI (g_p k)))), (f, .inl (cI, 200, .inl (fun k => zI (gq2 k))))] H → va_D A [(y, .inr (9, [.int (zI (i 0)), .ref (q 0), .int (zI (i 1)), .int (zI (i 2)), .int (zI (i 3)), .int (zI (i 4)), .int (zI (i 5)), .int (zI (i 6)), .int (zI (i 7)), .int (zI (i 8)), .int (zI (i 9)), .int (zI (i 10)), .ref (q 1), .int (zI (i 11)), .int (zI (i 12)), .ref (q 2), .ref (q 3), .ref (q 4), .ref (q 5), .ref (q 6), .ref (q 7), .ref (q 8), .ref (q 9), .ref (q 10), .ref (q 11), .ref (q 12), .ref (q 13), .ref (q 14), .ref (q 15), .ref (q 16), .int (zI (i 13)), .int (zI (i 14)), .int (zI (i 15)), .int (zI (i 16)), .int (zI (i 17)), .int (zI (i 18)), .ref (q 17), .ref (q 18), .ref (q 19), .ref (q 20)])), (a, .inl (cI, 200, .inl (fun k => zI (g_p k)))), (f, .inl (cI, 200, .inl (fun k => zI (gq2 k))))] → va_S A s.heap H locs → ∀ ls : Array Slot, lv_has ls 8 [(7, .int (zI v7)), (6, .int (zI (20 * v5))), (5, .int (zI v5)), (0, .ref y), (1, .ref a), (2, .int (zI x)), (3, .int (zI w)), (4, .ref f)] → W p l e rm_X9_mergeX s m ([.ref y, .ref a, .int (zI x), .int (zI w), .ref f] : List Value).toArray below meth c H locs 0 0 Q (F0 m 229 ls [])) ((4 - 0 : Int).toNat + 1) 0 gq1 _ _ (by omega) (by omega) hqp1 hmt1 hms8 hP hD hS ls hl
                      clear hP hD hS hl ls
                      intro n9_3
                      induction n9_3 with
                      | zero =>
                        intro v7 gq2 H locs hI hM
                        exact absurd hM (by omega)
                      | succ n9_3 ih3 =>
                        intro v7 gq2 H locs hI3 hM3 hqp2 hmt2 hms2 hP hD hS ls hl
                        refine lv_iload hx hb dX9_merge_229 (lv_at hl 0 rfl) ?_
                        refine lv_aload hx hb dX9_merge_231 (lv_at hl 7 rfl) ?_
                        refine lv_iload hx hb dX9_merge_233 (lv_at hl 1 rfl) ?_
                        refine lv_iconst (v := zI 1) hx hb dX9_merge_235 rfl ?_
                        refine r_iadd (v := zI ((20 * v5) + 1)) F dX9_merge_236 (zI_add _ _) ?_
                        refine rz_iald F hK hP 2 0 rfl rfl (by omega) (by omega) dX9_merge_237 ?_
                        have hpl312 : 0 ≤ (gq2 (((20 * v5) + 1)).toNat) ∧ (gq2 (((20 * v5) + 1)).toNat) ≤ 4 := ProgR.at hqp2.1 (e := ((20 * v5) + 1)) v5 1 (by omega) (by omega) (by decide) rfl
                        refine rz_icmp_ge (tgt := 296) F (by omega) (by omega) dX9_merge_238 (by decide) (fun h238_312 => ?_) (fun h238_312 => ?_)
                        · refine lv_iinc (v := zI (v5 + 1)) (lv' := [(5, .int (zI (v5 + 1))), (7, .int (zI v7)), (6, .int (zI (20 * v5))), (0, .ref y), (1, .ref a), (2, .int (zI x)), (3, .int (zI w)), (4, .ref f)]) hx hb dX9_merge_296 hl (k := 2) rfl (zI_add _ _) (by decide) rfl (fun ls hl => ?_)
                          refine lv_goto (tgt := 132) hx hb dX9_merge_299 (by decide) ?_
                          exact ih2 (v5 + 1) gq2 _ _ (by omega) (by omega) hqp2 hmt2 (Mst.fin hms2 (by omega) hnw ⟨by omega, by omega⟩) hP hD hS ls (lv_sub hl [0, 3, 4, 5, 6, 7] rfl)
                        · refine lv_aload hx hb dX9_merge_241 (lv_at hl 7 rfl) ?_
                          refine lv_iload hx hb dX9_merge_243 (lv_at hl 1 rfl) ?_
                          refine lv_iconst (v := zI 2) hx hb dX9_merge_245 rfl ?_
                          refine r_iadd (v := zI ((20 * v5) + 2)) F dX9_merge_246 (zI_add _ _) ?_
                          refine lv_iconst (v := zI 3) hx hb dX9_merge_247 rfl ?_
                          refine lv_iload hx hb dX9_merge_248 (lv_at hl 0 rfl) ?_
                          refine r_imul (v := zI (3 * v7)) F dX9_merge_250 (zI_mul _ _) ?_
                          refine r_iadd (v := zI (((20 * v5) + 2) + (3 * v7))) F dX9_merge_251 (zI_add _ _) ?_
                          refine rz_iald F hK hP 2 0 rfl rfl (by omega) (by omega) dX9_merge_252 ?_
                          have hc314 := ProgOk.act hqp2 (i := v5) (n := v7) (k := (((20 * v5) + 2) + (3 * v7))) (by omega) (by omega) (by omega)
                          refine lv_iconst (v := zI 3) hx hb dX9_merge_253 rfl ?_
                          refine rz_icmp_ne (tgt := 290) F (by omega) (by omega) dX9_merge_254 (by decide) (fun h254_314 => ?_) (fun h254_314 => ?_)
                          · refine lv_iinc (v := zI (v7 + 1)) (lv' := [(7, .int (zI (v7 + 1))), (6, .int (zI (20 * v5))), (5, .int (zI v5)), (0, .ref y), (1, .ref a), (2, .int (zI x)), (3, .int (zI w)), (4, .ref f)]) hx hb dX9_merge_290 hl (k := 0) rfl (zI_add _ _) (by decide) rfl (fun ls hl => ?_)
                            refine lv_goto (tgt := 229) hx hb dX9_merge_293 (by decide) ?_
                            exact ih3 (v7 + 1) gq2 _ _ (by omega) (by omega) hqp2 hmt2 (Mst.sA hms2 (by omega) hnw (by omega) ⟨by omega, by omega⟩ (Or.inr ⟨by omega, rfl⟩)) hP hD hS ls (lv_sub hl [0, 1, 2, 3, 4, 5, 6, 7] rfl)
                          · refine lv_aload hx hb dX9_merge_257 (lv_at hl 7 rfl) ?_
                            refine lv_iload hx hb dX9_merge_259 (lv_at hl 1 rfl) ?_
                            refine lv_iconst (v := zI 2) hx hb dX9_merge_261 rfl ?_
                            refine r_iadd (v := zI ((20 * v5) + 2)) F dX9_merge_262 (zI_add _ _) ?_
                            refine lv_iconst (v := zI 3) hx hb dX9_merge_263 rfl ?_
                            refine lv_iload hx hb dX9_merge_264 (lv_at hl 0 rfl) ?_
                            refine r_imul (v := zI (3 * v7)) F dX9_merge_266 (zI_mul _ _) ?_
                            refine r_iadd (v := zI (((20 * v5) + 2) + (3 * v7))) F dX9_merge_267 (zI_add _ _) ?_
                            refine lv_iconst (v := zI 1) hx hb dX9_merge_268 rfl ?_
                            refine r_iadd (v := zI ((((20 * v5) + 2) + (3 * v7)) + 1)) F dX9_merge_269 (zI_add _ _) ?_
                            refine rz_iald F hK hP 2 0 rfl rfl (by omega) (by omega) dX9_merge_270 ?_
                            have hc316 := hqp2.1.pos (((((20 * v5) + 2) + (3 * v7)) + 1)).toNat (by omega)
                            have hc317 := hqp2.1.le9 (((((20 * v5) + 2) + (3 * v7)) + 1)).toNat (by omega)
                            refine lv_iload_n hx hb dX9_merge_271 rfl (lv_at hl 6 rfl) ?_
                            refine rz_icmp_ne (tgt := 290) F (by omega) (by omega) dX9_merge_272 (by decide) (fun h272_317 => ?_) (fun h272_317 => ?_)
                            · refine lv_iinc (v := zI (v7 + 1)) (lv' := [(7, .int (zI (v7 + 1))), (6, .int (zI (20 * v5))), (5, .int (zI v5)), (0, .ref y), (1, .ref a), (2, .int (zI x)), (3, .int (zI w)), (4, .ref f)]) hx hb dX9_merge_290 hl (k := 0) rfl (zI_add _ _) (by decide) rfl (fun ls hl => ?_)
                              refine lv_goto (tgt := 229) hx hb dX9_merge_293 (by decide) ?_
                              exact ih3 (v7 + 1) gq2 _ _ (by omega) (by omega) hqp2 hmt2 (Mst.sA hms2 (by omega) hnw (by omega) ⟨by omega, by omega⟩ (Or.inr ⟨by omega, rfl⟩)) hP hD hS ls (lv_sub hl [0, 1, 2, 3, 4, 5, 6, 7] rfl)
                            · refine lv_aload hx hb dX9_merge_275 (lv_at hl 7 rfl) ?_
                              refine lv_iload hx hb dX9_merge_277 (lv_at hl 1 rfl) ?_
                              refine lv_iconst (v := zI 2) hx hb dX9_merge_279 rfl ?_
                              refine r_iadd (v := zI ((20 * v5) + 2)) F dX9_merge_280 (zI_add _ _) ?_
                              refine lv_iconst (v := zI 3) hx hb dX9_merge_281 rfl ?_
                              refine lv_iload hx hb dX9_merge_282 (lv_at hl 0 rfl) ?_
                              refine r_imul (v := zI (3 * v7)) F dX9_merge_284 (zI_mul _ _) ?_
                              refine r_iadd (v := zI (((20 * v5) + 2) + (3 * v7))) F dX9_merge_285 (zI_add _ _) ?_
                              refine lv_iconst (v := zI 1) hx hb dX9_merge_286 rfl ?_
                              refine r_iadd (v := zI ((((20 * v5) + 2) + (3 * v7)) + 1)) F dX9_merge_287 (zI_add _ _) ?_
                              refine lv_iload_n hx hb dX9_merge_288 rfl (lv_at hl 5 rfl) ?_
                              refine rz_iastG F hK hP hD hS 2 0 rfl rfl (by omega) (by omega) dX9_merge_289 (w1 := fun g319 => [(y, .inr (9, [.int (zI (i 0)), .ref (q 0), .int (zI (i 1)), .int (zI (i 2)), .int (zI (i 3)), .int (zI (i 4)), .int (zI (i 5)), .int (zI (i 6)), .int (zI (i 7)), .int (zI (i 8)), .int (zI (i 9)), .int (zI (i 10)), .ref (q 1), .int (zI (i 11)), .int (zI (i 12)), .ref (q 2), .ref (q 3), .ref (q 4), .ref (q 5), .ref (q 6), .ref (q 7), .ref (q 8), .ref (q 9), .ref (q 10), .ref (q 11), .ref (q 12), .ref (q 13), .ref (q 14), .ref (q 15), .ref (q 16), .int (zI (i 13)), .int (zI (i 14)), .int (zI (i 15)), .int (zI (i 16)), .int (zI (i 17)), .int (zI (i 18)), .ref (q 17), .ref (q 18), .ref (q 19), .ref (q 20)])), (a, .inl (cI, 200, .inl (fun k => zI (g_p k)))), (f, .inl (cI, 200, .inl (fun k => zI (g319 k))))]) (fun _ => rfl) (fun g319 e_g319 H locs hP hD hS => ?_)
                              have hqp320 : ProgOk g319 := ProgOk.tgt3 hqp2 e_g319 (i := v5) (n := v7) (by omega) (by omega) (by omega) (by omega) (j := (((20 * v5) + 2) + (3 * v7)).toNat) (by omega) (by omega)
                              have hmt321 := MT.keepA hmt2 e_g319 (i := v5) (n := v7) (by omega) (by omega) (by omega)
                              refine lv_iinc (v := zI (v7 + 1)) (lv' := [(7, .int (zI (v7 + 1))), (6, .int (zI (20 * v5))), (5, .int (zI v5)), (0, .ref y), (1, .ref a), (2, .int (zI x)), (3, .int (zI w)), (4, .ref f)]) hx hb dX9_merge_290 hl (k := 0) rfl (zI_add _ _) (by decide) rfl (fun ls hl => ?_)
                              refine lv_goto (tgt := 229) hx hb dX9_merge_293 (by decide) ?_
                              exact ih3 (v7 + 1) g319 _ _ (by omega) (by omega) hqp320 hmt321 (Mst.sA hms2 (by omega) hnw (by omega) ⟨by omega, by omega⟩ (Or.inl ⟨by omega, by omega, e_g319⟩)) hP hD hS ls (lv_sub hl [0, 1, 2, 3, 4, 5, 6, 7] rfl)
                    · refine lv_aload hx hb dX9_merge_217 (lv_at hl 6 rfl) ?_
                      refine lv_iload hx hb dX9_merge_219 (lv_at hl 0 rfl) ?_
                      refine lv_bipush (v := zI 18) hx hb dX9_merge_221 (by decide) ?_
                      refine r_iadd (v := zI ((20 * v5) + 18)) F dX9_merge_223 (zI_add _ _) ?_
                      refine lv_iload_n hx hb dX9_merge_224 rfl (lv_at hl 4 rfl) ?_
                      refine rz_iastG F hK hP hD hS 2 0 rfl rfl (by omega) (by omega) dX9_merge_225 (w1 := fun g322 => [(y, .inr (9, [.int (zI (i 0)), .ref (q 0), .int (zI (i 1)), .int (zI (i 2)), .int (zI (i 3)), .int (zI (i 4)), .int (zI (i 5)), .int (zI (i 6)), .int (zI (i 7)), .int (zI (i 8)), .int (zI (i 9)), .int (zI (i 10)), .ref (q 1), .int (zI (i 11)), .int (zI (i 12)), .ref (q 2), .ref (q 3), .ref (q 4), .ref (q 5), .ref (q 6), .ref (q 7), .ref (q 8), .ref (q 9), .ref (q 10), .ref (q 11), .ref (q 12), .ref (q 13), .ref (q 14), .ref (q 15), .ref (q 16), .int (zI (i 13)), .int (zI (i 14)), .int (zI (i 15)), .int (zI (i 16)), .int (zI (i 17)), .int (zI (i 18)), .ref (q 17), .ref (q 18), .ref (q 19), .ref (q 20)])), (a, .inl (cI, 200, .inl (fun k => zI (g_p k)))), (f, .inl (cI, 200, .inl (fun k => zI (g322 k))))]) (fun _ => rfl) (fun g322 e_g322 H locs hP hD hS => ?_)
                      have hqp323 : ProgOk g322 := ⟨hqp1.1.set (m := 9) e_g322 18 (by omega) rfl (by omega), hqp1.2.set e_g322 (by omega)⟩
                      have hmt324 := hmt1.keep e_g322 (by omega)
                      refine lv_iconst (v := zI 0) hx hb dX9_merge_226 rfl ?_
                      have hms8 : Mst g_p x w (i 13) g322 v5 (3 + 0) := Mst.s18 hms6 (by omega) hnw (by omega) (Or.inl ⟨by omega, by omega, e_g322⟩)
                      refine lv_istore (lv' := [(7, .int (zI 0)), (6, .int (zI (20 * v5))), (5, .int (zI v5)), (0, .ref y), (1, .ref a), (2, .int (zI x)), (3, .int (zI w)), (4, .ref f)]) hx hb dX9_merge_227 hl (by decide) rfl (fun ls hl => ?_)
                      refine W.widen (k := 0) (n := 0) (Nat.le_of_ble_eq_true rfl) (Nat.le_of_ble_eq_true rfl) ?_
                      refine (?_ : ∀ (n9_3 : Nat) (v7 : Int) (gq2 : Nat → Int) (H : Heap) (locs : List Loc), (0 ≤ v7 ∧ v7 ≤ 4) → (4 - v7 : Int).toNat < n9_3 → (ProgOk gq2) → (MT g_p gq2 w) → (Mst g_p x w (i 13) gq2 v5 (3 + v7)) → va_P G vwCl [(y, .inr (9, [.int (zI (i 0)), .ref (q 0), .int (zI (i 1)), .int (zI (i 2)), .int (zI (i 3)), .int (zI (i 4)), .int (zI (i 5)), .int (zI (i 6)), .int (zI (i 7)), .int (zI (i 8)), .int (zI (i 9)), .int (zI (i 10)), .ref (q 1), .int (zI (i 11)), .int (zI (i 12)), .ref (q 2), .ref (q 3), .ref (q 4), .ref (q 5), .ref (q 6), .ref (q 7), .ref (q 8), .ref (q 9), .ref (q 10), .ref (q 11), .ref (q 12), .ref (q 13), .ref (q 14), .ref (q 15), .ref (q 16), .int (zI (i 13)), .int (zI (i 14)), .int (zI (i 15)), .int (zI (i 16)), .int (zI (i 17)), .int (zI (i 18)), .ref (q 17), .ref (q 18), .ref (q 19), .ref (q 20)])), (a, .inl (cI, 200, .inl (fun k => zI (g_p k)))), (f, .inl (cI, 200, .inl (fun k => zI (gq2 k))))] H → va_D A [(y, .inr (9, [.int (zI (i 0)), .ref (q 0), .int (zI (i 1)), .int (zI (i 2)), .int (zI (i 3)), .int (zI (i 4)), .int (zI (i 5)), .int (zI (i 6)), .int (zI (i 7)), .int (zI (i 8)), .int (zI (i 9)), .int (zI (i 10)), .ref (q 1), .int (zI (i 11)), .int (zI (i 12)), .ref (q 2), .ref (q 3), .ref (q 4), .ref (q 5), .ref (q 6), .ref (q 7), .ref (q 8), .ref (q 9), .ref (q 10), .ref (q 11), .ref (q 12), .ref (q 13), .ref (q 14), .ref (q 15), .ref (q 16), .int (zI (i 13)), .int (zI (i 14)), .int (zI (i 15)), .int (zI (i 16)), .int (zI (i 17)), .int (zI (i 18)), .ref (q 17), .ref (q 18), .ref (q 19), .ref (q 20)])), (a, .inl (cI, 200, .inl (fun k => zI (g_p k)))), (f, .inl (cI, 200, .inl (fun k => zI (gq2 k))))] → va_S A s.heap H locs → ∀ ls : Array Slot, lv_has ls 8 [(7, .int (zI v7)), (6, .int (zI (20 * v5))), (5, .int (zI v5)), (0, .ref y), (1, .ref a), (2, .int (zI x)), (3, .int (zI w)), (4, .ref f)] → W p l e rm_X9_mergeX s m ([.ref y, .ref a, .int (zI x), .int (zI w), .ref f] : List Value).toArray below meth c H locs 0 0 Q (F0 m 229 ls [])) ((4 - 0 : Int).toNat + 1) 0 g322 _ _ (by omega) (by omega) hqp323 hmt324 hms8 hP hD hS ls hl
                      clear hP hD hS hl ls
                      intro n9_3
                      induction n9_3 with
                      | zero =>
                        intro v7 gq2 H locs hI hM
                        exact absurd hM (by omega)
                      | succ n9_3 ih3 =>
                        intro v7 gq2 H locs hI3 hM3 hqp2 hmt2 hms2 hP hD hS ls hl
                        refine lv_iload hx hb dX9_merge_229 (lv_at hl 0 rfl) ?_
                        refine lv_aload hx hb dX9_merge_231 (lv_at hl 7 rfl) ?_
                        refine lv_iload hx hb dX9_merge_233 (lv_at hl 1 rfl) ?_
                        refine lv_iconst (v := zI 1) hx hb dX9_merge_235 rfl ?_
                        refine r_iadd (v := zI ((20 * v5) + 1)) F dX9_merge_236 (zI_add _ _) ?_
                        refine rz_iald F hK hP 2 0 rfl rfl (by omega) (by omega) dX9_merge_237 ?_
                        have hpl325 : 0 ≤ (gq2 (((20 * v5) + 1)).toNat) ∧ (gq2 (((20 * v5) + 1)).toNat) ≤ 4 := ProgR.at hqp2.1 (e := ((20 * v5) + 1)) v5 1 (by omega) (by omega) (by decide) rfl
                        refine rz_icmp_ge (tgt := 296) F (by omega) (by omega) dX9_merge_238 (by decide) (fun h238_325 => ?_) (fun h238_325 => ?_)
                        · refine lv_iinc (v := zI (v5 + 1)) (lv' := [(5, .int (zI (v5 + 1))), (7, .int (zI v7)), (6, .int (zI (20 * v5))), (0, .ref y), (1, .ref a), (2, .int (zI x)), (3, .int (zI w)), (4, .ref f)]) hx hb dX9_merge_296 hl (k := 2) rfl (zI_add _ _) (by decide) rfl (fun ls hl => ?_)
                          refine lv_goto (tgt := 132) hx hb dX9_merge_299 (by decide) ?_
                          exact ih2 (v5 + 1) gq2 _ _ (by omega) (by omega) hqp2 hmt2 (Mst.fin hms2 (by omega) hnw ⟨by omega, by omega⟩) hP hD hS ls (lv_sub hl [0, 3, 4, 5, 6, 7] rfl)
                        · refine lv_aload hx hb dX9_merge_241 (lv_at hl 7 rfl) ?_
                          refine lv_iload hx hb dX9_merge_243 (lv_at hl 1 rfl) ?_
                          refine lv_iconst (v := zI 2) hx hb dX9_merge_245 rfl ?_
                          refine r_iadd (v := zI ((20 * v5) + 2)) F dX9_merge_246 (zI_add _ _) ?_
                          refine lv_iconst (v := zI 3) hx hb dX9_merge_247 rfl ?_
                          refine lv_iload hx hb dX9_merge_248 (lv_at hl 0 rfl) ?_
                          refine r_imul (v := zI (3 * v7)) F dX9_merge_250 (zI_mul _ _) ?_
                          refine r_iadd (v := zI (((20 * v5) + 2) + (3 * v7))) F dX9_merge_251 (zI_add _ _) ?_
                          refine rz_iald F hK hP 2 0 rfl rfl (by omega) (by omega) dX9_merge_252 ?_
                          have hc327 := ProgOk.act hqp2 (i := v5) (n := v7) (k := (((20 * v5) + 2) + (3 * v7))) (by omega) (by omega) (by omega)
                          refine lv_iconst (v := zI 3) hx hb dX9_merge_253 rfl ?_
                          refine rz_icmp_ne (tgt := 290) F (by omega) (by omega) dX9_merge_254 (by decide) (fun h254_327 => ?_) (fun h254_327 => ?_)
                          · refine lv_iinc (v := zI (v7 + 1)) (lv' := [(7, .int (zI (v7 + 1))), (6, .int (zI (20 * v5))), (5, .int (zI v5)), (0, .ref y), (1, .ref a), (2, .int (zI x)), (3, .int (zI w)), (4, .ref f)]) hx hb dX9_merge_290 hl (k := 0) rfl (zI_add _ _) (by decide) rfl (fun ls hl => ?_)
                            refine lv_goto (tgt := 229) hx hb dX9_merge_293 (by decide) ?_
                            exact ih3 (v7 + 1) gq2 _ _ (by omega) (by omega) hqp2 hmt2 (Mst.sA hms2 (by omega) hnw (by omega) ⟨by omega, by omega⟩ (Or.inr ⟨by omega, rfl⟩)) hP hD hS ls (lv_sub hl [0, 1, 2, 3, 4, 5, 6, 7] rfl)
                          · refine lv_aload hx hb dX9_merge_257 (lv_at hl 7 rfl) ?_
                            refine lv_iload hx hb dX9_merge_259 (lv_at hl 1 rfl) ?_
                            refine lv_iconst (v := zI 2) hx hb dX9_merge_261 rfl ?_
                            refine r_iadd (v := zI ((20 * v5) + 2)) F dX9_merge_262 (zI_add _ _) ?_
                            refine lv_iconst (v := zI 3) hx hb dX9_merge_263 rfl ?_
                            refine lv_iload hx hb dX9_merge_264 (lv_at hl 0 rfl) ?_
                            refine r_imul (v := zI (3 * v7)) F dX9_merge_266 (zI_mul _ _) ?_
                            refine r_iadd (v := zI (((20 * v5) + 2) + (3 * v7))) F dX9_merge_267 (zI_add _ _) ?_
                            refine lv_iconst (v := zI 1) hx hb dX9_merge_268 rfl ?_
                            refine r_iadd (v := zI ((((20 * v5) + 2) + (3 * v7)) + 1)) F dX9_merge_269 (zI_add _ _) ?_
                            refine rz_iald F hK hP 2 0 rfl rfl (by omega) (by omega) dX9_merge_270 ?_
                            have hc329 := hqp2.1.pos (((((20 * v5) + 2) + (3 * v7)) + 1)).toNat (by omega)
                            have hc330 := hqp2.1.le9 (((((20 * v5) + 2) + (3 * v7)) + 1)).toNat (by omega)
                            refine lv_iload_n hx hb dX9_merge_271 rfl (lv_at hl 6 rfl) ?_
                            refine rz_icmp_ne (tgt := 290) F (by omega) (by omega) dX9_merge_272 (by decide) (fun h272_330 => ?_) (fun h272_330 => ?_)
                            · refine lv_iinc (v := zI (v7 + 1)) (lv' := [(7, .int (zI (v7 + 1))), (6, .int (zI (20 * v5))), (5, .int (zI v5)), (0, .ref y), (1, .ref a), (2, .int (zI x)), (3, .int (zI w)), (4, .ref f)]) hx hb dX9_merge_290 hl (k := 0) rfl (zI_add _ _) (by decide) rfl (fun ls hl => ?_)
                              refine lv_goto (tgt := 229) hx hb dX9_merge_293 (by decide) ?_
                              exact ih3 (v7 + 1) gq2 _ _ (by omega) (by omega) hqp2 hmt2 (Mst.sA hms2 (by omega) hnw (by omega) ⟨by omega, by omega⟩ (Or.inr ⟨by omega, rfl⟩)) hP hD hS ls (lv_sub hl [0, 1, 2, 3, 4, 5, 6, 7] rfl)
                            · refine lv_aload hx hb dX9_merge_275 (lv_at hl 7 rfl) ?_
                              refine lv_iload hx hb dX9_merge_277 (lv_at hl 1 rfl) ?_
                              refine lv_iconst (v := zI 2) hx hb dX9_merge_279 rfl ?_
                              refine r_iadd (v := zI ((20 * v5) + 2)) F dX9_merge_280 (zI_add _ _) ?_
                              refine lv_iconst (v := zI 3) hx hb dX9_merge_281 rfl ?_
                              refine lv_iload hx hb dX9_merge_282 (lv_at hl 0 rfl) ?_
                              refine r_imul (v := zI (3 * v7)) F dX9_merge_284 (zI_mul _ _) ?_
                              refine r_iadd (v := zI (((20 * v5) + 2) + (3 * v7))) F dX9_merge_285 (zI_add _ _) ?_
                              refine lv_iconst (v := zI 1) hx hb dX9_merge_286 rfl ?_
                              refine r_iadd (v := zI ((((20 * v5) + 2) + (3 * v7)) + 1)) F dX9_merge_287 (zI_add _ _) ?_
                              refine lv_iload_n hx hb dX9_merge_288 rfl (lv_at hl 5 rfl) ?_
                              refine rz_iastG F hK hP hD hS 2 0 rfl rfl (by omega) (by omega) dX9_merge_289 (w1 := fun g332 => [(y, .inr (9, [.int (zI (i 0)), .ref (q 0), .int (zI (i 1)), .int (zI (i 2)), .int (zI (i 3)), .int (zI (i 4)), .int (zI (i 5)), .int (zI (i 6)), .int (zI (i 7)), .int (zI (i 8)), .int (zI (i 9)), .int (zI (i 10)), .ref (q 1), .int (zI (i 11)), .int (zI (i 12)), .ref (q 2), .ref (q 3), .ref (q 4), .ref (q 5), .ref (q 6), .ref (q 7), .ref (q 8), .ref (q 9), .ref (q 10), .ref (q 11), .ref (q 12), .ref (q 13), .ref (q 14), .ref (q 15), .ref (q 16), .int (zI (i 13)), .int (zI (i 14)), .int (zI (i 15)), .int (zI (i 16)), .int (zI (i 17)), .int (zI (i 18)), .ref (q 17), .ref (q 18), .ref (q 19), .ref (q 20)])), (a, .inl (cI, 200, .inl (fun k => zI (g_p k)))), (f, .inl (cI, 200, .inl (fun k => zI (g332 k))))]) (fun _ => rfl) (fun g332 e_g332 H locs hP hD hS => ?_)
                              have hqp333 : ProgOk g332 := ProgOk.tgt3 hqp2 e_g332 (i := v5) (n := v7) (by omega) (by omega) (by omega) (by omega) (j := (((20 * v5) + 2) + (3 * v7)).toNat) (by omega) (by omega)
                              have hmt334 := MT.keepA hmt2 e_g332 (i := v5) (n := v7) (by omega) (by omega) (by omega)
                              refine lv_iinc (v := zI (v7 + 1)) (lv' := [(7, .int (zI (v7 + 1))), (6, .int (zI (20 * v5))), (5, .int (zI v5)), (0, .ref y), (1, .ref a), (2, .int (zI x)), (3, .int (zI w)), (4, .ref f)]) hx hb dX9_merge_290 hl (k := 0) rfl (zI_add _ _) (by decide) rfl (fun ls hl => ?_)
                              refine lv_goto (tgt := 229) hx hb dX9_merge_293 (by decide) ?_
                              exact ih3 (v7 + 1) g332 _ _ (by omega) (by omega) hqp333 hmt334 (Mst.sA hms2 (by omega) hnw (by omega) ⟨by omega, by omega⟩ (Or.inl ⟨by omega, by omega, e_g332⟩)) hP hD hS ls (lv_sub hl [0, 1, 2, 3, 4, 5, 6, 7] rfl)
                · refine lv_aload hx hb dX9_merge_172 (lv_at hl 6 rfl) ?_
                  refine lv_iload hx hb dX9_merge_174 (lv_at hl 0 rfl) ?_
                  refine lv_bipush (v := zI 16) hx hb dX9_merge_176 (by decide) ?_
                  refine r_iadd (v := zI ((20 * v5) + 16)) F dX9_merge_178 (zI_add _ _) ?_
                  refine rz_iald F hK hP 2 0 rfl rfl (by omega) (by omega) dX9_merge_179 ?_
                  have hc335 := hqp1.1.pos (((20 * v5) + 16)).toNat (by omega)
                  have hc336 := hqp1.1.le9 (((20 * v5) + 16)).toNat (by omega)
                  refine lv_iload_n hx hb dX9_merge_180 rfl (lv_at hl 5 rfl) ?_
                  refine rz_icmp_ne (tgt := 193) F (by omega) (by omega) dX9_merge_181 (by decide) (fun h181_336 => ?_) (fun h181_336 => ?_)
                  · refine lv_aload hx hb dX9_merge_193 (lv_at hl 6 rfl) ?_
                    have hms6 : Mst g_p x w (i 13) gq1 v5 1 := Mst.s16 hms1 (by omega) hnw (by omega) (Or.inr ⟨by omega, rfl⟩)
                    refine lv_iload hx hb dX9_merge_195 (lv_at hl 0 rfl) ?_
                    refine lv_bipush (v := zI 14) hx hb dX9_merge_197 (by decide) ?_
                    refine r_iadd (v := zI ((20 * v5) + 14)) F dX9_merge_199 (zI_add _ _) ?_
                    refine rz_iald F hK hP 2 0 rfl rfl (by omega) (by omega) dX9_merge_200 ?_
                    have hc338 := hqp1.1.pos (((20 * v5) + 14)).toNat (by omega)
                    have hc339 := hqp1.1.le9 (((20 * v5) + 14)).toNat (by omega)
                    refine lv_iconst (v := zI 2) hx hb dX9_merge_201 rfl ?_
                    refine rz_icmp_ne (tgt := 226) F (by omega) (by omega) dX9_merge_202 (by decide) (fun h202_339 => ?_) (fun h202_339 => ?_)
                    · refine lv_iconst (v := zI 0) hx hb dX9_merge_226 rfl ?_
                      have hms8 : Mst g_p x w (i 13) gq1 v5 (3 + 0) := Mst.s18 hms6 (by omega) hnw (by omega) (Or.inr ⟨by omega, rfl⟩)
                      refine lv_istore (lv' := [(7, .int (zI 0)), (6, .int (zI (20 * v5))), (5, .int (zI v5)), (0, .ref y), (1, .ref a), (2, .int (zI x)), (3, .int (zI w)), (4, .ref f)]) hx hb dX9_merge_227 hl (by decide) rfl (fun ls hl => ?_)
                      refine W.widen (k := 0) (n := 0) (Nat.le_of_ble_eq_true rfl) (Nat.le_of_ble_eq_true rfl) ?_
                      refine (?_ : ∀ (n9_3 : Nat) (v7 : Int) (gq2 : Nat → Int) (H : Heap) (locs : List Loc), (0 ≤ v7 ∧ v7 ≤ 4) → (4 - v7 : Int).toNat < n9_3 → (ProgOk gq2) → (MT g_p gq2 w) → (Mst g_p x w (i 13) gq2 v5 (3 + v7)) → va_P G vwCl [(y, .inr (9, [.int (zI (i 0)), .ref (q 0), .int (zI (i 1)), .int (zI (i 2)), .int (zI (i 3)), .int (zI (i 4)), .int (zI (i 5)), .int (zI (i 6)), .int (zI (i 7)), .int (zI (i 8)), .int (zI (i 9)), .int (zI (i 10)), .ref (q 1), .int (zI (i 11)), .int (zI (i 12)), .ref (q 2), .ref (q 3), .ref (q 4), .ref (q 5), .ref (q 6), .ref (q 7), .ref (q 8), .ref (q 9), .ref (q 10), .ref (q 11), .ref (q 12), .ref (q 13), .ref (q 14), .ref (q 15), .ref (q 16), .int (zI (i 13)), .int (zI (i 14)), .int (zI (i 15)), .int (zI (i 16)), .int (zI (i 17)), .int (zI (i 18)), .ref (q 17), .ref (q 18), .ref (q 19), .ref (q 20)])), (a, .inl (cI, 200, .inl (fun k => zI (g_p k)))), (f, .inl (cI, 200, .inl (fun k => zI (gq2 k))))] H → va_D A [(y, .inr (9, [.int (zI (i 0)), .ref (q 0), .int (zI (i 1)), .int (zI (i 2)), .int (zI (i 3)), .int (zI (i 4)), .int (zI (i 5)), .int (zI (i 6)), .int (zI (i 7)), .int (zI (i 8)), .int (zI (i 9)), .int (zI (i 10)), .ref (q 1), .int (zI (i 11)), .int (zI (i 12)), .ref (q 2), .ref (q 3), .ref (q 4), .ref (q 5), .ref (q 6), .ref (q 7), .ref (q 8), .ref (q 9), .ref (q 10), .ref (q 11), .ref (q 12), .ref (q 13), .ref (q 14), .ref (q 15), .ref (q 16), .int (zI (i 13)), .int (zI (i 14)), .int (zI (i 15)), .int (zI (i 16)), .int (zI (i 17)), .int (zI (i 18)), .ref (q 17), .ref (q 18), .ref (q 19), .ref (q 20)])), (a, .inl (cI, 200, .inl (fun k => zI (g_p k)))), (f, .inl (cI, 200, .inl (fun k => zI (gq2 k))))] → va_S A s.heap H locs → ∀ ls : Array Slot, lv_has ls 8 [(7, .int (zI v7)), (6, .int (zI (20 * v5))), (5, .int (zI v5)), (0, .ref y), (1, .ref a), (2, .int (zI x)), (3, .int (zI w)), (4, .ref f)] → W p l e rm_X9_mergeX s m ([.ref y, .ref a, .int (zI x), .int (zI w), .ref f] : List Value).toArray below meth c H locs 0 0 Q (F0 m 229 ls [])) ((4 - 0 : Int).toNat + 1) 0 gq1 _ _ (by omega) (by omega) hqp1 hmt1 hms8 hP hD hS ls hl
                      clear hP hD hS hl ls
                      intro n9_3
                      induction n9_3 with
                      | zero =>
                        intro v7 gq2 H locs hI hM
                        exact absurd hM (by omega)
                      | succ n9_3 ih3 =>
                        intro v7 gq2 H locs hI3 hM3 hqp2 hmt2 hms2 hP hD hS ls hl
                        refine lv_iload hx hb dX9_merge_229 (lv_at hl 0 rfl) ?_
                        refine lv_aload hx hb dX9_merge_231 (lv_at hl 7 rfl) ?_
                        refine lv_iload hx hb dX9_merge_233 (lv_at hl 1 rfl) ?_
                        refine lv_iconst (v := zI 1) hx hb dX9_merge_235 rfl ?_
                        refine r_iadd (v := zI ((20 * v5) + 1)) F dX9_merge_236 (zI_add _ _) ?_
                        refine rz_iald F hK hP 2 0 rfl rfl (by omega) (by omega) dX9_merge_237 ?_
                        have hpl341 : 0 ≤ (gq2 (((20 * v5) + 1)).toNat) ∧ (gq2 (((20 * v5) + 1)).toNat) ≤ 4 := ProgR.at hqp2.1 (e := ((20 * v5) + 1)) v5 1 (by omega) (by omega) (by decide) rfl
                        refine rz_icmp_ge (tgt := 296) F (by omega) (by omega) dX9_merge_238 (by decide) (fun h238_341 => ?_) (fun h238_341 => ?_)
                        · refine lv_iinc (v := zI (v5 + 1)) (lv' := [(5, .int (zI (v5 + 1))), (7, .int (zI v7)), (6, .int (zI (20 * v5))), (0, .ref y), (1, .ref a), (2, .int (zI x)), (3, .int (zI w)), (4, .ref f)]) hx hb dX9_merge_296 hl (k := 2) rfl (zI_add _ _) (by decide) rfl (fun ls hl => ?_)
                          refine lv_goto (tgt := 132) hx hb dX9_merge_299 (by decide) ?_
                          exact ih2 (v5 + 1) gq2 _ _ (by omega) (by omega) hqp2 hmt2 (Mst.fin hms2 (by omega) hnw ⟨by omega, by omega⟩) hP hD hS ls (lv_sub hl [0, 3, 4, 5, 6, 7] rfl)
                        · refine lv_aload hx hb dX9_merge_241 (lv_at hl 7 rfl) ?_
                          refine lv_iload hx hb dX9_merge_243 (lv_at hl 1 rfl) ?_
                          refine lv_iconst (v := zI 2) hx hb dX9_merge_245 rfl ?_
                          refine r_iadd (v := zI ((20 * v5) + 2)) F dX9_merge_246 (zI_add _ _) ?_
                          refine lv_iconst (v := zI 3) hx hb dX9_merge_247 rfl ?_
                          refine lv_iload hx hb dX9_merge_248 (lv_at hl 0 rfl) ?_
                          refine r_imul (v := zI (3 * v7)) F dX9_merge_250 (zI_mul _ _) ?_
                          refine r_iadd (v := zI (((20 * v5) + 2) + (3 * v7))) F dX9_merge_251 (zI_add _ _) ?_
                          refine rz_iald F hK hP 2 0 rfl rfl (by omega) (by omega) dX9_merge_252 ?_
                          have hc343 := ProgOk.act hqp2 (i := v5) (n := v7) (k := (((20 * v5) + 2) + (3 * v7))) (by omega) (by omega) (by omega)
                          refine lv_iconst (v := zI 3) hx hb dX9_merge_253 rfl ?_
                          refine rz_icmp_ne (tgt := 290) F (by omega) (by omega) dX9_merge_254 (by decide) (fun h254_343 => ?_) (fun h254_343 => ?_)
                          · refine lv_iinc (v := zI (v7 + 1)) (lv' := [(7, .int (zI (v7 + 1))), (6, .int (zI (20 * v5))), (5, .int (zI v5)), (0, .ref y), (1, .ref a), (2, .int (zI x)), (3, .int (zI w)), (4, .ref f)]) hx hb dX9_merge_290 hl (k := 0) rfl (zI_add _ _) (by decide) rfl (fun ls hl => ?_)
                            refine lv_goto (tgt := 229) hx hb dX9_merge_293 (by decide) ?_
                            exact ih3 (v7 + 1) gq2 _ _ (by omega) (by omega) hqp2 hmt2 (Mst.sA hms2 (by omega) hnw (by omega) ⟨by omega, by omega⟩ (Or.inr ⟨by omega, rfl⟩)) hP hD hS ls (lv_sub hl [0, 1, 2, 3, 4, 5, 6, 7] rfl)
                          · refine lv_aload hx hb dX9_merge_257 (lv_at hl 7 rfl) ?_
                            refine lv_iload hx hb dX9_merge_259 (lv_at hl 1 rfl) ?_
                            refine lv_iconst (v := zI 2) hx hb dX9_merge_261 rfl ?_
                            refine r_iadd (v := zI ((20 * v5) + 2)) F dX9_merge_262 (zI_add _ _) ?_
                            refine lv_iconst (v := zI 3) hx hb dX9_merge_263 rfl ?_
                            refine lv_iload hx hb dX9_merge_264 (lv_at hl 0 rfl) ?_
                            refine r_imul (v := zI (3 * v7)) F dX9_merge_266 (zI_mul _ _) ?_
                            refine r_iadd (v := zI (((20 * v5) + 2) + (3 * v7))) F dX9_merge_267 (zI_add _ _) ?_
                            refine lv_iconst (v := zI 1) hx hb dX9_merge_268 rfl ?_
                            refine r_iadd (v := zI ((((20 * v5) + 2) + (3 * v7)) + 1)) F dX9_merge_269 (zI_add _ _) ?_
                            refine rz_iald F hK hP 2 0 rfl rfl (by omega) (by omega) dX9_merge_270 ?_
                            have hc345 := hqp2.1.pos (((((20 * v5) + 2) + (3 * v7)) + 1)).toNat (by omega)
                            have hc346 := hqp2.1.le9 (((((20 * v5) + 2) + (3 * v7)) + 1)).toNat (by omega)
                            refine lv_iload_n hx hb dX9_merge_271 rfl (lv_at hl 6 rfl) ?_
                            refine rz_icmp_ne (tgt := 290) F (by omega) (by omega) dX9_merge_272 (by decide) (fun h272_346 => ?_) (fun h272_346 => ?_)
                            · refine lv_iinc (v := zI (v7 + 1)) (lv' := [(7, .int (zI (v7 + 1))), (6, .int (zI (20 * v5))), (5, .int (zI v5)), (0, .ref y), (1, .ref a), (2, .int (zI x)), (3, .int (zI w)), (4, .ref f)]) hx hb dX9_merge_290 hl (k := 0) rfl (zI_add _ _) (by decide) rfl (fun ls hl => ?_)
                              refine lv_goto (tgt := 229) hx hb dX9_merge_293 (by decide) ?_
                              exact ih3 (v7 + 1) gq2 _ _ (by omega) (by omega) hqp2 hmt2 (Mst.sA hms2 (by omega) hnw (by omega) ⟨by omega, by omega⟩ (Or.inr ⟨by omega, rfl⟩)) hP hD hS ls (lv_sub hl [0, 1, 2, 3, 4, 5, 6, 7] rfl)
                            · refine lv_aload hx hb dX9_merge_275 (lv_at hl 7 rfl) ?_
                              refine lv_iload hx hb dX9_merge_277 (lv_at hl 1 rfl) ?_
                              refine lv_iconst (v := zI 2) hx hb dX9_merge_279 rfl ?_
                              refine r_iadd (v := zI ((20 * v5) + 2)) F dX9_merge_280 (zI_add _ _) ?_
                              refine lv_iconst (v := zI 3) hx hb dX9_merge_281 rfl ?_
                              refine lv_iload hx hb dX9_merge_282 (lv_at hl 0 rfl) ?_
                              refine r_imul (v := zI (3 * v7)) F dX9_merge_284 (zI_mul _ _) ?_
                              refine r_iadd (v := zI (((20 * v5) + 2) + (3 * v7))) F dX9_merge_285 (zI_add _ _) ?_
                              refine lv_iconst (v := zI 1) hx hb dX9_merge_286 rfl ?_
                              refine r_iadd (v := zI ((((20 * v5) + 2) + (3 * v7)) + 1)) F dX9_merge_287 (zI_add _ _) ?_
                              refine lv_iload_n hx hb dX9_merge_288 rfl (lv_at hl 5 rfl) ?_
                              refine rz_iastG F hK hP hD hS 2 0 rfl rfl (by omega) (by omega) dX9_merge_289 (w1 := fun g348 => [(y, .inr (9, [.int (zI (i 0)), .ref (q 0), .int (zI (i 1)), .int (zI (i 2)), .int (zI (i 3)), .int (zI (i 4)), .int (zI (i 5)), .int (zI (i 6)), .int (zI (i 7)), .int (zI (i 8)), .int (zI (i 9)), .int (zI (i 10)), .ref (q 1), .int (zI (i 11)), .int (zI (i 12)), .ref (q 2), .ref (q 3), .ref (q 4), .ref (q 5), .ref (q 6), .ref (q 7), .ref (q 8), .ref (q 9), .ref (q 10), .ref (q 11), .ref (q 12), .ref (q 13), .ref (q 14), .ref (q 15), .ref (q 16), .int (zI (i 13)), .int (zI (i 14)), .int (zI (i 15)), .int (zI (i 16)), .int (zI (i 17)), .int (zI (i 18)), .ref (q 17), .ref (q 18), .ref (q 19), .ref (q 20)])), (a, .inl (cI, 200, .inl (fun k => zI (g_p k)))), (f, .inl (cI, 200, .inl (fun k => zI (g348 k))))]) (fun _ => rfl) (fun g348 e_g348 H locs hP hD hS => ?_)
                              have hqp349 : ProgOk g348 := ProgOk.tgt3 hqp2 e_g348 (i := v5) (n := v7) (by omega) (by omega) (by omega) (by omega) (j := (((20 * v5) + 2) + (3 * v7)).toNat) (by omega) (by omega)
                              have hmt350 := MT.keepA hmt2 e_g348 (i := v5) (n := v7) (by omega) (by omega) (by omega)
                              refine lv_iinc (v := zI (v7 + 1)) (lv' := [(7, .int (zI (v7 + 1))), (6, .int (zI (20 * v5))), (5, .int (zI v5)), (0, .ref y), (1, .ref a), (2, .int (zI x)), (3, .int (zI w)), (4, .ref f)]) hx hb dX9_merge_290 hl (k := 0) rfl (zI_add _ _) (by decide) rfl (fun ls hl => ?_)
                              refine lv_goto (tgt := 229) hx hb dX9_merge_293 (by decide) ?_
                              exact ih3 (v7 + 1) g348 _ _ (by omega) (by omega) hqp349 hmt350 (Mst.sA hms2 (by omega) hnw (by omega) ⟨by omega, by omega⟩ (Or.inl ⟨by omega, by omega, e_g348⟩)) hP hD hS ls (lv_sub hl [0, 1, 2, 3, 4, 5, 6, 7] rfl)
                    · refine lv_aload hx hb dX9_merge_205 (lv_at hl 6 rfl) ?_
                      refine lv_iload hx hb dX9_merge_207 (lv_at hl 0 rfl) ?_
                      refine lv_bipush (v := zI 18) hx hb dX9_merge_209 (by decide) ?_
                      refine r_iadd (v := zI ((20 * v5) + 18)) F dX9_merge_211 (zI_add _ _) ?_
                      refine rz_iald F hK hP 2 0 rfl rfl (by omega) (by omega) dX9_merge_212 ?_
                      have hc351 := hqp1.1.pos (((20 * v5) + 18)).toNat (by omega)
                      have hc352 := hqp1.1.le9 (((20 * v5) + 18)).toNat (by omega)
                      refine lv_iload_n hx hb dX9_merge_213 rfl (lv_at hl 5 rfl) ?_
                      refine rz_icmp_ne (tgt := 226) F (by omega) (by omega) dX9_merge_214 (by decide) (fun h214_352 => ?_) (fun h214_352 => ?_)
                      · refine lv_iconst (v := zI 0) hx hb dX9_merge_226 rfl ?_
                        have hms8 : Mst g_p x w (i 13) gq1 v5 (3 + 0) := Mst.s18 hms6 (by omega) hnw (by omega) (Or.inr ⟨by omega, rfl⟩)
                        refine lv_istore (lv' := [(7, .int (zI 0)), (6, .int (zI (20 * v5))), (5, .int (zI v5)), (0, .ref y), (1, .ref a), (2, .int (zI x)), (3, .int (zI w)), (4, .ref f)]) hx hb dX9_merge_227 hl (by decide) rfl (fun ls hl => ?_)
                        refine W.widen (k := 0) (n := 0) (Nat.le_of_ble_eq_true rfl) (Nat.le_of_ble_eq_true rfl) ?_
                        refine (?_ : ∀ (n9_3 : Nat) (v7 : Int) (gq2 : Nat → Int) (H : Heap) (locs : List Loc), (0 ≤ v7 ∧ v7 ≤ 4) → (4 - v7 : Int).toNat < n9_3 → (ProgOk gq2) → (MT g_p gq2 w) → (Mst g_p x w (i 13) gq2 v5 (3 + v7)) → va_P G vwCl [(y, .inr (9, [.int (zI (i 0)), .ref (q 0), .int (zI (i 1)), .int (zI (i 2)), .int (zI (i 3)), .int (zI (i 4)), .int (zI (i 5)), .int (zI (i 6)), .int (zI (i 7)), .int (zI (i 8)), .int (zI (i 9)), .int (zI (i 10)), .ref (q 1), .int (zI (i 11)), .int (zI (i 12)), .ref (q 2), .ref (q 3), .ref (q 4), .ref (q 5), .ref (q 6), .ref (q 7), .ref (q 8), .ref (q 9), .ref (q 10), .ref (q 11), .ref (q 12), .ref (q 13), .ref (q 14), .ref (q 15), .ref (q 16), .int (zI (i 13)), .int (zI (i 14)), .int (zI (i 15)), .int (zI (i 16)), .int (zI (i 17)), .int (zI (i 18)), .ref (q 17), .ref (q 18), .ref (q 19), .ref (q 20)])), (a, .inl (cI, 200, .inl (fun k => zI (g_p k)))), (f, .inl (cI, 200, .inl (fun k => zI (gq2 k))))] H → va_D A [(y, .inr (9, [.int (zI (i 0)), .ref (q 0), .int (zI (i 1)), .int (zI (i 2)), .int (zI (i 3)), .int (zI (i 4)), .int (zI (i 5)), .int (zI (i 6)), .int (zI (i 7)), .int (zI (i 8)), .int (zI (i 9)), .int (zI (i 10)), .ref (q 1), .int (zI (i 11)), .int (zI (i 12)), .ref (q 2), .ref (q 3), .ref (q 4), .ref (q 5), .ref (q 6), .ref (q 7), .ref (q 8), .ref (q 9), .ref (q 10), .ref (q 11), .ref (q 12), .ref (q 13), .ref (q 14), .ref (q 15), .ref (q 16), .int (zI (i 13)), .int (zI (i 14)), .int (zI (i 15)), .int (zI (i 16)), .int (zI (i 17)), .int (zI (i 18)), .ref (q 17), .ref (q 18), .ref (q 19), .ref (q 20)])), (a, .inl (cI, 200, .inl (fun k => zI (g_p k)))), (f, .inl (cI, 200, .inl (fun k => zI (gq2 k))))] → va_S A s.heap H locs → ∀ ls : Array Slot, lv_has ls 8 [(7, .int (zI v7)), (6, .int (zI (20 * v5))), (5, .int (zI v5)), (0, .ref y), (1, .ref a), (2, .int (zI x)), (3, .int (zI w)), (4, .ref f)] → W p l e rm_X9_mergeX s m ([.ref y, .ref a, .int (zI x), .int (zI w), .ref f] : List Value).toArray below meth c H locs 0 0 Q (F0 m 229 ls [])) ((4 - 0 : Int).toNat + 1) 0 gq1 _ _ (by omega) (by omega) hqp1 hmt1 hms8 hP hD hS ls hl
                        clear hP hD hS hl ls
                        intro n9_3
                        induction n9_3 with
                        | zero =>
                          intro v7 gq2 H locs hI hM
                          exact absurd hM (by omega)
                        | succ n9_3 ih3 =>
                          intro v7 gq2 H locs hI3 hM3 hqp2 hmt2 hms2 hP hD hS ls hl
                          refine lv_iload hx hb dX9_merge_229 (lv_at hl 0 rfl) ?_
                          refine lv_aload hx hb dX9_merge_231 (lv_at hl 7 rfl) ?_
                          refine lv_iload hx hb dX9_merge_233 (lv_at hl 1 rfl) ?_
                          refine lv_iconst (v := zI 1) hx hb dX9_merge_235 rfl ?_
                          refine r_iadd (v := zI ((20 * v5) + 1)) F dX9_merge_236 (zI_add _ _) ?_
                          refine rz_iald F hK hP 2 0 rfl rfl (by omega) (by omega) dX9_merge_237 ?_
                          have hpl354 : 0 ≤ (gq2 (((20 * v5) + 1)).toNat) ∧ (gq2 (((20 * v5) + 1)).toNat) ≤ 4 := ProgR.at hqp2.1 (e := ((20 * v5) + 1)) v5 1 (by omega) (by omega) (by decide) rfl
                          refine rz_icmp_ge (tgt := 296) F (by omega) (by omega) dX9_merge_238 (by decide) (fun h238_354 => ?_) (fun h238_354 => ?_)
                          · refine lv_iinc (v := zI (v5 + 1)) (lv' := [(5, .int (zI (v5 + 1))), (7, .int (zI v7)), (6, .int (zI (20 * v5))), (0, .ref y), (1, .ref a), (2, .int (zI x)), (3, .int (zI w)), (4, .ref f)]) hx hb dX9_merge_296 hl (k := 2) rfl (zI_add _ _) (by decide) rfl (fun ls hl => ?_)
                            refine lv_goto (tgt := 132) hx hb dX9_merge_299 (by decide) ?_
                            exact ih2 (v5 + 1) gq2 _ _ (by omega) (by omega) hqp2 hmt2 (Mst.fin hms2 (by omega) hnw ⟨by omega, by omega⟩) hP hD hS ls (lv_sub hl [0, 3, 4, 5, 6, 7] rfl)
                          · refine lv_aload hx hb dX9_merge_241 (lv_at hl 7 rfl) ?_
                            refine lv_iload hx hb dX9_merge_243 (lv_at hl 1 rfl) ?_
                            refine lv_iconst (v := zI 2) hx hb dX9_merge_245 rfl ?_
                            refine r_iadd (v := zI ((20 * v5) + 2)) F dX9_merge_246 (zI_add _ _) ?_
                            refine lv_iconst (v := zI 3) hx hb dX9_merge_247 rfl ?_
                            refine lv_iload hx hb dX9_merge_248 (lv_at hl 0 rfl) ?_
                            refine r_imul (v := zI (3 * v7)) F dX9_merge_250 (zI_mul _ _) ?_
                            refine r_iadd (v := zI (((20 * v5) + 2) + (3 * v7))) F dX9_merge_251 (zI_add _ _) ?_
                            refine rz_iald F hK hP 2 0 rfl rfl (by omega) (by omega) dX9_merge_252 ?_
                            have hc356 := ProgOk.act hqp2 (i := v5) (n := v7) (k := (((20 * v5) + 2) + (3 * v7))) (by omega) (by omega) (by omega)
                            refine lv_iconst (v := zI 3) hx hb dX9_merge_253 rfl ?_
                            refine rz_icmp_ne (tgt := 290) F (by omega) (by omega) dX9_merge_254 (by decide) (fun h254_356 => ?_) (fun h254_356 => ?_)
                            · refine lv_iinc (v := zI (v7 + 1)) (lv' := [(7, .int (zI (v7 + 1))), (6, .int (zI (20 * v5))), (5, .int (zI v5)), (0, .ref y), (1, .ref a), (2, .int (zI x)), (3, .int (zI w)), (4, .ref f)]) hx hb dX9_merge_290 hl (k := 0) rfl (zI_add _ _) (by decide) rfl (fun ls hl => ?_)
                              refine lv_goto (tgt := 229) hx hb dX9_merge_293 (by decide) ?_
                              exact ih3 (v7 + 1) gq2 _ _ (by omega) (by omega) hqp2 hmt2 (Mst.sA hms2 (by omega) hnw (by omega) ⟨by omega, by omega⟩ (Or.inr ⟨by omega, rfl⟩)) hP hD hS ls (lv_sub hl [0, 1, 2, 3, 4, 5, 6, 7] rfl)
                            · refine lv_aload hx hb dX9_merge_257 (lv_at hl 7 rfl) ?_
                              refine lv_iload hx hb dX9_merge_259 (lv_at hl 1 rfl) ?_
                              refine lv_iconst (v := zI 2) hx hb dX9_merge_261 rfl ?_
                              refine r_iadd (v := zI ((20 * v5) + 2)) F dX9_merge_262 (zI_add _ _) ?_
                              refine lv_iconst (v := zI 3) hx hb dX9_merge_263 rfl ?_
                              refine lv_iload hx hb dX9_merge_264 (lv_at hl 0 rfl) ?_
                              refine r_imul (v := zI (3 * v7)) F dX9_merge_266 (zI_mul _ _) ?_
                              refine r_iadd (v := zI (((20 * v5) + 2) + (3 * v7))) F dX9_merge_267 (zI_add _ _) ?_
                              refine lv_iconst (v := zI 1) hx hb dX9_merge_268 rfl ?_
                              refine r_iadd (v := zI ((((20 * v5) + 2) + (3 * v7)) + 1)) F dX9_merge_269 (zI_add _ _) ?_
                              refine rz_iald F hK hP 2 0 rfl rfl (by omega) (by omega) dX9_merge_270 ?_
                              have hc358 := hqp2.1.pos (((((20 * v5) + 2) + (3 * v7)) + 1)).toNat (by omega)
                              have hc359 := hqp2.1.le9 (((((20 * v5) + 2) + (3 * v7)) + 1)).toNat (by omega)
                              refine lv_iload_n hx hb dX9_merge_271 rfl (lv_at hl 6 rfl) ?_
                              refine rz_icmp_ne (tgt := 290) F (by omega) (by omega) dX9_merge_272 (by decide) (fun h272_359 => ?_) (fun h272_359 => ?_)
                              · refine lv_iinc (v := zI (v7 + 1)) (lv' := [(7, .int (zI (v7 + 1))), (6, .int (zI (20 * v5))), (5, .int (zI v5)), (0, .ref y), (1, .ref a), (2, .int (zI x)), (3, .int (zI w)), (4, .ref f)]) hx hb dX9_merge_290 hl (k := 0) rfl (zI_add _ _) (by decide) rfl (fun ls hl => ?_)
                                refine lv_goto (tgt := 229) hx hb dX9_merge_293 (by decide) ?_
                                exact ih3 (v7 + 1) gq2 _ _ (by omega) (by omega) hqp2 hmt2 (Mst.sA hms2 (by omega) hnw (by omega) ⟨by omega, by omega⟩ (Or.inr ⟨by omega, rfl⟩)) hP hD hS ls (lv_sub hl [0, 1, 2, 3, 4, 5, 6, 7] rfl)
                              · refine lv_aload hx hb dX9_merge_275 (lv_at hl 7 rfl) ?_
                                refine lv_iload hx hb dX9_merge_277 (lv_at hl 1 rfl) ?_
                                refine lv_iconst (v := zI 2) hx hb dX9_merge_279 rfl ?_
                                refine r_iadd (v := zI ((20 * v5) + 2)) F dX9_merge_280 (zI_add _ _) ?_
                                refine lv_iconst (v := zI 3) hx hb dX9_merge_281 rfl ?_
                                refine lv_iload hx hb dX9_merge_282 (lv_at hl 0 rfl) ?_
                                refine r_imul (v := zI (3 * v7)) F dX9_merge_284 (zI_mul _ _) ?_
                                refine r_iadd (v := zI (((20 * v5) + 2) + (3 * v7))) F dX9_merge_285 (zI_add _ _) ?_
                                refine lv_iconst (v := zI 1) hx hb dX9_merge_286 rfl ?_
                                refine r_iadd (v := zI ((((20 * v5) + 2) + (3 * v7)) + 1)) F dX9_merge_287 (zI_add _ _) ?_
                                refine lv_iload_n hx hb dX9_merge_288 rfl (lv_at hl 5 rfl) ?_
                                refine rz_iastG F hK hP hD hS 2 0 rfl rfl (by omega) (by omega) dX9_merge_289 (w1 := fun g361 => [(y, .inr (9, [.int (zI (i 0)), .ref (q 0), .int (zI (i 1)), .int (zI (i 2)), .int (zI (i 3)), .int (zI (i 4)), .int (zI (i 5)), .int (zI (i 6)), .int (zI (i 7)), .int (zI (i 8)), .int (zI (i 9)), .int (zI (i 10)), .ref (q 1), .int (zI (i 11)), .int (zI (i 12)), .ref (q 2), .ref (q 3), .ref (q 4), .ref (q 5), .ref (q 6), .ref (q 7), .ref (q 8), .ref (q 9), .ref (q 10), .ref (q 11), .ref (q 12), .ref (q 13), .ref (q 14), .ref (q 15), .ref (q 16), .int (zI (i 13)), .int (zI (i 14)), .int (zI (i 15)), .int (zI (i 16)), .int (zI (i 17)), .int (zI (i 18)), .ref (q 17), .ref (q 18), .ref (q 19), .ref (q 20)])), (a, .inl (cI, 200, .inl (fun k => zI (g_p k)))), (f, .inl (cI, 200, .inl (fun k => zI (g361 k))))]) (fun _ => rfl) (fun g361 e_g361 H locs hP hD hS => ?_)
                                have hqp362 : ProgOk g361 := ProgOk.tgt3 hqp2 e_g361 (i := v5) (n := v7) (by omega) (by omega) (by omega) (by omega) (j := (((20 * v5) + 2) + (3 * v7)).toNat) (by omega) (by omega)
                                have hmt363 := MT.keepA hmt2 e_g361 (i := v5) (n := v7) (by omega) (by omega) (by omega)
                                refine lv_iinc (v := zI (v7 + 1)) (lv' := [(7, .int (zI (v7 + 1))), (6, .int (zI (20 * v5))), (5, .int (zI v5)), (0, .ref y), (1, .ref a), (2, .int (zI x)), (3, .int (zI w)), (4, .ref f)]) hx hb dX9_merge_290 hl (k := 0) rfl (zI_add _ _) (by decide) rfl (fun ls hl => ?_)
                                refine lv_goto (tgt := 229) hx hb dX9_merge_293 (by decide) ?_
                                exact ih3 (v7 + 1) g361 _ _ (by omega) (by omega) hqp362 hmt363 (Mst.sA hms2 (by omega) hnw (by omega) ⟨by omega, by omega⟩ (Or.inl ⟨by omega, by omega, e_g361⟩)) hP hD hS ls (lv_sub hl [0, 1, 2, 3, 4, 5, 6, 7] rfl)
                      · refine lv_aload hx hb dX9_merge_217 (lv_at hl 6 rfl) ?_
                        refine lv_iload hx hb dX9_merge_219 (lv_at hl 0 rfl) ?_
                        refine lv_bipush (v := zI 18) hx hb dX9_merge_221 (by decide) ?_
                        refine r_iadd (v := zI ((20 * v5) + 18)) F dX9_merge_223 (zI_add _ _) ?_
                        refine lv_iload_n hx hb dX9_merge_224 rfl (lv_at hl 4 rfl) ?_
                        refine rz_iastG F hK hP hD hS 2 0 rfl rfl (by omega) (by omega) dX9_merge_225 (w1 := fun g364 => [(y, .inr (9, [.int (zI (i 0)), .ref (q 0), .int (zI (i 1)), .int (zI (i 2)), .int (zI (i 3)), .int (zI (i 4)), .int (zI (i 5)), .int (zI (i 6)), .int (zI (i 7)), .int (zI (i 8)), .int (zI (i 9)), .int (zI (i 10)), .ref (q 1), .int (zI (i 11)), .int (zI (i 12)), .ref (q 2), .ref (q 3), .ref (q 4), .ref (q 5), .ref (q 6), .ref (q 7), .ref (q 8), .ref (q 9), .ref (q 10), .ref (q 11), .ref (q 12), .ref (q 13), .ref (q 14), .ref (q 15), .ref (q 16), .int (zI (i 13)), .int (zI (i 14)), .int (zI (i 15)), .int (zI (i 16)), .int (zI (i 17)), .int (zI (i 18)), .ref (q 17), .ref (q 18), .ref (q 19), .ref (q 20)])), (a, .inl (cI, 200, .inl (fun k => zI (g_p k)))), (f, .inl (cI, 200, .inl (fun k => zI (g364 k))))]) (fun _ => rfl) (fun g364 e_g364 H locs hP hD hS => ?_)
                        have hqp365 : ProgOk g364 := ⟨hqp1.1.set (m := 9) e_g364 18 (by omega) rfl (by omega), hqp1.2.set e_g364 (by omega)⟩
                        have hmt366 := hmt1.keep e_g364 (by omega)
                        refine lv_iconst (v := zI 0) hx hb dX9_merge_226 rfl ?_
                        have hms8 : Mst g_p x w (i 13) g364 v5 (3 + 0) := Mst.s18 hms6 (by omega) hnw (by omega) (Or.inl ⟨by omega, by omega, e_g364⟩)
                        refine lv_istore (lv' := [(7, .int (zI 0)), (6, .int (zI (20 * v5))), (5, .int (zI v5)), (0, .ref y), (1, .ref a), (2, .int (zI x)), (3, .int (zI w)), (4, .ref f)]) hx hb dX9_merge_227 hl (by decide) rfl (fun ls hl => ?_)
                        refine W.widen (k := 0) (n := 0) (Nat.le_of_ble_eq_true rfl) (Nat.le_of_ble_eq_true rfl) ?_
                        refine (?_ : ∀ (n9_3 : Nat) (v7 : Int) (gq2 : Nat → Int) (H : Heap) (locs : List Loc), (0 ≤ v7 ∧ v7 ≤ 4) → (4 - v7 : Int).toNat < n9_3 → (ProgOk gq2) → (MT g_p gq2 w) → (Mst g_p x w (i 13) gq2 v5 (3 + v7)) → va_P G vwCl [(y, .inr (9, [.int (zI (i 0)), .ref (q 0), .int (zI (i 1)), .int (zI (i 2)), .int (zI (i 3)), .int (zI (i 4)), .int (zI (i 5)), .int (zI (i 6)), .int (zI (i 7)), .int (zI (i 8)), .int (zI (i 9)), .int (zI (i 10)), .ref (q 1), .int (zI (i 11)), .int (zI (i 12)), .ref (q 2), .ref (q 3), .ref (q 4), .ref (q 5), .ref (q 6), .ref (q 7), .ref (q 8), .ref (q 9), .ref (q 10), .ref (q 11), .ref (q 12), .ref (q 13), .ref (q 14), .ref (q 15), .ref (q 16), .int (zI (i 13)), .int (zI (i 14)), .int (zI (i 15)), .int (zI (i 16)), .int (zI (i 17)), .int (zI (i 18)), .ref (q 17), .ref (q 18), .ref (q 19), .ref (q 20)])), (a, .inl (cI, 200, .inl (fun k => zI (g_p k)))), (f, .inl (cI, 200, .inl (fun k => zI (gq2 k))))] H → va_D A [(y, .inr (9, [.int (zI (i 0)), .ref (q 0), .int (zI (i 1)), .int (zI (i 2)), .int (zI (i 3)), .int (zI (i 4)), .int (zI (i 5)), .int (zI (i 6)), .int (zI (i 7)), .int (zI (i 8)), .int (zI (i 9)), .int (zI (i 10)), .ref (q 1), .int (zI (i 11)), .int (zI (i 12)), .ref (q 2), .ref (q 3), .ref (q 4), .ref (q 5), .ref (q 6), .ref (q 7), .ref (q 8), .ref (q 9), .ref (q 10), .ref (q 11), .ref (q 12), .ref (q 13), .ref (q 14), .ref (q 15), .ref (q 16), .int (zI (i 13)), .int (zI (i 14)), .int (zI (i 15)), .int (zI (i 16)), .int (zI (i 17)), .int (zI (i 18)), .ref (q 17), .ref (q 18), .ref (q 19), .ref (q 20)])), (a, .inl (cI, 200, .inl (fun k => zI (g_p k)))), (f, .inl (cI, 200, .inl (fun k => zI (gq2 k))))] → va_S A s.heap H locs → ∀ ls : Array Slot, lv_has ls 8 [(7, .int (zI v7)), (6, .int (zI (20 * v5))), (5, .int (zI v5)), (0, .ref y), (1, .ref a), (2, .int (zI x)), (3, .int (zI w)), (4, .ref f)] → W p l e rm_X9_mergeX s m ([.ref y, .ref a, .int (zI x), .int (zI w), .ref f] : List Value).toArray below meth c H locs 0 0 Q (F0 m 229 ls [])) ((4 - 0 : Int).toNat + 1) 0 g364 _ _ (by omega) (by omega) hqp365 hmt366 hms8 hP hD hS ls hl
                        clear hP hD hS hl ls
                        intro n9_3
                        induction n9_3 with
                        | zero =>
                          intro v7 gq2 H locs hI hM
                          exact absurd hM (by omega)
                        | succ n9_3 ih3 =>
                          intro v7 gq2 H locs hI3 hM3 hqp2 hmt2 hms2 hP hD hS ls hl
                          refine lv_iload hx hb dX9_merge_229 (lv_at hl 0 rfl) ?_
                          refine lv_aload hx hb dX9_merge_231 (lv_at hl 7 rfl) ?_
                          refine lv_iload hx hb dX9_merge_233 (lv_at hl 1 rfl) ?_
                          refine lv_iconst (v := zI 1) hx hb dX9_merge_235 rfl ?_
                          refine r_iadd (v := zI ((20 * v5) + 1)) F dX9_merge_236 (zI_add _ _) ?_
                          refine rz_iald F hK hP 2 0 rfl rfl (by omega) (by omega) dX9_merge_237 ?_
                          have hpl367 : 0 ≤ (gq2 (((20 * v5) + 1)).toNat) ∧ (gq2 (((20 * v5) + 1)).toNat) ≤ 4 := ProgR.at hqp2.1 (e := ((20 * v5) + 1)) v5 1 (by omega) (by omega) (by decide) rfl
                          refine rz_icmp_ge (tgt := 296) F (by omega) (by omega) dX9_merge_238 (by decide) (fun h238_367 => ?_) (fun h238_367 => ?_)
                          · refine lv_iinc (v := zI (v5 + 1)) (lv' := [(5, .int (zI (v5 + 1))), (7, .int (zI v7)), (6, .int (zI (20 * v5))), (0, .ref y), (1, .ref a), (2, .int (zI x)), (3, .int (zI w)), (4, .ref f)]) hx hb dX9_merge_296 hl (k := 2) rfl (zI_add _ _) (by decide) rfl (fun ls hl => ?_)
                            refine lv_goto (tgt := 132) hx hb dX9_merge_299 (by decide) ?_
                            exact ih2 (v5 + 1) gq2 _ _ (by omega) (by omega) hqp2 hmt2 (Mst.fin hms2 (by omega) hnw ⟨by omega, by omega⟩) hP hD hS ls (lv_sub hl [0, 3, 4, 5, 6, 7] rfl)
                          · refine lv_aload hx hb dX9_merge_241 (lv_at hl 7 rfl) ?_
                            refine lv_iload hx hb dX9_merge_243 (lv_at hl 1 rfl) ?_
                            refine lv_iconst (v := zI 2) hx hb dX9_merge_245 rfl ?_
                            refine r_iadd (v := zI ((20 * v5) + 2)) F dX9_merge_246 (zI_add _ _) ?_
                            refine lv_iconst (v := zI 3) hx hb dX9_merge_247 rfl ?_
                            refine lv_iload hx hb dX9_merge_248 (lv_at hl 0 rfl) ?_
                            refine r_imul (v := zI (3 * v7)) F dX9_merge_250 (zI_mul _ _) ?_
                            refine r_iadd (v := zI (((20 * v5) + 2) + (3 * v7))) F dX9_merge_251 (zI_add _ _) ?_
                            refine rz_iald F hK hP 2 0 rfl rfl (by omega) (by omega) dX9_merge_252 ?_
                            have hc369 := ProgOk.act hqp2 (i := v5) (n := v7) (k := (((20 * v5) + 2) + (3 * v7))) (by omega) (by omega) (by omega)
                            refine lv_iconst (v := zI 3) hx hb dX9_merge_253 rfl ?_
                            refine rz_icmp_ne (tgt := 290) F (by omega) (by omega) dX9_merge_254 (by decide) (fun h254_369 => ?_) (fun h254_369 => ?_)
                            · refine lv_iinc (v := zI (v7 + 1)) (lv' := [(7, .int (zI (v7 + 1))), (6, .int (zI (20 * v5))), (5, .int (zI v5)), (0, .ref y), (1, .ref a), (2, .int (zI x)), (3, .int (zI w)), (4, .ref f)]) hx hb dX9_merge_290 hl (k := 0) rfl (zI_add _ _) (by decide) rfl (fun ls hl => ?_)
                              refine lv_goto (tgt := 229) hx hb dX9_merge_293 (by decide) ?_
                              exact ih3 (v7 + 1) gq2 _ _ (by omega) (by omega) hqp2 hmt2 (Mst.sA hms2 (by omega) hnw (by omega) ⟨by omega, by omega⟩ (Or.inr ⟨by omega, rfl⟩)) hP hD hS ls (lv_sub hl [0, 1, 2, 3, 4, 5, 6, 7] rfl)
                            · refine lv_aload hx hb dX9_merge_257 (lv_at hl 7 rfl) ?_
                              refine lv_iload hx hb dX9_merge_259 (lv_at hl 1 rfl) ?_
                              refine lv_iconst (v := zI 2) hx hb dX9_merge_261 rfl ?_
                              refine r_iadd (v := zI ((20 * v5) + 2)) F dX9_merge_262 (zI_add _ _) ?_
                              refine lv_iconst (v := zI 3) hx hb dX9_merge_263 rfl ?_
                              refine lv_iload hx hb dX9_merge_264 (lv_at hl 0 rfl) ?_
                              refine r_imul (v := zI (3 * v7)) F dX9_merge_266 (zI_mul _ _) ?_
                              refine r_iadd (v := zI (((20 * v5) + 2) + (3 * v7))) F dX9_merge_267 (zI_add _ _) ?_
                              refine lv_iconst (v := zI 1) hx hb dX9_merge_268 rfl ?_
                              refine r_iadd (v := zI ((((20 * v5) + 2) + (3 * v7)) + 1)) F dX9_merge_269 (zI_add _ _) ?_
                              refine rz_iald F hK hP 2 0 rfl rfl (by omega) (by omega) dX9_merge_270 ?_
                              have hc371 := hqp2.1.pos (((((20 * v5) + 2) + (3 * v7)) + 1)).toNat (by omega)
                              have hc372 := hqp2.1.le9 (((((20 * v5) + 2) + (3 * v7)) + 1)).toNat (by omega)
                              refine lv_iload_n hx hb dX9_merge_271 rfl (lv_at hl 6 rfl) ?_
                              refine rz_icmp_ne (tgt := 290) F (by omega) (by omega) dX9_merge_272 (by decide) (fun h272_372 => ?_) (fun h272_372 => ?_)
                              · refine lv_iinc (v := zI (v7 + 1)) (lv' := [(7, .int (zI (v7 + 1))), (6, .int (zI (20 * v5))), (5, .int (zI v5)), (0, .ref y), (1, .ref a), (2, .int (zI x)), (3, .int (zI w)), (4, .ref f)]) hx hb dX9_merge_290 hl (k := 0) rfl (zI_add _ _) (by decide) rfl (fun ls hl => ?_)
                                refine lv_goto (tgt := 229) hx hb dX9_merge_293 (by decide) ?_
                                exact ih3 (v7 + 1) gq2 _ _ (by omega) (by omega) hqp2 hmt2 (Mst.sA hms2 (by omega) hnw (by omega) ⟨by omega, by omega⟩ (Or.inr ⟨by omega, rfl⟩)) hP hD hS ls (lv_sub hl [0, 1, 2, 3, 4, 5, 6, 7] rfl)
                              · refine lv_aload hx hb dX9_merge_275 (lv_at hl 7 rfl) ?_
                                refine lv_iload hx hb dX9_merge_277 (lv_at hl 1 rfl) ?_
                                refine lv_iconst (v := zI 2) hx hb dX9_merge_279 rfl ?_
                                refine r_iadd (v := zI ((20 * v5) + 2)) F dX9_merge_280 (zI_add _ _) ?_
                                refine lv_iconst (v := zI 3) hx hb dX9_merge_281 rfl ?_
                                refine lv_iload hx hb dX9_merge_282 (lv_at hl 0 rfl) ?_
                                refine r_imul (v := zI (3 * v7)) F dX9_merge_284 (zI_mul _ _) ?_
                                refine r_iadd (v := zI (((20 * v5) + 2) + (3 * v7))) F dX9_merge_285 (zI_add _ _) ?_
                                refine lv_iconst (v := zI 1) hx hb dX9_merge_286 rfl ?_
                                refine r_iadd (v := zI ((((20 * v5) + 2) + (3 * v7)) + 1)) F dX9_merge_287 (zI_add _ _) ?_
                                refine lv_iload_n hx hb dX9_merge_288 rfl (lv_at hl 5 rfl) ?_
                                refine rz_iastG F hK hP hD hS 2 0 rfl rfl (by omega) (by omega) dX9_merge_289 (w1 := fun g374 => [(y, .inr (9, [.int (zI (i 0)), .ref (q 0), .int (zI (i 1)), .int (zI (i 2)), .int (zI (i 3)), .int (zI (i 4)), .int (zI (i 5)), .int (zI (i 6)), .int (zI (i 7)), .int (zI (i 8)), .int (zI (i 9)), .int (zI (i 10)), .ref (q 1), .int (zI (i 11)), .int (zI (i 12)), .ref (q 2), .ref (q 3), .ref (q 4), .ref (q 5), .ref (q 6), .ref (q 7), .ref (q 8), .ref (q 9), .ref (q 10), .ref (q 11), .ref (q 12), .ref (q 13), .ref (q 14), .ref (q 15), .ref (q 16), .int (zI (i 13)), .int (zI (i 14)), .int (zI (i 15)), .int (zI (i 16)), .int (zI (i 17)), .int (zI (i 18)), .ref (q 17), .ref (q 18), .ref (q 19), .ref (q 20)])), (a, .inl (cI, 200, .inl (fun k => zI (g_p k)))), (f, .inl (cI, 200, .inl (fun k => zI (g374 k))))]) (fun _ => rfl) (fun g374 e_g374 H locs hP hD hS => ?_)
                                have hqp375 : ProgOk g374 := ProgOk.tgt3 hqp2 e_g374 (i := v5) (n := v7) (by omega) (by omega) (by omega) (by omega) (j := (((20 * v5) + 2) + (3 * v7)).toNat) (by omega) (by omega)
                                have hmt376 := MT.keepA hmt2 e_g374 (i := v5) (n := v7) (by omega) (by omega) (by omega)
                                refine lv_iinc (v := zI (v7 + 1)) (lv' := [(7, .int (zI (v7 + 1))), (6, .int (zI (20 * v5))), (5, .int (zI v5)), (0, .ref y), (1, .ref a), (2, .int (zI x)), (3, .int (zI w)), (4, .ref f)]) hx hb dX9_merge_290 hl (k := 0) rfl (zI_add _ _) (by decide) rfl (fun ls hl => ?_)
                                refine lv_goto (tgt := 229) hx hb dX9_merge_293 (by decide) ?_
                                exact ih3 (v7 + 1) g374 _ _ (by omega) (by omega) hqp375 hmt376 (Mst.sA hms2 (by omega) hnw (by omega) ⟨by omega, by omega⟩ (Or.inl ⟨by omega, by omega, e_g374⟩)) hP hD hS ls (lv_sub hl [0, 1, 2, 3, 4, 5, 6, 7] rfl)
                  · refine lv_aload hx hb dX9_merge_184 (lv_at hl 6 rfl) ?_
                    refine lv_iload hx hb dX9_merge_186 (lv_at hl 0 rfl) ?_
                    refine lv_bipush (v := zI 16) hx hb dX9_merge_188 (by decide) ?_
                    refine r_iadd (v := zI ((20 * v5) + 16)) F dX9_merge_190 (zI_add _ _) ?_
                    refine lv_iload_n hx hb dX9_merge_191 rfl (lv_at hl 4 rfl) ?_
                    refine rz_iastG F hK hP hD hS 2 0 rfl rfl (by omega) (by omega) dX9_merge_192 (w1 := fun g377 => [(y, .inr (9, [.int (zI (i 0)), .ref (q 0), .int (zI (i 1)), .int (zI (i 2)), .int (zI (i 3)), .int (zI (i 4)), .int (zI (i 5)), .int (zI (i 6)), .int (zI (i 7)), .int (zI (i 8)), .int (zI (i 9)), .int (zI (i 10)), .ref (q 1), .int (zI (i 11)), .int (zI (i 12)), .ref (q 2), .ref (q 3), .ref (q 4), .ref (q 5), .ref (q 6), .ref (q 7), .ref (q 8), .ref (q 9), .ref (q 10), .ref (q 11), .ref (q 12), .ref (q 13), .ref (q 14), .ref (q 15), .ref (q 16), .int (zI (i 13)), .int (zI (i 14)), .int (zI (i 15)), .int (zI (i 16)), .int (zI (i 17)), .int (zI (i 18)), .ref (q 17), .ref (q 18), .ref (q 19), .ref (q 20)])), (a, .inl (cI, 200, .inl (fun k => zI (g_p k)))), (f, .inl (cI, 200, .inl (fun k => zI (g377 k))))]) (fun _ => rfl) (fun g377 e_g377 H locs hP hD hS => ?_)
                    have hqp378 : ProgOk g377 := ⟨hqp1.1.set (m := 9) e_g377 16 (by omega) rfl (by omega), hqp1.2.set e_g377 (by omega)⟩
                    have hmt379 := hmt1.keep e_g377 (by omega)
                    refine lv_aload hx hb dX9_merge_193 (lv_at hl 6 rfl) ?_
                    have hms6 : Mst g_p x w (i 13) g377 v5 1 := Mst.s16 hms1 (by omega) hnw (by omega) (Or.inl ⟨by omega, by omega, e_g377⟩)
                    refine lv_iload hx hb dX9_merge_195 (lv_at hl 0 rfl) ?_
                    refine lv_bipush (v := zI 14) hx hb dX9_merge_197 (by decide) ?_
                    refine r_iadd (v := zI ((20 * v5) + 14)) F dX9_merge_199 (zI_add _ _) ?_
                    refine rz_iald F hK hP 2 0 rfl rfl (by omega) (by omega) dX9_merge_200 ?_
                    have hc380 := hqp378.1.pos (((20 * v5) + 14)).toNat (by omega)
                    have hc381 := hqp378.1.le9 (((20 * v5) + 14)).toNat (by omega)
                    refine lv_iconst (v := zI 2) hx hb dX9_merge_201 rfl ?_
                    refine rz_icmp_ne (tgt := 226) F (by omega) (by omega) dX9_merge_202 (by decide) (fun h202_381 => ?_) (fun h202_381 => ?_)
                    · refine lv_iconst (v := zI 0) hx hb dX9_merge_226 rfl ?_
                      have hms8 : Mst g_p x w (i 13) g377 v5 (3 + 0) := Mst.s18 hms6 (by omega) hnw (by omega) (Or.inr ⟨by omega, rfl⟩)
                      refine lv_istore (lv' := [(7, .int (zI 0)), (6, .int (zI (20 * v5))), (5, .int (zI v5)), (0, .ref y), (1, .ref a), (2, .int (zI x)), (3, .int (zI w)), (4, .ref f)]) hx hb dX9_merge_227 hl (by decide) rfl (fun ls hl => ?_)
                      refine W.widen (k := 0) (n := 0) (Nat.le_of_ble_eq_true rfl) (Nat.le_of_ble_eq_true rfl) ?_
                      refine (?_ : ∀ (n9_3 : Nat) (v7 : Int) (gq2 : Nat → Int) (H : Heap) (locs : List Loc), (0 ≤ v7 ∧ v7 ≤ 4) → (4 - v7 : Int).toNat < n9_3 → (ProgOk gq2) → (MT g_p gq2 w) → (Mst g_p x w (i 13) gq2 v5 (3 + v7)) → va_P G vwCl [(y, .inr (9, [.int (zI (i 0)), .ref (q 0), .int (zI (i 1)), .int (zI (i 2)), .int (zI (i 3)), .int (zI (i 4)), .int (zI (i 5)), .int (zI (i 6)), .int (zI (i 7)), .int (zI (i 8)), .int (zI (i 9)), .int (zI (i 10)), .ref (q 1), .int (zI (i 11)), .int (zI (i 12)), .ref (q 2), .ref (q 3), .ref (q 4), .ref (q 5), .ref (q 6), .ref (q 7), .ref (q 8), .ref (q 9), .ref (q 10), .ref (q 11), .ref (q 12), .ref (q 13), .ref (q 14), .ref (q 15), .ref (q 16), .int (zI (i 13)), .int (zI (i 14)), .int (zI (i 15)), .int (zI (i 16)), .int (zI (i 17)), .int (zI (i 18)), .ref (q 17), .ref (q 18), .ref (q 19), .ref (q 20)])), (a, .inl (cI, 200, .inl (fun k => zI (g_p k)))), (f, .inl (cI, 200, .inl (fun k => zI (gq2 k))))] H → va_D A [(y, .inr (9, [.int (zI (i 0)), .ref (q 0), .int (zI (i 1)), .int (zI (i 2)), .int (zI (i 3)), .int (zI (i 4)), .int (zI (i 5)), .int (zI (i 6)), .int (zI (i 7)), .int (zI (i 8)), .int (zI (i 9)), .int (zI (i 10)), .ref (q 1), .int (zI (i 11)), .int (zI (i 12)), .ref (q 2), .ref (q 3), .ref (q 4), .ref (q 5), .ref (q 6), .ref (q 7), .ref (q 8), .ref (q 9), .ref (q 10), .ref (q 11), .ref (q 12), .ref (q 13), .ref (q 14), .ref (q 15), .ref (q 16), .int (zI (i 13)), .int (zI (i 14)), .int (zI (i 15)), .int (zI (i 16)), .int (zI (i 17)), .int (zI (i 18)), .ref (q 17), .ref (q 18), .ref (q 19), .ref (q 20)])), (a, .inl (cI, 200, .inl (fun k => zI (g_p k)))), (f, .inl (cI, 200, .inl (fun k => zI (gq2 k))))] → va_S A s.heap H locs → ∀ ls : Array Slot, lv_has ls 8 [(7, .int (zI v7)), (6, .int (zI (20 * v5))), (5, .int (zI v5)), (0, .ref y), (1, .ref a), (2, .int (zI x)), (3, .int (zI w)), (4, .ref f)] → W p l e rm_X9_mergeX s m ([.ref y, .ref a, .int (zI x), .int (zI w), .ref f] : List Value).toArray below meth c H locs 0 0 Q (F0 m 229 ls [])) ((4 - 0 : Int).toNat + 1) 0 g377 _ _ (by omega) (by omega) hqp378 hmt379 hms8 hP hD hS ls hl
                      clear hP hD hS hl ls
                      intro n9_3
                      induction n9_3 with
                      | zero =>
                        intro v7 gq2 H locs hI hM
                        exact absurd hM (by omega)
                      | succ n9_3 ih3 =>
                        intro v7 gq2 H locs hI3 hM3 hqp2 hmt2 hms2 hP hD hS ls hl
                        refine lv_iload hx hb dX9_merge_229 (lv_at hl 0 rfl) ?_
                        refine lv_aload hx hb dX9_merge_231 (lv_at hl 7 rfl) ?_
                        refine lv_iload hx hb dX9_merge_233 (lv_at hl 1 rfl) ?_
                        refine lv_iconst (v := zI 1) hx hb dX9_merge_235 rfl ?_
                        refine r_iadd (v := zI ((20 * v5) + 1)) F dX9_merge_236 (zI_add _ _) ?_
                        refine rz_iald F hK hP 2 0 rfl rfl (by omega) (by omega) dX9_merge_237 ?_
                        have hpl383 : 0 ≤ (gq2 (((20 * v5) + 1)).toNat) ∧ (gq2 (((20 * v5) + 1)).toNat) ≤ 4 := ProgR.at hqp2.1 (e := ((20 * v5) + 1)) v5 1 (by omega) (by omega) (by decide) rfl
                        refine rz_icmp_ge (tgt := 296) F (by omega) (by omega) dX9_merge_238 (by decide) (fun h238_383 => ?_) (fun h238_383 => ?_)
                        · refine lv_iinc (v := zI (v5 + 1)) (lv' := [(5, .int (zI (v5 + 1))), (7, .int (zI v7)), (6, .int (zI (20 * v5))), (0, .ref y), (1, .ref a), (2, .int (zI x)), (3, .int (zI w)), (4, .ref f)]) hx hb dX9_merge_296 hl (k := 2) rfl (zI_add _ _) (by decide) rfl (fun ls hl => ?_)
                          refine lv_goto (tgt := 132) hx hb dX9_merge_299 (by decide) ?_
                          exact ih2 (v5 + 1) gq2 _ _ (by omega) (by omega) hqp2 hmt2 (Mst.fin hms2 (by omega) hnw ⟨by omega, by omega⟩) hP hD hS ls (lv_sub hl [0, 3, 4, 5, 6, 7] rfl)
                        · refine lv_aload hx hb dX9_merge_241 (lv_at hl 7 rfl) ?_
                          refine lv_iload hx hb dX9_merge_243 (lv_at hl 1 rfl) ?_
                          refine lv_iconst (v := zI 2) hx hb dX9_merge_245 rfl ?_
                          refine r_iadd (v := zI ((20 * v5) + 2)) F dX9_merge_246 (zI_add _ _) ?_
                          refine lv_iconst (v := zI 3) hx hb dX9_merge_247 rfl ?_
                          refine lv_iload hx hb dX9_merge_248 (lv_at hl 0 rfl) ?_
                          refine r_imul (v := zI (3 * v7)) F dX9_merge_250 (zI_mul _ _) ?_
                          refine r_iadd (v := zI (((20 * v5) + 2) + (3 * v7))) F dX9_merge_251 (zI_add _ _) ?_
                          refine rz_iald F hK hP 2 0 rfl rfl (by omega) (by omega) dX9_merge_252 ?_
                          have hc385 := ProgOk.act hqp2 (i := v5) (n := v7) (k := (((20 * v5) + 2) + (3 * v7))) (by omega) (by omega) (by omega)
                          refine lv_iconst (v := zI 3) hx hb dX9_merge_253 rfl ?_
                          refine rz_icmp_ne (tgt := 290) F (by omega) (by omega) dX9_merge_254 (by decide) (fun h254_385 => ?_) (fun h254_385 => ?_)
                          · refine lv_iinc (v := zI (v7 + 1)) (lv' := [(7, .int (zI (v7 + 1))), (6, .int (zI (20 * v5))), (5, .int (zI v5)), (0, .ref y), (1, .ref a), (2, .int (zI x)), (3, .int (zI w)), (4, .ref f)]) hx hb dX9_merge_290 hl (k := 0) rfl (zI_add _ _) (by decide) rfl (fun ls hl => ?_)
                            refine lv_goto (tgt := 229) hx hb dX9_merge_293 (by decide) ?_
                            exact ih3 (v7 + 1) gq2 _ _ (by omega) (by omega) hqp2 hmt2 (Mst.sA hms2 (by omega) hnw (by omega) ⟨by omega, by omega⟩ (Or.inr ⟨by omega, rfl⟩)) hP hD hS ls (lv_sub hl [0, 1, 2, 3, 4, 5, 6, 7] rfl)
                          · refine lv_aload hx hb dX9_merge_257 (lv_at hl 7 rfl) ?_
                            refine lv_iload hx hb dX9_merge_259 (lv_at hl 1 rfl) ?_
                            refine lv_iconst (v := zI 2) hx hb dX9_merge_261 rfl ?_
                            refine r_iadd (v := zI ((20 * v5) + 2)) F dX9_merge_262 (zI_add _ _) ?_
                            refine lv_iconst (v := zI 3) hx hb dX9_merge_263 rfl ?_
                            refine lv_iload hx hb dX9_merge_264 (lv_at hl 0 rfl) ?_
                            refine r_imul (v := zI (3 * v7)) F dX9_merge_266 (zI_mul _ _) ?_
                            refine r_iadd (v := zI (((20 * v5) + 2) + (3 * v7))) F dX9_merge_267 (zI_add _ _) ?_
                            refine lv_iconst (v := zI 1) hx hb dX9_merge_268 rfl ?_
                            refine r_iadd (v := zI ((((20 * v5) + 2) + (3 * v7)) + 1)) F dX9_merge_269 (zI_add _ _) ?_
                            refine rz_iald F hK hP 2 0 rfl rfl (by omega) (by omega) dX9_merge_270 ?_
                            have hc387 := hqp2.1.pos (((((20 * v5) + 2) + (3 * v7)) + 1)).toNat (by omega)
                            have hc388 := hqp2.1.le9 (((((20 * v5) + 2) + (3 * v7)) + 1)).toNat (by omega)
                            refine lv_iload_n hx hb dX9_merge_271 rfl (lv_at hl 6 rfl) ?_
                            refine rz_icmp_ne (tgt := 290) F (by omega) (by omega) dX9_merge_272 (by decide) (fun h272_388 => ?_) (fun h272_388 => ?_)
                            · refine lv_iinc (v := zI (v7 + 1)) (lv' := [(7, .int (zI (v7 + 1))), (6, .int (zI (20 * v5))), (5, .int (zI v5)), (0, .ref y), (1, .ref a), (2, .int (zI x)), (3, .int (zI w)), (4, .ref f)]) hx hb dX9_merge_290 hl (k := 0) rfl (zI_add _ _) (by decide) rfl (fun ls hl => ?_)
                              refine lv_goto (tgt := 229) hx hb dX9_merge_293 (by decide) ?_
                              exact ih3 (v7 + 1) gq2 _ _ (by omega) (by omega) hqp2 hmt2 (Mst.sA hms2 (by omega) hnw (by omega) ⟨by omega, by omega⟩ (Or.inr ⟨by omega, rfl⟩)) hP hD hS ls (lv_sub hl [0, 1, 2, 3, 4, 5, 6, 7] rfl)
                            · refine lv_aload hx hb dX9_merge_275 (lv_at hl 7 rfl) ?_
                              refine lv_iload hx hb dX9_merge_277 (lv_at hl 1 rfl) ?_
                              refine lv_iconst (v := zI 2) hx hb dX9_merge_279 rfl ?_
                              refine r_iadd (v := zI ((20 * v5) + 2)) F dX9_merge_280 (zI_add _ _) ?_
                              refine lv_iconst (v := zI 3) hx hb dX9_merge_281 rfl ?_
                              refine lv_iload hx hb dX9_merge_282 (lv_at hl 0 rfl) ?_
                              refine r_imul (v := zI (3 * v7)) F dX9_merge_284 (zI_mul _ _) ?_
                              refine r_iadd (v := zI (((20 * v5) + 2) + (3 * v7))) F dX9_merge_285 (zI_add _ _) ?_
                              refine lv_iconst (v := zI 1) hx hb dX9_merge_286 rfl ?_
                              refine r_iadd (v := zI ((((20 * v5) + 2) + (3 * v7)) + 1)) F dX9_merge_287 (zI_add _ _) ?_
                              refine lv_iload_n hx hb dX9_merge_288 rfl (lv_at hl 5 rfl) ?_
                              refine rz_iastG F hK hP hD hS 2 0 rfl rfl (by omega) (by omega) dX9_merge_289 (w1 := fun g390 => [(y, .inr (9, [.int (zI (i 0)), .ref (q 0), .int (zI (i 1)), .int (zI (i 2)), .int (zI (i 3)), .int (zI (i 4)), .int (zI (i 5)), .int (zI (i 6)), .int (zI (i 7)), .int (zI (i 8)), .int (zI (i 9)), .int (zI (i 10)), .ref (q 1), .int (zI (i 11)), .int (zI (i 12)), .ref (q 2), .ref (q 3), .ref (q 4), .ref (q 5), .ref (q 6), .ref (q 7), .ref (q 8), .ref (q 9), .ref (q 10), .ref (q 11), .ref (q 12), .ref (q 13), .ref (q 14), .ref (q 15), .ref (q 16), .int (zI (i 13)), .int (zI (i 14)), .int (zI (i 15)), .int (zI (i 16)), .int (zI (i 17)), .int (zI (i 18)), .ref (q 17), .ref (q 18), .ref (q 19), .ref (q 20)])), (a, .inl (cI, 200, .inl (fun k => zI (g_p k)))), (f, .inl (cI, 200, .inl (fun k => zI (g390 k))))]) (fun _ => rfl) (fun g390 e_g390 H locs hP hD hS => ?_)
                              have hqp391 : ProgOk g390 := ProgOk.tgt3 hqp2 e_g390 (i := v5) (n := v7) (by omega) (by omega) (by omega) (by omega) (j := (((20 * v5) + 2) + (3 * v7)).toNat) (by omega) (by omega)
                              have hmt392 := MT.keepA hmt2 e_g390 (i := v5) (n := v7) (by omega) (by omega) (by omega)
                              refine lv_iinc (v := zI (v7 + 1)) (lv' := [(7, .int (zI (v7 + 1))), (6, .int (zI (20 * v5))), (5, .int (zI v5)), (0, .ref y), (1, .ref a), (2, .int (zI x)), (3, .int (zI w)), (4, .ref f)]) hx hb dX9_merge_290 hl (k := 0) rfl (zI_add _ _) (by decide) rfl (fun ls hl => ?_)
                              refine lv_goto (tgt := 229) hx hb dX9_merge_293 (by decide) ?_
                              exact ih3 (v7 + 1) g390 _ _ (by omega) (by omega) hqp391 hmt392 (Mst.sA hms2 (by omega) hnw (by omega) ⟨by omega, by omega⟩ (Or.inl ⟨by omega, by omega, e_g390⟩)) hP hD hS ls (lv_sub hl [0, 1, 2, 3, 4, 5, 6, 7] rfl)
                    · refine lv_aload hx hb dX9_merge_205 (lv_at hl 6 rfl) ?_
                      refine lv_iload hx hb dX9_merge_207 (lv_at hl 0 rfl) ?_
                      refine lv_bipush (v := zI 18) hx hb dX9_merge_209 (by decide) ?_
                      refine r_iadd (v := zI ((20 * v5) + 18)) F dX9_merge_211 (zI_add _ _) ?_
                      refine rz_iald F hK hP 2 0 rfl rfl (by omega) (by omega) dX9_merge_212 ?_
                      have hc393 := hqp378.1.pos (((20 * v5) + 18)).toNat (by omega)
                      have hc394 := hqp378.1.le9 (((20 * v5) + 18)).toNat (by omega)
                      refine lv_iload_n hx hb dX9_merge_213 rfl (lv_at hl 5 rfl) ?_
                      refine rz_icmp_ne (tgt := 226) F (by omega) (by omega) dX9_merge_214 (by decide) (fun h214_394 => ?_) (fun h214_394 => ?_)
                      · refine lv_iconst (v := zI 0) hx hb dX9_merge_226 rfl ?_
                        have hms8 : Mst g_p x w (i 13) g377 v5 (3 + 0) := Mst.s18 hms6 (by omega) hnw (by omega) (Or.inr ⟨by omega, rfl⟩)
                        refine lv_istore (lv' := [(7, .int (zI 0)), (6, .int (zI (20 * v5))), (5, .int (zI v5)), (0, .ref y), (1, .ref a), (2, .int (zI x)), (3, .int (zI w)), (4, .ref f)]) hx hb dX9_merge_227 hl (by decide) rfl (fun ls hl => ?_)
                        refine W.widen (k := 0) (n := 0) (Nat.le_of_ble_eq_true rfl) (Nat.le_of_ble_eq_true rfl) ?_
                        refine (?_ : ∀ (n9_3 : Nat) (v7 : Int) (gq2 : Nat → Int) (H : Heap) (locs : List Loc), (0 ≤ v7 ∧ v7 ≤ 4) → (4 - v7 : Int).toNat < n9_3 → (ProgOk gq2) → (MT g_p gq2 w) → (Mst g_p x w (i 13) gq2 v5 (3 + v7)) → va_P G vwCl [(y, .inr (9, [.int (zI (i 0)), .ref (q 0), .int (zI (i 1)), .int (zI (i 2)), .int (zI (i 3)), .int (zI (i 4)), .int (zI (i 5)), .int (zI (i 6)), .int (zI (i 7)), .int (zI (i 8)), .int (zI (i 9)), .int (zI (i 10)), .ref (q 1), .int (zI (i 11)), .int (zI (i 12)), .ref (q 2), .ref (q 3), .ref (q 4), .ref (q 5), .ref (q 6), .ref (q 7), .ref (q 8), .ref (q 9), .ref (q 10), .ref (q 11), .ref (q 12), .ref (q 13), .ref (q 14), .ref (q 15), .ref (q 16), .int (zI (i 13)), .int (zI (i 14)), .int (zI (i 15)), .int (zI (i 16)), .int (zI (i 17)), .int (zI (i 18)), .ref (q 17), .ref (q 18), .ref (q 19), .ref (q 20)])), (a, .inl (cI, 200, .inl (fun k => zI (g_p k)))), (f, .inl (cI, 200, .inl (fun k => zI (gq2 k))))] H → va_D A [(y, .inr (9, [.int (zI (i 0)), .ref (q 0), .int (zI (i 1)), .int (zI (i 2)), .int (zI (i 3)), .int (zI (i 4)), .int (zI (i 5)), .int (zI (i 6)), .int (zI (i 7)), .int (zI (i 8)), .int (zI (i 9)), .int (zI (i 10)), .ref (q 1), .int (zI (i 11)), .int (zI (i 12)), .ref (q 2), .ref (q 3), .ref (q 4), .ref (q 5), .ref (q 6), .ref (q 7), .ref (q 8), .ref (q 9), .ref (q 10), .ref (q 11), .ref (q 12), .ref (q 13), .ref (q 14), .ref (q 15), .ref (q 16), .int (zI (i 13)), .int (zI (i 14)), .int (zI (i 15)), .int (zI (i 16)), .int (zI (i 17)), .int (zI (i 18)), .ref (q 17), .ref (q 18), .ref (q 19), .ref (q 20)])), (a, .inl (cI, 200, .inl (fun k => zI (g_p k)))), (f, .inl (cI, 200, .inl (fun k => zI (gq2 k))))] → va_S A s.heap H locs → ∀ ls : Array Slot, lv_has ls 8 [(7, .int (zI v7)), (6, .int (zI (20 * v5))), (5, .int (zI v5)), (0, .ref y), (1, .ref a), (2, .int (zI x)), (3, .int (zI w)), (4, .ref f)] → W p l e rm_X9_mergeX s m ([.ref y, .ref a, .int (zI x), .int (zI w), .ref f] : List Value).toArray below meth c H locs 0 0 Q (F0 m 229 ls [])) ((4 - 0 : Int).toNat + 1) 0 g377 _ _ (by omega) (by omega) hqp378 hmt379 hms8 hP hD hS ls hl
                        clear hP hD hS hl ls
                        intro n9_3
                        induction n9_3 with
                        | zero =>
                          intro v7 gq2 H locs hI hM
                          exact absurd hM (by omega)
                        | succ n9_3 ih3 =>
                          intro v7 gq2 H locs hI3 hM3 hqp2 hmt2 hms2 hP hD hS ls hl
                          refine lv_iload hx hb dX9_merge_229 (lv_at hl 0 rfl) ?_
                          refine lv_aload hx hb dX9_merge_231 (lv_at hl 7 rfl) ?_
                          refine lv_iload hx hb dX9_merge_233 (lv_at hl 1 rfl) ?_
                          refine lv_iconst (v := zI 1) hx hb dX9_merge_235 rfl ?_
                          refine r_iadd (v := zI ((20 * v5) + 1)) F dX9_merge_236 (zI_add _ _) ?_
                          refine rz_iald F hK hP 2 0 rfl rfl (by omega) (by omega) dX9_merge_237 ?_
                          have hpl396 : 0 ≤ (gq2 (((20 * v5) + 1)).toNat) ∧ (gq2 (((20 * v5) + 1)).toNat) ≤ 4 := ProgR.at hqp2.1 (e := ((20 * v5) + 1)) v5 1 (by omega) (by omega) (by decide) rfl
                          refine rz_icmp_ge (tgt := 296) F (by omega) (by omega) dX9_merge_238 (by decide) (fun h238_396 => ?_) (fun h238_396 => ?_)
                          · refine lv_iinc (v := zI (v5 + 1)) (lv' := [(5, .int (zI (v5 + 1))), (7, .int (zI v7)), (6, .int (zI (20 * v5))), (0, .ref y), (1, .ref a), (2, .int (zI x)), (3, .int (zI w)), (4, .ref f)]) hx hb dX9_merge_296 hl (k := 2) rfl (zI_add _ _) (by decide) rfl (fun ls hl => ?_)
                            refine lv_goto (tgt := 132) hx hb dX9_merge_299 (by decide) ?_
                            exact ih2 (v5 + 1) gq2 _ _ (by omega) (by omega) hqp2 hmt2 (Mst.fin hms2 (by omega) hnw ⟨by omega, by omega⟩) hP hD hS ls (lv_sub hl [0, 3, 4, 5, 6, 7] rfl)
                          · refine lv_aload hx hb dX9_merge_241 (lv_at hl 7 rfl) ?_
                            refine lv_iload hx hb dX9_merge_243 (lv_at hl 1 rfl) ?_
                            refine lv_iconst (v := zI 2) hx hb dX9_merge_245 rfl ?_
                            refine r_iadd (v := zI ((20 * v5) + 2)) F dX9_merge_246 (zI_add _ _) ?_
                            refine lv_iconst (v := zI 3) hx hb dX9_merge_247 rfl ?_
                            refine lv_iload hx hb dX9_merge_248 (lv_at hl 0 rfl) ?_
                            refine r_imul (v := zI (3 * v7)) F dX9_merge_250 (zI_mul _ _) ?_
                            refine r_iadd (v := zI (((20 * v5) + 2) + (3 * v7))) F dX9_merge_251 (zI_add _ _) ?_
                            refine rz_iald F hK hP 2 0 rfl rfl (by omega) (by omega) dX9_merge_252 ?_
                            have hc398 := ProgOk.act hqp2 (i := v5) (n := v7) (k := (((20 * v5) + 2) + (3 * v7))) (by omega) (by omega) (by omega)
                            refine lv_iconst (v := zI 3) hx hb dX9_merge_253 rfl ?_
                            refine rz_icmp_ne (tgt := 290) F (by omega) (by omega) dX9_merge_254 (by decide) (fun h254_398 => ?_) (fun h254_398 => ?_)
                            · refine lv_iinc (v := zI (v7 + 1)) (lv' := [(7, .int (zI (v7 + 1))), (6, .int (zI (20 * v5))), (5, .int (zI v5)), (0, .ref y), (1, .ref a), (2, .int (zI x)), (3, .int (zI w)), (4, .ref f)]) hx hb dX9_merge_290 hl (k := 0) rfl (zI_add _ _) (by decide) rfl (fun ls hl => ?_)
                              refine lv_goto (tgt := 229) hx hb dX9_merge_293 (by decide) ?_
                              exact ih3 (v7 + 1) gq2 _ _ (by omega) (by omega) hqp2 hmt2 (Mst.sA hms2 (by omega) hnw (by omega) ⟨by omega, by omega⟩ (Or.inr ⟨by omega, rfl⟩)) hP hD hS ls (lv_sub hl [0, 1, 2, 3, 4, 5, 6, 7] rfl)
                            · refine lv_aload hx hb dX9_merge_257 (lv_at hl 7 rfl) ?_
                              refine lv_iload hx hb dX9_merge_259 (lv_at hl 1 rfl) ?_
                              refine lv_iconst (v := zI 2) hx hb dX9_merge_261 rfl ?_
                              refine r_iadd (v := zI ((20 * v5) + 2)) F dX9_merge_262 (zI_add _ _) ?_
                              refine lv_iconst (v := zI 3) hx hb dX9_merge_263 rfl ?_
                              refine lv_iload hx hb dX9_merge_264 (lv_at hl 0 rfl) ?_
                              refine r_imul (v := zI (3 * v7)) F dX9_merge_266 (zI_mul _ _) ?_
                              refine r_iadd (v := zI (((20 * v5) + 2) + (3 * v7))) F dX9_merge_267 (zI_add _ _) ?_
                              refine lv_iconst (v := zI 1) hx hb dX9_merge_268 rfl ?_
                              refine r_iadd (v := zI ((((20 * v5) + 2) + (3 * v7)) + 1)) F dX9_merge_269 (zI_add _ _) ?_
                              refine rz_iald F hK hP 2 0 rfl rfl (by omega) (by omega) dX9_merge_270 ?_
                              have hc400 := hqp2.1.pos (((((20 * v5) + 2) + (3 * v7)) + 1)).toNat (by omega)
                              have hc401 := hqp2.1.le9 (((((20 * v5) + 2) + (3 * v7)) + 1)).toNat (by omega)
                              refine lv_iload_n hx hb dX9_merge_271 rfl (lv_at hl 6 rfl) ?_
                              refine rz_icmp_ne (tgt := 290) F (by omega) (by omega) dX9_merge_272 (by decide) (fun h272_401 => ?_) (fun h272_401 => ?_)
                              · refine lv_iinc (v := zI (v7 + 1)) (lv' := [(7, .int (zI (v7 + 1))), (6, .int (zI (20 * v5))), (5, .int (zI v5)), (0, .ref y), (1, .ref a), (2, .int (zI x)), (3, .int (zI w)), (4, .ref f)]) hx hb dX9_merge_290 hl (k := 0) rfl (zI_add _ _) (by decide) rfl (fun ls hl => ?_)
                                refine lv_goto (tgt := 229) hx hb dX9_merge_293 (by decide) ?_
                                exact ih3 (v7 + 1) gq2 _ _ (by omega) (by omega) hqp2 hmt2 (Mst.sA hms2 (by omega) hnw (by omega) ⟨by omega, by omega⟩ (Or.inr ⟨by omega, rfl⟩)) hP hD hS ls (lv_sub hl [0, 1, 2, 3, 4, 5, 6, 7] rfl)
                              · refine lv_aload hx hb dX9_merge_275 (lv_at hl 7 rfl) ?_
                                refine lv_iload hx hb dX9_merge_277 (lv_at hl 1 rfl) ?_
                                refine lv_iconst (v := zI 2) hx hb dX9_merge_279 rfl ?_
                                refine r_iadd (v := zI ((20 * v5) + 2)) F dX9_merge_280 (zI_add _ _) ?_
                                refine lv_iconst (v := zI 3) hx hb dX9_merge_281 rfl ?_
                                refine lv_iload hx hb dX9_merge_282 (lv_at hl 0 rfl) ?_
                                refine r_imul (v := zI (3 * v7)) F dX9_merge_284 (zI_mul _ _) ?_
                                refine r_iadd (v := zI (((20 * v5) + 2) + (3 * v7))) F dX9_merge_285 (zI_add _ _) ?_
                                refine lv_iconst (v := zI 1) hx hb dX9_merge_286 rfl ?_
                                refine r_iadd (v := zI ((((20 * v5) + 2) + (3 * v7)) + 1)) F dX9_merge_287 (zI_add _ _) ?_
                                refine lv_iload_n hx hb dX9_merge_288 rfl (lv_at hl 5 rfl) ?_
                                refine rz_iastG F hK hP hD hS 2 0 rfl rfl (by omega) (by omega) dX9_merge_289 (w1 := fun g403 => [(y, .inr (9, [.int (zI (i 0)), .ref (q 0), .int (zI (i 1)), .int (zI (i 2)), .int (zI (i 3)), .int (zI (i 4)), .int (zI (i 5)), .int (zI (i 6)), .int (zI (i 7)), .int (zI (i 8)), .int (zI (i 9)), .int (zI (i 10)), .ref (q 1), .int (zI (i 11)), .int (zI (i 12)), .ref (q 2), .ref (q 3), .ref (q 4), .ref (q 5), .ref (q 6), .ref (q 7), .ref (q 8), .ref (q 9), .ref (q 10), .ref (q 11), .ref (q 12), .ref (q 13), .ref (q 14), .ref (q 15), .ref (q 16), .int (zI (i 13)), .int (zI (i 14)), .int (zI (i 15)), .int (zI (i 16)), .int (zI (i 17)), .int (zI (i 18)), .ref (q 17), .ref (q 18), .ref (q 19), .ref (q 20)])), (a, .inl (cI, 200, .inl (fun k => zI (g_p k)))), (f, .inl (cI, 200, .inl (fun k => zI (g403 k))))]) (fun _ => rfl) (fun g403 e_g403 H locs hP hD hS => ?_)
                                have hqp404 : ProgOk g403 := ProgOk.tgt3 hqp2 e_g403 (i := v5) (n := v7) (by omega) (by omega) (by omega) (by omega) (j := (((20 * v5) + 2) + (3 * v7)).toNat) (by omega) (by omega)
                                have hmt405 := MT.keepA hmt2 e_g403 (i := v5) (n := v7) (by omega) (by omega) (by omega)
                                refine lv_iinc (v := zI (v7 + 1)) (lv' := [(7, .int (zI (v7 + 1))), (6, .int (zI (20 * v5))), (5, .int (zI v5)), (0, .ref y), (1, .ref a), (2, .int (zI x)), (3, .int (zI w)), (4, .ref f)]) hx hb dX9_merge_290 hl (k := 0) rfl (zI_add _ _) (by decide) rfl (fun ls hl => ?_)
                                refine lv_goto (tgt := 229) hx hb dX9_merge_293 (by decide) ?_
                                exact ih3 (v7 + 1) g403 _ _ (by omega) (by omega) hqp404 hmt405 (Mst.sA hms2 (by omega) hnw (by omega) ⟨by omega, by omega⟩ (Or.inl ⟨by omega, by omega, e_g403⟩)) hP hD hS ls (lv_sub hl [0, 1, 2, 3, 4, 5, 6, 7] rfl)
                      · refine lv_aload hx hb dX9_merge_217 (lv_at hl 6 rfl) ?_
                        refine lv_iload hx hb dX9_merge_219 (lv_at hl 0 rfl) ?_
                        refine lv_bipush (v := zI 18) hx hb dX9_merge_221 (by decide) ?_
                        refine r_iadd (v := zI ((20 * v5) + 18)) F dX9_merge_223 (zI_add _ _) ?_
                        refine lv_iload_n hx hb dX9_merge_224 rfl (lv_at hl 4 rfl) ?_
                        refine rz_iastG F hK hP hD hS 2 0 rfl rfl (by omega) (by omega) dX9_merge_225 (w1 := fun g406 => [(y, .inr (9, [.int (zI (i 0)), .ref (q 0), .int (zI (i 1)), .int (zI (i 2)), .int (zI (i 3)), .int (zI (i 4)), .int (zI (i 5)), .int (zI (i 6)), .int (zI (i 7)), .int (zI (i 8)), .int (zI (i 9)), .int (zI (i 10)), .ref (q 1), .int (zI (i 11)), .int (zI (i 12)), .ref (q 2), .ref (q 3), .ref (q 4), .ref (q 5), .ref (q 6), .ref (q 7), .ref (q 8), .ref (q 9), .ref (q 10), .ref (q 11), .ref (q 12), .ref (q 13), .ref (q 14), .ref (q 15), .ref (q 16), .int (zI (i 13)), .int (zI (i 14)), .int (zI (i 15)), .int (zI (i 16)), .int (zI (i 17)), .int (zI (i 18)), .ref (q 17), .ref (q 18), .ref (q 19), .ref (q 20)])), (a, .inl (cI, 200, .inl (fun k => zI (g_p k)))), (f, .inl (cI, 200, .inl (fun k => zI (g406 k))))]) (fun _ => rfl) (fun g406 e_g406 H locs hP hD hS => ?_)
                        have hqp407 : ProgOk g406 := ⟨hqp378.1.set (m := 9) e_g406 18 (by omega) rfl (by omega), hqp378.2.set e_g406 (by omega)⟩
                        have hmt408 := hmt379.keep e_g406 (by omega)
                        refine lv_iconst (v := zI 0) hx hb dX9_merge_226 rfl ?_
                        have hms8 : Mst g_p x w (i 13) g406 v5 (3 + 0) := Mst.s18 hms6 (by omega) hnw (by omega) (Or.inl ⟨by omega, by omega, e_g406⟩)
                        refine lv_istore (lv' := [(7, .int (zI 0)), (6, .int (zI (20 * v5))), (5, .int (zI v5)), (0, .ref y), (1, .ref a), (2, .int (zI x)), (3, .int (zI w)), (4, .ref f)]) hx hb dX9_merge_227 hl (by decide) rfl (fun ls hl => ?_)
                        refine W.widen (k := 0) (n := 0) (Nat.le_of_ble_eq_true rfl) (Nat.le_of_ble_eq_true rfl) ?_
                        refine (?_ : ∀ (n9_3 : Nat) (v7 : Int) (gq2 : Nat → Int) (H : Heap) (locs : List Loc), (0 ≤ v7 ∧ v7 ≤ 4) → (4 - v7 : Int).toNat < n9_3 → (ProgOk gq2) → (MT g_p gq2 w) → (Mst g_p x w (i 13) gq2 v5 (3 + v7)) → va_P G vwCl [(y, .inr (9, [.int (zI (i 0)), .ref (q 0), .int (zI (i 1)), .int (zI (i 2)), .int (zI (i 3)), .int (zI (i 4)), .int (zI (i 5)), .int (zI (i 6)), .int (zI (i 7)), .int (zI (i 8)), .int (zI (i 9)), .int (zI (i 10)), .ref (q 1), .int (zI (i 11)), .int (zI (i 12)), .ref (q 2), .ref (q 3), .ref (q 4), .ref (q 5), .ref (q 6), .ref (q 7), .ref (q 8), .ref (q 9), .ref (q 10), .ref (q 11), .ref (q 12), .ref (q 13), .ref (q 14), .ref (q 15), .ref (q 16), .int (zI (i 13)), .int (zI (i 14)), .int (zI (i 15)), .int (zI (i 16)), .int (zI (i 17)), .int (zI (i 18)), .ref (q 17), .ref (q 18), .ref (q 19), .ref (q 20)])), (a, .inl (cI, 200, .inl (fun k => zI (g_p k)))), (f, .inl (cI, 200, .inl (fun k => zI (gq2 k))))] H → va_D A [(y, .inr (9, [.int (zI (i 0)), .ref (q 0), .int (zI (i 1)), .int (zI (i 2)), .int (zI (i 3)), .int (zI (i 4)), .int (zI (i 5)), .int (zI (i 6)), .int (zI (i 7)), .int (zI (i 8)), .int (zI (i 9)), .int (zI (i 10)), .ref (q 1), .int (zI (i 11)), .int (zI (i 12)), .ref (q 2), .ref (q 3), .ref (q 4), .ref (q 5), .ref (q 6), .ref (q 7), .ref (q 8), .ref (q 9), .ref (q 10), .ref (q 11), .ref (q 12), .ref (q 13), .ref (q 14), .ref (q 15), .ref (q 16), .int (zI (i 13)), .int (zI (i 14)), .int (zI (i 15)), .int (zI (i 16)), .int (zI (i 17)), .int (zI (i 18)), .ref (q 17), .ref (q 18), .ref (q 19), .ref (q 20)])), (a, .inl (cI, 200, .inl (fun k => zI (g_p k)))), (f, .inl (cI, 200, .inl (fun k => zI (gq2 k))))] → va_S A s.heap H locs → ∀ ls : Array Slot, lv_has ls 8 [(7, .int (zI v7)), (6, .int (zI (20 * v5))), (5, .int (zI v5)), (0, .ref y), (1, .ref a), (2, .int (zI x)), (3, .int (zI w)), (4, .ref f)] → W p l e rm_X9_mergeX s m ([.ref y, .ref a, .int (zI x), .int (zI w), .ref f] : List Value).toArray below meth c H locs 0 0 Q (F0 m 229 ls [])) ((4 - 0 : Int).toNat + 1) 0 g406 _ _ (by omega) (by omega) hqp407 hmt408 hms8 hP hD hS ls hl
                        clear hP hD hS hl ls
                        intro n9_3
                        induction n9_3 with
                        | zero =>
                          intro v7 gq2 H locs hI hM
                          exact absurd hM (by omega)
                        | succ n9_3 ih3 =>
                          intro v7 gq2 H locs hI3 hM3 hqp2 hmt2 hms2 hP hD hS ls hl
                          refine lv_iload hx hb dX9_merge_229 (lv_at hl 0 rfl) ?_
                          refine lv_aload hx hb dX9_merge_231 (lv_at hl 7 rfl) ?_
                          refine lv_iload hx hb dX9_merge_233 (lv_at hl 1 rfl) ?_
                          refine lv_iconst (v := zI 1) hx hb dX9_merge_235 rfl ?_
                          refine r_iadd (v := zI ((20 * v5) + 1)) F dX9_merge_236 (zI_add _ _) ?_
                          refine rz_iald F hK hP 2 0 rfl rfl (by omega) (by omega) dX9_merge_237 ?_
                          have hpl409 : 0 ≤ (gq2 (((20 * v5) + 1)).toNat) ∧ (gq2 (((20 * v5) + 1)).toNat) ≤ 4 := ProgR.at hqp2.1 (e := ((20 * v5) + 1)) v5 1 (by omega) (by omega) (by decide) rfl
                          refine rz_icmp_ge (tgt := 296) F (by omega) (by omega) dX9_merge_238 (by decide) (fun h238_409 => ?_) (fun h238_409 => ?_)
                          · refine lv_iinc (v := zI (v5 + 1)) (lv' := [(5, .int (zI (v5 + 1))), (7, .int (zI v7)), (6, .int (zI (20 * v5))), (0, .ref y), (1, .ref a), (2, .int (zI x)), (3, .int (zI w)), (4, .ref f)]) hx hb dX9_merge_296 hl (k := 2) rfl (zI_add _ _) (by decide) rfl (fun ls hl => ?_)
                            refine lv_goto (tgt := 132) hx hb dX9_merge_299 (by decide) ?_
                            exact ih2 (v5 + 1) gq2 _ _ (by omega) (by omega) hqp2 hmt2 (Mst.fin hms2 (by omega) hnw ⟨by omega, by omega⟩) hP hD hS ls (lv_sub hl [0, 3, 4, 5, 6, 7] rfl)
                          · refine lv_aload hx hb dX9_merge_241 (lv_at hl 7 rfl) ?_
                            refine lv_iload hx hb dX9_merge_243 (lv_at hl 1 rfl) ?_
                            refine lv_iconst (v := zI 2) hx hb dX9_merge_245 rfl ?_
                            refine r_iadd (v := zI ((20 * v5) + 2)) F dX9_merge_246 (zI_add _ _) ?_
                            refine lv_iconst (v := zI 3) hx hb dX9_merge_247 rfl ?_
                            refine lv_iload hx hb dX9_merge_248 (lv_at hl 0 rfl) ?_
                            refine r_imul (v := zI (3 * v7)) F dX9_merge_250 (zI_mul _ _) ?_
                            refine r_iadd (v := zI (((20 * v5) + 2) + (3 * v7))) F dX9_merge_251 (zI_add _ _) ?_
                            refine rz_iald F hK hP 2 0 rfl rfl (by omega) (by omega) dX9_merge_252 ?_
                            have hc411 := ProgOk.act hqp2 (i := v5) (n := v7) (k := (((20 * v5) + 2) + (3 * v7))) (by omega) (by omega) (by omega)
                            refine lv_iconst (v := zI 3) hx hb dX9_merge_253 rfl ?_
                            refine rz_icmp_ne (tgt := 290) F (by omega) (by omega) dX9_merge_254 (by decide) (fun h254_411 => ?_) (fun h254_411 => ?_)
                            · refine lv_iinc (v := zI (v7 + 1)) (lv' := [(7, .int (zI (v7 + 1))), (6, .int (zI (20 * v5))), (5, .int (zI v5)), (0, .ref y), (1, .ref a), (2, .int (zI x)), (3, .int (zI w)), (4, .ref f)]) hx hb dX9_merge_290 hl (k := 0) rfl (zI_add _ _) (by decide) rfl (fun ls hl => ?_)
                              refine lv_goto (tgt := 229) hx hb dX9_merge_293 (by decide) ?_
                              exact ih3 (v7 + 1) gq2 _ _ (by omega) (by omega) hqp2 hmt2 (Mst.sA hms2 (by omega) hnw (by omega) ⟨by omega, by omega⟩ (Or.inr ⟨by omega, rfl⟩)) hP hD hS ls (lv_sub hl [0, 1, 2, 3, 4, 5, 6, 7] rfl)
                            · refine lv_aload hx hb dX9_merge_257 (lv_at hl 7 rfl) ?_
                              refine lv_iload hx hb dX9_merge_259 (lv_at hl 1 rfl) ?_
                              refine lv_iconst (v := zI 2) hx hb dX9_merge_261 rfl ?_
                              refine r_iadd (v := zI ((20 * v5) + 2)) F dX9_merge_262 (zI_add _ _) ?_
                              refine lv_iconst (v := zI 3) hx hb dX9_merge_263 rfl ?_
                              refine lv_iload hx hb dX9_merge_264 (lv_at hl 0 rfl) ?_
                              refine r_imul (v := zI (3 * v7)) F dX9_merge_266 (zI_mul _ _) ?_
                              refine r_iadd (v := zI (((20 * v5) + 2) + (3 * v7))) F dX9_merge_267 (zI_add _ _) ?_
                              refine lv_iconst (v := zI 1) hx hb dX9_merge_268 rfl ?_
                              refine r_iadd (v := zI ((((20 * v5) + 2) + (3 * v7)) + 1)) F dX9_merge_269 (zI_add _ _) ?_
                              refine rz_iald F hK hP 2 0 rfl rfl (by omega) (by omega) dX9_merge_270 ?_
                              have hc413 := hqp2.1.pos (((((20 * v5) + 2) + (3 * v7)) + 1)).toNat (by omega)
                              have hc414 := hqp2.1.le9 (((((20 * v5) + 2) + (3 * v7)) + 1)).toNat (by omega)
                              refine lv_iload_n hx hb dX9_merge_271 rfl (lv_at hl 6 rfl) ?_
                              refine rz_icmp_ne (tgt := 290) F (by omega) (by omega) dX9_merge_272 (by decide) (fun h272_414 => ?_) (fun h272_414 => ?_)
                              · refine lv_iinc (v := zI (v7 + 1)) (lv' := [(7, .int (zI (v7 + 1))), (6, .int (zI (20 * v5))), (5, .int (zI v5)), (0, .ref y), (1, .ref a), (2, .int (zI x)), (3, .int (zI w)), (4, .ref f)]) hx hb dX9_merge_290 hl (k := 0) rfl (zI_add _ _) (by decide) rfl (fun ls hl => ?_)
                                refine lv_goto (tgt := 229) hx hb dX9_merge_293 (by decide) ?_
                                exact ih3 (v7 + 1) gq2 _ _ (by omega) (by omega) hqp2 hmt2 (Mst.sA hms2 (by omega) hnw (by omega) ⟨by omega, by omega⟩ (Or.inr ⟨by omega, rfl⟩)) hP hD hS ls (lv_sub hl [0, 1, 2, 3, 4, 5, 6, 7] rfl)
                              · refine lv_aload hx hb dX9_merge_275 (lv_at hl 7 rfl) ?_
                                refine lv_iload hx hb dX9_merge_277 (lv_at hl 1 rfl) ?_
                                refine lv_iconst (v := zI 2) hx hb dX9_merge_279 rfl ?_
                                refine r_iadd (v := zI ((20 * v5) + 2)) F dX9_merge_280 (zI_add _ _) ?_
                                refine lv_iconst (v := zI 3) hx hb dX9_merge_281 rfl ?_
                                refine lv_iload hx hb dX9_merge_282 (lv_at hl 0 rfl) ?_
                                refine r_imul (v := zI (3 * v7)) F dX9_merge_284 (zI_mul _ _) ?_
                                refine r_iadd (v := zI (((20 * v5) + 2) + (3 * v7))) F dX9_merge_285 (zI_add _ _) ?_
                                refine lv_iconst (v := zI 1) hx hb dX9_merge_286 rfl ?_
                                refine r_iadd (v := zI ((((20 * v5) + 2) + (3 * v7)) + 1)) F dX9_merge_287 (zI_add _ _) ?_
                                refine lv_iload_n hx hb dX9_merge_288 rfl (lv_at hl 5 rfl) ?_
                                refine rz_iastG F hK hP hD hS 2 0 rfl rfl (by omega) (by omega) dX9_merge_289 (w1 := fun g416 => [(y, .inr (9, [.int (zI (i 0)), .ref (q 0), .int (zI (i 1)), .int (zI (i 2)), .int (zI (i 3)), .int (zI (i 4)), .int (zI (i 5)), .int (zI (i 6)), .int (zI (i 7)), .int (zI (i 8)), .int (zI (i 9)), .int (zI (i 10)), .ref (q 1), .int (zI (i 11)), .int (zI (i 12)), .ref (q 2), .ref (q 3), .ref (q 4), .ref (q 5), .ref (q 6), .ref (q 7), .ref (q 8), .ref (q 9), .ref (q 10), .ref (q 11), .ref (q 12), .ref (q 13), .ref (q 14), .ref (q 15), .ref (q 16), .int (zI (i 13)), .int (zI (i 14)), .int (zI (i 15)), .int (zI (i 16)), .int (zI (i 17)), .int (zI (i 18)), .ref (q 17), .ref (q 18), .ref (q 19), .ref (q 20)])), (a, .inl (cI, 200, .inl (fun k => zI (g_p k)))), (f, .inl (cI, 200, .inl (fun k => zI (g416 k))))]) (fun _ => rfl) (fun g416 e_g416 H locs hP hD hS => ?_)
                                have hqp417 : ProgOk g416 := ProgOk.tgt3 hqp2 e_g416 (i := v5) (n := v7) (by omega) (by omega) (by omega) (by omega) (j := (((20 * v5) + 2) + (3 * v7)).toNat) (by omega) (by omega)
                                have hmt418 := MT.keepA hmt2 e_g416 (i := v5) (n := v7) (by omega) (by omega) (by omega)
                                refine lv_iinc (v := zI (v7 + 1)) (lv' := [(7, .int (zI (v7 + 1))), (6, .int (zI (20 * v5))), (5, .int (zI v5)), (0, .ref y), (1, .ref a), (2, .int (zI x)), (3, .int (zI w)), (4, .ref f)]) hx hb dX9_merge_290 hl (k := 0) rfl (zI_add _ _) (by decide) rfl (fun ls hl => ?_)
                                refine lv_goto (tgt := 229) hx hb dX9_merge_293 (by decide) ?_
                                exact ih3 (v7 + 1) g416 _ _ (by omega) (by omega) hqp417 hmt418 (Mst.sA hms2 (by omega) hnw (by omega) ⟨by omega, by omega⟩ (Or.inl ⟨by omega, by omega, e_g416⟩)) hP hD hS ls (lv_sub hl [0, 1, 2, 3, 4, 5, 6, 7] rfl)
              · refine lv_goto (tgt := 296) hx hb dX9_merge_158 (by decide) ?_
                refine lv_iinc (v := zI (v5 + 1)) (lv' := [(5, .int (zI (v5 + 1))), (6, .int (zI (20 * v5))), (0, .ref y), (1, .ref a), (2, .int (zI x)), (3, .int (zI w)), (4, .ref f)]) hx hb dX9_merge_296 hl (k := 1) rfl (zI_add _ _) (by decide) rfl (fun ls hl => ?_)
                refine lv_goto (tgt := 132) hx hb dX9_merge_299 (by decide) ?_
                exact ih2 (v5 + 1) gq1 _ _ (by omega) (by omega) hqp1 hmt1 (Mst.skip hms1 (by omega) (by omega)) hP hD hS ls (lv_sub hl [0, 2, 3, 4, 5, 6] rfl)
        · refine lv_aload hx hb dX9_merge_95 (lv_at hl 5 rfl) ?_
          refine lv_bipush (v := zI 20) hx hb dX9_merge_97 (by decide) ?_
          refine lv_iload_n hx hb dX9_merge_99 rfl (lv_at hl 3 rfl) ?_
          refine r_imul (v := zI (20 * x)) F dX9_merge_100 (zI_mul _ _) ?_
          refine lv_bipush (v := zI 19) hx hb dX9_merge_101 (by decide) ?_
          refine r_iadd (v := zI ((20 * x) + 19)) F dX9_merge_103 (zI_add _ _) ?_
          refine lv_bipush (v := zI 9) hx hb dX9_merge_104 (by decide) ?_
          refine lv_aload_n hx hb dX9_merge_106 rfl (lv_at hl 2 rfl) ?_
          refine lv_bipush (v := zI 20) hx hb dX9_merge_107 (by decide) ?_
          refine lv_iload_n hx hb dX9_merge_109 rfl (lv_at hl 3 rfl) ?_
          refine r_imul (v := zI (20 * x)) F dX9_merge_110 (zI_mul _ _) ?_
          refine lv_bipush (v := zI 19) hx hb dX9_merge_111 (by decide) ?_
          refine r_iadd (v := zI ((20 * x) + 19)) F dX9_merge_113 (zI_add _ _) ?_
          refine rz_iald F hK hP 1 0 rfl rfl (by omega) (by omega) dX9_merge_114 ?_
          have hpl419 : 0 ≤ (g_p (((20 * x) + 19)).toNat) ∧ (g_p (((20 * x) + 19)).toNat) ≤ 9 := ProgR.at hp.1 (e := ((20 * x) + 19)) x 19 (by omega) (by omega) (by decide) rfl
          refine lv_aload_n hx hb dX9_merge_115 rfl (lv_at hl 2 rfl) ?_
          refine lv_bipush (v := zI 20) hx hb dX9_merge_116 (by decide) ?_
          refine lv_iload_n hx hb dX9_merge_118 rfl (lv_at hl 4 rfl) ?_
          refine r_imul (v := zI (20 * w)) F dX9_merge_119 (zI_mul _ _) ?_
          refine lv_bipush (v := zI 19) hx hb dX9_merge_120 (by decide) ?_
          refine r_iadd (v := zI ((20 * w) + 19)) F dX9_merge_122 (zI_add _ _) ?_
          refine rz_iald F hK hP 1 0 rfl rfl (by omega) (by omega) dX9_merge_123 ?_
          have hpl420 : 0 ≤ (g_p (((20 * w) + 19)).toNat) ∧ (g_p (((20 * w) + 19)).toNat) ≤ 9 := ProgR.at hp.1 (e := ((20 * w) + 19)) w 19 (by omega) (by omega) (by decide) rfl
          refine r_iadd (v := zI ((g_p (((20 * x) + 19)).toNat) + (g_p (((20 * w) + 19)).toNat))) F dX9_merge_124 (zI_add _ _) ?_
          refine r_callSi (As := [.int (zI 9), .int (zI ((g_p (((20 * x) + 19)).toNat) + (g_p (((20 * w) + 19)).toNat)))]) (rest := [.int (zI ((20 * x) + 19)), .ref f]) (wr := [(y, .inr (9, [.int (zI (i 0)), .ref (q 0), .int (zI (i 1)), .int (zI (i 2)), .int (zI (i 3)), .int (zI (i 4)), .int (zI (i 5)), .int (zI (i 6)), .int (zI (i 7)), .int (zI (i 8)), .int (zI (i 9)), .int (zI (i 10)), .ref (q 1), .int (zI (i 11)), .int (zI (i 12)), .ref (q 2), .ref (q 3), .ref (q 4), .ref (q 5), .ref (q 6), .ref (q 7), .ref (q 8), .ref (q 9), .ref (q 10), .ref (q 11), .ref (q 12), .ref (q 13), .ref (q 14), .ref (q 15), .ref (q 16), .int (zI (i 13)), .int (zI (i 14)), .int (zI (i 15)), .int (zI (i 16)), .int (zI (i 17)), .int (zI (i 18)), .ref (q 17), .ref (q 18), .ref (q 19), .ref (q 20)])), (a, .inl (cI, 200, .inl (fun k => zI (g_p k)))), (f, .inl (cI, 200, .inl (fun k => zI (g284 k))))]) F hK hP hD hS hA hO hE (c_X9_less hO 9 ((g_p (((20 * x) + 19)).toNat) + (g_p (((20 * w) + 19)).toNat)) (by omega) (by omega)) k_1456 ks_X9_less 2 rfl (by decide +kernel) ⟨Nat.le_of_ble_eq_true rfl, Nat.le_of_ble_eq_true rfl⟩ [] [0, 1, 2] rfl rfl (by decide) (by decide) (by decide) hl.1 rfl (Nat.le_of_ble_eq_true rfl) dX9_merge_125 ⟨Nat.le_of_ble_eq_true rfl, Nat.le_of_ble_eq_true rfl⟩ (w1 := fun u421 => [(y, .inr (9, [.int (zI (i 0)), .ref (q 0), .int (zI (i 1)), .int (zI (i 2)), .int (zI (i 3)), .int (zI (i 4)), .int (zI (i 5)), .int (zI (i 6)), .int (zI (i 7)), .int (zI (i 8)), .int (zI (i 9)), .int (zI (i 10)), .ref (q 1), .int (zI (i 11)), .int (zI (i 12)), .ref (q 2), .ref (q 3), .ref (q 4), .ref (q 5), .ref (q 6), .ref (q 7), .ref (q 8), .ref (q 9), .ref (q 10), .ref (q 11), .ref (q 12), .ref (q 13), .ref (q 14), .ref (q 15), .ref (q 16), .int (zI (i 13)), .int (zI (i 14)), .int (zI (i 15)), .int (zI (i 16)), .int (zI (i 17)), .int (zI (i 18)), .ref (q 17), .ref (q 18), .ref (q 19), .ref (q 20)])), (a, .inl (cI, 200, .inl (fun k => zI (g_p k)))), (f, .inl (cI, 200, .inl (fun k => zI (g284 k))))]) (fun _ => rfl) (fun r422 u421 H locs hp423 hP hD hS => ?_)
          obtain ⟨z424, rfl, h_z424⟩ := hp423
          refine rz_iastG F hK hP hD hS 2 0 rfl rfl (by omega) (by omega) dX9_merge_128 (w1 := fun g425 => [(y, .inr (9, [.int (zI (i 0)), .ref (q 0), .int (zI (i 1)), .int (zI (i 2)), .int (zI (i 3)), .int (zI (i 4)), .int (zI (i 5)), .int (zI (i 6)), .int (zI (i 7)), .int (zI (i 8)), .int (zI (i 9)), .int (zI (i 10)), .ref (q 1), .int (zI (i 11)), .int (zI (i 12)), .ref (q 2), .ref (q 3), .ref (q 4), .ref (q 5), .ref (q 6), .ref (q 7), .ref (q 8), .ref (q 9), .ref (q 10), .ref (q 11), .ref (q 12), .ref (q 13), .ref (q 14), .ref (q 15), .ref (q 16), .int (zI (i 13)), .int (zI (i 14)), .int (zI (i 15)), .int (zI (i 16)), .int (zI (i 17)), .int (zI (i 18)), .ref (q 17), .ref (q 18), .ref (q 19), .ref (q 20)])), (a, .inl (cI, 200, .inl (fun k => zI (g_p k)))), (f, .inl (cI, 200, .inl (fun k => zI (g425 k))))]) (fun _ => rfl) (fun g425 e_g425 H locs hP hD hS => ?_)
          have hqp426 : ProgOk g425 := ⟨hqp285.1.set (m := 9) e_g425 19 (by omega) rfl (by omega), hqp285.2.set e_g425 (by omega)⟩
          have hmt427 := hmt286.keep e_g425 (by omega)
          refine lv_iconst (v := zI 0) hx hb dX9_merge_129 rfl ?_
          have hms0 : Mst g_p x w (i 13) g425 0 0 := Mst.start (q := gz9) (q1 := g284) hx8 hxw (fun k hk => by rw [hz9 k hk, show v5 = 20 by omega]) (Or.inl ⟨by omega, (by rw [← (lessZ_eq h_z283)]; exact e_g284)⟩) (Or.inl ⟨by omega, (by rw [← (lessZ_eq h_z424)]; exact e_g425)⟩)
          refine lv_istore (lv' := [(5, .int (zI 0)), (0, .ref y), (1, .ref a), (2, .int (zI x)), (3, .int (zI w)), (4, .ref f)]) hx hb dX9_merge_130 hl (by decide) rfl (fun ls hl => ?_)
          refine W.widen (k := 0) (n := 0) (Nat.le_of_ble_eq_true rfl) (Nat.le_of_ble_eq_true rfl) ?_
          refine (?_ : ∀ (n9_2 : Nat) (v5 : Int) (gq1 : Nat → Int) (H : Heap) (locs : List Loc), (0 ≤ v5 ∧ v5 ≤ 10 ∧ v5 ≤ i 13) → (10 - v5 : Int).toNat < n9_2 → (ProgOk gq1) → (MT g_p gq1 w) → (Mst g_p x w (i 13) gq1 v5 0) → va_P G vwCl [(y, .inr (9, [.int (zI (i 0)), .ref (q 0), .int (zI (i 1)), .int (zI (i 2)), .int (zI (i 3)), .int (zI (i 4)), .int (zI (i 5)), .int (zI (i 6)), .int (zI (i 7)), .int (zI (i 8)), .int (zI (i 9)), .int (zI (i 10)), .ref (q 1), .int (zI (i 11)), .int (zI (i 12)), .ref (q 2), .ref (q 3), .ref (q 4), .ref (q 5), .ref (q 6), .ref (q 7), .ref (q 8), .ref (q 9), .ref (q 10), .ref (q 11), .ref (q 12), .ref (q 13), .ref (q 14), .ref (q 15), .ref (q 16), .int (zI (i 13)), .int (zI (i 14)), .int (zI (i 15)), .int (zI (i 16)), .int (zI (i 17)), .int (zI (i 18)), .ref (q 17), .ref (q 18), .ref (q 19), .ref (q 20)])), (a, .inl (cI, 200, .inl (fun k => zI (g_p k)))), (f, .inl (cI, 200, .inl (fun k => zI (gq1 k))))] H → va_D A [(y, .inr (9, [.int (zI (i 0)), .ref (q 0), .int (zI (i 1)), .int (zI (i 2)), .int (zI (i 3)), .int (zI (i 4)), .int (zI (i 5)), .int (zI (i 6)), .int (zI (i 7)), .int (zI (i 8)), .int (zI (i 9)), .int (zI (i 10)), .ref (q 1), .int (zI (i 11)), .int (zI (i 12)), .ref (q 2), .ref (q 3), .ref (q 4), .ref (q 5), .ref (q 6), .ref (q 7), .ref (q 8), .ref (q 9), .ref (q 10), .ref (q 11), .ref (q 12), .ref (q 13), .ref (q 14), .ref (q 15), .ref (q 16), .int (zI (i 13)), .int (zI (i 14)), .int (zI (i 15)), .int (zI (i 16)), .int (zI (i 17)), .int (zI (i 18)), .ref (q 17), .ref (q 18), .ref (q 19), .ref (q 20)])), (a, .inl (cI, 200, .inl (fun k => zI (g_p k)))), (f, .inl (cI, 200, .inl (fun k => zI (gq1 k))))] → va_S A s.heap H locs → ∀ ls : Array Slot, lv_has ls 8 [(5, .int (zI v5)), (0, .ref y), (1, .ref a), (2, .int (zI x)), (3, .int (zI w)), (4, .ref f)] → W p l e rm_X9_mergeX s m ([.ref y, .ref a, .int (zI x), .int (zI w), .ref f] : List Value).toArray below meth c H locs 0 0 Q (F0 m 132 ls [])) ((10 - 0 : Int).toNat + 1) 0 g425 _ _ (by omega) (by omega) hqp426 hmt427 hms0 hP hD hS ls hl
          clear hP hD hS hl ls
          intro n9_2
          induction n9_2 with
          | zero =>
            intro v5 gq1 H locs hI hM
            exact absurd hM (by omega)
          | succ n9_2 ih2 =>
            intro v5 gq1 H locs hI2 hM2 hqp1 hmt1 hms1 hP hD hS ls hl
            refine lv_iload hx hb dX9_merge_132 (lv_at hl 0 rfl) ?_
            refine lv_aload_n hx hb dX9_merge_134 rfl (lv_at hl 1 rfl) ?_
            refine r_get F hK hP 0 30 rfl rfl in_X9 (by decide) k_1193 rfl dX9_merge_135 ?_
            refine rz_icmp_ge (tgt := 302) F (by omega) (by omega) dX9_merge_138 (by decide) (fun h138_427 => ?_) (fun h138_427 => ?_)
            · exact ret (fun k => [((fun _ => 0), fun _ _ => 0), (fun _ => 0, fun _ => gq1)].getD k (fun _ => 0, fun _ _ => 0)) _ _ _ _ _ _ ⟨⟨hqp1, hmt1⟩, Mst.all hms1 (Or.inl (by omega)) (by omega)⟩ (bw_subP (isC := [0, 1, 2]) hP rfl) (hD.sub [0, 1, 2] (by decide) rfl) hS (Nat.le_of_ble_eq_true rfl) (Nat.le_of_ble_eq_true rfl) dX9_merge_302
            · refine lv_bipush (v := zI 20) hx hb dX9_merge_141 (by decide) ?_
              refine lv_iload hx hb dX9_merge_143 (lv_at hl 0 rfl) ?_
              refine r_imul (v := zI (20 * v5)) F dX9_merge_145 (zI_mul _ _) ?_
              refine lv_istore (lv' := [(6, .int (zI (20 * v5))), (5, .int (zI v5)), (0, .ref y), (1, .ref a), (2, .int (zI x)), (3, .int (zI w)), (4, .ref f)]) hx hb dX9_merge_146 hl (by decide) rfl (fun ls hl => ?_)
              refine lv_aload hx hb dX9_merge_148 (lv_at hl 6 rfl) ?_
              refine lv_iload hx hb dX9_merge_150 (lv_at hl 0 rfl) ?_
              refine lv_iconst (v := zI 0) hx hb dX9_merge_152 rfl ?_
              refine r_iadd (v := zI ((20 * v5) + 0)) F dX9_merge_153 (zI_add _ _) ?_
              refine rz_iald F hK hP 2 0 rfl rfl (by omega) (by omega) dX9_merge_154 ?_
              have hc429 := hqp1.1.pos (((20 * v5) + 0)).toNat (by omega)
              have hc430 := hqp1.1.le9 (((20 * v5) + 0)).toNat (by omega)
              refine rz_if_ne (tgt := 161) F (by omega) dX9_merge_155 (by decide) (fun h155_430 => ?_) (fun h155_430 => ?_)
              · refine lv_aload hx hb dX9_merge_161 (lv_at hl 6 rfl) ?_
                have hnw := Mst.told hms1 (by omega) (by omega)
                refine lv_iload hx hb dX9_merge_163 (lv_at hl 0 rfl) ?_
                refine lv_bipush (v := zI 14) hx hb dX9_merge_165 (by decide) ?_
                refine r_iadd (v := zI ((20 * v5) + 14)) F dX9_merge_167 (zI_add _ _) ?_
                refine rz_iald F hK hP 2 0 rfl rfl (by omega) (by omega) dX9_merge_168 ?_
                have hc432 := hqp1.1.pos (((20 * v5) + 14)).toNat (by omega)
                have hc433 := hqp1.1.le9 (((20 * v5) + 14)).toNat (by omega)
                refine rz_if_le (tgt := 193) F (by omega) dX9_merge_169 (by decide) (fun h169_433 => ?_) (fun h169_433 => ?_)
                · refine lv_aload hx hb dX9_merge_193 (lv_at hl 6 rfl) ?_
                  have hms6 : Mst g_p x w (i 13) gq1 v5 1 := Mst.s16 hms1 (by omega) hnw (by omega) (Or.inr ⟨by omega, rfl⟩)
                  refine lv_iload hx hb dX9_merge_195 (lv_at hl 0 rfl) ?_
                  refine lv_bipush (v := zI 14) hx hb dX9_merge_197 (by decide) ?_
                  refine r_iadd (v := zI ((20 * v5) + 14)) F dX9_merge_199 (zI_add _ _) ?_
                  refine rz_iald F hK hP 2 0 rfl rfl (by omega) (by omega) dX9_merge_200 ?_
                  have hc435 := hqp1.1.pos (((20 * v5) + 14)).toNat (by omega)
                  have hc436 := hqp1.1.le9 (((20 * v5) + 14)).toNat (by omega)
                  refine lv_iconst (v := zI 2) hx hb dX9_merge_201 rfl ?_
                  refine rz_icmp_ne (tgt := 226) F (by omega) (by omega) dX9_merge_202 (by decide) (fun h202_436 => ?_) (fun h202_436 => ?_)
                  · refine lv_iconst (v := zI 0) hx hb dX9_merge_226 rfl ?_
                    have hms8 : Mst g_p x w (i 13) gq1 v5 (3 + 0) := Mst.s18 hms6 (by omega) hnw (by omega) (Or.inr ⟨by omega, rfl⟩)
                    refine lv_istore (lv' := [(7, .int (zI 0)), (6, .int (zI (20 * v5))), (5, .int (zI v5)), (0, .ref y), (1, .ref a), (2, .int (zI x)), (3, .int (zI w)), (4, .ref f)]) hx hb dX9_merge_227 hl (by decide) rfl (fun ls hl => ?_)
                    refine W.widen (k := 0) (n := 0) (Nat.le_of_ble_eq_true rfl) (Nat.le_of_ble_eq_true rfl) ?_
                    refine (?_ : ∀ (n9_3 : Nat) (v7 : Int) (gq2 : Nat → Int) (H : Heap) (locs : List Loc), (0 ≤ v7 ∧ v7 ≤ 4) → (4 - v7 : Int).toNat < n9_3 → (ProgOk gq2) → (MT g_p gq2 w) → (Mst g_p x w (i 13) gq2 v5 (3 + v7)) → va_P G vwCl [(y, .inr (9, [.int (zI (i 0)), .ref (q 0), .int (zI (i 1)), .int (zI (i 2)), .int (zI (i 3)), .int (zI (i 4)), .int (zI (i 5)), .int (zI (i 6)), .int (zI (i 7)), .int (zI (i 8)), .int (zI (i 9)), .int (zI (i 10)), .ref (q 1), .int (zI (i 11)), .int (zI (i 12)), .ref (q 2), .ref (q 3), .ref (q 4), .ref (q 5), .ref (q 6), .ref (q 7), .ref (q 8), .ref (q 9), .ref (q 10), .ref (q 11), .ref (q 12), .ref (q 13), .ref (q 14), .ref (q 15), .ref (q 16), .int (zI (i 13)), .int (zI (i 14)), .int (zI (i 15)), .int (zI (i 16)), .int (zI (i 17)), .int (zI (i 18)), .ref (q 17), .ref (q 18), .ref (q 19), .ref (q 20)])), (a, .inl (cI, 200, .inl (fun k => zI (g_p k)))), (f, .inl (cI, 200, .inl (fun k => zI (gq2 k))))] H → va_D A [(y, .inr (9, [.int (zI (i 0)), .ref (q 0), .int (zI (i 1)), .int (zI (i 2)), .int (zI (i 3)), .int (zI (i 4)), .int (zI (i 5)), .int (zI (i 6)), .int (zI (i 7)), .int (zI (i 8)), .int (zI (i 9)), .int (zI (i 10)), .ref (q 1), .int (zI (i 11)), .int (zI (i 12)), .ref (q 2), .ref (q 3), .ref (q 4), .ref (q 5), .ref (q 6), .ref (q 7), .ref (q 8), .ref (q 9), .ref (q 10), .ref (q 11), .ref (q 12), .ref (q 13), .ref (q 14), .ref (q 15), .ref (q 16), .int (zI (i 13)), .int (zI (i 14)), .int (zI (i 15)), .int (zI (i 16)), .int (zI (i 17)), .int (zI (i 18)), .ref (q 17), .ref (q 18), .ref (q 19), .ref (q 20)])), (a, .inl (cI, 200, .inl (fun k => zI (g_p k)))), (f, .inl (cI, 200, .inl (fun k => zI (gq2 k))))] → va_S A s.heap H locs → ∀ ls : Array Slot, lv_has ls 8 [(7, .int (zI v7)), (6, .int (zI (20 * v5))), (5, .int (zI v5)), (0, .ref y), (1, .ref a), (2, .int (zI x)), (3, .int (zI w)), (4, .ref f)] → W p l e rm_X9_mergeX s m ([.ref y, .ref a, .int (zI x), .int (zI w), .ref f] : List Value).toArray below meth c H locs 0 0 Q (F0 m 229 ls [])) ((4 - 0 : Int).toNat + 1) 0 gq1 _ _ (by omega) (by omega) hqp1 hmt1 hms8 hP hD hS ls hl
                    clear hP hD hS hl ls
                    intro n9_3
                    induction n9_3 with
                    | zero =>
                      intro v7 gq2 H locs hI hM
                      exact absurd hM (by omega)
                    | succ n9_3 ih3 =>
                      intro v7 gq2 H locs hI3 hM3 hqp2 hmt2 hms2 hP hD hS ls hl
                      refine lv_iload hx hb dX9_merge_229 (lv_at hl 0 rfl) ?_
                      refine lv_aload hx hb dX9_merge_231 (lv_at hl 7 rfl) ?_
                      refine lv_iload hx hb dX9_merge_233 (lv_at hl 1 rfl) ?_
                      refine lv_iconst (v := zI 1) hx hb dX9_merge_235 rfl ?_
                      refine r_iadd (v := zI ((20 * v5) + 1)) F dX9_merge_236 (zI_add _ _) ?_
                      refine rz_iald F hK hP 2 0 rfl rfl (by omega) (by omega) dX9_merge_237 ?_
                      have hpl438 : 0 ≤ (gq2 (((20 * v5) + 1)).toNat) ∧ (gq2 (((20 * v5) + 1)).toNat) ≤ 4 := ProgR.at hqp2.1 (e := ((20 * v5) + 1)) v5 1 (by omega) (by omega) (by decide) rfl
                      refine rz_icmp_ge (tgt := 296) F (by omega) (by omega) dX9_merge_238 (by decide) (fun h238_438 => ?_) (fun h238_438 => ?_)
                      · refine lv_iinc (v := zI (v5 + 1)) (lv' := [(5, .int (zI (v5 + 1))), (7, .int (zI v7)), (6, .int (zI (20 * v5))), (0, .ref y), (1, .ref a), (2, .int (zI x)), (3, .int (zI w)), (4, .ref f)]) hx hb dX9_merge_296 hl (k := 2) rfl (zI_add _ _) (by decide) rfl (fun ls hl => ?_)
                        refine lv_goto (tgt := 132) hx hb dX9_merge_299 (by decide) ?_
                        exact ih2 (v5 + 1) gq2 _ _ (by omega) (by omega) hqp2 hmt2 (Mst.fin hms2 (by omega) hnw ⟨by omega, by omega⟩) hP hD hS ls (lv_sub hl [0, 3, 4, 5, 6, 7] rfl)
                      · refine lv_aload hx hb dX9_merge_241 (lv_at hl 7 rfl) ?_
                        refine lv_iload hx hb dX9_merge_243 (lv_at hl 1 rfl) ?_
                        refine lv_iconst (v := zI 2) hx hb dX9_merge_245 rfl ?_
                        refine r_iadd (v := zI ((20 * v5) + 2)) F dX9_merge_246 (zI_add _ _) ?_
                        refine lv_iconst (v := zI 3) hx hb dX9_merge_247 rfl ?_
                        refine lv_iload hx hb dX9_merge_248 (lv_at hl 0 rfl) ?_
                        refine r_imul (v := zI (3 * v7)) F dX9_merge_250 (zI_mul _ _) ?_
                        refine r_iadd (v := zI (((20 * v5) + 2) + (3 * v7))) F dX9_merge_251 (zI_add _ _) ?_
                        refine rz_iald F hK hP 2 0 rfl rfl (by omega) (by omega) dX9_merge_252 ?_
                        have hc440 := ProgOk.act hqp2 (i := v5) (n := v7) (k := (((20 * v5) + 2) + (3 * v7))) (by omega) (by omega) (by omega)
                        refine lv_iconst (v := zI 3) hx hb dX9_merge_253 rfl ?_
                        refine rz_icmp_ne (tgt := 290) F (by omega) (by omega) dX9_merge_254 (by decide) (fun h254_440 => ?_) (fun h254_440 => ?_)
                        · refine lv_iinc (v := zI (v7 + 1)) (lv' := [(7, .int (zI (v7 + 1))), (6, .int (zI (20 * v5))), (5, .int (zI v5)), (0, .ref y), (1, .ref a), (2, .int (zI x)), (3, .int (zI w)), (4, .ref f)]) hx hb dX9_merge_290 hl (k := 0) rfl (zI_add _ _) (by decide) rfl (fun ls hl => ?_)
                          refine lv_goto (tgt := 229) hx hb dX9_merge_293 (by decide) ?_
                          exact ih3 (v7 + 1) gq2 _ _ (by omega) (by omega) hqp2 hmt2 (Mst.sA hms2 (by omega) hnw (by omega) ⟨by omega, by omega⟩ (Or.inr ⟨by omega, rfl⟩)) hP hD hS ls (lv_sub hl [0, 1, 2, 3, 4, 5, 6, 7] rfl)
                        · refine lv_aload hx hb dX9_merge_257 (lv_at hl 7 rfl) ?_
                          refine lv_iload hx hb dX9_merge_259 (lv_at hl 1 rfl) ?_
                          refine lv_iconst (v := zI 2) hx hb dX9_merge_261 rfl ?_
                          refine r_iadd (v := zI ((20 * v5) + 2)) F dX9_merge_262 (zI_add _ _) ?_
                          refine lv_iconst (v := zI 3) hx hb dX9_merge_263 rfl ?_
                          refine lv_iload hx hb dX9_merge_264 (lv_at hl 0 rfl) ?_
                          refine r_imul (v := zI (3 * v7)) F dX9_merge_266 (zI_mul _ _) ?_
                          refine r_iadd (v := zI (((20 * v5) + 2) + (3 * v7))) F dX9_merge_267 (zI_add _ _) ?_
                          refine lv_iconst (v := zI 1) hx hb dX9_merge_268 rfl ?_
                          refine r_iadd (v := zI ((((20 * v5) + 2) + (3 * v7)) + 1)) F dX9_merge_269 (zI_add _ _) ?_
                          refine rz_iald F hK hP 2 0 rfl rfl (by omega) (by omega) dX9_merge_270 ?_
                          have hc442 := hqp2.1.pos (((((20 * v5) + 2) + (3 * v7)) + 1)).toNat (by omega)
                          have hc443 := hqp2.1.le9 (((((20 * v5) + 2) + (3 * v7)) + 1)).toNat (by omega)
                          refine lv_iload_n hx hb dX9_merge_271 rfl (lv_at hl 6 rfl) ?_
                          refine rz_icmp_ne (tgt := 290) F (by omega) (by omega) dX9_merge_272 (by decide) (fun h272_443 => ?_) (fun h272_443 => ?_)
                          · refine lv_iinc (v := zI (v7 + 1)) (lv' := [(7, .int (zI (v7 + 1))), (6, .int (zI (20 * v5))), (5, .int (zI v5)), (0, .ref y), (1, .ref a), (2, .int (zI x)), (3, .int (zI w)), (4, .ref f)]) hx hb dX9_merge_290 hl (k := 0) rfl (zI_add _ _) (by decide) rfl (fun ls hl => ?_)
                            refine lv_goto (tgt := 229) hx hb dX9_merge_293 (by decide) ?_
                            exact ih3 (v7 + 1) gq2 _ _ (by omega) (by omega) hqp2 hmt2 (Mst.sA hms2 (by omega) hnw (by omega) ⟨by omega, by omega⟩ (Or.inr ⟨by omega, rfl⟩)) hP hD hS ls (lv_sub hl [0, 1, 2, 3, 4, 5, 6, 7] rfl)
                          · refine lv_aload hx hb dX9_merge_275 (lv_at hl 7 rfl) ?_
                            refine lv_iload hx hb dX9_merge_277 (lv_at hl 1 rfl) ?_
                            refine lv_iconst (v := zI 2) hx hb dX9_merge_279 rfl ?_
                            refine r_iadd (v := zI ((20 * v5) + 2)) F dX9_merge_280 (zI_add _ _) ?_
                            refine lv_iconst (v := zI 3) hx hb dX9_merge_281 rfl ?_
                            refine lv_iload hx hb dX9_merge_282 (lv_at hl 0 rfl) ?_
                            refine r_imul (v := zI (3 * v7)) F dX9_merge_284 (zI_mul _ _) ?_
                            refine r_iadd (v := zI (((20 * v5) + 2) + (3 * v7))) F dX9_merge_285 (zI_add _ _) ?_
                            refine lv_iconst (v := zI 1) hx hb dX9_merge_286 rfl ?_
                            refine r_iadd (v := zI ((((20 * v5) + 2) + (3 * v7)) + 1)) F dX9_merge_287 (zI_add _ _) ?_
                            refine lv_iload_n hx hb dX9_merge_288 rfl (lv_at hl 5 rfl) ?_
                            refine rz_iastG F hK hP hD hS 2 0 rfl rfl (by omega) (by omega) dX9_merge_289 (w1 := fun g445 => [(y, .inr (9, [.int (zI (i 0)), .ref (q 0), .int (zI (i 1)), .int (zI (i 2)), .int (zI (i 3)), .int (zI (i 4)), .int (zI (i 5)), .int (zI (i 6)), .int (zI (i 7)), .int (zI (i 8)), .int (zI (i 9)), .int (zI (i 10)), .ref (q 1), .int (zI (i 11)), .int (zI (i 12)), .ref (q 2), .ref (q 3), .ref (q 4), .ref (q 5), .ref (q 6), .ref (q 7), .ref (q 8), .ref (q 9), .ref (q 10), .ref (q 11), .ref (q 12), .ref (q 13), .ref (q 14), .ref (q 15), .ref (q 16), .int (zI (i 13)), .int (zI (i 14)), .int (zI (i 15)), .int (zI (i 16)), .int (zI (i 17)), .int (zI (i 18)), .ref (q 17), .ref (q 18), .ref (q 19), .ref (q 20)])), (a, .inl (cI, 200, .inl (fun k => zI (g_p k)))), (f, .inl (cI, 200, .inl (fun k => zI (g445 k))))]) (fun _ => rfl) (fun g445 e_g445 H locs hP hD hS => ?_)
                            have hqp446 : ProgOk g445 := ProgOk.tgt3 hqp2 e_g445 (i := v5) (n := v7) (by omega) (by omega) (by omega) (by omega) (j := (((20 * v5) + 2) + (3 * v7)).toNat) (by omega) (by omega)
                            have hmt447 := MT.keepA hmt2 e_g445 (i := v5) (n := v7) (by omega) (by omega) (by omega)
                            refine lv_iinc (v := zI (v7 + 1)) (lv' := [(7, .int (zI (v7 + 1))), (6, .int (zI (20 * v5))), (5, .int (zI v5)), (0, .ref y), (1, .ref a), (2, .int (zI x)), (3, .int (zI w)), (4, .ref f)]) hx hb dX9_merge_290 hl (k := 0) rfl (zI_add _ _) (by decide) rfl (fun ls hl => ?_)
                            refine lv_goto (tgt := 229) hx hb dX9_merge_293 (by decide) ?_
                            exact ih3 (v7 + 1) g445 _ _ (by omega) (by omega) hqp446 hmt447 (Mst.sA hms2 (by omega) hnw (by omega) ⟨by omega, by omega⟩ (Or.inl ⟨by omega, by omega, e_g445⟩)) hP hD hS ls (lv_sub hl [0, 1, 2, 3, 4, 5, 6, 7] rfl)
                  · refine lv_aload hx hb dX9_merge_205 (lv_at hl 6 rfl) ?_
                    refine lv_iload hx hb dX9_merge_207 (lv_at hl 0 rfl) ?_
                    refine lv_bipush (v := zI 18) hx hb dX9_merge_209 (by decide) ?_
                    refine r_iadd (v := zI ((20 * v5) + 18)) F dX9_merge_211 (zI_add _ _) ?_
                    refine rz_iald F hK hP 2 0 rfl rfl (by omega) (by omega) dX9_merge_212 ?_
                    have hc448 := hqp1.1.pos (((20 * v5) + 18)).toNat (by omega)
                    have hc449 := hqp1.1.le9 (((20 * v5) + 18)).toNat (by omega)
                    refine lv_iload_n hx hb dX9_merge_213 rfl (lv_at hl 5 rfl) ?_
                    refine rz_icmp_ne (tgt := 226) F (by omega) (by omega) dX9_merge_214 (by decide) (fun h214_449 => ?_) (fun h214_449 => ?_)
                    · refine lv_iconst (v := zI 0) hx hb dX9_merge_226 rfl ?_
                      have hms8 : Mst g_p x w (i 13) gq1 v5 (3 + 0) := Mst.s18 hms6 (by omega) hnw (by omega) (Or.inr ⟨by omega, rfl⟩)
                      refine lv_istore (lv' := [(7, .int (zI 0)), (6, .int (zI (20 * v5))), (5, .int (zI v5)), (0, .ref y), (1, .ref a), (2, .int (zI x)), (3, .int (zI w)), (4, .ref f)]) hx hb dX9_merge_227 hl (by decide) rfl (fun ls hl => ?_)
                      refine W.widen (k := 0) (n := 0) (Nat.le_of_ble_eq_true rfl) (Nat.le_of_ble_eq_true rfl) ?_
                      refine (?_ : ∀ (n9_3 : Nat) (v7 : Int) (gq2 : Nat → Int) (H : Heap) (locs : List Loc), (0 ≤ v7 ∧ v7 ≤ 4) → (4 - v7 : Int).toNat < n9_3 → (ProgOk gq2) → (MT g_p gq2 w) → (Mst g_p x w (i 13) gq2 v5 (3 + v7)) → va_P G vwCl [(y, .inr (9, [.int (zI (i 0)), .ref (q 0), .int (zI (i 1)), .int (zI (i 2)), .int (zI (i 3)), .int (zI (i 4)), .int (zI (i 5)), .int (zI (i 6)), .int (zI (i 7)), .int (zI (i 8)), .int (zI (i 9)), .int (zI (i 10)), .ref (q 1), .int (zI (i 11)), .int (zI (i 12)), .ref (q 2), .ref (q 3), .ref (q 4), .ref (q 5), .ref (q 6), .ref (q 7), .ref (q 8), .ref (q 9), .ref (q 10), .ref (q 11), .ref (q 12), .ref (q 13), .ref (q 14), .ref (q 15), .ref (q 16), .int (zI (i 13)), .int (zI (i 14)), .int (zI (i 15)), .int (zI (i 16)), .int (zI (i 17)), .int (zI (i 18)), .ref (q 17), .ref (q 18), .ref (q 19), .ref (q 20)])), (a, .inl (cI, 200, .inl (fun k => zI (g_p k)))), (f, .inl (cI, 200, .inl (fun k => zI (gq2 k))))] H → va_D A [(y, .inr (9, [.int (zI (i 0)), .ref (q 0), .int (zI (i 1)), .int (zI (i 2)), .int (zI (i 3)), .int (zI (i 4)), .int (zI (i 5)), .int (zI (i 6)), .int (zI (i 7)), .int (zI (i 8)), .int (zI (i 9)), .int (zI (i 10)), .ref (q 1), .int (zI (i 11)), .int (zI (i 12)), .ref (q 2), .ref (q 3), .ref (q 4), .ref (q 5), .ref (q 6), .ref (q 7), .ref (q 8), .ref (q 9), .ref (q 10), .ref (q 11), .ref (q 12), .ref (q 13), .ref (q 14), .ref (q 15), .ref (q 16), .int (zI (i 13)), .int (zI (i 14)), .int (zI (i 15)), .int (zI (i 16)), .int (zI (i 17)), .int (zI (i 18)), .ref (q 17), .ref (q 18), .ref (q 19), .ref (q 20)])), (a, .inl (cI, 200, .inl (fun k => zI (g_p k)))), (f, .inl (cI, 200, .inl (fun k => zI (gq2 k))))] → va_S A s.heap H locs → ∀ ls : Array Slot, lv_has ls 8 [(7, .int (zI v7)), (6, .int (zI (20 * v5))), (5, .int (zI v5)), (0, .ref y), (1, .ref a), (2, .int (zI x)), (3, .int (zI w)), (4, .ref f)] → W p l e rm_X9_mergeX s m ([.ref y, .ref a, .int (zI x), .int (zI w), .ref f] : List Value).toArray below meth c H locs 0 0 Q (F0 m 229 ls [])) ((4 - 0 : Int).toNat + 1) 0 gq1 _ _ (by omega) (by omega) hqp1 hmt1 hms8 hP hD hS ls hl
                      clear hP hD hS hl ls
                      intro n9_3
                      induction n9_3 with
                      | zero =>
                        intro v7 gq2 H locs hI hM
                        exact absurd hM (by omega)
                      | succ n9_3 ih3 =>
                        intro v7 gq2 H locs hI3 hM3 hqp2 hmt2 hms2 hP hD hS ls hl
                        refine lv_iload hx hb dX9_merge_229 (lv_at hl 0 rfl) ?_
                        refine lv_aload hx hb dX9_merge_231 (lv_at hl 7 rfl) ?_
                        refine lv_iload hx hb dX9_merge_233 (lv_at hl 1 rfl) ?_
                        refine lv_iconst (v := zI 1) hx hb dX9_merge_235 rfl ?_
                        refine r_iadd (v := zI ((20 * v5) + 1)) F dX9_merge_236 (zI_add _ _) ?_
                        refine rz_iald F hK hP 2 0 rfl rfl (by omega) (by omega) dX9_merge_237 ?_
                        have hpl451 : 0 ≤ (gq2 (((20 * v5) + 1)).toNat) ∧ (gq2 (((20 * v5) + 1)).toNat) ≤ 4 := ProgR.at hqp2.1 (e := ((20 * v5) + 1)) v5 1 (by omega) (by omega) (by decide) rfl
                        refine rz_icmp_ge (tgt := 296) F (by omega) (by omega) dX9_merge_238 (by decide) (fun h238_451 => ?_) (fun h238_451 => ?_)
                        · refine lv_iinc (v := zI (v5 + 1)) (lv' := [(5, .int (zI (v5 + 1))), (7, .int (zI v7)), (6, .int (zI (20 * v5))), (0, .ref y), (1, .ref a), (2, .int (zI x)), (3, .int (zI w)), (4, .ref f)]) hx hb dX9_merge_296 hl (k := 2) rfl (zI_add _ _) (by decide) rfl (fun ls hl => ?_)
                          refine lv_goto (tgt := 132) hx hb dX9_merge_299 (by decide) ?_
                          exact ih2 (v5 + 1) gq2 _ _ (by omega) (by omega) hqp2 hmt2 (Mst.fin hms2 (by omega) hnw ⟨by omega, by omega⟩) hP hD hS ls (lv_sub hl [0, 3, 4, 5, 6, 7] rfl)
                        · refine lv_aload hx hb dX9_merge_241 (lv_at hl 7 rfl) ?_
                          refine lv_iload hx hb dX9_merge_243 (lv_at hl 1 rfl) ?_
                          refine lv_iconst (v := zI 2) hx hb dX9_merge_245 rfl ?_
                          refine r_iadd (v := zI ((20 * v5) + 2)) F dX9_merge_246 (zI_add _ _) ?_
                          refine lv_iconst (v := zI 3) hx hb dX9_merge_247 rfl ?_
                          refine lv_iload hx hb dX9_merge_248 (lv_at hl 0 rfl) ?_
                          refine r_imul (v := zI (3 * v7)) F dX9_merge_250 (zI_mul _ _) ?_
                          refine r_iadd (v := zI (((20 * v5) + 2) + (3 * v7))) F dX9_merge_251 (zI_add _ _) ?_
                          refine rz_iald F hK hP 2 0 rfl rfl (by omega) (by omega) dX9_merge_252 ?_
                          have hc453 := ProgOk.act hqp2 (i := v5) (n := v7) (k := (((20 * v5) + 2) + (3 * v7))) (by omega) (by omega) (by omega)
                          refine lv_iconst (v := zI 3) hx hb dX9_merge_253 rfl ?_
                          refine rz_icmp_ne (tgt := 290) F (by omega) (by omega) dX9_merge_254 (by decide) (fun h254_453 => ?_) (fun h254_453 => ?_)
                          · refine lv_iinc (v := zI (v7 + 1)) (lv' := [(7, .int (zI (v7 + 1))), (6, .int (zI (20 * v5))), (5, .int (zI v5)), (0, .ref y), (1, .ref a), (2, .int (zI x)), (3, .int (zI w)), (4, .ref f)]) hx hb dX9_merge_290 hl (k := 0) rfl (zI_add _ _) (by decide) rfl (fun ls hl => ?_)
                            refine lv_goto (tgt := 229) hx hb dX9_merge_293 (by decide) ?_
                            exact ih3 (v7 + 1) gq2 _ _ (by omega) (by omega) hqp2 hmt2 (Mst.sA hms2 (by omega) hnw (by omega) ⟨by omega, by omega⟩ (Or.inr ⟨by omega, rfl⟩)) hP hD hS ls (lv_sub hl [0, 1, 2, 3, 4, 5, 6, 7] rfl)
                          · refine lv_aload hx hb dX9_merge_257 (lv_at hl 7 rfl) ?_
                            refine lv_iload hx hb dX9_merge_259 (lv_at hl 1 rfl) ?_
                            refine lv_iconst (v := zI 2) hx hb dX9_merge_261 rfl ?_
                            refine r_iadd (v := zI ((20 * v5) + 2)) F dX9_merge_262 (zI_add _ _) ?_
                            refine lv_iconst (v := zI 3) hx hb dX9_merge_263 rfl ?_
                            refine lv_iload hx hb dX9_merge_264 (lv_at hl 0 rfl) ?_
                            refine r_imul (v := zI (3 * v7)) F dX9_merge_266 (zI_mul _ _) ?_
                            refine r_iadd (v := zI (((20 * v5) + 2) + (3 * v7))) F dX9_merge_267 (zI_add _ _) ?_
                            refine lv_iconst (v := zI 1) hx hb dX9_merge_268 rfl ?_
                            refine r_iadd (v := zI ((((20 * v5) + 2) + (3 * v7)) + 1)) F dX9_merge_269 (zI_add _ _) ?_
                            refine rz_iald F hK hP 2 0 rfl rfl (by omega) (by omega) dX9_merge_270 ?_
                            have hc455 := hqp2.1.pos (((((20 * v5) + 2) + (3 * v7)) + 1)).toNat (by omega)
                            have hc456 := hqp2.1.le9 (((((20 * v5) + 2) + (3 * v7)) + 1)).toNat (by omega)
                            refine lv_iload_n hx hb dX9_merge_271 rfl (lv_at hl 6 rfl) ?_
                            refine rz_icmp_ne (tgt := 290) F (by omega) (by omega) dX9_merge_272 (by decide) (fun h272_456 => ?_) (fun h272_456 => ?_)
                            · refine lv_iinc (v := zI (v7 + 1)) (lv' := [(7, .int (zI (v7 + 1))), (6, .int (zI (20 * v5))), (5, .int (zI v5)), (0, .ref y), (1, .ref a), (2, .int (zI x)), (3, .int (zI w)), (4, .ref f)]) hx hb dX9_merge_290 hl (k := 0) rfl (zI_add _ _) (by decide) rfl (fun ls hl => ?_)
                              refine lv_goto (tgt := 229) hx hb dX9_merge_293 (by decide) ?_
                              exact ih3 (v7 + 1) gq2 _ _ (by omega) (by omega) hqp2 hmt2 (Mst.sA hms2 (by omega) hnw (by omega) ⟨by omega, by omega⟩ (Or.inr ⟨by omega, rfl⟩)) hP hD hS ls (lv_sub hl [0, 1, 2, 3, 4, 5, 6, 7] rfl)
                            · refine lv_aload hx hb dX9_merge_275 (lv_at hl 7 rfl) ?_
                              refine lv_iload hx hb dX9_merge_277 (lv_at hl 1 rfl) ?_
                              refine lv_iconst (v := zI 2) hx hb dX9_merge_279 rfl ?_
                              refine r_iadd (v := zI ((20 * v5) + 2)) F dX9_merge_280 (zI_add _ _) ?_
                              refine lv_iconst (v := zI 3) hx hb dX9_merge_281 rfl ?_
                              refine lv_iload hx hb dX9_merge_282 (lv_at hl 0 rfl) ?_
                              refine r_imul (v := zI (3 * v7)) F dX9_merge_284 (zI_mul _ _) ?_
                              refine r_iadd (v := zI (((20 * v5) + 2) + (3 * v7))) F dX9_merge_285 (zI_add _ _) ?_
                              refine lv_iconst (v := zI 1) hx hb dX9_merge_286 rfl ?_
                              refine r_iadd (v := zI ((((20 * v5) + 2) + (3 * v7)) + 1)) F dX9_merge_287 (zI_add _ _) ?_
                              refine lv_iload_n hx hb dX9_merge_288 rfl (lv_at hl 5 rfl) ?_
                              refine rz_iastG F hK hP hD hS 2 0 rfl rfl (by omega) (by omega) dX9_merge_289 (w1 := fun g458 => [(y, .inr (9, [.int (zI (i 0)), .ref (q 0), .int (zI (i 1)), .int (zI (i 2)), .int (zI (i 3)), .int (zI (i 4)), .int (zI (i 5)), .int (zI (i 6)), .int (zI (i 7)), .int (zI (i 8)), .int (zI (i 9)), .int (zI (i 10)), .ref (q 1), .int (zI (i 11)), .int (zI (i 12)), .ref (q 2), .ref (q 3), .ref (q 4), .ref (q 5), .ref (q 6), .ref (q 7), .ref (q 8), .ref (q 9), .ref (q 10), .ref (q 11), .ref (q 12), .ref (q 13), .ref (q 14), .ref (q 15), .ref (q 16), .int (zI (i 13)), .int (zI (i 14)), .int (zI (i 15)), .int (zI (i 16)), .int (zI (i 17)), .int (zI (i 18)), .ref (q 17), .ref (q 18), .ref (q 19), .ref (q 20)])), (a, .inl (cI, 200, .inl (fun k => zI (g_p k)))), (f, .inl (cI, 200, .inl (fun k => zI (g458 k))))]) (fun _ => rfl) (fun g458 e_g458 H locs hP hD hS => ?_)
                              have hqp459 : ProgOk g458 := ProgOk.tgt3 hqp2 e_g458 (i := v5) (n := v7) (by omega) (by omega) (by omega) (by omega) (j := (((20 * v5) + 2) + (3 * v7)).toNat) (by omega) (by omega)
                              have hmt460 := MT.keepA hmt2 e_g458 (i := v5) (n := v7) (by omega) (by omega) (by omega)
                              refine lv_iinc (v := zI (v7 + 1)) (lv' := [(7, .int (zI (v7 + 1))), (6, .int (zI (20 * v5))), (5, .int (zI v5)), (0, .ref y), (1, .ref a), (2, .int (zI x)), (3, .int (zI w)), (4, .ref f)]) hx hb dX9_merge_290 hl (k := 0) rfl (zI_add _ _) (by decide) rfl (fun ls hl => ?_)
                              refine lv_goto (tgt := 229) hx hb dX9_merge_293 (by decide) ?_
                              exact ih3 (v7 + 1) g458 _ _ (by omega) (by omega) hqp459 hmt460 (Mst.sA hms2 (by omega) hnw (by omega) ⟨by omega, by omega⟩ (Or.inl ⟨by omega, by omega, e_g458⟩)) hP hD hS ls (lv_sub hl [0, 1, 2, 3, 4, 5, 6, 7] rfl)
                    · refine lv_aload hx hb dX9_merge_217 (lv_at hl 6 rfl) ?_
                      refine lv_iload hx hb dX9_merge_219 (lv_at hl 0 rfl) ?_
                      refine lv_bipush (v := zI 18) hx hb dX9_merge_221 (by decide) ?_
                      refine r_iadd (v := zI ((20 * v5) + 18)) F dX9_merge_223 (zI_add _ _) ?_
                      refine lv_iload_n hx hb dX9_merge_224 rfl (lv_at hl 4 rfl) ?_
                      refine rz_iastG F hK hP hD hS 2 0 rfl rfl (by omega) (by omega) dX9_merge_225 (w1 := fun g461 => [(y, .inr (9, [.int (zI (i 0)), .ref (q 0), .int (zI (i 1)), .int (zI (i 2)), .int (zI (i 3)), .int (zI (i 4)), .int (zI (i 5)), .int (zI (i 6)), .int (zI (i 7)), .int (zI (i 8)), .int (zI (i 9)), .int (zI (i 10)), .ref (q 1), .int (zI (i 11)), .int (zI (i 12)), .ref (q 2), .ref (q 3), .ref (q 4), .ref (q 5), .ref (q 6), .ref (q 7), .ref (q 8), .ref (q 9), .ref (q 10), .ref (q 11), .ref (q 12), .ref (q 13), .ref (q 14), .ref (q 15), .ref (q 16), .int (zI (i 13)), .int (zI (i 14)), .int (zI (i 15)), .int (zI (i 16)), .int (zI (i 17)), .int (zI (i 18)), .ref (q 17), .ref (q 18), .ref (q 19), .ref (q 20)])), (a, .inl (cI, 200, .inl (fun k => zI (g_p k)))), (f, .inl (cI, 200, .inl (fun k => zI (g461 k))))]) (fun _ => rfl) (fun g461 e_g461 H locs hP hD hS => ?_)
                      have hqp462 : ProgOk g461 := ⟨hqp1.1.set (m := 9) e_g461 18 (by omega) rfl (by omega), hqp1.2.set e_g461 (by omega)⟩
                      have hmt463 := hmt1.keep e_g461 (by omega)
                      refine lv_iconst (v := zI 0) hx hb dX9_merge_226 rfl ?_
                      have hms8 : Mst g_p x w (i 13) g461 v5 (3 + 0) := Mst.s18 hms6 (by omega) hnw (by omega) (Or.inl ⟨by omega, by omega, e_g461⟩)
                      refine lv_istore (lv' := [(7, .int (zI 0)), (6, .int (zI (20 * v5))), (5, .int (zI v5)), (0, .ref y), (1, .ref a), (2, .int (zI x)), (3, .int (zI w)), (4, .ref f)]) hx hb dX9_merge_227 hl (by decide) rfl (fun ls hl => ?_)
                      refine W.widen (k := 0) (n := 0) (Nat.le_of_ble_eq_true rfl) (Nat.le_of_ble_eq_true rfl) ?_
                      refine (?_ : ∀ (n9_3 : Nat) (v7 : Int) (gq2 : Nat → Int) (H : Heap) (locs : List Loc), (0 ≤ v7 ∧ v7 ≤ 4) → (4 - v7 : Int).toNat < n9_3 → (ProgOk gq2) → (MT g_p gq2 w) → (Mst g_p x w (i 13) gq2 v5 (3 + v7)) → va_P G vwCl [(y, .inr (9, [.int (zI (i 0)), .ref (q 0), .int (zI (i 1)), .int (zI (i 2)), .int (zI (i 3)), .int (zI (i 4)), .int (zI (i 5)), .int (zI (i 6)), .int (zI (i 7)), .int (zI (i 8)), .int (zI (i 9)), .int (zI (i 10)), .ref (q 1), .int (zI (i 11)), .int (zI (i 12)), .ref (q 2), .ref (q 3), .ref (q 4), .ref (q 5), .ref (q 6), .ref (q 7), .ref (q 8), .ref (q 9), .ref (q 10), .ref (q 11), .ref (q 12), .ref (q 13), .ref (q 14), .ref (q 15), .ref (q 16), .int (zI (i 13)), .int (zI (i 14)), .int (zI (i 15)), .int (zI (i 16)), .int (zI (i 17)), .int (zI (i 18)), .ref (q 17), .ref (q 18), .ref (q 19), .ref (q 20)])), (a, .inl (cI, 200, .inl (fun k => zI (g_p k)))), (f, .inl (cI, 200, .inl (fun k => zI (gq2 k))))] H → va_D A [(y, .inr (9, [.int (zI (i 0)), .ref (q 0), .int (zI (i 1)), .int (zI (i 2)), .int (zI (i 3)), .int (zI (i 4)), .int (zI (i 5)), .int (zI (i 6)), .int (zI (i 7)), .int (zI (i 8)), .int (zI (i 9)), .int (zI (i 10)), .ref (q 1), .int (zI (i 11)), .int (zI (i 12)), .ref (q 2), .ref (q 3), .ref (q 4), .ref (q 5), .ref (q 6), .ref (q 7), .ref (q 8), .ref (q 9), .ref (q 10), .ref (q 11), .ref (q 12), .ref (q 13), .ref (q 14), .ref (q 15), .ref (q 16), .int (zI (i 13)), .int (zI (i 14)), .int (zI (i 15)), .int (zI (i 16)), .int (zI (i 17)), .int (zI (i 18)), .ref (q 17), .ref (q 18), .ref (q 19), .ref (q 20)])), (a, .inl (cI, 200, .inl (fun k => zI (g_p k)))), (f, .inl (cI, 200, .inl (fun k => zI (gq2 k))))] → va_S A s.heap H locs → ∀ ls : Array Slot, lv_has ls 8 [(7, .int (zI v7)), (6, .int (zI (20 * v5))), (5, .int (zI v5)), (0, .ref y), (1, .ref a), (2, .int (zI x)), (3, .int (zI w)), (4, .ref f)] → W p l e rm_X9_mergeX s m ([.ref y, .ref a, .int (zI x), .int (zI w), .ref f] : List Value).toArray below meth c H locs 0 0 Q (F0 m 229 ls [])) ((4 - 0 : Int).toNat + 1) 0 g461 _ _ (by omega) (by omega) hqp462 hmt463 hms8 hP hD hS ls hl
                      clear hP hD hS hl ls
                      intro n9_3
                      induction n9_3 with
                      | zero =>
                        intro v7 gq2 H locs hI hM
                        exact absurd hM (by omega)
                      | succ n9_3 ih3 =>
                        intro v7 gq2 H locs hI3 hM3 hqp2 hmt2 hms2 hP hD hS ls hl
                        refine lv_iload hx hb dX9_merge_229 (lv_at hl 0 rfl) ?_
                        refine lv_aload hx hb dX9_merge_231 (lv_at hl 7 rfl) ?_
                        refine lv_iload hx hb dX9_merge_233 (lv_at hl 1 rfl) ?_
                        refine lv_iconst (v := zI 1) hx hb dX9_merge_235 rfl ?_
                        refine r_iadd (v := zI ((20 * v5) + 1)) F dX9_merge_236 (zI_add _ _) ?_
                        refine rz_iald F hK hP 2 0 rfl rfl (by omega) (by omega) dX9_merge_237 ?_
                        have hpl464 : 0 ≤ (gq2 (((20 * v5) + 1)).toNat) ∧ (gq2 (((20 * v5) + 1)).toNat) ≤ 4 := ProgR.at hqp2.1 (e := ((20 * v5) + 1)) v5 1 (by omega) (by omega) (by decide) rfl
                        refine rz_icmp_ge (tgt := 296) F (by omega) (by omega) dX9_merge_238 (by decide) (fun h238_464 => ?_) (fun h238_464 => ?_)
                        · refine lv_iinc (v := zI (v5 + 1)) (lv' := [(5, .int (zI (v5 + 1))), (7, .int (zI v7)), (6, .int (zI (20 * v5))), (0, .ref y), (1, .ref a), (2, .int (zI x)), (3, .int (zI w)), (4, .ref f)]) hx hb dX9_merge_296 hl (k := 2) rfl (zI_add _ _) (by decide) rfl (fun ls hl => ?_)
                          refine lv_goto (tgt := 132) hx hb dX9_merge_299 (by decide) ?_
                          exact ih2 (v5 + 1) gq2 _ _ (by omega) (by omega) hqp2 hmt2 (Mst.fin hms2 (by omega) hnw ⟨by omega, by omega⟩) hP hD hS ls (lv_sub hl [0, 3, 4, 5, 6, 7] rfl)
                        · refine lv_aload hx hb dX9_merge_241 (lv_at hl 7 rfl) ?_
                          refine lv_iload hx hb dX9_merge_243 (lv_at hl 1 rfl) ?_
                          refine lv_iconst (v := zI 2) hx hb dX9_merge_245 rfl ?_
                          refine r_iadd (v := zI ((20 * v5) + 2)) F dX9_merge_246 (zI_add _ _) ?_
                          refine lv_iconst (v := zI 3) hx hb dX9_merge_247 rfl ?_
                          refine lv_iload hx hb dX9_merge_248 (lv_at hl 0 rfl) ?_
                          refine r_imul (v := zI (3 * v7)) F dX9_merge_250 (zI_mul _ _) ?_
                          refine r_iadd (v := zI (((20 * v5) + 2) + (3 * v7))) F dX9_merge_251 (zI_add _ _) ?_
                          refine rz_iald F hK hP 2 0 rfl rfl (by omega) (by omega) dX9_merge_252 ?_
                          have hc466 := ProgOk.act hqp2 (i := v5) (n := v7) (k := (((20 * v5) + 2) + (3 * v7))) (by omega) (by omega) (by omega)
                          refine lv_iconst (v := zI 3) hx hb dX9_merge_253 rfl ?_
                          refine rz_icmp_ne (tgt := 290) F (by omega) (by omega) dX9_merge_254 (by decide) (fun h254_466 => ?_) (fun h254_466 => ?_)
                          · refine lv_iinc (v := zI (v7 + 1)) (lv' := [(7, .int (zI (v7 + 1))), (6, .int (zI (20 * v5))), (5, .int (zI v5)), (0, .ref y), (1, .ref a), (2, .int (zI x)), (3, .int (zI w)), (4, .ref f)]) hx hb dX9_merge_290 hl (k := 0) rfl (zI_add _ _) (by decide) rfl (fun ls hl => ?_)
                            refine lv_goto (tgt := 229) hx hb dX9_merge_293 (by decide) ?_
                            exact ih3 (v7 + 1) gq2 _ _ (by omega) (by omega) hqp2 hmt2 (Mst.sA hms2 (by omega) hnw (by omega) ⟨by omega, by omega⟩ (Or.inr ⟨by omega, rfl⟩)) hP hD hS ls (lv_sub hl [0, 1, 2, 3, 4, 5, 6, 7] rfl)
                          · refine lv_aload hx hb dX9_merge_257 (lv_at hl 7 rfl) ?_
                            refine lv_iload hx hb dX9_merge_259 (lv_at hl 1 rfl) ?_
                            refine lv_iconst (v := zI 2) hx hb dX9_merge_261 rfl ?_
                            refine r_iadd (v := zI ((20 * v5) + 2)) F dX9_merge_262 (zI_add _ _) ?_
                            refine lv_iconst (v := zI 3) hx hb dX9_merge_263 rfl ?_
                            refine lv_iload hx hb dX9_merge_264 (lv_at hl 0 rfl) ?_
                            refine r_imul (v := zI (3 * v7)) F dX9_merge_266 (zI_mul _ _) ?_
                            refine r_iadd (v := zI (((20 * v5) + 2) + (3 * v7))) F dX9_merge_267 (zI_add _ _) ?_
                            refine lv_iconst (v := zI 1) hx hb dX9_merge_268 rfl ?_
                            refine r_iadd (v := zI ((((20 * v5) + 2) + (3 * v7)) + 1)) F dX9_merge_269 (zI_add _ _) ?_
                            refine rz_iald F hK hP 2 0 rfl rfl (by omega) (by omega) dX9_merge_270 ?_
                            have hc468 := hqp2.1.pos (((((20 * v5) + 2) + (3 * v7)) + 1)).toNat (by omega)
                            have hc469 := hqp2.1.le9 (((((20 * v5) + 2) + (3 * v7)) + 1)).toNat (by omega)
                            refine lv_iload_n hx hb dX9_merge_271 rfl (lv_at hl 6 rfl) ?_
                            refine rz_icmp_ne (tgt := 290) F (by omega) (by omega) dX9_merge_272 (by decide) (fun h272_469 => ?_) (fun h272_469 => ?_)
                            · refine lv_iinc (v := zI (v7 + 1)) (lv' := [(7, .int (zI (v7 + 1))), (6, .int (zI (20 * v5))), (5, .int (zI v5)), (0, .ref y), (1, .ref a), (2, .int (zI x)), (3, .int (zI w)), (4, .ref f)]) hx hb dX9_merge_290 hl (k := 0) rfl (zI_add _ _) (by decide) rfl (fun ls hl => ?_)
                              refine lv_goto (tgt := 229) hx hb dX9_merge_293 (by decide) ?_
                              exact ih3 (v7 + 1) gq2 _ _ (by omega) (by omega) hqp2 hmt2 (Mst.sA hms2 (by omega) hnw (by omega) ⟨by omega, by omega⟩ (Or.inr ⟨by omega, rfl⟩)) hP hD hS ls (lv_sub hl [0, 1, 2, 3, 4, 5, 6, 7] rfl)
                            · refine lv_aload hx hb dX9_merge_275 (lv_at hl 7 rfl) ?_
                              refine lv_iload hx hb dX9_merge_277 (lv_at hl 1 rfl) ?_
                              refine lv_iconst (v := zI 2) hx hb dX9_merge_279 rfl ?_
                              refine r_iadd (v := zI ((20 * v5) + 2)) F dX9_merge_280 (zI_add _ _) ?_
                              refine lv_iconst (v := zI 3) hx hb dX9_merge_281 rfl ?_
                              refine lv_iload hx hb dX9_merge_282 (lv_at hl 0 rfl) ?_
                              refine r_imul (v := zI (3 * v7)) F dX9_merge_284 (zI_mul _ _) ?_
                              refine r_iadd (v := zI (((20 * v5) + 2) + (3 * v7))) F dX9_merge_285 (zI_add _ _) ?_
                              refine lv_iconst (v := zI 1) hx hb dX9_merge_286 rfl ?_
                              refine r_iadd (v := zI ((((20 * v5) + 2) + (3 * v7)) + 1)) F dX9_merge_287 (zI_add _ _) ?_
                              refine lv_iload_n hx hb dX9_merge_288 rfl (lv_at hl 5 rfl) ?_
                              refine rz_iastG F hK hP hD hS 2 0 rfl rfl (by omega) (by omega) dX9_merge_289 (w1 := fun g471 => [(y, .inr (9, [.int (zI (i 0)), .ref (q 0), .int (zI (i 1)), .int (zI (i 2)), .int (zI (i 3)), .int (zI (i 4)), .int (zI (i 5)), .int (zI (i 6)), .int (zI (i 7)), .int (zI (i 8)), .int (zI (i 9)), .int (zI (i 10)), .ref (q 1), .int (zI (i 11)), .int (zI (i 12)), .ref (q 2), .ref (q 3), .ref (q 4), .ref (q 5), .ref (q 6), .ref (q 7), .ref (q 8), .ref (q 9), .ref (q 10), .ref (q 11), .ref (q 12), .ref (q 13), .ref (q 14), .ref (q 15), .ref (q 16), .int (zI (i 13)), .int (zI (i 14)), .int (zI (i 15)), .int (zI (i 16)), .int (zI (i 17)), .int (zI (i 18)), .ref (q 17), .ref (q 18), .ref (q 19), .ref (q 20)])), (a, .inl (cI, 200, .inl (fun k => zI (g_p k)))), (f, .inl (cI, 200, .inl (fun k => zI (g471 k))))]) (fun _ => rfl) (fun g471 e_g471 H locs hP hD hS => ?_)
                              have hqp472 : ProgOk g471 := ProgOk.tgt3 hqp2 e_g471 (i := v5) (n := v7) (by omega) (by omega) (by omega) (by omega) (j := (((20 * v5) + 2) + (3 * v7)).toNat) (by omega) (by omega)
                              have hmt473 := MT.keepA hmt2 e_g471 (i := v5) (n := v7) (by omega) (by omega) (by omega)
                              refine lv_iinc (v := zI (v7 + 1)) (lv' := [(7, .int (zI (v7 + 1))), (6, .int (zI (20 * v5))), (5, .int (zI v5)), (0, .ref y), (1, .ref a), (2, .int (zI x)), (3, .int (zI w)), (4, .ref f)]) hx hb dX9_merge_290 hl (k := 0) rfl (zI_add _ _) (by decide) rfl (fun ls hl => ?_)
                              refine lv_goto (tgt := 229) hx hb dX9_merge_293 (by decide) ?_
                              exact ih3 (v7 + 1) g471 _ _ (by omega) (by omega) hqp472 hmt473 (Mst.sA hms2 (by omega) hnw (by omega) ⟨by omega, by omega⟩ (Or.inl ⟨by omega, by omega, e_g471⟩)) hP hD hS ls (lv_sub hl [0, 1, 2, 3, 4, 5, 6, 7] rfl)
                · refine lv_aload hx hb dX9_merge_172 (lv_at hl 6 rfl) ?_
                  refine lv_iload hx hb dX9_merge_174 (lv_at hl 0 rfl) ?_
                  refine lv_bipush (v := zI 16) hx hb dX9_merge_176 (by decide) ?_
                  refine r_iadd (v := zI ((20 * v5) + 16)) F dX9_merge_178 (zI_add _ _) ?_
                  refine rz_iald F hK hP 2 0 rfl rfl (by omega) (by omega) dX9_merge_179 ?_
                  have hc474 := hqp1.1.pos (((20 * v5) + 16)).toNat (by omega)
                  have hc475 := hqp1.1.le9 (((20 * v5) + 16)).toNat (by omega)
                  refine lv_iload_n hx hb dX9_merge_180 rfl (lv_at hl 5 rfl) ?_
                  refine rz_icmp_ne (tgt := 193) F (by omega) (by omega) dX9_merge_181 (by decide) (fun h181_475 => ?_) (fun h181_475 => ?_)
                  · refine lv_aload hx hb dX9_merge_193 (lv_at hl 6 rfl) ?_
                    have hms6 : Mst g_p x w (i 13) gq1 v5 1 := Mst.s16 hms1 (by omega) hnw (by omega) (Or.inr ⟨by omega, rfl⟩)
                    refine lv_iload hx hb dX9_merge_195 (lv_at hl 0 rfl) ?_
                    refine lv_bipush (v := zI 14) hx hb dX9_merge_197 (by decide) ?_
                    refine r_iadd (v := zI ((20 * v5) + 14)) F dX9_merge_199 (zI_add _ _) ?_
                    refine rz_iald F hK hP 2 0 rfl rfl (by omega) (by omega) dX9_merge_200 ?_
                    have hc477 := hqp1.1.pos (((20 * v5) + 14)).toNat (by omega)
                    have hc478 := hqp1.1.le9 (((20 * v5) + 14)).toNat (by omega)
                    refine lv_iconst (v := zI 2) hx hb dX9_merge_201 rfl ?_
                    refine rz_icmp_ne (tgt := 226) F (by omega) (by omega) dX9_merge_202 (by decide) (fun h202_478 => ?_) (fun h202_478 => ?_)
                    · refine lv_iconst (v := zI 0) hx hb dX9_merge_226 rfl ?_
                      have hms8 : Mst g_p x w (i 13) gq1 v5 (3 + 0) := Mst.s18 hms6 (by omega) hnw (by omega) (Or.inr ⟨by omega, rfl⟩)
                      refine lv_istore (lv' := [(7, .int (zI 0)), (6, .int (zI (20 * v5))), (5, .int (zI v5)), (0, .ref y), (1, .ref a), (2, .int (zI x)), (3, .int (zI w)), (4, .ref f)]) hx hb dX9_merge_227 hl (by decide) rfl (fun ls hl => ?_)
                      refine W.widen (k := 0) (n := 0) (Nat.le_of_ble_eq_true rfl) (Nat.le_of_ble_eq_true rfl) ?_
                      refine (?_ : ∀ (n9_3 : Nat) (v7 : Int) (gq2 : Nat → Int) (H : Heap) (locs : List Loc), (0 ≤ v7 ∧ v7 ≤ 4) → (4 - v7 : Int).toNat < n9_3 → (ProgOk gq2) → (MT g_p gq2 w) → (Mst g_p x w (i 13) gq2 v5 (3 + v7)) → va_P G vwCl [(y, .inr (9, [.int (zI (i 0)), .ref (q 0), .int (zI (i 1)), .int (zI (i 2)), .int (zI (i 3)), .int (zI (i 4)), .int (zI (i 5)), .int (zI (i 6)), .int (zI (i 7)), .int (zI (i 8)), .int (zI (i 9)), .int (zI (i 10)), .ref (q 1), .int (zI (i 11)), .int (zI (i 12)), .ref (q 2), .ref (q 3), .ref (q 4), .ref (q 5), .ref (q 6), .ref (q 7), .ref (q 8), .ref (q 9), .ref (q 10), .ref (q 11), .ref (q 12), .ref (q 13), .ref (q 14), .ref (q 15), .ref (q 16), .int (zI (i 13)), .int (zI (i 14)), .int (zI (i 15)), .int (zI (i 16)), .int (zI (i 17)), .int (zI (i 18)), .ref (q 17), .ref (q 18), .ref (q 19), .ref (q 20)])), (a, .inl (cI, 200, .inl (fun k => zI (g_p k)))), (f, .inl (cI, 200, .inl (fun k => zI (gq2 k))))] H → va_D A [(y, .inr (9, [.int (zI (i 0)), .ref (q 0), .int (zI (i 1)), .int (zI (i 2)), .int (zI (i 3)), .int (zI (i 4)), .int (zI (i 5)), .int (zI (i 6)), .int (zI (i 7)), .int (zI (i 8)), .int (zI (i 9)), .int (zI (i 10)), .ref (q 1), .int (zI (i 11)), .int (zI (i 12)), .ref (q 2), .ref (q 3), .ref (q 4), .ref (q 5), .ref (q 6), .ref (q 7), .ref (q 8), .ref (q 9), .ref (q 10), .ref (q 11), .ref (q 12), .ref (q 13), .ref (q 14), .ref (q 15), .ref (q 16), .int (zI (i 13)), .int (zI (i 14)), .int (zI (i 15)), .int (zI (i 16)), .int (zI (i 17)), .int (zI (i 18)), .ref (q 17), .ref (q 18), .ref (q 19), .ref (q 20)])), (a, .inl (cI, 200, .inl (fun k => zI (g_p k)))), (f, .inl (cI, 200, .inl (fun k => zI (gq2 k))))] → va_S A s.heap H locs → ∀ ls : Array Slot, lv_has ls 8 [(7, .int (zI v7)), (6, .int (zI (20 * v5))), (5, .int (zI v5)), (0, .ref y), (1, .ref a), (2, .int (zI x)), (3, .int (zI w)), (4, .ref f)] → W p l e rm_X9_mergeX s m ([.ref y, .ref a, .int (zI x), .int (zI w), .ref f] : List Value).toArray below meth c H locs 0 0 Q (F0 m 229 ls [])) ((4 - 0 : Int).toNat + 1) 0 gq1 _ _ (by omega) (by omega) hqp1 hmt1 hms8 hP hD hS ls hl
                      clear hP hD hS hl ls
                      intro n9_3
                      induction n9_3 with
                      | zero =>
                        intro v7 gq2 H locs hI hM
                        exact absurd hM (by omega)
                      | succ n9_3 ih3 =>
                        intro v7 gq2 H locs hI3 hM3 hqp2 hmt2 hms2 hP hD hS ls hl
                        refine lv_iload hx hb dX9_merge_229 (lv_at hl 0 rfl) ?_
                        refine lv_aload hx hb dX9_merge_231 (lv_at hl 7 rfl) ?_
                        refine lv_iload hx hb dX9_merge_233 (lv_at hl 1 rfl) ?_
                        refine lv_iconst (v := zI 1) hx hb dX9_merge_235 rfl ?_
                        refine r_iadd (v := zI ((20 * v5) + 1)) F dX9_merge_236 (zI_add _ _) ?_
                        refine rz_iald F hK hP 2 0 rfl rfl (by omega) (by omega) dX9_merge_237 ?_
                        have hpl480 : 0 ≤ (gq2 (((20 * v5) + 1)).toNat) ∧ (gq2 (((20 * v5) + 1)).toNat) ≤ 4 := ProgR.at hqp2.1 (e := ((20 * v5) + 1)) v5 1 (by omega) (by omega) (by decide) rfl
                        refine rz_icmp_ge (tgt := 296) F (by omega) (by omega) dX9_merge_238 (by decide) (fun h238_480 => ?_) (fun h238_480 => ?_)
                        · refine lv_iinc (v := zI (v5 + 1)) (lv' := [(5, .int (zI (v5 + 1))), (7, .int (zI v7)), (6, .int (zI (20 * v5))), (0, .ref y), (1, .ref a), (2, .int (zI x)), (3, .int (zI w)), (4, .ref f)]) hx hb dX9_merge_296 hl (k := 2) rfl (zI_add _ _) (by decide) rfl (fun ls hl => ?_)
                          refine lv_goto (tgt := 132) hx hb dX9_merge_299 (by decide) ?_
                          exact ih2 (v5 + 1) gq2 _ _ (by omega) (by omega) hqp2 hmt2 (Mst.fin hms2 (by omega) hnw ⟨by omega, by omega⟩) hP hD hS ls (lv_sub hl [0, 3, 4, 5, 6, 7] rfl)
                        · refine lv_aload hx hb dX9_merge_241 (lv_at hl 7 rfl) ?_
                          refine lv_iload hx hb dX9_merge_243 (lv_at hl 1 rfl) ?_
                          refine lv_iconst (v := zI 2) hx hb dX9_merge_245 rfl ?_
                          refine r_iadd (v := zI ((20 * v5) + 2)) F dX9_merge_246 (zI_add _ _) ?_
                          refine lv_iconst (v := zI 3) hx hb dX9_merge_247 rfl ?_
                          refine lv_iload hx hb dX9_merge_248 (lv_at hl 0 rfl) ?_
                          refine r_imul (v := zI (3 * v7)) F dX9_merge_250 (zI_mul _ _) ?_
                          refine r_iadd (v := zI (((20 * v5) + 2) + (3 * v7))) F dX9_merge_251 (zI_add _ _) ?_
                          refine rz_iald F hK hP 2 0 rfl rfl (by omega) (by omega) dX9_merge_252 ?_
                          have hc482 := ProgOk.act hqp2 (i := v5) (n := v7) (k := (((20 * v5) + 2) + (3 * v7))) (by omega) (by omega) (by omega)
                          refine lv_iconst (v := zI 3) hx hb dX9_merge_253 rfl ?_
                          refine rz_icmp_ne (tgt := 290) F (by omega) (by omega) dX9_merge_254 (by decide) (fun h254_482 => ?_) (fun h254_482 => ?_)
                          · refine lv_iinc (v := zI (v7 + 1)) (lv' := [(7, .int (zI (v7 + 1))), (6, .int (zI (20 * v5))), (5, .int (zI v5)), (0, .ref y), (1, .ref a), (2, .int (zI x)), (3, .int (zI w)), (4, .ref f)]) hx hb dX9_merge_290 hl (k := 0) rfl (zI_add _ _) (by decide) rfl (fun ls hl => ?_)
                            refine lv_goto (tgt := 229) hx hb dX9_merge_293 (by decide) ?_
                            exact ih3 (v7 + 1) gq2 _ _ (by omega) (by omega) hqp2 hmt2 (Mst.sA hms2 (by omega) hnw (by omega) ⟨by omega, by omega⟩ (Or.inr ⟨by omega, rfl⟩)) hP hD hS ls (lv_sub hl [0, 1, 2, 3, 4, 5, 6, 7] rfl)
                          · refine lv_aload hx hb dX9_merge_257 (lv_at hl 7 rfl) ?_
                            refine lv_iload hx hb dX9_merge_259 (lv_at hl 1 rfl) ?_
                            refine lv_iconst (v := zI 2) hx hb dX9_merge_261 rfl ?_
                            refine r_iadd (v := zI ((20 * v5) + 2)) F dX9_merge_262 (zI_add _ _) ?_
                            refine lv_iconst (v := zI 3) hx hb dX9_merge_263 rfl ?_
                            refine lv_iload hx hb dX9_merge_264 (lv_at hl 0 rfl) ?_
                            refine r_imul (v := zI (3 * v7)) F dX9_merge_266 (zI_mul _ _) ?_
                            refine r_iadd (v := zI (((20 * v5) + 2) + (3 * v7))) F dX9_merge_267 (zI_add _ _) ?_
                            refine lv_iconst (v := zI 1) hx hb dX9_merge_268 rfl ?_
                            refine r_iadd (v := zI ((((20 * v5) + 2) + (3 * v7)) + 1)) F dX9_merge_269 (zI_add _ _) ?_
                            refine rz_iald F hK hP 2 0 rfl rfl (by omega) (by omega) dX9_merge_270 ?_
                            have hc484 := hqp2.1.pos (((((20 * v5) + 2) + (3 * v7)) + 1)).toNat (by omega)
                            have hc485 := hqp2.1.le9 (((((20 * v5) + 2) + (3 * v7)) + 1)).toNat (by omega)
                            refine lv_iload_n hx hb dX9_merge_271 rfl (lv_at hl 6 rfl) ?_
                            refine rz_icmp_ne (tgt := 290) F (by omega) (by omega) dX9_merge_272 (by decide) (fun h272_485 => ?_) (fun h272_485 => ?_)
                            · refine lv_iinc (v := zI (v7 + 1)) (lv' := [(7, .int (zI (v7 + 1))), (6, .int (zI (20 * v5))), (5, .int (zI v5)), (0, .ref y), (1, .ref a), (2, .int (zI x)), (3, .int (zI w)), (4, .ref f)]) hx hb dX9_merge_290 hl (k := 0) rfl (zI_add _ _) (by decide) rfl (fun ls hl => ?_)
                              refine lv_goto (tgt := 229) hx hb dX9_merge_293 (by decide) ?_
                              exact ih3 (v7 + 1) gq2 _ _ (by omega) (by omega) hqp2 hmt2 (Mst.sA hms2 (by omega) hnw (by omega) ⟨by omega, by omega⟩ (Or.inr ⟨by omega, rfl⟩)) hP hD hS ls (lv_sub hl [0, 1, 2, 3, 4, 5, 6, 7] rfl)
                            · refine lv_aload hx hb dX9_merge_275 (lv_at hl 7 rfl) ?_
                              refine lv_iload hx hb dX9_merge_277 (lv_at hl 1 rfl) ?_
                              refine lv_iconst (v := zI 2) hx hb dX9_merge_279 rfl ?_
                              refine r_iadd (v := zI ((20 * v5) + 2)) F dX9_merge_280 (zI_add _ _) ?_
                              refine lv_iconst (v := zI 3) hx hb dX9_merge_281 rfl ?_
                              refine lv_iload hx hb dX9_merge_282 (lv_at hl 0 rfl) ?_
                              refine r_imul (v := zI (3 * v7)) F dX9_merge_284 (zI_mul _ _) ?_
                              refine r_iadd (v := zI (((20 * v5) + 2) + (3 * v7))) F dX9_merge_285 (zI_add _ _) ?_
                              refine lv_iconst (v := zI 1) hx hb dX9_merge_286 rfl ?_
                              refine r_iadd (v := zI ((((20 * v5) + 2) + (3 * v7)) + 1)) F dX9_merge_287 (zI_add _ _) ?_
                              refine lv_iload_n hx hb dX9_merge_288 rfl (lv_at hl 5 rfl) ?_
                              refine rz_iastG F hK hP hD hS 2 0 rfl rfl (by omega) (by omega) dX9_merge_289 (w1 := fun g487 => [(y, .inr (9, [.int (zI (i 0)), .ref (q 0), .int (zI (i 1)), .int (zI (i 2)), .int (zI (i 3)), .int (zI (i 4)), .int (zI (i 5)), .int (zI (i 6)), .int (zI (i 7)), .int (zI (i 8)), .int (zI (i 9)), .int (zI (i 10)), .ref (q 1), .int (zI (i 11)), .int (zI (i 12)), .ref (q 2), .ref (q 3), .ref (q 4), .ref (q 5), .ref (q 6), .ref (q 7), .ref (q 8), .ref (q 9), .ref (q 10), .ref (q 11), .ref (q 12), .ref (q 13), .ref (q 14), .ref (q 15), .ref (q 16), .int (zI (i 13)), .int (zI (i 14)), .int (zI (i 15)), .int (zI (i 16)), .int (zI (i 17)), .int (zI (i 18)), .ref (q 17), .ref (q 18), .ref (q 19), .ref (q 20)])), (a, .inl (cI, 200, .inl (fun k => zI (g_p k)))), (f, .inl (cI, 200, .inl (fun k => zI (g487 k))))]) (fun _ => rfl) (fun g487 e_g487 H locs hP hD hS => ?_)
                              have hqp488 : ProgOk g487 := ProgOk.tgt3 hqp2 e_g487 (i := v5) (n := v7) (by omega) (by omega) (by omega) (by omega) (j := (((20 * v5) + 2) + (3 * v7)).toNat) (by omega) (by omega)
                              have hmt489 := MT.keepA hmt2 e_g487 (i := v5) (n := v7) (by omega) (by omega) (by omega)
                              refine lv_iinc (v := zI (v7 + 1)) (lv' := [(7, .int (zI (v7 + 1))), (6, .int (zI (20 * v5))), (5, .int (zI v5)), (0, .ref y), (1, .ref a), (2, .int (zI x)), (3, .int (zI w)), (4, .ref f)]) hx hb dX9_merge_290 hl (k := 0) rfl (zI_add _ _) (by decide) rfl (fun ls hl => ?_)
                              refine lv_goto (tgt := 229) hx hb dX9_merge_293 (by decide) ?_
                              exact ih3 (v7 + 1) g487 _ _ (by omega) (by omega) hqp488 hmt489 (Mst.sA hms2 (by omega) hnw (by omega) ⟨by omega, by omega⟩ (Or.inl ⟨by omega, by omega, e_g487⟩)) hP hD hS ls (lv_sub hl [0, 1, 2, 3, 4, 5, 6, 7] rfl)
                    · refine lv_aload hx hb dX9_merge_205 (lv_at hl 6 rfl) ?_
                      refine lv_iload hx hb dX9_merge_207 (lv_at hl 0 rfl) ?_
                      refine lv_bipush (v := zI 18) hx hb dX9_merge_209 (by decide) ?_
                      refine r_iadd (v := zI ((20 * v5) + 18)) F dX9_merge_211 (zI_add _ _) ?_
                      refine rz_iald F hK hP 2 0 rfl rfl (by omega) (by omega) dX9_merge_212 ?_
                      have hc490 := hqp1.1.pos (((20 * v5) + 18)).toNat (by omega)
                      have hc491 := hqp1.1.le9 (((20 * v5) + 18)).toNat (by omega)
                      refine lv_iload_n hx hb dX9_merge_213 rfl (lv_at hl 5 rfl) ?_
                      refine rz_icmp_ne (tgt := 226) F (by omega) (by omega) dX9_merge_214 (by decide) (fun h214_491 => ?_) (fun h214_491 => ?_)
                      · refine lv_iconst (v := zI 0) hx hb dX9_merge_226 rfl ?_
                        have hms8 : Mst g_p x w (i 13) gq1 v5 (3 + 0) := Mst.s18 hms6 (by omega) hnw (by omega) (Or.inr ⟨by omega, rfl⟩)
                        refine lv_istore (lv' := [(7, .int (zI 0)), (6, .int (zI (20 * v5))), (5, .int (zI v5)), (0, .ref y), (1, .ref a), (2, .int (zI x)), (3, .int (zI w)), (4, .ref f)]) hx hb dX9_merge_227 hl (by decide) rfl (fun ls hl => ?_)
                        refine W.widen (k := 0) (n := 0) (Nat.le_of_ble_eq_true rfl) (Nat.le_of_ble_eq_true rfl) ?_
                        refine (?_ : ∀ (n9_3 : Nat) (v7 : Int) (gq2 : Nat → Int) (H : Heap) (locs : List Loc), (0 ≤ v7 ∧ v7 ≤ 4) → (4 - v7 : Int).toNat < n9_3 → (ProgOk gq2) → (MT g_p gq2 w) → (Mst g_p x w (i 13) gq2 v5 (3 + v7)) → va_P G vwCl [(y, .inr (9, [.int (zI (i 0)), .ref (q 0), .int (zI (i 1)), .int (zI (i 2)), .int (zI (i 3)), .int (zI (i 4)), .int (zI (i 5)), .int (zI (i 6)), .int (zI (i 7)), .int (zI (i 8)), .int (zI (i 9)), .int (zI (i 10)), .ref (q 1), .int (zI (i 11)), .int (zI (i 12)), .ref (q 2), .ref (q 3), .ref (q 4), .ref (q 5), .ref (q 6), .ref (q 7), .ref (q 8), .ref (q 9), .ref (q 10), .ref (q 11), .ref (q 12), .ref (q 13), .ref (q 14), .ref (q 15), .ref (q 16), .int (zI (i 13)), .int (zI (i 14)), .int (zI (i 15)), .int (zI (i 16)), .int (zI (i 17)), .int (zI (i 18)), .ref (q 17), .ref (q 18), .ref (q 19), .ref (q 20)])), (a, .inl (cI, 200, .inl (fun k => zI (g_p k)))), (f, .inl (cI, 200, .inl (fun k => zI (gq2 k))))] H → va_D A [(y, .inr (9, [.int (zI (i 0)), .ref (q 0), .int (zI (i 1)), .int (zI (i 2)), .int (zI (i 3)), .int (zI (i 4)), .int (zI (i 5)), .int (zI (i 6)), .int (zI (i 7)), .int (zI (i 8)), .int (zI (i 9)), .int (zI (i 10)), .ref (q 1), .int (zI (i 11)), .int (zI (i 12)), .ref (q 2), .ref (q 3), .ref (q 4), .ref (q 5), .ref (q 6), .ref (q 7), .ref (q 8), .ref (q 9), .ref (q 10), .ref (q 11), .ref (q 12), .ref (q 13), .ref (q 14), .ref (q 15), .ref (q 16), .int (zI (i 13)), .int (zI (i 14)), .int (zI (i 15)), .int (zI (i 16)), .int (zI (i 17)), .int (zI (i 18)), .ref (q 17), .ref (q 18), .ref (q 19), .ref (q 20)])), (a, .inl (cI, 200, .inl (fun k => zI (g_p k)))), (f, .inl (cI, 200, .inl (fun k => zI (gq2 k))))] → va_S A s.heap H locs → ∀ ls : Array Slot, lv_has ls 8 [(7, .int (zI v7)), (6, .int (zI (20 * v5))), (5, .int (zI v5)), (0, .ref y), (1, .ref a), (2, .int (zI x)), (3, .int (zI w)), (4, .ref f)] → W p l e rm_X9_mergeX s m ([.ref y, .ref a, .int (zI x), .int (zI w), .ref f] : List Value).toArray below meth c H locs 0 0 Q (F0 m 229 ls [])) ((4 - 0 : Int).toNat + 1) 0 gq1 _ _ (by omega) (by omega) hqp1 hmt1 hms8 hP hD hS ls hl
                        clear hP hD hS hl ls
                        intro n9_3
                        induction n9_3 with
                        | zero =>
                          intro v7 gq2 H locs hI hM
                          exact absurd hM (by omega)
                        | succ n9_3 ih3 =>
                          intro v7 gq2 H locs hI3 hM3 hqp2 hmt2 hms2 hP hD hS ls hl
                          refine lv_iload hx hb dX9_merge_229 (lv_at hl 0 rfl) ?_
                          refine lv_aload hx hb dX9_merge_231 (lv_at hl 7 rfl) ?_
                          refine lv_iload hx hb dX9_merge_233 (lv_at hl 1 rfl) ?_
                          refine lv_iconst (v := zI 1) hx hb dX9_merge_235 rfl ?_
                          refine r_iadd (v := zI ((20 * v5) + 1)) F dX9_merge_236 (zI_add _ _) ?_
                          refine rz_iald F hK hP 2 0 rfl rfl (by omega) (by omega) dX9_merge_237 ?_
                          have hpl493 : 0 ≤ (gq2 (((20 * v5) + 1)).toNat) ∧ (gq2 (((20 * v5) + 1)).toNat) ≤ 4 := ProgR.at hqp2.1 (e := ((20 * v5) + 1)) v5 1 (by omega) (by omega) (by decide) rfl
                          refine rz_icmp_ge (tgt := 296) F (by omega) (by omega) dX9_merge_238 (by decide) (fun h238_493 => ?_) (fun h238_493 => ?_)
                          · refine lv_iinc (v := zI (v5 + 1)) (lv' := [(5, .int (zI (v5 + 1))), (7, .int (zI v7)), (6, .int (zI (20 * v5))), (0, .ref y), (1, .ref a), (2, .int (zI x)), (3, .int (zI w)), (4, .ref f)]) hx hb dX9_merge_296 hl (k := 2) rfl (zI_add _ _) (by decide) rfl (fun ls hl => ?_)
                            refine lv_goto (tgt := 132) hx hb dX9_merge_299 (by decide) ?_
                            exact ih2 (v5 + 1) gq2 _ _ (by omega) (by omega) hqp2 hmt2 (Mst.fin hms2 (by omega) hnw ⟨by omega, by omega⟩) hP hD hS ls (lv_sub hl [0, 3, 4, 5, 6, 7] rfl)
                          · refine lv_aload hx hb dX9_merge_241 (lv_at hl 7 rfl) ?_
                            refine lv_iload hx hb dX9_merge_243 (lv_at hl 1 rfl) ?_
                            refine lv_iconst (v := zI 2) hx hb dX9_merge_245 rfl ?_
                            refine r_iadd (v := zI ((20 * v5) + 2)) F dX9_merge_246 (zI_add _ _) ?_
                            refine lv_iconst (v := zI 3) hx hb dX9_merge_247 rfl ?_
                            refine lv_iload hx hb dX9_merge_248 (lv_at hl 0 rfl) ?_
                            refine r_imul (v := zI (3 * v7)) F dX9_merge_250 (zI_mul _ _) ?_
                            refine r_iadd (v := zI (((20 * v5) + 2) + (3 * v7))) F dX9_merge_251 (zI_add _ _) ?_
                            refine rz_iald F hK hP 2 0 rfl rfl (by omega) (by omega) dX9_merge_252 ?_
                            have hc495 := ProgOk.act hqp2 (i := v5) (n := v7) (k := (((20 * v5) + 2) + (3 * v7))) (by omega) (by omega) (by omega)
                            refine lv_iconst (v := zI 3) hx hb dX9_merge_253 rfl ?_
                            refine rz_icmp_ne (tgt := 290) F (by omega) (by omega) dX9_merge_254 (by decide) (fun h254_495 => ?_) (fun h254_495 => ?_)
                            · refine lv_iinc (v := zI (v7 + 1)) (lv' := [(7, .int (zI (v7 + 1))), (6, .int (zI (20 * v5))), (5, .int (zI v5)), (0, .ref y), (1, .ref a), (2, .int (zI x)), (3, .int (zI w)), (4, .ref f)]) hx hb dX9_merge_290 hl (k := 0) rfl (zI_add _ _) (by decide) rfl (fun ls hl => ?_)
                              refine lv_goto (tgt := 229) hx hb dX9_merge_293 (by decide) ?_
                              exact ih3 (v7 + 1) gq2 _ _ (by omega) (by omega) hqp2 hmt2 (Mst.sA hms2 (by omega) hnw (by omega) ⟨by omega, by omega⟩ (Or.inr ⟨by omega, rfl⟩)) hP hD hS ls (lv_sub hl [0, 1, 2, 3, 4, 5, 6, 7] rfl)
                            · refine lv_aload hx hb dX9_merge_257 (lv_at hl 7 rfl) ?_
                              refine lv_iload hx hb dX9_merge_259 (lv_at hl 1 rfl) ?_
                              refine lv_iconst (v := zI 2) hx hb dX9_merge_261 rfl ?_
                              refine r_iadd (v := zI ((20 * v5) + 2)) F dX9_merge_262 (zI_add _ _) ?_
                              refine lv_iconst (v := zI 3) hx hb dX9_merge_263 rfl ?_
                              refine lv_iload hx hb dX9_merge_264 (lv_at hl 0 rfl) ?_
                              refine r_imul (v := zI (3 * v7)) F dX9_merge_266 (zI_mul _ _) ?_
                              refine r_iadd (v := zI (((20 * v5) + 2) + (3 * v7))) F dX9_merge_267 (zI_add _ _) ?_
                              refine lv_iconst (v := zI 1) hx hb dX9_merge_268 rfl ?_
                              refine r_iadd (v := zI ((((20 * v5) + 2) + (3 * v7)) + 1)) F dX9_merge_269 (zI_add _ _) ?_
                              refine rz_iald F hK hP 2 0 rfl rfl (by omega) (by omega) dX9_merge_270 ?_
                              have hc497 := hqp2.1.pos (((((20 * v5) + 2) + (3 * v7)) + 1)).toNat (by omega)
                              have hc498 := hqp2.1.le9 (((((20 * v5) + 2) + (3 * v7)) + 1)).toNat (by omega)
                              refine lv_iload_n hx hb dX9_merge_271 rfl (lv_at hl 6 rfl) ?_
                              refine rz_icmp_ne (tgt := 290) F (by omega) (by omega) dX9_merge_272 (by decide) (fun h272_498 => ?_) (fun h272_498 => ?_)
                              · refine lv_iinc (v := zI (v7 + 1)) (lv' := [(7, .int (zI (v7 + 1))), (6, .int (zI (20 * v5))), (5, .int (zI v5)), (0, .ref y), (1, .ref a), (2, .int (zI x)), (3, .int (zI w)), (4, .ref f)]) hx hb dX9_merge_290 hl (k := 0) rfl (zI_add _ _) (by decide) rfl (fun ls hl => ?_)
                                refine lv_goto (tgt := 229) hx hb dX9_merge_293 (by decide) ?_
                                exact ih3 (v7 + 1) gq2 _ _ (by omega) (by omega) hqp2 hmt2 (Mst.sA hms2 (by omega) hnw (by omega) ⟨by omega, by omega⟩ (Or.inr ⟨by omega, rfl⟩)) hP hD hS ls (lv_sub hl [0, 1, 2, 3, 4, 5, 6, 7] rfl)
                              · refine lv_aload hx hb dX9_merge_275 (lv_at hl 7 rfl) ?_
                                refine lv_iload hx hb dX9_merge_277 (lv_at hl 1 rfl) ?_
                                refine lv_iconst (v := zI 2) hx hb dX9_merge_279 rfl ?_
                                refine r_iadd (v := zI ((20 * v5) + 2)) F dX9_merge_280 (zI_add _ _) ?_
                                refine lv_iconst (v := zI 3) hx hb dX9_merge_281 rfl ?_
                                refine lv_iload hx hb dX9_merge_282 (lv_at hl 0 rfl) ?_
                                refine r_imul (v := zI (3 * v7)) F dX9_merge_284 (zI_mul _ _) ?_
                                refine r_iadd (v := zI (((20 * v5) + 2) + (3 * v7))) F dX9_merge_285 (zI_add _ _) ?_
                                refine lv_iconst (v := zI 1) hx hb dX9_merge_286 rfl ?_
                                refine r_iadd (v := zI ((((20 * v5) + 2) + (3 * v7)) + 1)) F dX9_merge_287 (zI_add _ _) ?_
                                refine lv_iload_n hx hb dX9_merge_288 rfl (lv_at hl 5 rfl) ?_
                                refine rz_iastG F hK hP hD hS 2 0 rfl rfl (by omega) (by omega) dX9_merge_289 (w1 := fun g500 => [(y, .inr (9, [.int (zI (i 0)), .ref (q 0), .int (zI (i 1)), .int (zI (i 2)), .int (zI (i 3)), .int (zI (i 4)), .int (zI (i 5)), .int (zI (i 6)), .int (zI (i 7)), .int (zI (i 8)), .int (zI (i 9)), .int (zI (i 10)), .ref (q 1), .int (zI (i 11)), .int (zI (i 12)), .ref (q 2), .ref (q 3), .ref (q 4), .ref (q 5), .ref (q 6), .ref (q 7), .ref (q 8), .ref (q 9), .ref (q 10), .ref (q 11), .ref (q 12), .ref (q 13), .ref (q 14), .ref (q 15), .ref (q 16), .int (zI (i 13)), .int (zI (i 14)), .int (zI (i 15)), .int (zI (i 16)), .int (zI (i 17)), .int (zI (i 18)), .ref (q 17), .ref (q 18), .ref (q 19), .ref (q 20)])), (a, .inl (cI, 200, .inl (fun k => zI (g_p k)))), (f, .inl (cI, 200, .inl (fun k => zI (g500 k))))]) (fun _ => rfl) (fun g500 e_g500 H locs hP hD hS => ?_)
                                have hqp501 : ProgOk g500 := ProgOk.tgt3 hqp2 e_g500 (i := v5) (n := v7) (by omega) (by omega) (by omega) (by omega) (j := (((20 * v5) + 2) + (3 * v7)).toNat) (by omega) (by omega)
                                have hmt502 := MT.keepA hmt2 e_g500 (i := v5) (n := v7) (by omega) (by omega) (by omega)
                                refine lv_iinc (v := zI (v7 + 1)) (lv' := [(7, .int (zI (v7 + 1))), (6, .int (zI (20 * v5))), (5, .int (zI v5)), (0, .ref y), (1, .ref a), (2, .int (zI x)), (3, .int (zI w)), (4, .ref f)]) hx hb dX9_merge_290 hl (k := 0) rfl (zI_add _ _) (by decide) rfl (fun ls hl => ?_)
                                refine lv_goto (tgt := 229) hx hb dX9_merge_293 (by decide) ?_
                                exact ih3 (v7 + 1) g500 _ _ (by omega) (by omega) hqp501 hmt502 (Mst.sA hms2 (by omega) hnw (by omega) ⟨by omega, by omega⟩ (Or.inl ⟨by omega, by omega, e_g500⟩)) hP hD hS ls (lv_sub hl [0, 1, 2, 3, 4, 5, 6, 7] rfl)
                      · refine lv_aload hx hb dX9_merge_217 (lv_at hl 6 rfl) ?_
                        refine lv_iload hx hb dX9_merge_219 (lv_at hl 0 rfl) ?_
                        refine lv_bipush (v := zI 18) hx hb dX9_merge_221 (by decide) ?_
                        refine r_iadd (v := zI ((20 * v5) + 18)) F dX9_merge_223 (zI_add _ _) ?_
                        refine lv_iload_n hx hb dX9_merge_224 rfl (lv_at hl 4 rfl) ?_
                        refine rz_iastG F hK hP hD hS 2 0 rfl rfl (by omega) (by omega) dX9_merge_225 (w1 := fun g503 => [(y, .inr (9, [.int (zI (i 0)), .ref (q 0), .int (zI (i 1)), .int (zI (i 2)), .int (zI (i 3)), .int (zI (i 4)), .int (zI (i 5)), .int (zI (i 6)), .int (zI (i 7)), .int (zI (i 8)), .int (zI (i 9)), .int (zI (i 10)), .ref (q 1), .int (zI (i 11)), .int (zI (i 12)), .ref (q 2), .ref (q 3), .ref (q 4), .ref (q 5), .ref (q 6), .ref (q 7), .ref (q 8), .ref (q 9), .ref (q 10), .ref (q 11), .ref (q 12), .ref (q 13), .ref (q 14), .ref (q 15), .ref (q 16), .int (zI (i 13)), .int (zI (i 14)), .int (zI (i 15)), .int (zI (i 16)), .int (zI (i 17)), .int (zI (i 18)), .ref (q 17), .ref (q 18), .ref (q 19), .ref (q 20)])), (a, .inl (cI, 200, .inl (fun k => zI (g_p k)))), (f, .inl (cI, 200, .inl (fun k => zI (g503 k))))]) (fun _ => rfl) (fun g503 e_g503 H locs hP hD hS => ?_)
                        have hqp504 : ProgOk g503 := ⟨hqp1.1.set (m := 9) e_g503 18 (by omega) rfl (by omega), hqp1.2.set e_g503 (by omega)⟩
                        have hmt505 := hmt1.keep e_g503 (by omega)
                        refine lv_iconst (v := zI 0) hx hb dX9_merge_226 rfl ?_
                        have hms8 : Mst g_p x w (i 13) g503 v5 (3 + 0) := Mst.s18 hms6 (by omega) hnw (by omega) (Or.inl ⟨by omega, by omega, e_g503⟩)
                        refine lv_istore (lv' := [(7, .int (zI 0)), (6, .int (zI (20 * v5))), (5, .int (zI v5)), (0, .ref y), (1, .ref a), (2, .int (zI x)), (3, .int (zI w)), (4, .ref f)]) hx hb dX9_merge_227 hl (by decide) rfl (fun ls hl => ?_)
                        refine W.widen (k := 0) (n := 0) (Nat.le_of_ble_eq_true rfl) (Nat.le_of_ble_eq_true rfl) ?_
                        refine (?_ : ∀ (n9_3 : Nat) (v7 : Int) (gq2 : Nat → Int) (H : Heap) (locs : List Loc), (0 ≤ v7 ∧ v7 ≤ 4) → (4 - v7 : Int).toNat < n9_3 → (ProgOk gq2) → (MT g_p gq2 w) → (Mst g_p x w (i 13) gq2 v5 (3 + v7)) → va_P G vwCl [(y, .inr (9, [.int (zI (i 0)), .ref (q 0), .int (zI (i 1)), .int (zI (i 2)), .int (zI (i 3)), .int (zI (i 4)), .int (zI (i 5)), .int (zI (i 6)), .int (zI (i 7)), .int (zI (i 8)), .int (zI (i 9)), .int (zI (i 10)), .ref (q 1), .int (zI (i 11)), .int (zI (i 12)), .ref (q 2), .ref (q 3), .ref (q 4), .ref (q 5), .ref (q 6), .ref (q 7), .ref (q 8), .ref (q 9), .ref (q 10), .ref (q 11), .ref (q 12), .ref (q 13), .ref (q 14), .ref (q 15), .ref (q 16), .int (zI (i 13)), .int (zI (i 14)), .int (zI (i 15)), .int (zI (i 16)), .int (zI (i 17)), .int (zI (i 18)), .ref (q 17), .ref (q 18), .ref (q 19), .ref (q 20)])), (a, .inl (cI, 200, .inl (fun k => zI (g_p k)))), (f, .inl (cI, 200, .inl (fun k => zI (gq2 k))))] H → va_D A [(y, .inr (9, [.int (zI (i 0)), .ref (q 0), .int (zI (i 1)), .int (zI (i 2)), .int (zI (i 3)), .int (zI (i 4)), .int (zI (i 5)), .int (zI (i 6)), .int (zI (i 7)), .int (zI (i 8)), .int (zI (i 9)), .int (zI (i 10)), .ref (q 1), .int (zI (i 11)), .int (zI (i 12)), .ref (q 2), .ref (q 3), .ref (q 4), .ref (q 5), .ref (q 6), .ref (q 7), .ref (q 8), .ref (q 9), .ref (q 10), .ref (q 11), .ref (q 12), .ref (q 13), .ref (q 14), .ref (q 15), .ref (q 16), .int (zI (i 13)), .int (zI (i 14)), .int (zI (i 15)), .int (zI (i 16)), .int (zI (i 17)), .int (zI (i 18)), .ref (q 17), .ref (q 18), .ref (q 19), .ref (q 20)])), (a, .inl (cI, 200, .inl (fun k => zI (g_p k)))), (f, .inl (cI, 200, .inl (fun k => zI (gq2 k))))] → va_S A s.heap H locs → ∀ ls : Array Slot, lv_has ls 8 [(7, .int (zI v7)), (6, .int (zI (20 * v5))), (5, .int (zI v5)), (0, .ref y), (1, .ref a), (2, .int (zI x)), (3, .int (zI w)), (4, .ref f)] → W p l e rm_X9_mergeX s m ([.ref y, .ref a, .int (zI x), .int (zI w), .ref f] : List Value).toArray below meth c H locs 0 0 Q (F0 m 229 ls [])) ((4 - 0 : Int).toNat + 1) 0 g503 _ _ (by omega) (by omega) hqp504 hmt505 hms8 hP hD hS ls hl
                        clear hP hD hS hl ls
                        intro n9_3
                        induction n9_3 with
                        | zero =>
                          intro v7 gq2 H locs hI hM
                          exact absurd hM (by omega)
                        | succ n9_3 ih3 =>
                          intro v7 gq2 H locs hI3 hM3 hqp2 hmt2 hms2 hP hD hS ls hl
                          refine lv_iload hx hb dX9_merge_229 (lv_at hl 0 rfl) ?_
                          refine lv_aload hx hb dX9_merge_231 (lv_at hl 7 rfl) ?_
                          refine lv_iload hx hb dX9_merge_233 (lv_at hl 1 rfl) ?_
                          refine lv_iconst (v := zI 1) hx hb dX9_merge_235 rfl ?_
                          refine r_iadd (v := zI ((20 * v5) + 1)) F dX9_merge_236 (zI_add _ _) ?_
                          refine rz_iald F hK hP 2 0 rfl rfl (by omega) (by omega) dX9_merge_237 ?_
                          have hpl506 : 0 ≤ (gq2 (((20 * v5) + 1)).toNat) ∧ (gq2 (((20 * v5) + 1)).toNat) ≤ 4 := ProgR.at hqp2.1 (e := ((20 * v5) + 1)) v5 1 (by omega) (by omega) (by decide) rfl
                          refine rz_icmp_ge (tgt := 296) F (by omega) (by omega) dX9_merge_238 (by decide) (fun h238_506 => ?_) (fun h238_506 => ?_)
                          · refine lv_iinc (v := zI (v5 + 1)) (lv' := [(5, .int (zI (v5 + 1))), (7, .int (zI v7)), (6, .int (zI (20 * v5))), (0, .ref y), (1, .ref a), (2, .int (zI x)), (3, .int (zI w)), (4, .ref f)]) hx hb dX9_merge_296 hl (k := 2) rfl (zI_add _ _) (by decide) rfl (fun ls hl => ?_)
                            refine lv_goto (tgt := 132) hx hb dX9_merge_299 (by decide) ?_
                            exact ih2 (v5 + 1) gq2 _ _ (by omega) (by omega) hqp2 hmt2 (Mst.fin hms2 (by omega) hnw ⟨by omega, by omega⟩) hP hD hS ls (lv_sub hl [0, 3, 4, 5, 6, 7] rfl)
                          · refine lv_aload hx hb dX9_merge_241 (lv_at hl 7 rfl) ?_
                            refine lv_iload hx hb dX9_merge_243 (lv_at hl 1 rfl) ?_
                            refine lv_iconst (v := zI 2) hx hb dX9_merge_245 rfl ?_
                            refine r_iadd (v := zI ((20 * v5) + 2)) F dX9_merge_246 (zI_add _ _) ?_
                            refine lv_iconst (v := zI 3) hx hb dX9_merge_247 rfl ?_
                            refine lv_iload hx hb dX9_merge_248 (lv_at hl 0 rfl) ?_
                            refine r_imul (v := zI (3 * v7)) F dX9_merge_250 (zI_mul _ _) ?_
                            refine r_iadd (v := zI (((20 * v5) + 2) + (3 * v7))) F dX9_merge_251 (zI_add _ _) ?_
                            refine rz_iald F hK hP 2 0 rfl rfl (by omega) (by omega) dX9_merge_252 ?_
                            have hc508 := ProgOk.act hqp2 (i := v5) (n := v7) (k := (((20 * v5) + 2) + (3 * v7))) (by omega) (by omega) (by omega)
                            refine lv_iconst (v := zI 3) hx hb dX9_merge_253 rfl ?_
                            refine rz_icmp_ne (tgt := 290) F (by omega) (by omega) dX9_merge_254 (by decide) (fun h254_508 => ?_) (fun h254_508 => ?_)
                            · refine lv_iinc (v := zI (v7 + 1)) (lv' := [(7, .int (zI (v7 + 1))), (6, .int (zI (20 * v5))), (5, .int (zI v5)), (0, .ref y), (1, .ref a), (2, .int (zI x)), (3, .int (zI w)), (4, .ref f)]) hx hb dX9_merge_290 hl (k := 0) rfl (zI_add _ _) (by decide) rfl (fun ls hl => ?_)
                              refine lv_goto (tgt := 229) hx hb dX9_merge_293 (by decide) ?_
                              exact ih3 (v7 + 1) gq2 _ _ (by omega) (by omega) hqp2 hmt2 (Mst.sA hms2 (by omega) hnw (by omega) ⟨by omega, by omega⟩ (Or.inr ⟨by omega, rfl⟩)) hP hD hS ls (lv_sub hl [0, 1, 2, 3, 4, 5, 6, 7] rfl)
                            · refine lv_aload hx hb dX9_merge_257 (lv_at hl 7 rfl) ?_
                              refine lv_iload hx hb dX9_merge_259 (lv_at hl 1 rfl) ?_
                              refine lv_iconst (v := zI 2) hx hb dX9_merge_261 rfl ?_
                              refine r_iadd (v := zI ((20 * v5) + 2)) F dX9_merge_262 (zI_add _ _) ?_
                              refine lv_iconst (v := zI 3) hx hb dX9_merge_263 rfl ?_
                              refine lv_iload hx hb dX9_merge_264 (lv_at hl 0 rfl) ?_
                              refine r_imul (v := zI (3 * v7)) F dX9_merge_266 (zI_mul _ _) ?_
                              refine r_iadd (v := zI (((20 * v5) + 2) + (3 * v7))) F dX9_merge_267 (zI_add _ _) ?_
                              refine lv_iconst (v := zI 1) hx hb dX9_merge_268 rfl ?_
                              refine r_iadd (v := zI ((((20 * v5) + 2) + (3 * v7)) + 1)) F dX9_merge_269 (zI_add _ _) ?_
                              refine rz_iald F hK hP 2 0 rfl rfl (by omega) (by omega) dX9_merge_270 ?_
                              have hc510 := hqp2.1.pos (((((20 * v5) + 2) + (3 * v7)) + 1)).toNat (by omega)
                              have hc511 := hqp2.1.le9 (((((20 * v5) + 2) + (3 * v7)) + 1)).toNat (by omega)
                              refine lv_iload_n hx hb dX9_merge_271 rfl (lv_at hl 6 rfl) ?_
                              refine rz_icmp_ne (tgt := 290) F (by omega) (by omega) dX9_merge_272 (by decide) (fun h272_511 => ?_) (fun h272_511 => ?_)
                              · refine lv_iinc (v := zI (v7 + 1)) (lv' := [(7, .int (zI (v7 + 1))), (6, .int (zI (20 * v5))), (5, .int (zI v5)), (0, .ref y), (1, .ref a), (2, .int (zI x)), (3, .int (zI w)), (4, .ref f)]) hx hb dX9_merge_290 hl (k := 0) rfl (zI_add _ _) (by decide) rfl (fun ls hl => ?_)
                                refine lv_goto (tgt := 229) hx hb dX9_merge_293 (by decide) ?_
                                exact ih3 (v7 + 1) gq2 _ _ (by omega) (by omega) hqp2 hmt2 (Mst.sA hms2 (by omega) hnw (by omega) ⟨by omega, by omega⟩ (Or.inr ⟨by omega, rfl⟩)) hP hD hS ls (lv_sub hl [0, 1, 2, 3, 4, 5, 6, 7] rfl)
                              · refine lv_aload hx hb dX9_merge_275 (lv_at hl 7 rfl) ?_
                                refine lv_iload hx hb dX9_merge_277 (lv_at hl 1 rfl) ?_
                                refine lv_iconst (v := zI 2) hx hb dX9_merge_279 rfl ?_
                                refine r_iadd (v := zI ((20 * v5) + 2)) F dX9_merge_280 (zI_add _ _) ?_
                                refine lv_iconst (v := zI 3) hx hb dX9_merge_281 rfl ?_
                                refine lv_iload hx hb dX9_merge_282 (lv_at hl 0 rfl) ?_
                                refine r_imul (v := zI (3 * v7)) F dX9_merge_284 (zI_mul _ _) ?_
                                refine r_iadd (v := zI (((20 * v5) + 2) + (3 * v7))) F dX9_merge_285 (zI_add _ _) ?_
                                refine lv_iconst (v := zI 1) hx hb dX9_merge_286 rfl ?_
                                refine r_iadd (v := zI ((((20 * v5) + 2) + (3 * v7)) + 1)) F dX9_merge_287 (zI_add _ _) ?_
                                refine lv_iload_n hx hb dX9_merge_288 rfl (lv_at hl 5 rfl) ?_
                                refine rz_iastG F hK hP hD hS 2 0 rfl rfl (by omega) (by omega) dX9_merge_289 (w1 := fun g513 => [(y, .inr (9, [.int (zI (i 0)), .ref (q 0), .int (zI (i 1)), .int (zI (i 2)), .int (zI (i 3)), .int (zI (i 4)), .int (zI (i 5)), .int (zI (i 6)), .int (zI (i 7)), .int (zI (i 8)), .int (zI (i 9)), .int (zI (i 10)), .ref (q 1), .int (zI (i 11)), .int (zI (i 12)), .ref (q 2), .ref (q 3), .ref (q 4), .ref (q 5), .ref (q 6), .ref (q 7), .ref (q 8), .ref (q 9), .ref (q 10), .ref (q 11), .ref (q 12), .ref (q 13), .ref (q 14), .ref (q 15), .ref (q 16), .int (zI (i 13)), .int (zI (i 14)), .int (zI (i 15)), .int (zI (i 16)), .int (zI (i 17)), .int (zI (i 18)), .ref (q 17), .ref (q 18), .ref (q 19), .ref (q 20)])), (a, .inl (cI, 200, .inl (fun k => zI (g_p k)))), (f, .inl (cI, 200, .inl (fun k => zI (g513 k))))]) (fun _ => rfl) (fun g513 e_g513 H locs hP hD hS => ?_)
                                have hqp514 : ProgOk g513 := ProgOk.tgt3 hqp2 e_g513 (i := v5) (n := v7) (by omega) (by omega) (by omega) (by omega) (j := (((20 * v5) + 2) + (3 * v7)).toNat) (by omega) (by omega)
                                have hmt515 := MT.keepA hmt2 e_g513 (i := v5) (n := v7) (by omega) (by omega) (by omega)
                                refine lv_iinc (v := zI (v7 + 1)) (lv' := [(7, .int (zI (v7 + 1))), (6, .int (zI (20 * v5))), (5, .int (zI v5)), (0, .ref y), (1, .ref a), (2, .int (zI x)), (3, .int (zI w)), (4, .ref f)]) hx hb dX9_merge_290 hl (k := 0) rfl (zI_add _ _) (by decide) rfl (fun ls hl => ?_)
                                refine lv_goto (tgt := 229) hx hb dX9_merge_293 (by decide) ?_
                                exact ih3 (v7 + 1) g513 _ _ (by omega) (by omega) hqp514 hmt515 (Mst.sA hms2 (by omega) hnw (by omega) ⟨by omega, by omega⟩ (Or.inl ⟨by omega, by omega, e_g513⟩)) hP hD hS ls (lv_sub hl [0, 1, 2, 3, 4, 5, 6, 7] rfl)
                  · refine lv_aload hx hb dX9_merge_184 (lv_at hl 6 rfl) ?_
                    refine lv_iload hx hb dX9_merge_186 (lv_at hl 0 rfl) ?_
                    refine lv_bipush (v := zI 16) hx hb dX9_merge_188 (by decide) ?_
                    refine r_iadd (v := zI ((20 * v5) + 16)) F dX9_merge_190 (zI_add _ _) ?_
                    refine lv_iload_n hx hb dX9_merge_191 rfl (lv_at hl 4 rfl) ?_
                    refine rz_iastG F hK hP hD hS 2 0 rfl rfl (by omega) (by omega) dX9_merge_192 (w1 := fun g516 => [(y, .inr (9, [.int (zI (i 0)), .ref (q 0), .int (zI (i 1)), .int (zI (i 2)), .int (zI (i 3)), .int (zI (i 4)), .int (zI (i 5)), .int (zI (i 6)), .int (zI (i 7)), .int (zI (i 8)), .int (zI (i 9)), .int (zI (i 10)), .ref (q 1), .int (zI (i 11)), .int (zI (i 12)), .ref (q 2), .ref (q 3), .ref (q 4), .ref (q 5), .ref (q 6), .ref (q 7), .ref (q 8), .ref (q 9), .ref (q 10), .ref (q 11), .ref (q 12), .ref (q 13), .ref (q 14), .ref (q 15), .ref (q 16), .int (zI (i 13)), .int (zI (i 14)), .int (zI (i 15)), .int (zI (i 16)), .int (zI (i 17)), .int (zI (i 18)), .ref (q 17), .ref (q 18), .ref (q 19), .ref (q 20)])), (a, .inl (cI, 200, .inl (fun k => zI (g_p k)))), (f, .inl (cI, 200, .inl (fun k => zI (g516 k))))]) (fun _ => rfl) (fun g516 e_g516 H locs hP hD hS => ?_)
                    have hqp517 : ProgOk g516 := ⟨hqp1.1.set (m := 9) e_g516 16 (by omega) rfl (by omega), hqp1.2.set e_g516 (by omega)⟩
                    have hmt518 := hmt1.keep e_g516 (by omega)
                    refine lv_aload hx hb dX9_merge_193 (lv_at hl 6 rfl) ?_
                    have hms6 : Mst g_p x w (i 13) g516 v5 1 := Mst.s16 hms1 (by omega) hnw (by omega) (Or.inl ⟨by omega, by omega, e_g516⟩)
                    refine lv_iload hx hb dX9_merge_195 (lv_at hl 0 rfl) ?_
                    refine lv_bipush (v := zI 14) hx hb dX9_merge_197 (by decide) ?_
                    refine r_iadd (v := zI ((20 * v5) + 14)) F dX9_merge_199 (zI_add _ _) ?_
                    refine rz_iald F hK hP 2 0 rfl rfl (by omega) (by omega) dX9_merge_200 ?_
                    have hc519 := hqp517.1.pos (((20 * v5) + 14)).toNat (by omega)
                    have hc520 := hqp517.1.le9 (((20 * v5) + 14)).toNat (by omega)
                    refine lv_iconst (v := zI 2) hx hb dX9_merge_201 rfl ?_
                    refine rz_icmp_ne (tgt := 226) F (by omega) (by omega) dX9_merge_202 (by decide) (fun h202_520 => ?_) (fun h202_520 => ?_)
                    · refine lv_iconst (v := zI 0) hx hb dX9_merge_226 rfl ?_
                      have hms8 : Mst g_p x w (i 13) g516 v5 (3 + 0) := Mst.s18 hms6 (by omega) hnw (by omega) (Or.inr ⟨by omega, rfl⟩)
                      refine lv_istore (lv' := [(7, .int (zI 0)), (6, .int (zI (20 * v5))), (5, .int (zI v5)), (0, .ref y), (1, .ref a), (2, .int (zI x)), (3, .int (zI w)), (4, .ref f)]) hx hb dX9_merge_227 hl (by decide) rfl (fun ls hl => ?_)
                      refine W.widen (k := 0) (n := 0) (Nat.le_of_ble_eq_true rfl) (Nat.le_of_ble_eq_true rfl) ?_
                      refine (?_ : ∀ (n9_3 : Nat) (v7 : Int) (gq2 : Nat → Int) (H : Heap) (locs : List Loc), (0 ≤ v7 ∧ v7 ≤ 4) → (4 - v7 : Int).toNat < n9_3 → (ProgOk gq2) → (MT g_p gq2 w) → (Mst g_p x w (i 13) gq2 v5 (3 + v7)) → va_P G vwCl [(y, .inr (9, [.int (zI (i 0)), .ref (q 0), .int (zI (i 1)), .int (zI (i 2)), .int (zI (i 3)), .int (zI (i 4)), .int (zI (i 5)), .int (zI (i 6)), .int (zI (i 7)), .int (zI (i 8)), .int (zI (i 9)), .int (zI (i 10)), .ref (q 1), .int (zI (i 11)), .int (zI (i 12)), .ref (q 2), .ref (q 3), .ref (q 4), .ref (q 5), .ref (q 6), .ref (q 7), .ref (q 8), .ref (q 9), .ref (q 10), .ref (q 11), .ref (q 12), .ref (q 13), .ref (q 14), .ref (q 15), .ref (q 16), .int (zI (i 13)), .int (zI (i 14)), .int (zI (i 15)), .int (zI (i 16)), .int (zI (i 17)), .int (zI (i 18)), .ref (q 17), .ref (q 18), .ref (q 19), .ref (q 20)])), (a, .inl (cI, 200, .inl (fun k => zI (g_p k)))), (f, .inl (cI, 200, .inl (fun k => zI (gq2 k))))] H → va_D A [(y, .inr (9, [.int (zI (i 0)), .ref (q 0), .int (zI (i 1)), .int (zI (i 2)), .int (zI (i 3)), .int (zI (i 4)), .int (zI (i 5)), .int (zI (i 6)), .int (zI (i 7)), .int (zI (i 8)), .int (zI (i 9)), .int (zI (i 10)), .ref (q 1), .int (zI (i 11)), .int (zI (i 12)), .ref (q 2), .ref (q 3), .ref (q 4), .ref (q 5), .ref (q 6), .ref (q 7), .ref (q 8), .ref (q 9), .ref (q 10), .ref (q 11), .ref (q 12), .ref (q 13), .ref (q 14), .ref (q 15), .ref (q 16), .int (zI (i 13)), .int (zI (i 14)), .int (zI (i 15)), .int (zI (i 16)), .int (zI (i 17)), .int (zI (i 18)), .ref (q 17), .ref (q 18), .ref (q 19), .ref (q 20)])), (a, .inl (cI, 200, .inl (fun k => zI (g_p k)))), (f, .inl (cI, 200, .inl (fun k => zI (gq2 k))))] → va_S A s.heap H locs → ∀ ls : Array Slot, lv_has ls 8 [(7, .int (zI v7)), (6, .int (zI (20 * v5))), (5, .int (zI v5)), (0, .ref y), (1, .ref a), (2, .int (zI x)), (3, .int (zI w)), (4, .ref f)] → W p l e rm_X9_mergeX s m ([.ref y, .ref a, .int (zI x), .int (zI w), .ref f] : List Value).toArray below meth c H locs 0 0 Q (F0 m 229 ls [])) ((4 - 0 : Int).toNat + 1) 0 g516 _ _ (by omega) (by omega) hqp517 hmt518 hms8 hP hD hS ls hl
                      clear hP hD hS hl ls
                      intro n9_3
                      induction n9_3 with
                      | zero =>
                        intro v7 gq2 H locs hI hM
                        exact absurd hM (by omega)
                      | succ n9_3 ih3 =>
                        intro v7 gq2 H locs hI3 hM3 hqp2 hmt2 hms2 hP hD hS ls hl
                        refine lv_iload hx hb dX9_merge_229 (lv_at hl 0 rfl) ?_
                        refine lv_aload hx hb dX9_merge_231 (lv_at hl 7 rfl) ?_
                        refine lv_iload hx hb dX9_merge_233 (lv_at hl 1 rfl) ?_
                        refine lv_iconst (v := zI 1) hx hb dX9_merge_235 rfl ?_
                        refine r_iadd (v := zI ((20 * v5) + 1)) F dX9_merge_236 (zI_add _ _) ?_
                        refine rz_iald F hK hP 2 0 rfl rfl (by omega) (by omega) dX9_merge_237 ?_
                        have hpl522 : 0 ≤ (gq2 (((20 * v5) + 1)).toNat) ∧ (gq2 (((20 * v5) + 1)).toNat) ≤ 4 := ProgR.at hqp2.1 (e := ((20 * v5) + 1)) v5 1 (by omega) (by omega) (by decide) rfl
                        refine rz_icmp_ge (tgt := 296) F (by omega) (by omega) dX9_merge_238 (by decide) (fun h238_522 => ?_) (fun h238_522 => ?_)
                        · refine lv_iinc (v := zI (v5 + 1)) (lv' := [(5, .int (zI (v5 + 1))), (7, .int (zI v7)), (6, .int (zI (20 * v5))), (0, .ref y), (1, .ref a), (2, .int (zI x)), (3, .int (zI w)), (4, .ref f)]) hx hb dX9_merge_296 hl (k := 2) rfl (zI_add _ _) (by decide) rfl (fun ls hl => ?_)
                          refine lv_goto (tgt := 132) hx hb dX9_merge_299 (by decide) ?_
                          exact ih2 (v5 + 1) gq2 _ _ (by omega) (by omega) hqp2 hmt2 (Mst.fin hms2 (by omega) hnw ⟨by omega, by omega⟩) hP hD hS ls (lv_sub hl [0, 3, 4, 5, 6, 7] rfl)
                        · refine lv_aload hx hb dX9_merge_241 (lv_at hl 7 rfl) ?_
                          refine lv_iload hx hb dX9_merge_243 (lv_at hl 1 rfl) ?_
                          refine lv_iconst (v := zI 2) hx hb dX9_merge_245 rfl ?_
                          refine r_iadd (v := zI ((20 * v5) + 2)) F dX9_merge_246 (zI_add _ _) ?_
                          refine lv_iconst (v := zI 3) hx hb dX9_merge_247 rfl ?_
                          refine lv_iload hx hb dX9_merge_248 (lv_at hl 0 rfl) ?_
                          refine r_imul (v := zI (3 * v7)) F dX9_merge_250 (zI_mul _ _) ?_
                          refine r_iadd (v := zI (((20 * v5) + 2) + (3 * v7))) F dX9_merge_251 (zI_add _ _) ?_
                          refine rz_iald F hK hP 2 0 rfl rfl (by omega) (by omega) dX9_merge_252 ?_
                          have hc524 := ProgOk.act hqp2 (i := v5) (n := v7) (k := (((20 * v5) + 2) + (3 * v7))) (by omega) (by omega) (by omega)
                          refine lv_iconst (v := zI 3) hx hb dX9_merge_253 rfl ?_
                          refine rz_icmp_ne (tgt := 290) F (by omega) (by omega) dX9_merge_254 (by decide) (fun h254_524 => ?_) (fun h254_524 => ?_)
                          · refine lv_iinc (v := zI (v7 + 1)) (lv' := [(7, .int (zI (v7 + 1))), (6, .int (zI (20 * v5))), (5, .int (zI v5)), (0, .ref y), (1, .ref a), (2, .int (zI x)), (3, .int (zI w)), (4, .ref f)]) hx hb dX9_merge_290 hl (k := 0) rfl (zI_add _ _) (by decide) rfl (fun ls hl => ?_)
                            refine lv_goto (tgt := 229) hx hb dX9_merge_293 (by decide) ?_
                            exact ih3 (v7 + 1) gq2 _ _ (by omega) (by omega) hqp2 hmt2 (Mst.sA hms2 (by omega) hnw (by omega) ⟨by omega, by omega⟩ (Or.inr ⟨by omega, rfl⟩)) hP hD hS ls (lv_sub hl [0, 1, 2, 3, 4, 5, 6, 7] rfl)
                          · refine lv_aload hx hb dX9_merge_257 (lv_at hl 7 rfl) ?_
                            refine lv_iload hx hb dX9_merge_259 (lv_at hl 1 rfl) ?_
                            refine lv_iconst (v := zI 2) hx hb dX9_merge_261 rfl ?_
                            refine r_iadd (v := zI ((20 * v5) + 2)) F dX9_merge_262 (zI_add _ _) ?_
                            refine lv_iconst (v := zI 3) hx hb dX9_merge_263 rfl ?_
                            refine lv_iload hx hb dX9_merge_264 (lv_at hl 0 rfl) ?_
                            refine r_imul (v := zI (3 * v7)) F dX9_merge_266 (zI_mul _ _) ?_
                            refine r_iadd (v := zI (((20 * v5) + 2) + (3 * v7))) F dX9_merge_267 (zI_add _ _) ?_
                            refine lv_iconst (v := zI 1) hx hb dX9_merge_268 rfl ?_
                            refine r_iadd (v := zI ((((20 * v5) + 2) + (3 * v7)) + 1)) F dX9_merge_269 (zI_add _ _) ?_
                            refine rz_iald F hK hP 2 0 rfl rfl (by omega) (by omega) dX9_merge_270 ?_
                            have hc526 := hqp2.1.pos (((((20 * v5) + 2) + (3 * v7)) + 1)).toNat (by omega)
                            have hc527 := hqp2.1.le9 (((((20 * v5) + 2) + (3 * v7)) + 1)).toNat (by omega)
                            refine lv_iload_n hx hb dX9_merge_271 rfl (lv_at hl 6 rfl) ?_
                            refine rz_icmp_ne (tgt := 290) F (by omega) (by omega) dX9_merge_272 (by decide) (fun h272_527 => ?_) (fun h272_527 => ?_)
                            · refine lv_iinc (v := zI (v7 + 1)) (lv' := [(7, .int (zI (v7 + 1))), (6, .int (zI (20 * v5))), (5, .int (zI v5)), (0, .ref y), (1, .ref a), (2, .int (zI x)), (3, .int (zI w)), (4, .ref f)]) hx hb dX9_merge_290 hl (k := 0) rfl (zI_add _ _) (by decide) rfl (fun ls hl => ?_)
                              refine lv_goto (tgt := 229) hx hb dX9_merge_293 (by decide) ?_
                              exact ih3 (v7 + 1) gq2 _ _ (by omega) (by omega) hqp2 hmt2 (Mst.sA hms2 (by omega) hnw (by omega) ⟨by omega, by omega⟩ (Or.inr ⟨by omega, rfl⟩)) hP hD hS ls (lv_sub hl [0, 1, 2, 3, 4, 5, 6, 7] rfl)
                            · refine lv_aload hx hb dX9_merge_275 (lv_at hl 7 rfl) ?_
                              refine lv_iload hx hb dX9_merge_277 (lv_at hl 1 rfl) ?_
                              refine lv_iconst (v := zI 2) hx hb dX9_merge_279 rfl ?_
                              refine r_iadd (v := zI ((20 * v5) + 2)) F dX9_merge_280 (zI_add _ _) ?_
                              refine lv_iconst (v := zI 3) hx hb dX9_merge_281 rfl ?_
                              refine lv_iload hx hb dX9_merge_282 (lv_at hl 0 rfl) ?_
                              refine r_imul (v := zI (3 * v7)) F dX9_merge_284 (zI_mul _ _) ?_
                              refine r_iadd (v := zI (((20 * v5) + 2) + (3 * v7))) F dX9_merge_285 (zI_add _ _) ?_
                              refine lv_iconst (v := zI 1) hx hb dX9_merge_286 rfl ?_
                              refine r_iadd (v := zI ((((20 * v5) + 2) + (3 * v7)) + 1)) F dX9_merge_287 (zI_add _ _) ?_
                              refine lv_iload_n hx hb dX9_merge_288 rfl (lv_at hl 5 rfl) ?_
                              refine rz_iastG F hK hP hD hS 2 0 rfl rfl (by omega) (by omega) dX9_merge_289 (w1 := fun g529 => [(y, .inr (9, [.int (zI (i 0)), .ref (q 0), .int (zI (i 1)), .int (zI (i 2)), .int (zI (i 3)), .int (zI (i 4)), .int (zI (i 5)), .int (zI (i 6)), .int (zI (i 7)), .int (zI (i 8)), .int (zI (i 9)), .int (zI (i 10)), .ref (q 1), .int (zI (i 11)), .int (zI (i 12)), .ref (q 2), .ref (q 3), .ref (q 4), .ref (q 5), .ref (q 6), .ref (q 7), .ref (q 8), .ref (q 9), .ref (q 10), .ref (q 11), .ref (q 12), .ref (q 13), .ref (q 14), .ref (q 15), .ref (q 16), .int (zI (i 13)), .int (zI (i 14)), .int (zI (i 15)), .int (zI (i 16)), .int (zI (i 17)), .int (zI (i 18)), .ref (q 17), .ref (q 18), .ref (q 19), .ref (q 20)])), (a, .inl (cI, 200, .inl (fun k => zI (g_p k)))), (f, .inl (cI, 200, .inl (fun k => zI (g529 k))))]) (fun _ => rfl) (fun g529 e_g529 H locs hP hD hS => ?_)
                              have hqp530 : ProgOk g529 := ProgOk.tgt3 hqp2 e_g529 (i := v5) (n := v7) (by omega) (by omega) (by omega) (by omega) (j := (((20 * v5) + 2) + (3 * v7)).toNat) (by omega) (by omega)
                              have hmt531 := MT.keepA hmt2 e_g529 (i := v5) (n := v7) (by omega) (by omega) (by omega)
                              refine lv_iinc (v := zI (v7 + 1)) (lv' := [(7, .int (zI (v7 + 1))), (6, .int (zI (20 * v5))), (5, .int (zI v5)), (0, .ref y), (1, .ref a), (2, .int (zI x)), (3, .int (zI w)), (4, .ref f)]) hx hb dX9_merge_290 hl (k := 0) rfl (zI_add _ _) (by decide) rfl (fun ls hl => ?_)
                              refine lv_goto (tgt := 229) hx hb dX9_merge_293 (by decide) ?_
                              exact ih3 (v7 + 1) g529 _ _ (by omega) (by omega) hqp530 hmt531 (Mst.sA hms2 (by omega) hnw (by omega) ⟨by omega, by omega⟩ (Or.inl ⟨by omega, by omega, e_g529⟩)) hP hD hS ls (lv_sub hl [0, 1, 2, 3, 4, 5, 6, 7] rfl)
                    · refine lv_aload hx hb dX9_merge_205 (lv_at hl 6 rfl) ?_
                      refine lv_iload hx hb dX9_merge_207 (lv_at hl 0 rfl) ?_
                      refine lv_bipush (v := zI 18) hx hb dX9_merge_209 (by decide) ?_
                      refine r_iadd (v := zI ((20 * v5) + 18)) F dX9_merge_211 (zI_add _ _) ?_
                      refine rz_iald F hK hP 2 0 rfl rfl (by omega) (by omega) dX9_merge_212 ?_
                      have hc532 := hqp517.1.pos (((20 * v5) + 18)).toNat (by omega)
                      have hc533 := hqp517.1.le9 (((20 * v5) + 18)).toNat (by omega)
                      refine lv_iload_n hx hb dX9_merge_213 rfl (lv_at hl 5 rfl) ?_
                      refine rz_icmp_ne (tgt := 226) F (by omega) (by omega) dX9_merge_214 (by decide) (fun h214_533 => ?_) (fun h214_533 => ?_)
                      · refine lv_iconst (v := zI 0) hx hb dX9_merge_226 rfl ?_
                        have hms8 : Mst g_p x w (i 13) g516 v5 (3 + 0) := Mst.s18 hms6 (by omega) hnw (by omega) (Or.inr ⟨by omega, rfl⟩)
                        refine lv_istore (lv' := [(7, .int (zI 0)), (6, .int (zI (20 * v5))), (5, .int (zI v5)), (0, .ref y), (1, .ref a), (2, .int (zI x)), (3, .int (zI w)), (4, .ref f)]) hx hb dX9_merge_227 hl (by decide) rfl (fun ls hl => ?_)
                        refine W.widen (k := 0) (n := 0) (Nat.le_of_ble_eq_true rfl) (Nat.le_of_ble_eq_true rfl) ?_
                        refine (?_ : ∀ (n9_3 : Nat) (v7 : Int) (gq2 : Nat → Int) (H : Heap) (locs : List Loc), (0 ≤ v7 ∧ v7 ≤ 4) → (4 - v7 : Int).toNat < n9_3 → (ProgOk gq2) → (MT g_p gq2 w) → (Mst g_p x w (i 13) gq2 v5 (3 + v7)) → va_P G vwCl [(y, .inr (9, [.int (zI (i 0)), .ref (q 0), .int (zI (i 1)), .int (zI (i 2)), .int (zI (i 3)), .int (zI (i 4)), .int (zI (i 5)), .int (zI (i 6)), .int (zI (i 7)), .int (zI (i 8)), .int (zI (i 9)), .int (zI (i 10)), .ref (q 1), .int (zI (i 11)), .int (zI (i 12)), .ref (q 2), .ref (q 3), .ref (q 4), .ref (q 5), .ref (q 6), .ref (q 7), .ref (q 8), .ref (q 9), .ref (q 10), .ref (q 11), .ref (q 12), .ref (q 13), .ref (q 14), .ref (q 15), .ref (q 16), .int (zI (i 13)), .int (zI (i 14)), .int (zI (i 15)), .int (zI (i 16)), .int (zI (i 17)), .int (zI (i 18)), .ref (q 17), .ref (q 18), .ref (q 19), .ref (q 20)])), (a, .inl (cI, 200, .inl (fun k => zI (g_p k)))), (f, .inl (cI, 200, .inl (fun k => zI (gq2 k))))] H → va_D A [(y, .inr (9, [.int (zI (i 0)), .ref (q 0), .int (zI (i 1)), .int (zI (i 2)), .int (zI (i 3)), .int (zI (i 4)), .int (zI (i 5)), .int (zI (i 6)), .int (zI (i 7)), .int (zI (i 8)), .int (zI (i 9)), .int (zI (i 10)), .ref (q 1), .int (zI (i 11)), .int (zI (i 12)), .ref (q 2), .ref (q 3), .ref (q 4), .ref (q 5), .ref (q 6), .ref (q 7), .ref (q 8), .ref (q 9), .ref (q 10), .ref (q 11), .ref (q 12), .ref (q 13), .ref (q 14), .ref (q 15), .ref (q 16), .int (zI (i 13)), .int (zI (i 14)), .int (zI (i 15)), .int (zI (i 16)), .int (zI (i 17)), .int (zI (i 18)), .ref (q 17), .ref (q 18), .ref (q 19), .ref (q 20)])), (a, .inl (cI, 200, .inl (fun k => zI (g_p k)))), (f, .inl (cI, 200, .inl (fun k => zI (gq2 k))))] → va_S A s.heap H locs → ∀ ls : Array Slot, lv_has ls 8 [(7, .int (zI v7)), (6, .int (zI (20 * v5))), (5, .int (zI v5)), (0, .ref y), (1, .ref a), (2, .int (zI x)), (3, .int (zI w)), (4, .ref f)] → W p l e rm_X9_mergeX s m ([.ref y, .ref a, .int (zI x), .int (zI w), .ref f] : List Value).toArray below meth c H locs 0 0 Q (F0 m 229 ls [])) ((4 - 0 : Int).toNat + 1) 0 g516 _ _ (by omega) (by omega) hqp517 hmt518 hms8 hP hD hS ls hl
                        clear hP hD hS hl ls
                        intro n9_3
                        induction n9_3 with
                        | zero =>
                          intro v7 gq2 H locs hI hM
                          exact absurd hM (by omega)
                        | succ n9_3 ih3 =>
                          intro v7 gq2 H locs hI3 hM3 hqp2 hmt2 hms2 hP hD hS ls hl
                          refine lv_iload hx hb dX9_merge_229 (lv_at hl 0 rfl) ?_
                          refine lv_aload hx hb dX9_merge_231 (lv_at hl 7 rfl) ?_
                          refine lv_iload hx hb dX9_merge_233 (lv_at hl 1 rfl) ?_
                          refine lv_iconst (v := zI 1) hx hb dX9_merge_235 rfl ?_
                          refine r_iadd (v := zI ((20 * v5) + 1)) F dX9_merge_236 (zI_add _ _) ?_
                          refine rz_iald F hK hP 2 0 rfl rfl (by omega) (by omega) dX9_merge_237 ?_
                          have hpl535 : 0 ≤ (gq2 (((20 * v5) + 1)).toNat) ∧ (gq2 (((20 * v5) + 1)).toNat) ≤ 4 := ProgR.at hqp2.1 (e := ((20 * v5) + 1)) v5 1 (by omega) (by omega) (by decide) rfl
                          refine rz_icmp_ge (tgt := 296) F (by omega) (by omega) dX9_merge_238 (by decide) (fun h238_535 => ?_) (fun h238_535 => ?_)
                          · refine lv_iinc (v := zI (v5 + 1)) (lv' := [(5, .int (zI (v5 + 1))), (7, .int (zI v7)), (6, .int (zI (20 * v5))), (0, .ref y), (1, .ref a), (2, .int (zI x)), (3, .int (zI w)), (4, .ref f)]) hx hb dX9_merge_296 hl (k := 2) rfl (zI_add _ _) (by decide) rfl (fun ls hl => ?_)
                            refine lv_goto (tgt := 132) hx hb dX9_merge_299 (by decide) ?_
                            exact ih2 (v5 + 1) gq2 _ _ (by omega) (by omega) hqp2 hmt2 (Mst.fin hms2 (by omega) hnw ⟨by omega, by omega⟩) hP hD hS ls (lv_sub hl [0, 3, 4, 5, 6, 7] rfl)
                          · refine lv_aload hx hb dX9_merge_241 (lv_at hl 7 rfl) ?_
                            refine lv_iload hx hb dX9_merge_243 (lv_at hl 1 rfl) ?_
                            refine lv_iconst (v := zI 2) hx hb dX9_merge_245 rfl ?_
                            refine r_iadd (v := zI ((20 * v5) + 2)) F dX9_merge_246 (zI_add _ _) ?_
                            refine lv_iconst (v := zI 3) hx hb dX9_merge_247 rfl ?_
                            refine lv_iload hx hb dX9_merge_248 (lv_at hl 0 rfl) ?_
                            refine r_imul (v := zI (3 * v7)) F dX9_merge_250 (zI_mul _ _) ?_
                            refine r_iadd (v := zI (((20 * v5) + 2) + (3 * v7))) F dX9_merge_251 (zI_add _ _) ?_
                            refine rz_iald F hK hP 2 0 rfl rfl (by omega) (by omega) dX9_merge_252 ?_
                            have hc537 := ProgOk.act hqp2 (i := v5) (n := v7) (k := (((20 * v5) + 2) + (3 * v7))) (by omega) (by omega) (by omega)
                            refine lv_iconst (v := zI 3) hx hb dX9_merge_253 rfl ?_
                            refine rz_icmp_ne (tgt := 290) F (by omega) (by omega) dX9_merge_254 (by decide) (fun h254_537 => ?_) (fun h254_537 => ?_)
                            · refine lv_iinc (v := zI (v7 + 1)) (lv' := [(7, .int (zI (v7 + 1))), (6, .int (zI (20 * v5))), (5, .int (zI v5)), (0, .ref y), (1, .ref a), (2, .int (zI x)), (3, .int (zI w)), (4, .ref f)]) hx hb dX9_merge_290 hl (k := 0) rfl (zI_add _ _) (by decide) rfl (fun ls hl => ?_)
                              refine lv_goto (tgt := 229) hx hb dX9_merge_293 (by decide) ?_
                              exact ih3 (v7 + 1) gq2 _ _ (by omega) (by omega) hqp2 hmt2 (Mst.sA hms2 (by omega) hnw (by omega) ⟨by omega, by omega⟩ (Or.inr ⟨by omega, rfl⟩)) hP hD hS ls (lv_sub hl [0, 1, 2, 3, 4, 5, 6, 7] rfl)
                            · refine lv_aload hx hb dX9_merge_257 (lv_at hl 7 rfl) ?_
                              refine lv_iload hx hb dX9_merge_259 (lv_at hl 1 rfl) ?_
                              refine lv_iconst (v := zI 2) hx hb dX9_merge_261 rfl ?_
                              refine r_iadd (v := zI ((20 * v5) + 2)) F dX9_merge_262 (zI_add _ _) ?_
                              refine lv_iconst (v := zI 3) hx hb dX9_merge_263 rfl ?_
                              refine lv_iload hx hb dX9_merge_264 (lv_at hl 0 rfl) ?_
                              refine r_imul (v := zI (3 * v7)) F dX9_merge_266 (zI_mul _ _) ?_
                              refine r_iadd (v := zI (((20 * v5) + 2) + (3 * v7))) F dX9_merge_267 (zI_add _ _) ?_
                              refine lv_iconst (v := zI 1) hx hb dX9_merge_268 rfl ?_
                              refine r_iadd (v := zI ((((20 * v5) + 2) + (3 * v7)) + 1)) F dX9_merge_269 (zI_add _ _) ?_
                              refine rz_iald F hK hP 2 0 rfl rfl (by omega) (by omega) dX9_merge_270 ?_
                              have hc539 := hqp2.1.pos (((((20 * v5) + 2) + (3 * v7)) + 1)).toNat (by omega)
                              have hc540 := hqp2.1.le9 (((((20 * v5) + 2) + (3 * v7)) + 1)).toNat (by omega)
                              refine lv_iload_n hx hb dX9_merge_271 rfl (lv_at hl 6 rfl) ?_
                              refine rz_icmp_ne (tgt := 290) F (by omega) (by omega) dX9_merge_272 (by decide) (fun h272_540 => ?_) (fun h272_540 => ?_)
                              · refine lv_iinc (v := zI (v7 + 1)) (lv' := [(7, .int (zI (v7 + 1))), (6, .int (zI (20 * v5))), (5, .int (zI v5)), (0, .ref y), (1, .ref a), (2, .int (zI x)), (3, .int (zI w)), (4, .ref f)]) hx hb dX9_merge_290 hl (k := 0) rfl (zI_add _ _) (by decide) rfl (fun ls hl => ?_)
                                refine lv_goto (tgt := 229) hx hb dX9_merge_293 (by decide) ?_
                                exact ih3 (v7 + 1) gq2 _ _ (by omega) (by omega) hqp2 hmt2 (Mst.sA hms2 (by omega) hnw (by omega) ⟨by omega, by omega⟩ (Or.inr ⟨by omega, rfl⟩)) hP hD hS ls (lv_sub hl [0, 1, 2, 3, 4, 5, 6, 7] rfl)
                              · refine lv_aload hx hb dX9_merge_275 (lv_at hl 7 rfl) ?_
                                refine lv_iload hx hb dX9_merge_277 (lv_at hl 1 rfl) ?_
                                refine lv_iconst (v := zI 2) hx hb dX9_merge_279 rfl ?_
                                refine r_iadd (v := zI ((20 * v5) + 2)) F dX9_merge_280 (zI_add _ _) ?_
                                refine lv_iconst (v := zI 3) hx hb dX9_merge_281 rfl ?_
                                refine lv_iload hx hb dX9_merge_282 (lv_at hl 0 rfl) ?_
                                refine r_imul (v := zI (3 * v7)) F dX9_merge_284 (zI_mul _ _) ?_
                                refine r_iadd (v := zI (((20 * v5) + 2) + (3 * v7))) F dX9_merge_285 (zI_add _ _) ?_
                                refine lv_iconst (v := zI 1) hx hb dX9_merge_286 rfl ?_
                                refine r_iadd (v := zI ((((20 * v5) + 2) + (3 * v7)) + 1)) F dX9_merge_287 (zI_add _ _) ?_
                                refine lv_iload_n hx hb dX9_merge_288 rfl (lv_at hl 5 rfl) ?_
                                refine rz_iastG F hK hP hD hS 2 0 rfl rfl (by omega) (by omega) dX9_merge_289 (w1 := fun g542 => [(y, .inr (9, [.int (zI (i 0)), .ref (q 0), .int (zI (i 1)), .int (zI (i 2)), .int (zI (i 3)), .int (zI (i 4)), .int (zI (i 5)), .int (zI (i 6)), .int (zI (i 7)), .int (zI (i 8)), .int (zI (i 9)), .int (zI (i 10)), .ref (q 1), .int (zI (i 11)), .int (zI (i 12)), .ref (q 2), .ref (q 3), .ref (q 4), .ref (q 5), .ref (q 6), .ref (q 7), .ref (q 8), .ref (q 9), .ref (q 10), .ref (q 11), .ref (q 12), .ref (q 13), .ref (q 14), .ref (q 15), .ref (q 16), .int (zI (i 13)), .int (zI (i 14)), .int (zI (i 15)), .int (zI (i 16)), .int (zI (i 17)), .int (zI (i 18)), .ref (q 17), .ref (q 18), .ref (q 19), .ref (q 20)])), (a, .inl (cI, 200, .inl (fun k => zI (g_p k)))), (f, .inl (cI, 200, .inl (fun k => zI (g542 k))))]) (fun _ => rfl) (fun g542 e_g542 H locs hP hD hS => ?_)
                                have hqp543 : ProgOk g542 := ProgOk.tgt3 hqp2 e_g542 (i := v5) (n := v7) (by omega) (by omega) (by omega) (by omega) (j := (((20 * v5) + 2) + (3 * v7)).toNat) (by omega) (by omega)
                                have hmt544 := MT.keepA hmt2 e_g542 (i := v5) (n := v7) (by omega) (by omega) (by omega)
                                refine lv_iinc (v := zI (v7 + 1)) (lv' := [(7, .int (zI (v7 + 1))), (6, .int (zI (20 * v5))), (5, .int (zI v5)), (0, .ref y), (1, .ref a), (2, .int (zI x)), (3, .int (zI w)), (4, .ref f)]) hx hb dX9_merge_290 hl (k := 0) rfl (zI_add _ _) (by decide) rfl (fun ls hl => ?_)
                                refine lv_goto (tgt := 229) hx hb dX9_merge_293 (by decide) ?_
                                exact ih3 (v7 + 1) g542 _ _ (by omega) (by omega) hqp543 hmt544 (Mst.sA hms2 (by omega) hnw (by omega) ⟨by omega, by omega⟩ (Or.inl ⟨by omega, by omega, e_g542⟩)) hP hD hS ls (lv_sub hl [0, 1, 2, 3, 4, 5, 6, 7] rfl)
                      · refine lv_aload hx hb dX9_merge_217 (lv_at hl 6 rfl) ?_
                        refine lv_iload hx hb dX9_merge_219 (lv_at hl 0 rfl) ?_
                        refine lv_bipush (v := zI 18) hx hb dX9_merge_221 (by decide) ?_
                        refine r_iadd (v := zI ((20 * v5) + 18)) F dX9_merge_223 (zI_add _ _) ?_
                        refine lv_iload_n hx hb dX9_merge_224 rfl (lv_at hl 4 rfl) ?_
                        refine rz_iastG F hK hP hD hS 2 0 rfl rfl (by omega) (by omega) dX9_merge_225 (w1 := fun g545 => [(y, .inr (9, [.int (zI (i 0)), .ref (q 0), .int (zI (i 1)), .int (zI (i 2)), .int (zI (i 3)), .int (zI (i 4)), .int (zI (i 5)), .int (zI (i 6)), .int (zI (i 7)), .int (zI (i 8)), .int (zI (i 9)), .int (zI (i 10)), .ref (q 1), .int (zI (i 11)), .int (zI (i 12)), .ref (q 2), .ref (q 3), .ref (q 4), .ref (q 5), .ref (q 6), .ref (q 7), .ref (q 8), .ref (q 9), .ref (q 10), .ref (q 11), .ref (q 12), .ref (q 13), .ref (q 14), .ref (q 15), .ref (q 16), .int (zI (i 13)), .int (zI (i 14)), .int (zI (i 15)), .int (zI (i 16)), .int (zI (i 17)), .int (zI (i 18)), .ref (q 17), .ref (q 18), .ref (q 19), .ref (q 20)])), (a, .inl (cI, 200, .inl (fun k => zI (g_p k)))), (f, .inl (cI, 200, .inl (fun k => zI (g545 k))))]) (fun _ => rfl) (fun g545 e_g545 H locs hP hD hS => ?_)
                        have hqp546 : ProgOk g545 := ⟨hqp517.1.set (m := 9) e_g545 18 (by omega) rfl (by omega), hqp517.2.set e_g545 (by omega)⟩
                        have hmt547 := hmt518.keep e_g545 (by omega)
                        refine lv_iconst (v := zI 0) hx hb dX9_merge_226 rfl ?_
                        have hms8 : Mst g_p x w (i 13) g545 v5 (3 + 0) := Mst.s18 hms6 (by omega) hnw (by omega) (Or.inl ⟨by omega, by omega, e_g545⟩)
                        refine lv_istore (lv' := [(7, .int (zI 0)), (6, .int (zI (20 * v5))), (5, .int (zI v5)), (0, .ref y), (1, .ref a), (2, .int (zI x)), (3, .int (zI w)), (4, .ref f)]) hx hb dX9_merge_227 hl (by decide) rfl (fun ls hl => ?_)
                        refine W.widen (k := 0) (n := 0) (Nat.le_of_ble_eq_true rfl) (Nat.le_of_ble_eq_true rfl) ?_
                        refine (?_ : ∀ (n9_3 : Nat) (v7 : Int) (gq2 : Nat → Int) (H : Heap) (locs : List Loc), (0 ≤ v7 ∧ v7 ≤ 4) → (4 - v7 : Int).toNat < n9_3 → (ProgOk gq2) → (MT g_p gq2 w) → (Mst g_p x w (i 13) gq2 v5 (3 + v7)) → va_P G vwCl [(y, .inr (9, [.int (zI (i 0)), .ref (q 0), .int (zI (i 1)), .int (zI (i 2)), .int (zI (i 3)), .int (zI (i 4)), .int (zI (i 5)), .int (zI (i 6)), .int (zI (i 7)), .int (zI (i 8)), .int (zI (i 9)), .int (zI (i 10)), .ref (q 1), .int (zI (i 11)), .int (zI (i 12)), .ref (q 2), .ref (q 3), .ref (q 4), .ref (q 5), .ref (q 6), .ref (q 7), .ref (q 8), .ref (q 9), .ref (q 10), .ref (q 11), .ref (q 12), .ref (q 13), .ref (q 14), .ref (q 15), .ref (q 16), .int (zI (i 13)), .int (zI (i 14)), .int (zI (i 15)), .int (zI (i 16)), .int (zI (i 17)), .int (zI (i 18)), .ref (q 17), .ref (q 18), .ref (q 19), .ref (q 20)])), (a, .inl (cI, 200, .inl (fun k => zI (g_p k)))), (f, .inl (cI, 200, .inl (fun k => zI (gq2 k))))] H → va_D A [(y, .inr (9, [.int (zI (i 0)), .ref (q 0), .int (zI (i 1)), .int (zI (i 2)), .int (zI (i 3)), .int (zI (i 4)), .int (zI (i 5)), .int (zI (i 6)), .int (zI (i 7)), .int (zI (i 8)), .int (zI (i 9)), .int (zI (i 10)), .ref (q 1), .int (zI (i 11)), .int (zI (i 12)), .ref (q 2), .ref (q 3), .ref (q 4), .ref (q 5), .ref (q 6), .ref (q 7), .ref (q 8), .ref (q 9), .ref (q 10), .ref (q 11), .ref (q 12), .ref (q 13), .ref (q 14), .ref (q 15), .ref (q 16), .int (zI (i 13)), .int (zI (i 14)), .int (zI (i 15)), .int (zI (i 16)), .int (zI (i 17)), .int (zI (i 18)), .ref (q 17), .ref (q 18), .ref (q 19), .ref (q 20)])), (a, .inl (cI, 200, .inl (fun k => zI (g_p k)))), (f, .inl (cI, 200, .inl (fun k => zI (gq2 k))))] → va_S A s.heap H locs → ∀ ls : Array Slot, lv_has ls 8 [(7, .int (zI v7)), (6, .int (zI (20 * v5))), (5, .int (zI v5)), (0, .ref y), (1, .ref a), (2, .int (zI x)), (3, .int (zI w)), (4, .ref f)] → W p l e rm_X9_mergeX s m ([.ref y, .ref a, .int (zI x), .int (zI w), .ref f] : List Value).toArray below meth c H locs 0 0 Q (F0 m 229 ls [])) ((4 - 0 : Int).toNat + 1) 0 g545 _ _ (by omega) (by omega) hqp546 hmt547 hms8 hP hD hS ls hl
                        clear hP hD hS hl ls
                        intro n9_3
                        induction n9_3 with
                        | zero =>
                          intro v7 gq2 H locs hI hM
                          exact absurd hM (by omega)
                        | succ n9_3 ih3 =>
                          intro v7 gq2 H locs hI3 hM3 hqp2 hmt2 hms2 hP hD hS ls hl
                          refine lv_iload hx hb dX9_merge_229 (lv_at hl 0 rfl) ?_
                          refine lv_aload hx hb dX9_merge_231 (lv_at hl 7 rfl) ?_
                          refine lv_iload hx hb dX9_merge_233 (lv_at hl 1 rfl) ?_
                          refine lv_iconst (v := zI 1) hx hb dX9_merge_235 rfl ?_
                          refine r_iadd (v := zI ((20 * v5) + 1)) F dX9_merge_236 (zI_add _ _) ?_
                          refine rz_iald F hK hP 2 0 rfl rfl (by omega) (by omega) dX9_merge_237 ?_
                          have hpl548 : 0 ≤ (gq2 (((20 * v5) + 1)).toNat) ∧ (gq2 (((20 * v5) + 1)).toNat) ≤ 4 := ProgR.at hqp2.1 (e := ((20 * v5) + 1)) v5 1 (by omega) (by omega) (by decide) rfl
                          refine rz_icmp_ge (tgt := 296) F (by omega) (by omega) dX9_merge_238 (by decide) (fun h238_548 => ?_) (fun h238_548 => ?_)
                          · refine lv_iinc (v := zI (v5 + 1)) (lv' := [(5, .int (zI (v5 + 1))), (7, .int (zI v7)), (6, .int (zI (20 * v5))), (0, .ref y), (1, .ref a), (2, .int (zI x)), (3, .int (zI w)), (4, .ref f)]) hx hb dX9_merge_296 hl (k := 2) rfl (zI_add _ _) (by decide) rfl (fun ls hl => ?_)
                            refine lv_goto (tgt := 132) hx hb dX9_merge_299 (by decide) ?_
                            exact ih2 (v5 + 1) gq2 _ _ (by omega) (by omega) hqp2 hmt2 (Mst.fin hms2 (by omega) hnw ⟨by omega, by omega⟩) hP hD hS ls (lv_sub hl [0, 3, 4, 5, 6, 7] rfl)
                          · refine lv_aload hx hb dX9_merge_241 (lv_at hl 7 rfl) ?_
                            refine lv_iload hx hb dX9_merge_243 (lv_at hl 1 rfl) ?_
                            refine lv_iconst (v := zI 2) hx hb dX9_merge_245 rfl ?_
                            refine r_iadd (v := zI ((20 * v5) + 2)) F dX9_merge_246 (zI_add _ _) ?_
                            refine lv_iconst (v := zI 3) hx hb dX9_merge_247 rfl ?_
                            refine lv_iload hx hb dX9_merge_248 (lv_at hl 0 rfl) ?_
                            refine r_imul (v := zI (3 * v7)) F dX9_merge_250 (zI_mul _ _) ?_
                            refine r_iadd (v := zI (((20 * v5) + 2) + (3 * v7))) F dX9_merge_251 (zI_add _ _) ?_
                            refine rz_iald F hK hP 2 0 rfl rfl (by omega) (by omega) dX9_merge_252 ?_
                            have hc550 := ProgOk.act hqp2 (i := v5) (n := v7) (k := (((20 * v5) + 2) + (3 * v7))) (by omega) (by omega) (by omega)
                            refine lv_iconst (v := zI 3) hx hb dX9_merge_253 rfl ?_
                            refine rz_icmp_ne (tgt := 290) F (by omega) (by omega) dX9_merge_254 (by decide) (fun h254_550 => ?_) (fun h254_550 => ?_)
                            · refine lv_iinc (v := zI (v7 + 1)) (lv' := [(7, .int (zI (v7 + 1))), (6, .int (zI (20 * v5))), (5, .int (zI v5)), (0, .ref y), (1, .ref a), (2, .int (zI x)), (3, .int (zI w)), (4, .ref f)]) hx hb dX9_merge_290 hl (k := 0) rfl (zI_add _ _) (by decide) rfl (fun ls hl => ?_)
                              refine lv_goto (tgt := 229) hx hb dX9_merge_293 (by decide) ?_
                              exact ih3 (v7 + 1) gq2 _ _ (by omega) (by omega) hqp2 hmt2 (Mst.sA hms2 (by omega) hnw (by omega) ⟨by omega, by omega⟩ (Or.inr ⟨by omega, rfl⟩)) hP hD hS ls (lv_sub hl [0, 1, 2, 3, 4, 5, 6, 7] rfl)
                            · refine lv_aload hx hb dX9_merge_257 (lv_at hl 7 rfl) ?_
                              refine lv_iload hx hb dX9_merge_259 (lv_at hl 1 rfl) ?_
                              refine lv_iconst (v := zI 2) hx hb dX9_merge_261 rfl ?_
                              refine r_iadd (v := zI ((20 * v5) + 2)) F dX9_merge_262 (zI_add _ _) ?_
                              refine lv_iconst (v := zI 3) hx hb dX9_merge_263 rfl ?_
                              refine lv_iload hx hb dX9_merge_264 (lv_at hl 0 rfl) ?_
                              refine r_imul (v := zI (3 * v7)) F dX9_merge_266 (zI_mul _ _) ?_
                              refine r_iadd (v := zI (((20 * v5) + 2) + (3 * v7))) F dX9_merge_267 (zI_add _ _) ?_
                              refine lv_iconst (v := zI 1) hx hb dX9_merge_268 rfl ?_
                              refine r_iadd (v := zI ((((20 * v5) + 2) + (3 * v7)) + 1)) F dX9_merge_269 (zI_add _ _) ?_
                              refine rz_iald F hK hP 2 0 rfl rfl (by omega) (by omega) dX9_merge_270 ?_
                              have hc552 := hqp2.1.pos (((((20 * v5) + 2) + (3 * v7)) + 1)).toNat (by omega)
                              have hc553 := hqp2.1.le9 (((((20 * v5) + 2) + (3 * v7)) + 1)).toNat (by omega)
                              refine lv_iload_n hx hb dX9_merge_271 rfl (lv_at hl 6 rfl) ?_
                              refine rz_icmp_ne (tgt := 290) F (by omega) (by omega) dX9_merge_272 (by decide) (fun h272_553 => ?_) (fun h272_553 => ?_)
                              · refine lv_iinc (v := zI (v7 + 1)) (lv' := [(7, .int (zI (v7 + 1))), (6, .int (zI (20 * v5))), (5, .int (zI v5)), (0, .ref y), (1, .ref a), (2, .int (zI x)), (3, .int (zI w)), (4, .ref f)]) hx hb dX9_merge_290 hl (k := 0) rfl (zI_add _ _) (by decide) rfl (fun ls hl => ?_)
                                refine lv_goto (tgt := 229) hx hb dX9_merge_293 (by decide) ?_
                                exact ih3 (v7 + 1) gq2 _ _ (by omega) (by omega) hqp2 hmt2 (Mst.sA hms2 (by omega) hnw (by omega) ⟨by omega, by omega⟩ (Or.inr ⟨by omega, rfl⟩)) hP hD hS ls (lv_sub hl [0, 1, 2, 3, 4, 5, 6, 7] rfl)
                              · refine lv_aload hx hb dX9_merge_275 (lv_at hl 7 rfl) ?_
                                refine lv_iload hx hb dX9_merge_277 (lv_at hl 1 rfl) ?_
                                refine lv_iconst (v := zI 2) hx hb dX9_merge_279 rfl ?_
                                refine r_iadd (v := zI ((20 * v5) + 2)) F dX9_merge_280 (zI_add _ _) ?_
                                refine lv_iconst (v := zI 3) hx hb dX9_merge_281 rfl ?_
                                refine lv_iload hx hb dX9_merge_282 (lv_at hl 0 rfl) ?_
                                refine r_imul (v := zI (3 * v7)) F dX9_merge_284 (zI_mul _ _) ?_
                                refine r_iadd (v := zI (((20 * v5) + 2) + (3 * v7))) F dX9_merge_285 (zI_add _ _) ?_
                                refine lv_iconst (v := zI 1) hx hb dX9_merge_286 rfl ?_
                                refine r_iadd (v := zI ((((20 * v5) + 2) + (3 * v7)) + 1)) F dX9_merge_287 (zI_add _ _) ?_
                                refine lv_iload_n hx hb dX9_merge_288 rfl (lv_at hl 5 rfl) ?_
                                refine rz_iastG F hK hP hD hS 2 0 rfl rfl (by omega) (by omega) dX9_merge_289 (w1 := fun g555 => [(y, .inr (9, [.int (zI (i 0)), .ref (q 0), .int (zI (i 1)), .int (zI (i 2)), .int (zI (i 3)), .int (zI (i 4)), .int (zI (i 5)), .int (zI (i 6)), .int (zI (i 7)), .int (zI (i 8)), .int (zI (i 9)), .int (zI (i 10)), .ref (q 1), .int (zI (i 11)), .int (zI (i 12)), .ref (q 2), .ref (q 3), .ref (q 4), .ref (q 5), .ref (q 6), .ref (q 7), .ref (q 8), .ref (q 9), .ref (q 10), .ref (q 11), .ref (q 12), .ref (q 13), .ref (q 14), .ref (q 15), .ref (q 16), .int (zI (i 13)), .int (zI (i 14)), .int (zI (i 15)), .int (zI (i 16)), .int (zI (i 17)), .int (zI (i 18)), .ref (q 17), .ref (q 18), .ref (q 19), .ref (q 20)])), (a, .inl (cI, 200, .inl (fun k => zI (g_p k)))), (f, .inl (cI, 200, .inl (fun k => zI (g555 k))))]) (fun _ => rfl) (fun g555 e_g555 H locs hP hD hS => ?_)
                                have hqp556 : ProgOk g555 := ProgOk.tgt3 hqp2 e_g555 (i := v5) (n := v7) (by omega) (by omega) (by omega) (by omega) (j := (((20 * v5) + 2) + (3 * v7)).toNat) (by omega) (by omega)
                                have hmt557 := MT.keepA hmt2 e_g555 (i := v5) (n := v7) (by omega) (by omega) (by omega)
                                refine lv_iinc (v := zI (v7 + 1)) (lv' := [(7, .int (zI (v7 + 1))), (6, .int (zI (20 * v5))), (5, .int (zI v5)), (0, .ref y), (1, .ref a), (2, .int (zI x)), (3, .int (zI w)), (4, .ref f)]) hx hb dX9_merge_290 hl (k := 0) rfl (zI_add _ _) (by decide) rfl (fun ls hl => ?_)
                                refine lv_goto (tgt := 229) hx hb dX9_merge_293 (by decide) ?_
                                exact ih3 (v7 + 1) g555 _ _ (by omega) (by omega) hqp556 hmt557 (Mst.sA hms2 (by omega) hnw (by omega) ⟨by omega, by omega⟩ (Or.inl ⟨by omega, by omega, e_g555⟩)) hP hD hS ls (lv_sub hl [0, 1, 2, 3, 4, 5, 6, 7] rfl)
              · refine lv_goto (tgt := 296) hx hb dX9_merge_158 (by decide) ?_
                refine lv_iinc (v := zI (v5 + 1)) (lv' := [(5, .int (zI (v5 + 1))), (6, .int (zI (20 * v5))), (0, .ref y), (1, .ref a), (2, .int (zI x)), (3, .int (zI w)), (4, .ref f)]) hx hb dX9_merge_296 hl (k := 1) rfl (zI_add _ _) (by decide) rfl (fun ls hl => ?_)
                refine lv_goto (tgt := 132) hx hb dX9_merge_299 (by decide) ?_
                exact ih2 (v5 + 1) gq1 _ _ (by omega) (by omega) hqp1 hmt1 (Mst.skip hms1 (by omega) (by omega)) hP hD hS ls (lv_sub hl [0, 2, 3, 4, 5, 6] rfl)
    · refine lv_aload hx hb dX9_merge_19 (lv_at hl 5 rfl) ?_
      refine lv_bipush (v := zI 20) hx hb dX9_merge_21 (by decide) ?_
      refine lv_iload_n hx hb dX9_merge_23 rfl (lv_at hl 4 rfl) ?_
      refine r_imul (v := zI (20 * w)) F dX9_merge_24 (zI_mul _ _) ?_
      refine lv_iload hx hb dX9_merge_25 (lv_at hl 0 rfl) ?_
      refine r_iadd (v := zI ((20 * w) + v5)) F dX9_merge_27 (zI_add _ _) ?_
      refine lv_iconst (v := zI 0) hx hb dX9_merge_28 rfl ?_
      refine rz_iastG F hK hP hD hS 2 0 rfl rfl (by omega) (by omega) dX9_merge_29 (w1 := fun g558 => [(y, .inr (9, [.int (zI (i 0)), .ref (q 0), .int (zI (i 1)), .int (zI (i 2)), .int (zI (i 3)), .int (zI (i 4)), .int (zI (i 5)), .int (zI (i 6)), .int (zI (i 7)), .int (zI (i 8)), .int (zI (i 9)), .int (zI (i 10)), .ref (q 1), .int (zI (i 11)), .int (zI (i 12)), .ref (q 2), .ref (q 3), .ref (q 4), .ref (q 5), .ref (q 6), .ref (q 7), .ref (q 8), .ref (q 9), .ref (q 10), .ref (q 11), .ref (q 12), .ref (q 13), .ref (q 14), .ref (q 15), .ref (q 16), .int (zI (i 13)), .int (zI (i 14)), .int (zI (i 15)), .int (zI (i 16)), .int (zI (i 17)), .int (zI (i 18)), .ref (q 17), .ref (q 18), .ref (q 19), .ref (q 20)])), (a, .inl (cI, 200, .inl (fun k => zI (g_p k)))), (f, .inl (cI, 200, .inl (fun k => zI (g558 k))))]) (fun _ => rfl) (fun g558 e_g558 H locs hP hD hS => ?_)
      refine lv_iinc (v := zI (v5 + 1)) (lv' := [(5, .int (zI (v5 + 1))), (0, .ref y), (1, .ref a), (2, .int (zI x)), (3, .int (zI w)), (4, .ref f)]) hx hb dX9_merge_30 hl (k := 0) rfl (zI_add _ _) (by decide) rfl (fun ls hl => ?_)
      refine lv_goto (tgt := 12) hx hb dX9_merge_33 (by decide) ?_
      exact ih1 (v5 + 1) g558 _ _ (by omega) (by omega) (zr_step (by omega) hz9 e_g558) hP hD hS ls (lv_sub hl [0, 1, 2, 3, 4, 5] rfl)
abbrev rm_X9_foldsOneX : Room := { frames := 5, cells := 0, slots := 0, locals := 119 }
set_option maxRecDepth 100000 in
set_option maxHeartbeats 8000000 in
theorem c_X9_foldsOneX {l : Launch} {E : (Nat → Prop) → State → Prop} (hO : bw_Ok E) {G : va_G} {cI cB cJ cN cW : ClassId} (y : Nat) (q : Nat → Nat) (i : Nat → Int) (hM : ModOk i) (g_now : Nat → Int) (g_tried : Nat → Int) (g_other : Nat → Int) (g_another : Nat → Int) (x : Int) (hx9 : zR x) (hpn : ProgOk g_now) (hx8 : 0 ≤ x ∧ x ≤ 3) : bw_Ci (S := zV) l yX9_foldsOne (bw_ws (Cond.code yX9_foldsOne cX9_foldsOne 4 (some .boolean))) rm_X9_foldsOneX E G (bw_kt cI cB cJ cN cW) [.ref y, .int (zI x)] [(y, .inr (9, [.int (zI (i 0)), .ref (q 0), .int (zI (i 1)), .int (zI (i 2)), .int (zI (i 3)), .int (zI (i 4)), .int (zI (i 5)), .int (zI (i 6)), .int (zI (i 7)), .int (zI (i 8)), .int (zI (i 9)), .int (zI (i 10)), .ref (q 1), .int (zI (i 11)), .int (zI (i 12)), .ref (q 2), .ref (q 3), .ref (q 4), .ref (q 5), .ref (q 6), .ref (q 7), .ref (q 8), .ref (q 9), .ref (q 10), .ref (q 11), .ref (q 12), .ref (q 13), .ref (q 14), .ref (q 15), .ref (q 16), .int (zI (i 13)), .int (zI (i 14)), .int (zI (i 15)), .int (zI (i 16)), .int (zI (i 17)), .int (zI (i 18)), .ref (q 17), .ref (q 18), .ref (q 19), .ref (q 20)])), ((q 3), .inl (cI, 200, .inl (fun k => zI (g_now k)))), ((q 5), .inl (cI, 200, .inl (fun k => zI (g_tried k)))), ((q 14), .inl (cI, 159, .inl (fun k => zI (g_other k)))), ((q 15), .inl (cI, 159, .inl (fun k => zI (g_another k))))] (fun r u => ∃ z : Int, r = zI z ∧ ((ProgOk ((u 1).2 0) ∧ (0 ≤ z ∧ z ≤ 1) ∧ tN ((u 1).2 0) ≤ tN g_now ∧ Imp (z = 1) (tN ((u 1).2 0) + 1 ≤ tN g_now)) ∧ ((z = 1 ∧ ∃ a b : Int, FPair g_now x (i 13) a b ∧ E2 (mergeF g_now a b (i 13)) ((u 1).2 0)) ∨ (z = 0 ∧ NoB g_now x (i 13) (i 13) (i 13) ∧ ((u 1).2 0) = g_now)))) (fun u => [(y, .inr (9, [.int (zI (i 0)), .ref (q 0), .int (zI (i 1)), .int (zI (i 2)), .int (zI (i 3)), .int (zI (i 4)), .int (zI (i 5)), .int (zI (i 6)), .int (zI (i 7)), .int (zI (i 8)), .int (zI (i 9)), .int (zI (i 10)), .ref (q 1), .int (zI (i 11)), .int (zI (i 12)), .ref (q 2), .ref (q 3), .ref (q 4), .ref (q 5), .ref (q 6), .ref (q 7), .ref (q 8), .ref (q 9), .ref (q 10), .ref (q 11), .ref (q 12), .ref (q 13), .ref (q 14), .ref (q 15), .ref (q 16), .int (zI (i 13)), .int (zI (i 14)), .int (zI (i 15)), .int (zI (i 16)), .int (zI (i 17)), .int (zI (i 18)), .ref (q 17), .ref (q 18), .ref (q 19), .ref (q 20)])), ((q 3), .inl (cI, 200, .inl (fun k => zI (((u 1).2 0) k)))), ((q 5), .inl (cI, 200, .inl (fun k => zI (((u 2).2 0) k)))), ((q 14), .inl (cI, 159, .inl (fun k => zI (((u 3).2 0) k)))), ((q 15), .inl (cI, 159, .inl (fun k => zI (((u 4).2 0) k))))]) := by
  refine bw_Ci.of (cc := cX9_foldsOne) (maxL := 4) (ty := .boolean) (by decide) rfl (Nat.le_of_ble_eq_true rfl) ?_
  intro p e s m below meth c A Q hx hb hml hts hown hin hK hA hS hP hD hE ret ls hl
  have F : CallFix p m c cX9_foldsOne 4 s ([.ref y, .int (zI x)] : List Value).toArray bw_T RX9 := ⟨hx, hb, hml, hown, fun w h => hts w (List.mem_cons_of_mem _ h)⟩
  replace hl : lv_has ls 4 [(0, .ref y), (1, .int (zI x))] := hl
  have hf1 := hM.1
  refine lv_iconst (v := zI 0) hx hb dX9_foldsOne_0 rfl ?_
  refine lv_istore_n (lv' := [(2, .int (zI 0)), (0, .ref y), (1, .int (zI x))]) hx hb dX9_foldsOne_1 rfl hl (by decide) rfl (fun ls hl => ?_)
  refine W.widen (k := 0) (n := 0) (Nat.le_of_ble_eq_true rfl) (Nat.le_of_ble_eq_true rfl) ?_
  refine (?_ : ∀ (n9_1 : Nat) (v2 : Int) (gy1 : Nat → Int) (go1 : Nat → Int) (ga1 : Nat → Int) (H : Heap) (locs : List Loc), (0 ≤ v2 ∧ v2 ≤ 10) → (10 - v2 : Int).toNat < n9_1 → (NoB g_now x (i 13) v2 (v2 + 1)) → va_P G vwCl [(y, .inr (9, [.int (zI (i 0)), .ref (q 0), .int (zI (i 1)), .int (zI (i 2)), .int (zI (i 3)), .int (zI (i 4)), .int (zI (i 5)), .int (zI (i 6)), .int (zI (i 7)), .int (zI (i 8)), .int (zI (i 9)), .int (zI (i 10)), .ref (q 1), .int (zI (i 11)), .int (zI (i 12)), .ref (q 2), .ref (q 3), .ref (q 4), .ref (q 5), .ref (q 6), .ref (q 7), .ref (q 8), .ref (q 9), .ref (q 10), .ref (q 11), .ref (q 12), .ref (q 13), .ref (q 14), .ref (q 15), .ref (q 16), .int (zI (i 13)), .int (zI (i 14)), .int (zI (i 15)), .int (zI (i 16)), .int (zI (i 17)), .int (zI (i 18)), .ref (q 17), .ref (q 18), .ref (q 19), .ref (q 20)])), ((q 3), .inl (cI, 200, .inl (fun k => zI (g_now k)))), ((q 5), .inl (cI, 200, .inl (fun k => zI (gy1 k)))), ((q 14), .inl (cI, 159, .inl (fun k => zI (go1 k)))), ((q 15), .inl (cI, 159, .inl (fun k => zI (ga1 k))))] H → va_D A [(y, .inr (9, [.int (zI (i 0)), .ref (q 0), .int (zI (i 1)), .int (zI (i 2)), .int (zI (i 3)), .int (zI (i 4)), .int (zI (i 5)), .int (zI (i 6)), .int (zI (i 7)), .int (zI (i 8)), .int (zI (i 9)), .int (zI (i 10)), .ref (q 1), .int (zI (i 11)), .int (zI (i 12)), .ref (q 2), .ref (q 3), .ref (q 4), .ref (q 5), .ref (q 6), .ref (q 7), .ref (q 8), .ref (q 9), .ref (q 10), .ref (q 11), .ref (q 12), .ref (q 13), .ref (q 14), .ref (q 15), .ref (q 16), .int (zI (i 13)), .int (zI (i 14)), .int (zI (i 15)), .int (zI (i 16)), .int (zI (i 17)), .int (zI (i 18)), .ref (q 17), .ref (q 18), .ref (q 19), .ref (q 20)])), ((q 3), .inl (cI, 200, .inl (fun k => zI (g_now k)))), ((q 5), .inl (cI, 200, .inl (fun k => zI (gy1 k)))), ((q 14), .inl (cI, 159, .inl (fun k => zI (go1 k)))), ((q 15), .inl (cI, 159, .inl (fun k => zI (ga1 k))))] → va_S A s.heap H locs → ∀ ls : Array Slot, lv_has ls 4 [(2, .int (zI v2)), (0, .ref y), (1, .int (zI x))] → W p l e rm_X9_foldsOneX s m ([.ref y, .int (zI x)] : List Value).toArray below meth c H locs 0 0 Q (F0 m 2 ls [])) ((10 - 0 : Int).toNat + 1) 0 g_tried g_other g_another _ _ (by omega) (by omega) (NoB.first _ _ _) hP hD hS ls hl
  clear hP hD hS hl ls
  intro n9_1
  induction n9_1 with
  | zero =>
    intro v2 gy1 go1 ga1 H locs hI hM
    exact absurd hM (by omega)
  | succ n9_1 ih1 =>
    intro v2 gy1 go1 ga1 H locs hI1 hM1 hnb1 hP hD hS ls hl
    refine lv_iload_n hx hb dX9_foldsOne_2 rfl (lv_at hl 0 rfl) ?_
    refine lv_aload_n hx hb dX9_foldsOne_3 rfl (lv_at hl 1 rfl) ?_
    refine r_get F hK hP 0 30 rfl rfl in_X9 (by decide) k_1193 rfl dX9_foldsOne_4 ?_
    refine rz_icmp_ge (tgt := 101) F (by omega) (by omega) dX9_foldsOne_7 (by decide) (fun h7_1 => ?_) (fun h7_1 => ?_)
    · refine lv_iconst (v := zI 0) hx hb dX9_foldsOne_101 rfl ?_
      exact ret (zI 0) (fun k => [((fun _ => 0), fun _ _ => 0), (fun _ => 0, fun _ => g_now), (fun _ => 0, fun _ => gy1), (fun _ => 0, fun _ => go1), (fun _ => 0, fun _ => ga1)].getD k (fun _ => 0, fun _ _ => 0)) _ _ _ _ _ _ rfl ⟨0, rfl, ⟨⟨hpn, (show 0 ≤ (0 : Int) ∧ (0 : Int) ≤ 1 from by omega), Int.le_refl _, (show Imp ((0 : Int) = 1) (tN g_now + 1 ≤ tN g_now) from fun q9 => absurd q9 (by decide))⟩, Or.inr ⟨rfl, NoB.all hnb1 (by omega), rfl⟩⟩⟩ (bw_subP (isC := [0, 1, 2, 3, 4]) hP rfl) (hD.sub [0, 1, 2, 3, 4] (by decide) rfl) hS (Nat.le_of_ble_eq_true rfl) (Nat.le_of_ble_eq_true rfl) dX9_foldsOne_102
    · refine lv_iload_n hx hb dX9_foldsOne_10 rfl (lv_at hl 0 rfl) ?_
      refine lv_iconst (v := zI 1) hx hb dX9_foldsOne_11 rfl ?_
      refine r_iadd (v := zI (v2 + 1)) F dX9_foldsOne_12 (zI_add _ _) ?_
      refine lv_istore_n (lv' := [(3, .int (zI (v2 + 1))), (2, .int (zI v2)), (0, .ref y), (1, .int (zI x))]) hx hb dX9_foldsOne_13 rfl hl (by decide) rfl (fun ls hl => ?_)
      refine W.widen (k := 0) (n := 0) (Nat.le_of_ble_eq_true rfl) (Nat.le_of_ble_eq_true rfl) ?_
      refine (?_ : ∀ (n9_2 : Nat) (v3 : Int) (gy2 : Nat → Int) (go2 : Nat → Int) (ga2 : Nat → Int) (H : Heap) (locs : List Loc), (v2 < v3 ∧ v3 ≤ 11) → (11 - v3 : Int).toNat < n9_2 → (NoB g_now x (i 13) v2 v3) → va_P G vwCl [(y, .inr (9, [.int (zI (i 0)), .ref (q 0), .int (zI (i 1)), .int (zI (i 2)), .int (zI (i 3)), .int (zI (i 4)), .int (zI (i 5)), .int (zI (i 6)), .int (zI (i 7)), .int (zI (i 8)), .int (zI (i 9)), .int (zI (i 10)), .ref (q 1), .int (zI (i 11)), .int (zI (i 12)), .ref (q 2), .ref (q 3), .ref (q 4), .ref (q 5), .ref (q 6), .ref (q 7), .ref (q 8), .ref (q 9), .ref (q 10), .ref (q 11), .ref (q 12), .ref (q 13), .ref (q 14), .ref (q 15), .ref (q 16), .int (zI (i 13)), .int (zI (i 14)), .int (zI (i 15)), .int (zI (i 16)), .int (zI (i 17)), .int (zI (i 18)), .ref (q 17), .ref (q 18), .ref (q 19), .ref (q 20)])), ((q 3), .inl (cI, 200, .inl (fun k => zI (g_now k)))), ((q 5), .inl (cI, 200, .inl (fun k => zI (gy2 k)))), ((q 14), .inl (cI, 159, .inl (fun k => zI (go2 k)))), ((q 15), .inl (cI, 159, .inl (fun k => zI (ga2 k))))] H → va_D A [(y, .inr (9, [.int (zI (i 0)), .ref (q 0), .int (zI (i 1)), .int (zI (i 2)), .int (zI (i 3)), .int (zI (i 4)), .int (zI (i 5)), .int (zI (i 6)), .int (zI (i 7)), .int (zI (i 8)), .int (zI (i 9)), .int (zI (i 10)), .ref (q 1), .int (zI (i 11)), .int (zI (i 12)), .ref (q 2), .ref (q 3), .ref (q 4), .ref (q 5), .ref (q 6), .ref (q 7), .ref (q 8), .ref (q 9), .ref (q 10), .ref (q 11), .ref (q 12), .ref (q 13), .ref (q 14), .ref (q 15), .ref (q 16), .int (zI (i 13)), .int (zI (i 14)), .int (zI (i 15)), .int (zI (i 16)), .int (zI (i 17)), .int (zI (i 18)), .ref (q 17), .ref (q 18), .ref (q 19), .ref (q 20)])), ((q 3), .inl (cI, 200, .inl (fun k => zI (g_now k)))), ((q 5), .inl (cI, 200, .inl (fun k => zI (gy2 k)))), ((q 14), .inl (cI, 159, .inl (fun k => zI (go2 k)))), ((q 15), .inl (cI, 159, .inl (fun k => zI (ga2 k))))] → va_S A s.heap H locs → ∀ ls : Array Slot, lv_has ls 4 [(3, .int (zI v3)), (2, .int (zI v2)), (0, .ref y), (1, .int (zI x))] → W p l e rm_X9_foldsOneX s m ([.ref y, .int (zI x)] : List Value).toArray below meth c H locs 0 0 Q (F0 m 14 ls [])) ((11 - (v2 + 1) : Int).toNat + 1) (v2 + 1) gy1 go1 ga1 _ _ (by omega) (by omega) hnb1 hP hD hS ls hl
      clear hP hD hS hl ls
      intro n9_2
      induction n9_2 with
      | zero =>
        intro v3 gy2 go2 ga2 H locs hI hM
        exact absurd hM (by omega)
      | succ n9_2 ih2 =>
        intro v3 gy2 go2 ga2 H locs hI2 hM2 hnb2 hP hD hS ls hl
        refine lv_iload_n hx hb dX9_foldsOne_14 rfl (lv_at hl 0 rfl) ?_
        refine lv_aload_n hx hb dX9_foldsOne_15 rfl (lv_at hl 2 rfl) ?_
        refine r_get F hK hP 0 30 rfl rfl in_X9 (by decide) k_1193 rfl dX9_foldsOne_16 ?_
        refine rz_icmp_ge (tgt := 95) F (by omega) (by omega) dX9_foldsOne_19 (by decide) (fun h19_2 => ?_) (fun h19_2 => ?_)
        · refine lv_iinc (v := zI (v2 + 1)) (lv' := [(2, .int (zI (v2 + 1))), (3, .int (zI v3)), (0, .ref y), (1, .int (zI x))]) hx hb dX9_foldsOne_95 hl (k := 1) rfl (zI_add _ _) (by decide) rfl (fun ls hl => ?_)
          refine lv_goto (tgt := 2) hx hb dX9_foldsOne_98 (by decide) ?_
          exact ih1 (v2 + 1) gy2 go2 ga2 _ _ (by omega) (by omega) (NoB.x hnb2 (by omega)) hP hD hS ls (lv_sub hl [0, 2, 3] rfl)
        · refine lv_aload_n hx hb dX9_foldsOne_22 rfl (lv_at hl 2 rfl) ?_
          refine lv_aload_n hx hb dX9_foldsOne_23 rfl (lv_at hl 2 rfl) ?_
          refine r_get F hK hP 0 16 rfl rfl in_X9 (by decide) k_1179 rfl dX9_foldsOne_24 ?_
          refine lv_iload_n hx hb dX9_foldsOne_27 rfl (lv_at hl 1 rfl) ?_
          refine lv_iload_n hx hb dX9_foldsOne_28 rfl (lv_at hl 0 rfl) ?_
          refine r_callVi (As := [.ref (q 3), .int (zI v2), .int (zI v3)]) (rest := []) (wr := [((q 5), .inl (cI, 200, .inl (fun k => zI (gy2 k)))), ((q 14), .inl (cI, 159, .inl (fun k => zI (go2 k)))), ((q 15), .inl (cI, 159, .inl (fun k => zI (ga2 k))))]) F hK hP hD hS hA hO hE (c_X9_areAlikeX hO y q i hM (q 3) g_now v2 v3 (by omega) (by omega) hpn (by omega) (by omega)) k_1653 kv_X9_areAlike 3 rfl (by decide +kernel) ⟨Nat.le_of_ble_eq_true rfl, Nat.le_of_ble_eq_true rfl⟩ [0, 1] [2, 3, 4] rfl rfl (by decide) (by decide) (by decide) 0 9 rfl rfl rfl hl.1 rfl (Nat.le_of_ble_eq_true rfl) dX9_foldsOne_29 ⟨Nat.le_of_ble_eq_true rfl, Nat.le_of_ble_eq_true rfl⟩ (w1 := fun u4 => [((q 5), .inl (cI, 200, .inl (fun k => zI (gy2 k)))), ((q 14), .inl (cI, 159, .inl (fun k => zI (go2 k)))), ((q 15), .inl (cI, 159, .inl (fun k => zI (ga2 k)))), (y, .inr (9, [.int (zI (i 0)), .ref (q 0), .int (zI (i 1)), .int (zI (i 2)), .int (zI (i 3)), .int (zI (i 4)), .int (zI (i 5)), .int (zI (i 6)), .int (zI (i 7)), .int (zI (i 8)), .int (zI (i 9)), .int (zI (i 10)), .ref (q 1), .int (zI (i 11)), .int (zI (i 12)), .ref (q 2), .ref (q 3), .ref (q 4), .ref (q 5), .ref (q 6), .ref (q 7), .ref (q 8), .ref (q 9), .ref (q 10), .ref (q 11), .ref (q 12), .ref (q 13), .ref (q 14), .ref (q 15), .ref (q 16), .int (zI (i 13)), .int (zI (i 14)), .int (zI (i 15)), .int (zI (i 16)), .int (zI (i 17)), .int (zI (i 18)), .ref (q 17), .ref (q 18), .ref (q 19), .ref (q 20)])), ((q 3), .inl (cI, 200, .inl (fun k => zI (g_now k))))]) (fun _ => rfl) (fun r5 u4 H locs hp6 hP hD hS => ?_)
          obtain ⟨z7, rfl, h_z7⟩ := hp6
          refine rz_ifb_ne (tgt := 38) F (by omega) dX9_foldsOne_32 (by decide) (fun h32_7 => ?_) (fun h32_7 => ?_)
          · refine lv_aload_n hx hb dX9_foldsOne_38 rfl (lv_at hl 2 rfl) ?_
            refine lv_aload_n hx hb dX9_foldsOne_39 rfl (lv_at hl 2 rfl) ?_
            refine r_get F hK hP 3 16 rfl rfl in_X9 (by decide) k_1179 rfl dX9_foldsOne_40 ?_
            have hqa : g_now (20 * v2 + 0).toNat = 1 ∧ g_now (20 * v3 + 0).toNat = 1 := (h_z7.2.mp (by omega)).1
            refine lv_iload_n hx hb dX9_foldsOne_43 rfl (lv_at hl 1 rfl) ?_
            refine lv_iload_n hx hb dX9_foldsOne_44 rfl (lv_at hl 0 rfl) ?_
            refine lv_aload_n hx hb dX9_foldsOne_45 rfl (lv_at hl 2 rfl) ?_
            refine r_get F hK hP 3 18 rfl rfl in_X9 (by decide) k_1181 rfl dX9_foldsOne_46 ?_
            refine r_callVv (As := [.ref (q 3), .int (zI v2), .int (zI v3), .ref (q 5)]) (rest := []) (wr := [((q 14), .inl (cI, 159, .inl (fun k => zI (go2 k)))), ((q 15), .inl (cI, 159, .inl (fun k => zI (ga2 k))))]) F hK hP hD hS hA hO hE (c_X9_mergeX hO y q i hM (q 3) g_now (q 5) gy2 v2 v3 (by omega) (by omega) hpn (by omega) (by omega) (by omega)) k_1661 kv_X9_merge 4 rfl (by decide +kernel) ⟨Nat.le_of_ble_eq_true rfl, Nat.le_of_ble_eq_true rfl⟩ [3, 4, 0] [1, 2] rfl rfl (by decide) (by decide) (by decide) 0 9 rfl rfl rfl hl.1 rfl (Nat.le_of_ble_eq_true rfl) dX9_foldsOne_49 ⟨Nat.le_of_ble_eq_true rfl, Nat.le_of_ble_eq_true rfl⟩ (w1 := fun u9 => [((q 14), .inl (cI, 159, .inl (fun k => zI (go2 k)))), ((q 15), .inl (cI, 159, .inl (fun k => zI (ga2 k)))), (y, .inr (9, [.int (zI (i 0)), .ref (q 0), .int (zI (i 1)), .int (zI (i 2)), .int (zI (i 3)), .int (zI (i 4)), .int (zI (i 5)), .int (zI (i 6)), .int (zI (i 7)), .int (zI (i 8)), .int (zI (i 9)), .int (zI (i 10)), .ref (q 1), .int (zI (i 11)), .int (zI (i 12)), .ref (q 2), .ref (q 3), .ref (q 4), .ref (q 5), .ref (q 6), .ref (q 7), .ref (q 8), .ref (q 9), .ref (q 10), .ref (q 11), .ref (q 12), .ref (q 13), .ref (q 14), .ref (q 15), .ref (q 16), .int (zI (i 13)), .int (zI (i 14)), .int (zI (i 15)), .int (zI (i 16)), .int (zI (i 17)), .int (zI (i 18)), .ref (q 17), .ref (q 18), .ref (q 19), .ref (q 20)])), ((q 3), .inl (cI, 200, .inl (fun k => zI (g_now k)))), ((q 5), .inl (cI, 200, .inl (fun k => zI (((u9 1).2 0) k))))]) (fun _ => rfl) (fun  u9 H locs hp10 hP hD hS => ?_)
            refine lv_aload_n hx hb dX9_foldsOne_52 rfl (lv_at hl 2 rfl) ?_
            refine lv_aload_n hx hb dX9_foldsOne_53 rfl (lv_at hl 2 rfl) ?_
            refine r_get F hK hP 2 16 rfl rfl in_X9 (by decide) k_1179 rfl dX9_foldsOne_54 ?_
            refine lv_aload_n hx hb dX9_foldsOne_57 rfl (lv_at hl 2 rfl) ?_
            refine r_get F hK hP 2 18 rfl rfl in_X9 (by decide) k_1181 rfl dX9_foldsOne_58 ?_
            refine lv_iload_n hx hb dX9_foldsOne_61 rfl (lv_at hl 3 rfl) ?_
            refine r_callVi (As := [.ref (q 3), .ref (q 5), .int (zI x)]) (rest := []) (wr := []) F hK hP hD hS hA hO hE (c_X9_unlikeX hO y q i hM (q 3) g_now (q 5) ((u9 1).2 0) go2 ga2 x (by omega) hpn (hp10.1.1) (by omega)) k_1637 kv_X9_unlike 3 rfl (by decide +kernel) ⟨Nat.le_of_ble_eq_true rfl, Nat.le_of_ble_eq_true rfl⟩ [2, 3, 4, 0, 1] [] rfl rfl (by decide) (by decide) (by decide) 0 9 rfl rfl rfl hl.1 rfl (Nat.le_of_ble_eq_true rfl) dX9_foldsOne_62 ⟨Nat.le_of_ble_eq_true rfl, Nat.le_of_ble_eq_true rfl⟩ (w1 := fun u11 => [(y, .inr (9, [.int (zI (i 0)), .ref (q 0), .int (zI (i 1)), .int (zI (i 2)), .int (zI (i 3)), .int (zI (i 4)), .int (zI (i 5)), .int (zI (i 6)), .int (zI (i 7)), .int (zI (i 8)), .int (zI (i 9)), .int (zI (i 10)), .ref (q 1), .int (zI (i 11)), .int (zI (i 12)), .ref (q 2), .ref (q 3), .ref (q 4), .ref (q 5), .ref (q 6), .ref (q 7), .ref (q 8), .ref (q 9), .ref (q 10), .ref (q 11), .ref (q 12), .ref (q 13), .ref (q 14), .ref (q 15), .ref (q 16), .int (zI (i 13)), .int (zI (i 14)), .int (zI (i 15)), .int (zI (i 16)), .int (zI (i 17)), .int (zI (i 18)), .ref (q 17), .ref (q 18), .ref (q 19), .ref (q 20)])), ((q 3), .inl (cI, 200, .inl (fun k => zI (g_now k)))), ((q 5), .inl (cI, 200, .inl (fun k => zI (((u9 1).2 0) k)))), ((q 14), .inl (cI, 159, .inl (fun k => zI (((u11 1).2 0) k)))), ((q 15), .inl (cI, 159, .inl (fun k => zI (((u11 2).2 0) k))))]) (fun _ => rfl) (fun r12 u11 H locs hp13 hP hD hS => ?_)
            obtain ⟨z14, rfl, h_z14⟩ := hp13
            have hc15 := Unl.rg hx8 h_z14
            have hul9 : Unl g_now (mergeF g_now v2 v3 (i 13)) x z14 := (E2.refl g_now).unl hpn (hpn.merged (by omega) (by omega)) hp10.2 (by omega) h_z14
            refine lv_bipush (v := zI (-2)) hx hb dX9_foldsOne_65 (by decide) ?_
            refine rz_icmp_eq (tgt := 73) F (by omega) (by omega) dX9_foldsOne_67 (by decide) (fun h67_15 => ?_) (fun h67_15 => ?_)
            · refine lv_aload_n hx hb dX9_foldsOne_73 rfl (lv_at hl 2 rfl) ?_
              refine r_get F hK hP 0 18 rfl rfl in_X9 (by decide) k_1181 rfl dX9_foldsOne_74 ?_
              refine lv_aload_n hx hb dX9_foldsOne_77 rfl (lv_at hl 2 rfl) ?_
              refine r_get F hK hP 0 16 rfl rfl in_X9 (by decide) k_1179 rfl dX9_foldsOne_78 ?_
              refine lv_sipush (v := zI 200) hx hb dX9_foldsOne_81 (by decide) ?_
              refine r_callZv (As := [.ref (q 5), .ref (q 3), .int (zI 200)]) (rest := []) (wr := [(y, .inr (9, [.int (zI (i 0)), .ref (q 0), .int (zI (i 1)), .int (zI (i 2)), .int (zI (i 3)), .int (zI (i 4)), .int (zI (i 5)), .int (zI (i 6)), .int (zI (i 7)), .int (zI (i 8)), .int (zI (i 9)), .int (zI (i 10)), .ref (q 1), .int (zI (i 11)), .int (zI (i 12)), .ref (q 2), .ref (q 3), .ref (q 4), .ref (q 5), .ref (q 6), .ref (q 7), .ref (q 8), .ref (q 9), .ref (q 10), .ref (q 11), .ref (q 12), .ref (q 13), .ref (q 14), .ref (q 15), .ref (q 16), .int (zI (i 13)), .int (zI (i 14)), .int (zI (i 15)), .int (zI (i 16)), .int (zI (i 17)), .int (zI (i 18)), .ref (q 17), .ref (q 18), .ref (q 19), .ref (q 20)])), ((q 14), .inl (cI, 159, .inl (fun k => zI (((u11 1).2 0) k)))), ((q 15), .inl (cI, 159, .inl (fun k => zI (((u11 2).2 0) k))))]) F hK hP hD hS hA hO hE (c_X9_copy200 hO (q 5) ((u9 1).2 0) (q 3) g_now 200 (by omega) (by omega)) k_1414 ks_X9_copy 3 rfl (by decide +kernel) ⟨Nat.le_of_ble_eq_true rfl, Nat.le_of_ble_eq_true rfl⟩ [2, 1] [0, 3, 4] rfl rfl (by decide) (by decide) (by decide) hl.1 rfl (Nat.le_of_ble_eq_true rfl) dX9_foldsOne_84 ⟨Nat.le_of_ble_eq_true rfl, Nat.le_of_ble_eq_true rfl⟩ (w1 := fun u17 => [(y, .inr (9, [.int (zI (i 0)), .ref (q 0), .int (zI (i 1)), .int (zI (i 2)), .int (zI (i 3)), .int (zI (i 4)), .int (zI (i 5)), .int (zI (i 6)), .int (zI (i 7)), .int (zI (i 8)), .int (zI (i 9)), .int (zI (i 10)), .ref (q 1), .int (zI (i 11)), .int (zI (i 12)), .ref (q 2), .ref (q 3), .ref (q 4), .ref (q 5), .ref (q 6), .ref (q 7), .ref (q 8), .ref (q 9), .ref (q 10), .ref (q 11), .ref (q 12), .ref (q 13), .ref (q 14), .ref (q 15), .ref (q 16), .int (zI (i 13)), .int (zI (i 14)), .int (zI (i 15)), .int (zI (i 16)), .int (zI (i 17)), .int (zI (i 18)), .ref (q 17), .ref (q 18), .ref (q 19), .ref (q 20)])), ((q 14), .inl (cI, 159, .inl (fun k => zI (((u11 1).2 0) k)))), ((q 15), .inl (cI, 159, .inl (fun k => zI (((u11 2).2 0) k)))), ((q 5), .inl (cI, 200, .inl (fun k => zI (((u9 1).2 0) k)))), ((q 3), .inl (cI, 200, .inl (fun k => zI (((u17 1).2 0) k))))]) (fun _ => rfl) (fun  u17 H locs hp18 hP hD hS => ?_)
              have hfn : ProgOk ((u17 1).2 0) := ProgOk.congr (hp10.1.1) (fun k hk => hp18 k (by omega))
              have hft := (tN_congr hp18).trans (MT.sum (hp10.1.2) (by omega) (hqa.2))
              have hfe : E2 (mergeF g_now v2 v3 (i 13)) ((u17 1).2 0) := fun k hk => (hp18 k (by omega)).trans (hp10.2 k hk)
              refine lv_iconst (v := zI 1) hx hb dX9_foldsOne_87 rfl ?_
              exact ret (zI 1) (fun k => [((fun _ => 0), fun _ _ => 0), (fun _ => 0, fun _ => ((u17 1).2 0)), (fun _ => 0, fun _ => ((u9 1).2 0)), (fun _ => 0, fun _ => ((u11 1).2 0)), (fun _ => 0, fun _ => ((u11 2).2 0))].getD k (fun _ => 0, fun _ _ => 0)) _ _ _ _ _ _ rfl ⟨1, rfl, ⟨⟨hfn, (show 0 ≤ (1 : Int) ∧ (1 : Int) ≤ 1 from by omega), (show tN ((u17 1).2 0) ≤ tN g_now from by omega), (show Imp ((1 : Int) = 1) (tN ((u17 1).2 0) + 1 ≤ tN g_now) from fun _ => by omega)⟩, Or.inl ⟨rfl, v2, v3, ⟨⟨by omega, by omega, by omega⟩, hnb2, h_z7.2.mp (by omega), (by have q8 := hul9; rwa [show z14 = -2 by omega] at q8)⟩, hfe⟩⟩⟩ (bw_subP (isC := [0, 4, 3, 1, 2]) hP rfl) (hD.sub [0, 4, 3, 1, 2] (by decide) rfl) hS (Nat.le_of_ble_eq_true rfl) (Nat.le_of_ble_eq_true rfl) dX9_foldsOne_88
            · refine lv_goto (tgt := 89) hx hb dX9_foldsOne_70 (by decide) ?_
              refine lv_iinc (v := zI (v3 + 1)) (lv' := [(3, .int (zI (v3 + 1))), (2, .int (zI v2)), (0, .ref y), (1, .int (zI x))]) hx hb dX9_foldsOne_89 hl (k := 0) rfl (zI_add _ _) (by decide) rfl (fun ls hl => ?_)
              refine lv_goto (tgt := 14) hx hb dX9_foldsOne_92 (by decide) ?_
              exact ih2 (v3 + 1) ((u9 1).2 0) ((u11 1).2 0) ((u11 2).2 0) _ _ (by omega) (by omega) (NoB.w hnb2 (fun q9 => absurd (Unl.uniq hul9 q9.2) (by omega))) hP hD hS ls (lv_sub hl [0, 1, 2, 3] rfl)
          · refine lv_goto (tgt := 89) hx hb dX9_foldsOne_35 (by decide) ?_
            refine lv_iinc (v := zI (v3 + 1)) (lv' := [(3, .int (zI (v3 + 1))), (2, .int (zI v2)), (0, .ref y), (1, .int (zI x))]) hx hb dX9_foldsOne_89 hl (k := 0) rfl (zI_add _ _) (by decide) rfl (fun ls hl => ?_)
            refine lv_goto (tgt := 14) hx hb dX9_foldsOne_92 (by decide) ?_
            have hP := bw_subP (isC := [3, 4, 0, 1, 2]) (wc := [(y, .inr (9, [.int (zI (i 0)), .ref (q 0), .int (zI (i 1)), .int (zI (i 2)), .int (zI (i 3)), .int (zI (i 4)), .int (zI (i 5)), .int (zI (i 6)), .int (zI (i 7)), .int (zI (i 8)), .int (zI (i 9)), .int (zI (i 10)), .ref (q 1), .int (zI (i 11)), .int (zI (i 12)), .ref (q 2), .ref (q 3), .ref (q 4), .ref (q 5), .ref (q 6), .ref (q 7), .ref (q 8), .ref (q 9), .ref (q 10), .ref (q 11), .ref (q 12), .ref (q 13), .ref (q 14), .ref (q 15), .ref (q 16), .int (zI (i 13)), .int (zI (i 14)), .int (zI (i 15)), .int (zI (i 16)), .int (zI (i 17)), .int (zI (i 18)), .ref (q 17), .ref (q 18), .ref (q 19), .ref (q 20)])), ((q 3), .inl (cI, 200, .inl (fun k => zI (g_now k)))), ((q 5), .inl (cI, 200, .inl (fun k => zI (gy2 k)))), ((q 14), .inl (cI, 159, .inl (fun k => zI (go2 k)))), ((q 15), .inl (cI, 159, .inl (fun k => zI (ga2 k))))]) hP rfl
            have hD := hD.sub (ws' := [(y, .inr (9, [.int (zI (i 0)), .ref (q 0), .int (zI (i 1)), .int (zI (i 2)), .int (zI (i 3)), .int (zI (i 4)), .int (zI (i 5)), .int (zI (i 6)), .int (zI (i 7)), .int (zI (i 8)), .int (zI (i 9)), .int (zI (i 10)), .ref (q 1), .int (zI (i 11)), .int (zI (i 12)), .ref (q 2), .ref (q 3), .ref (q 4), .ref (q 5), .ref (q 6), .ref (q 7), .ref (q 8), .ref (q 9), .ref (q 10), .ref (q 11), .ref (q 12), .ref (q 13), .ref (q 14), .ref (q 15), .ref (q 16), .int (zI (i 13)), .int (zI (i 14)), .int (zI (i 15)), .int (zI (i 16)), .int (zI (i 17)), .int (zI (i 18)), .ref (q 17), .ref (q 18), .ref (q 19), .ref (q 20)])), ((q 3), .inl (cI, 200, .inl (fun k => zI (g_now k)))), ((q 5), .inl (cI, 200, .inl (fun k => zI (gy2 k)))), ((q 14), .inl (cI, 159, .inl (fun k => zI (go2 k)))), ((q 15), .inl (cI, 159, .inl (fun k => zI (ga2 k))))]) [3, 4, 0, 1, 2] (by decide) rfl
            exact ih2 (v3 + 1) gy2 go2 ga2 _ _ (by omega) (by omega) (NoB.w hnb2 (fun q9 => absurd (h_z7.2.mpr q9.1) (by omega))) hP hD hS ls (lv_sub hl [0, 1, 2, 3] rfl)
