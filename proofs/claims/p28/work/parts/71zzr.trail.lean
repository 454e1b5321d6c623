abbrev rm_X2z_hangOther : Room := { frames := 0, cells := 0, slots := 0, locals := 0 }
set_option maxRecDepth 100000 in
set_option maxHeartbeats 8000000 in
theorem c_X2z_hangOther {l : Launch} {E : (Nat → Prop) → State → Prop} (hO : bw_Ok E) {G : va_G} {cI cB cJ cN cW : ClassId} (b : Nat) (q : Nat → Nat) (n : Int) (g : Nat → Nat → Int) (hN : NetOk n g) (w : Nat) (gw : Nat → Int) (x : Int) (hx9 : 0 ≤ x ∧ x < 10) (pR : Nat → Int) (hPr : ProgOk pR) (hNR : NRel g pR) (hLN : LN pR n) (hDN : DN pR n) (hW : Rst pR gw) (hxn : x < n ∨ ∀ w, ¬ (EL gw) w) : bw_Ci (S := zU) l yX2_hangTogether (bw_ws (Cond.code yX2_hangTogether cX2_hangTogether 7 (some .boolean))) rm_X2z_hangOther E G (bw_kt cI cB cJ cN cW) [.ref b, .ref w, .int (zI x)] [(b, .inr (2, [.int (zI n), .ref (q 0), .ref (q 1), .ref (q 2), .ref (q 3), .ref (q 4), .ref (q 5), .ref (q 6), .ref (q 7)])), ((q 0), .inl (cI, 10, .inl (fun k => zI ((g 0) k)))), ((q 1), .inl (cI, 10, .inl (fun k => zI ((g 1) k)))), ((q 2), .inl (cI, 10, .inl (fun k => zI ((g 2) k)))), ((q 3), .inl (cI, 40, .inl (fun k => zI ((g 3) k)))), ((q 4), .inl (cI, 40, .inl (fun k => zI ((g 4) k)))), ((q 5), .inl (cI, 40, .inl (fun k => zI ((g 5) k)))), ((q 6), .inl (cI, 20, .inl (fun k => zI ((g 6) k)))), ((q 7), .inl (cI, 20, .inl (fun k => zI ((g 7) k)))), (w, .inl (cI, 20, .inl (fun k => zI (gw k))))] (fun r _ => ∃ z : Int, r = zI z ∧ ((0 ≤ z ∧ z ≤ 1) ∧ (z = 1 ↔ ∀ w : Nat, (EL gw) w → Uch (EL gw) (dW pR) (x).toNat (w / 2)))) (fun _ => [(b, .inr (2, [.int (zI n), .ref (q 0), .ref (q 1), .ref (q 2), .ref (q 3), .ref (q 4), .ref (q 5), .ref (q 6), .ref (q 7)])), ((q 0), .inl (cI, 10, .inl (fun k => zI ((g 0) k)))), ((q 1), .inl (cI, 10, .inl (fun k => zI ((g 1) k)))), ((q 2), .inl (cI, 10, .inl (fun k => zI ((g 2) k)))), ((q 3), .inl (cI, 40, .inl (fun k => zI ((g 3) k)))), ((q 4), .inl (cI, 40, .inl (fun k => zI ((g 4) k)))), ((q 5), .inl (cI, 40, .inl (fun k => zI ((g 5) k)))), ((q 6), .inl (cI, 20, .inl (fun k => zI ((g 6) k)))), ((q 7), .inl (cI, 20, .inl (fun k => zI ((g 7) k)))), (w, .inl (cI, 20, .inl (fun k => zI (gw k))))]) := by
  refine bw_Ci.of (cc := cX2_hangTogether) (maxL := 7) (ty := .boolean) (by decide) rfl (Nat.le_of_ble_eq_true rfl) ?_
  intro p e s m below meth c A Q hx hb hml hts hown hin hK hA hS hP hD hE ret ls hl
  have F : CallFix p m c cX2_hangTogether 7 s ([.ref b, .ref w, .int (zI x)] : List Value).toArray bw_T RX2 := ⟨hx, hb, hml, hown, fun w h => hts w (List.mem_cons_of_mem _ h)⟩
  replace hl : lv_has ls 7 [(0, .ref b), (1, .ref w), (2, .int (zI x))] := hl
  have hN0 := hN.1
  refine lv_iconst (v := zI 1) hx hb dX2_hangTogether_0 rfl ?_
  refine lv_iload_n hx hb dX2_hangTogether_1 rfl (lv_at hl 2 rfl) ?_
  refine lv_ishl hx hb dX2_hangTogether_2 ?_
  obtain ⟨zc2, ec3, hc4, hbt5⟩ := sh_n (x := x) (by omega)
  refine rz_eq (z := zc2) ec3 ?_
  refine lv_istore_n (lv' := [(3, .int (zI zc2)), (0, .ref b), (1, .ref w), (2, .int (zI x))]) hx hb dX2_hangTogether_3 rfl hl (by decide) rfl (fun ls hl => ?_)
  refine lv_iconst (v := zI 0) hx hb dX2_hangTogether_4 rfl ?_
  refine lv_istore (lv' := [(4, .int (zI 0)), (3, .int (zI zc2)), (0, .ref b), (1, .ref w), (2, .int (zI x))]) hx hb dX2_hangTogether_5 hl (by decide) rfl (fun ls hl => ?_)
  refine W.widen (k := 0) (n := 0) (Nat.le_of_ble_eq_true rfl) (Nat.le_of_ble_eq_true rfl) ?_
  refine (?_ : ∀ (n9_1 : Nat) (v3 : Int) (v4 : Int) (H : Heap) (locs : List Loc), (0 ≤ v4 ∧ v4 ≤ n ∧ 0 ≤ v3 ∧ v3 < 1024) → (n - v4 : Int).toNat < n9_1 → (OuC2 (EL gw) (dW pR) (x).toNat v3 n v4) → va_P G vwCl [(b, .inr (2, [.int (zI n), .ref (q 0), .ref (q 1), .ref (q 2), .ref (q 3), .ref (q 4), .ref (q 5), .ref (q 6), .ref (q 7)])), ((q 0), .inl (cI, 10, .inl (fun k => zI ((g 0) k)))), ((q 1), .inl (cI, 10, .inl (fun k => zI ((g 1) k)))), ((q 2), .inl (cI, 10, .inl (fun k => zI ((g 2) k)))), ((q 3), .inl (cI, 40, .inl (fun k => zI ((g 3) k)))), ((q 4), .inl (cI, 40, .inl (fun k => zI ((g 4) k)))), ((q 5), .inl (cI, 40, .inl (fun k => zI ((g 5) k)))), ((q 6), .inl (cI, 20, .inl (fun k => zI ((g 6) k)))), ((q 7), .inl (cI, 20, .inl (fun k => zI ((g 7) k)))), (w, .inl (cI, 20, .inl (fun k => zI (gw k))))] H → va_D A [(b, .inr (2, [.int (zI n), .ref (q 0), .ref (q 1), .ref (q 2), .ref (q 3), .ref (q 4), .ref (q 5), .ref (q 6), .ref (q 7)])), ((q 0), .inl (cI, 10, .inl (fun k => zI ((g 0) k)))), ((q 1), .inl (cI, 10, .inl (fun k => zI ((g 1) k)))), ((q 2), .inl (cI, 10, .inl (fun k => zI ((g 2) k)))), ((q 3), .inl (cI, 40, .inl (fun k => zI ((g 3) k)))), ((q 4), .inl (cI, 40, .inl (fun k => zI ((g 4) k)))), ((q 5), .inl (cI, 40, .inl (fun k => zI ((g 5) k)))), ((q 6), .inl (cI, 20, .inl (fun k => zI ((g 6) k)))), ((q 7), .inl (cI, 20, .inl (fun k => zI ((g 7) k)))), (w, .inl (cI, 20, .inl (fun k => zI (gw k))))] → va_S A s.heap H locs → ∀ ls : Array Slot, lv_has ls 7 [(4, .int (zI v4)), (3, .int (zI v3)), (0, .ref b), (1, .ref w), (2, .int (zI x))] → W p l e rm_X2z_hangOther s m ([.ref b, .ref w, .int (zI x)] : List Value).toArray below meth c H locs 0 0 Q (F0 m 7 ls [])) ((n - 0 : Int).toNat + 1) zc2 0 _ _ (by omega) (by omega) (OuC2.init hbt5 (hxn.imp (fun q => by omega) (fun q => q))) hP hD hS ls hl
  clear hP hD hS hl ls
  intro n9_1
  induction n9_1 with
  | zero =>
    intro v3 v4 H locs hI hM
    exact absurd hM (by omega)
  | succ n9_1 ih1 =>
    intro v3 v4 H locs hI1 hM1 hou hP hD hS ls hl
    refine lv_iload hx hb dX2_hangTogether_7 (lv_at hl 0 rfl) ?_
    refine lv_aload_n hx hb dX2_hangTogether_9 rfl (lv_at hl 2 rfl) ?_
    refine r_get F hK hP 0 0 rfl rfl in_X2 (by decide) k_144 rfl dX2_hangTogether_10 ?_
    refine rz_icmp_ge (tgt := 83) F (by omega) (by omega) dX2_hangTogether_13 (by decide) (fun h13_5 => ?_) (fun h13_5 => ?_)
    · refine lv_iconst (v := zI 0) hx hb dX2_hangTogether_83 rfl ?_
      have hua := hou.all (by omega) (by omega)
      refine lv_istore (lv' := [(4, .int (zI 0)), (3, .int (zI v3)), (0, .ref b), (1, .ref w), (2, .int (zI x))]) hx hb dX2_hangTogether_84 hl (by decide) rfl (fun ls hl => ?_)
      refine W.widen (k := 0) (n := 0) (Nat.le_of_ble_eq_true rfl) (Nat.le_of_ble_eq_true rfl) ?_
      refine (?_ : ∀ (n9_2 : Nat) (u4 : Int) (H : Heap) (locs : List Loc), (0 ≤ u4 ∧ u4 ≤ 20) → (20 - u4 : Int).toNat < n9_2 → (∀ w : Nat, (w : Int) < u4 → (EL gw) w → bN v3 (w / 2)) → va_P G vwCl [(b, .inr (2, [.int (zI n), .ref (q 0), .ref (q 1), .ref (q 2), .ref (q 3), .ref (q 4), .ref (q 5), .ref (q 6), .ref (q 7)])), ((q 0), .inl (cI, 10, .inl (fun k => zI ((g 0) k)))), ((q 1), .inl (cI, 10, .inl (fun k => zI ((g 1) k)))), ((q 2), .inl (cI, 10, .inl (fun k => zI ((g 2) k)))), ((q 3), .inl (cI, 40, .inl (fun k => zI ((g 3) k)))), ((q 4), .inl (cI, 40, .inl (fun k => zI ((g 4) k)))), ((q 5), .inl (cI, 40, .inl (fun k => zI ((g 5) k)))), ((q 6), .inl (cI, 20, .inl (fun k => zI ((g 6) k)))), ((q 7), .inl (cI, 20, .inl (fun k => zI ((g 7) k)))), (w, .inl (cI, 20, .inl (fun k => zI (gw k))))] H → va_D A [(b, .inr (2, [.int (zI n), .ref (q 0), .ref (q 1), .ref (q 2), .ref (q 3), .ref (q 4), .ref (q 5), .ref (q 6), .ref (q 7)])), ((q 0), .inl (cI, 10, .inl (fun k => zI ((g 0) k)))), ((q 1), .inl (cI, 10, .inl (fun k => zI ((g 1) k)))), ((q 2), .inl (cI, 10, .inl (fun k => zI ((g 2) k)))), ((q 3), .inl (cI, 40, .inl (fun k => zI ((g 3) k)))), ((q 4), .inl (cI, 40, .inl (fun k => zI ((g 4) k)))), ((q 5), .inl (cI, 40, .inl (fun k => zI ((g 5) k)))), ((q 6), .inl (cI, 20, .inl (fun k => zI ((g 6) k)))), ((q 7), .inl (cI, 20, .inl (fun k => zI ((g 7) k)))), (w, .inl (cI, 20, .inl (fun k => zI (gw k))))] → va_S A s.heap H locs → ∀ ls : Array Slot, lv_has ls 7 [(4, .int (zI u4)), (3, .int (zI v3)), (0, .ref b), (1, .ref w), (2, .int (zI x))] → W p l e rm_X2z_hangOther s m ([.ref b, .ref w, .int (zI x)] : List Value).toArray below meth c H locs 0 0 Q (F0 m 86 ls [])) ((20 - 0 : Int).toNat + 1) 0 _ _ (by omega) (by omega) (fun w hw => absurd hw (by omega)) hP hD hS ls hl
      clear hP hD hS hl ls
      intro n9_2
      induction n9_2 with
      | zero =>
        intro u4 H locs hI hM
        exact absurd hM (by omega)
      | succ n9_2 ih2 =>
        intro u4 H locs hI2 hM2 hck hP hD hS ls hl
        refine lv_iload hx hb dX2_hangTogether_86 (lv_at hl 0 rfl) ?_
        refine lv_bipush (v := zI 20) hx hb dX2_hangTogether_88 (by decide) ?_
        refine rz_icmp_ge (tgt := 119) F (by omega) (by omega) dX2_hangTogether_90 (by decide) (fun h90_6 => ?_) (fun h90_6 => ?_)
        · refine lv_iconst (v := zI 1) hx hb dX2_hangTogether_119 rfl ?_
          exact ret (zI 1) (fun _ => 0, fun _ _ => 0) _ _ _ _ _ _ rfl ⟨1, rfl, ⟨by omega, fun _ w he => (hua _).mp (hck w (by have q := he.1; omega) he), fun _ => rfl⟩⟩ (bw_subP (isC := [0, 1, 2, 3, 4, 5, 6, 7, 8, 9]) hP rfl) (hD.sub [0, 1, 2, 3, 4, 5, 6, 7, 8, 9] (by decide) rfl) hS (Nat.le_of_ble_eq_true rfl) (Nat.le_of_ble_eq_true rfl) dX2_hangTogether_120
        · refine lv_aload_n hx hb dX2_hangTogether_93 rfl (lv_at hl 3 rfl) ?_
          refine lv_iload hx hb dX2_hangTogether_94 (lv_at hl 0 rfl) ?_
          refine rz_iald F hK hP 9 0 rfl rfl (by omega) (by omega) dX2_hangTogether_96 ?_
          have hc8 := hW (u4).toNat (by omega)
          have hc9 := laidF_rg hPr (x := (((u4).toNat : Nat) : Int)) (by omega)
          refine rz_if_le (tgt := 113) F (by omega) dX2_hangTogether_97 (by decide) (fun h97_9 => ?_) (fun h97_9 => ?_)
          · refine lv_iinc (v := zI (u4 + 1)) (lv' := [(4, .int (zI (u4 + 1))), (3, .int (zI v3)), (0, .ref b), (1, .ref w), (2, .int (zI x))]) hx hb dX2_hangTogether_113 hl (k := 0) rfl (zI_add _ _) (by decide) rfl (fun ls hl => ?_)
            refine lv_goto (tgt := 86) hx hb dX2_hangTogether_116 (by decide) ?_
            exact ih2 (u4 + 1) _ _ (by omega) (by omega) (ck_step (E := (EL gw)) (S := bN v3) hck (by omega) (fun he => by have q := he.2; omega)) hP hD hS ls (lv_sub hl [0, 1, 2, 3, 4] rfl)
          · refine lv_iload_n hx hb dX2_hangTogether_100 rfl (lv_at hl 1 rfl) ?_
            refine lv_iload hx hb dX2_hangTogether_101 (lv_at hl 0 rfl) ?_
            refine lv_iconst (v := zI 2) hx hb dX2_hangTogether_103 rfl ?_
            refine rz_idiv F (by omega) (by omega) dX2_hangTogether_104 (fun z12 h_z12 => ?_)
            obtain ⟨rfl, hd13⟩ := h_z12
            refine lv_ishr hx hb dX2_hangTogether_105 ?_
            refine lv_iconst (v := zI 1) hx hb dX2_hangTogether_106 rfl ?_
            refine lv_iand hx hb dX2_hangTogether_107 ?_
            obtain ⟨zc16, ec17, hc18, hb119⟩ := bt_01 (bN_I (z := v3) (by omega)) (x := u4 / 2) (by omega)
            refine rz_eq (z := zc16) ec17 ?_
            refine rz_if_ne (tgt := 113) F (by omega) dX2_hangTogether_108 (by decide) (fun h108_19 => ?_) (fun h108_19 => ?_)
            · refine lv_iinc (v := zI (u4 + 1)) (lv' := [(4, .int (zI (u4 + 1))), (3, .int (zI v3)), (0, .ref b), (1, .ref w), (2, .int (zI x))]) hx hb dX2_hangTogether_113 hl (k := 0) rfl (zI_add _ _) (by decide) rfl (fun ls hl => ?_)
              refine lv_goto (tgt := 86) hx hb dX2_hangTogether_116 (by decide) ?_
              exact ih2 (u4 + 1) _ _ (by omega) (by omega) (ck_step (E := (EL gw)) (S := bN v3) hck (by omega) (fun _ => by rw [show (u4).toNat / 2 = (u4 / 2).toNat by omega]; exact hb119.mp (by omega))) hP hD hS ls (lv_sub hl [0, 1, 2, 3, 4] rfl)
            · refine lv_iconst (v := zI 0) hx hb dX2_hangTogether_111 rfl ?_
              exact ret (zI 0) (fun _ => 0, fun _ _ => 0) _ _ _ _ _ _ rfl ⟨0, rfl, ⟨by omega, fun q9 => absurd q9 (by decide), fun q9 => absurd (hb119.mpr (by rw [show (u4 / 2).toNat = (u4).toNat / 2 by omega]; exact (hua _).mpr (q9 (u4).toNat ⟨by omega, by omega⟩))) (by omega)⟩⟩ (bw_subP (isC := [0, 1, 2, 3, 4, 5, 6, 7, 8, 9]) hP rfl) (hD.sub [0, 1, 2, 3, 4, 5, 6, 7, 8, 9] (by decide) rfl) hS (Nat.le_of_ble_eq_true rfl) (Nat.le_of_ble_eq_true rfl) dX2_hangTogether_112
    · refine lv_iconst (v := zI 0) hx hb dX2_hangTogether_16 rfl ?_
      refine lv_istore (lv' := [(5, .int (zI 0)), (4, .int (zI v4)), (3, .int (zI v3)), (0, .ref b), (1, .ref w), (2, .int (zI x))]) hx hb dX2_hangTogether_17 hl (by decide) rfl (fun ls hl => ?_)
      refine W.widen (k := 0) (n := 0) (Nat.le_of_ble_eq_true rfl) (Nat.le_of_ble_eq_true rfl) ?_
      refine (?_ : ∀ (n9_2 : Nat) (w3 : Int) (w5 : Int) (H : Heap) (locs : List Loc), (0 ≤ w3 ∧ w3 < 1024 ∧ 0 ≤ w5 ∧ w5 ≤ 20) → (20 - w5 : Int).toNat < n9_2 → (Sw2 (EL gw) (dW pR) (x).toNat (bN v3) (bN w3) w5) → va_P G vwCl [(b, .inr (2, [.int (zI n), .ref (q 0), .ref (q 1), .ref (q 2), .ref (q 3), .ref (q 4), .ref (q 5), .ref (q 6), .ref (q 7)])), ((q 0), .inl (cI, 10, .inl (fun k => zI ((g 0) k)))), ((q 1), .inl (cI, 10, .inl (fun k => zI ((g 1) k)))), ((q 2), .inl (cI, 10, .inl (fun k => zI ((g 2) k)))), ((q 3), .inl (cI, 40, .inl (fun k => zI ((g 3) k)))), ((q 4), .inl (cI, 40, .inl (fun k => zI ((g 4) k)))), ((q 5), .inl (cI, 40, .inl (fun k => zI ((g 5) k)))), ((q 6), .inl (cI, 20, .inl (fun k => zI ((g 6) k)))), ((q 7), .inl (cI, 20, .inl (fun k => zI ((g 7) k)))), (w, .inl (cI, 20, .inl (fun k => zI (gw k))))] H → va_D A [(b, .inr (2, [.int (zI n), .ref (q 0), .ref (q 1), .ref (q 2), .ref (q 3), .ref (q 4), .ref (q 5), .ref (q 6), .ref (q 7)])), ((q 0), .inl (cI, 10, .inl (fun k => zI ((g 0) k)))), ((q 1), .inl (cI, 10, .inl (fun k => zI ((g 1) k)))), ((q 2), .inl (cI, 10, .inl (fun k => zI ((g 2) k)))), ((q 3), .inl (cI, 40, .inl (fun k => zI ((g 3) k)))), ((q 4), .inl (cI, 40, .inl (fun k => zI ((g 4) k)))), ((q 5), .inl (cI, 40, .inl (fun k => zI ((g 5) k)))), ((q 6), .inl (cI, 20, .inl (fun k => zI ((g 6) k)))), ((q 7), .inl (cI, 20, .inl (fun k => zI ((g 7) k)))), (w, .inl (cI, 20, .inl (fun k => zI (gw k))))] → va_S A s.heap H locs → ∀ ls : Array Slot, lv_has ls 7 [(5, .int (zI w5)), (4, .int (zI v4)), (3, .int (zI w3)), (0, .ref b), (1, .ref w), (2, .int (zI x))] → W p l e rm_X2z_hangOther s m ([.ref b, .ref w, .int (zI x)] : List Value).toArray below meth c H locs 0 0 Q (F0 m 19 ls [])) ((20 - 0 : Int).toNat + 1) v3 0 _ _ (by omega) (by omega) (Sw2.init hou.1 hou.2.1) hP hD hS ls hl
      clear hP hD hS hl ls
      intro n9_2
      induction n9_2 with
      | zero =>
        intro w3 w5 H locs hI hM
        exact absurd hM (by omega)
      | succ n9_2 ih2 =>
        intro w3 w5 H locs hI2 hM2 hsw hP hD hS ls hl
        refine lv_iload hx hb dX2_hangTogether_19 (lv_at hl 0 rfl) ?_
        refine lv_bipush (v := zI 20) hx hb dX2_hangTogether_21 (by decide) ?_
        refine rz_icmp_ge (tgt := 77) F (by omega) (by omega) dX2_hangTogether_23 (by decide) (fun h23_20 => ?_) (fun h23_20 => ?_)
        · refine lv_iinc (v := zI (v4 + 1)) (lv' := [(4, .int (zI (v4 + 1))), (5, .int (zI w5)), (3, .int (zI w3)), (0, .ref b), (1, .ref w), (2, .int (zI x))]) hx hb dX2_hangTogether_77 hl (k := 1) rfl (zI_add _ _) (by decide) rfl (fun ls hl => ?_)
          refine lv_goto (tgt := 7) hx hb dX2_hangTogether_80 (by decide) ?_
          exact ih1 w3 (v4 + 1) _ _ (by omega) (by omega) (OuC2.step hou hsw (fun w he => by have q := he.1; omega) (fun w he => hW.lows hPr hLN hDN he)) hP hD hS ls (lv_sub hl [0, 2, 3, 4, 5] rfl)
        · refine lv_aload_n hx hb dX2_hangTogether_26 rfl (lv_at hl 4 rfl) ?_
          refine lv_iload hx hb dX2_hangTogether_27 (lv_at hl 0 rfl) ?_
          refine rz_iald F hK hP 9 0 rfl rfl (by omega) (by omega) dX2_hangTogether_29 ?_
          have hc22 := hW (w5).toNat (by omega)
          have hc23 := laidF_rg hPr (x := (((w5).toNat : Nat) : Int)) (by omega)
          refine rz_if_le (tgt := 52) F (by omega) dX2_hangTogether_30 (by decide) (fun h30_23 => ?_) (fun h30_23 => ?_)
          · refine lv_iconst (v := zI 0) hx hb dX2_hangTogether_52 rfl ?_
            refine lv_istore (lv' := [(6, .int (zI 0)), (5, .int (zI w5)), (4, .int (zI v4)), (3, .int (zI w3)), (0, .ref b), (1, .ref w), (2, .int (zI x))]) hx hb dX2_hangTogether_53 hl (by decide) rfl (fun ls hl => ?_)
            refine lv_iload_n hx hb dX2_hangTogether_55 rfl (lv_at hl 3 rfl) ?_
            refine lv_iload_n hx hb dX2_hangTogether_56 rfl (lv_at hl 3 rfl) ?_
            refine lv_iload hx hb dX2_hangTogether_57 (lv_at hl 0 rfl) ?_
            refine lv_iand hx hb dX2_hangTogether_59 ?_
            refine rz_eq (z := 0) (by rw [show zI 0 = (0 : Int32) from rfl]; exact Int32.and_zero) ?_
            refine rz_if_eq (tgt := 68) F (by omega) dX2_hangTogether_60 (by decide) (fun h60_25 => ?_) (fun h60_25 => by omega)
            refine lv_iconst (v := zI 0) hx hb dX2_hangTogether_68 rfl ?_
            refine lv_ior hx hb dX2_hangTogether_69 ?_
            refine rz_eq (z := w3) (by rw [show zI 0 = (0 : Int32) from rfl]; exact Int32.or_zero) ?_
            refine lv_istore_n (lv' := [(3, .int (zI w3)), (6, .int (zI 0)), (5, .int (zI w5)), (4, .int (zI v4)), (0, .ref b), (1, .ref w), (2, .int (zI x))]) hx hb dX2_hangTogether_70 rfl hl (by decide) rfl (fun ls hl => ?_)
            refine lv_iinc (v := zI (w5 + 1)) (lv' := [(5, .int (zI (w5 + 1))), (3, .int (zI w3)), (6, .int (zI 0)), (4, .int (zI v4)), (0, .ref b), (1, .ref w), (2, .int (zI x))]) hx hb dX2_hangTogether_71 hl (k := 2) rfl (zI_add _ _) (by decide) rfl (fun ls hl => ?_)
            refine lv_goto (tgt := 19) hx hb dX2_hangTogether_74 (by decide) ?_
            exact ih2 w3 (w5 + 1) _ _ (by omega) (by omega) (hsw.no (by omega) (fun he => by have q := he.2; omega)) hP hD hS ls (lv_sub hl [0, 3, 1, 4, 5, 6] rfl)
          · refine lv_iconst (v := zI 1) hx hb dX2_hangTogether_33 rfl ?_
            refine lv_iload hx hb dX2_hangTogether_34 (lv_at hl 0 rfl) ?_
            refine lv_iconst (v := zI 2) hx hb dX2_hangTogether_36 rfl ?_
            refine rz_idiv F (by omega) (by omega) dX2_hangTogether_37 (fun z29 h_z29 => ?_)
            obtain ⟨rfl, hd30⟩ := h_z29
            refine lv_ishl hx hb dX2_hangTogether_38 ?_
            obtain ⟨zc32, ec33, hc34, hbt35⟩ := sh_n (x := w5 / 2) (by omega)
            refine rz_eq (z := zc32) ec33 ?_
            refine lv_iconst (v := zI 1) hx hb dX2_hangTogether_39 rfl ?_
            refine lv_aload_n hx hb dX2_hangTogether_40 rfl (lv_at hl 3 rfl) ?_
            refine r_get F hK hP 0 7 rfl rfl in_X2 (by decide) k_165 rfl dX2_hangTogether_41 ?_
            refine lv_iload hx hb dX2_hangTogether_44 (lv_at hl 0 rfl) ?_
            refine rz_iald F hK hP 7 0 rfl rfl (by omega) (by omega) dX2_hangTogether_46 ?_
            have hcw : (((w5).toNat : Nat) : Int) = w5 := by omega
            have hw0 := hW (w5).toNat (by omega)
            rw [hcw] at hw0
            have hgt := hNR.gt (x := w5) (by omega) (by omega)
            have hc36 := gtF_rg hPr (x := w5) (by omega)
            refine lv_ishl hx hb dX2_hangTogether_47 ?_
            obtain ⟨zc38, ec39, hc40, hbt41⟩ := sh_n (x := (g 6 (w5).toNat)) (by omega)
            refine rz_eq (z := zc38) ec39 ?_
            refine lv_ior hx hb dX2_hangTogether_48 ?_
            obtain ⟨zc43, ec44, hc45, hbt46⟩ := or_n (x := zc32) (y := zc38) (by omega) (by omega)
            refine rz_eq (z := zc43) ec44 ?_
            have hbo47 := both_n hbt35 hbt41 hbt46 (show (w5 / 2).toNat = (w5).toNat / 2 by omega) (show (g 6 (w5).toNat).toNat = dW pR (w5).toNat by unfold dW; rw [hcw, hgt])
            refine lv_goto (tgt := 53) hx hb dX2_hangTogether_49 (by decide) ?_
            refine lv_istore (lv' := [(6, .int (zI zc43)), (5, .int (zI w5)), (4, .int (zI v4)), (3, .int (zI w3)), (0, .ref b), (1, .ref w), (2, .int (zI x))]) hx hb dX2_hangTogether_53 hl (by decide) rfl (fun ls hl => ?_)
            refine lv_iload_n hx hb dX2_hangTogether_55 rfl (lv_at hl 3 rfl) ?_
            refine lv_iload_n hx hb dX2_hangTogether_56 rfl (lv_at hl 3 rfl) ?_
            refine lv_iload hx hb dX2_hangTogether_57 (lv_at hl 0 rfl) ?_
            refine lv_iand hx hb dX2_hangTogether_59 ?_
            obtain ⟨zc49, ec50, hc51, hc52⟩ := an_n (x := w3) (y := zc43) (by omega) (by omega)
            refine rz_eq (z := zc49) ec50 ?_
            have hhit53 := an_hit hc52 hbo47
            refine rz_if_eq (tgt := 68) F (by omega) dX2_hangTogether_60 (by decide) (fun h60_53 => ?_) (fun h60_53 => ?_)
            · refine lv_iconst (v := zI 0) hx hb dX2_hangTogether_68 rfl ?_
              refine lv_ior hx hb dX2_hangTogether_69 ?_
              refine rz_eq (z := w3) (by rw [show zI 0 = (0 : Int32) from rfl]; exact Int32.or_zero) ?_
              refine lv_istore_n (lv' := [(3, .int (zI w3)), (6, .int (zI zc43)), (5, .int (zI w5)), (4, .int (zI v4)), (0, .ref b), (1, .ref w), (2, .int (zI x))]) hx hb dX2_hangTogether_70 rfl hl (by decide) rfl (fun ls hl => ?_)
              refine lv_iinc (v := zI (w5 + 1)) (lv' := [(5, .int (zI (w5 + 1))), (3, .int (zI w3)), (6, .int (zI zc43)), (4, .int (zI v4)), (0, .ref b), (1, .ref w), (2, .int (zI x))]) hx hb dX2_hangTogether_71 hl (k := 2) rfl (zI_add _ _) (by decide) rfl (fun ls hl => ?_)
              refine lv_goto (tgt := 19) hx hb dX2_hangTogether_74 (by decide) ?_
              exact ih2 w3 (w5 + 1) _ _ (by omega) (by omega) (hsw.no (by omega) (fun _ hs => absurd (hhit53.mpr hs) (fun q => q (by omega)))) hP hD hS ls (lv_sub hl [0, 3, 1, 4, 5, 6] rfl)
            · refine lv_iload hx hb dX2_hangTogether_63 (lv_at hl 0 rfl) ?_
              refine lv_goto (tgt := 69) hx hb dX2_hangTogether_65 (by decide) ?_
              refine lv_ior hx hb dX2_hangTogether_69 ?_
              obtain ⟨zc57, ec58, hc59, hbt60⟩ := or_n (x := w3) (y := zc43) (by omega) (by omega)
              refine rz_eq (z := zc57) ec58 ?_
              refine lv_istore_n (lv' := [(3, .int (zI zc57)), (6, .int (zI zc43)), (5, .int (zI w5)), (4, .int (zI v4)), (0, .ref b), (1, .ref w), (2, .int (zI x))]) hx hb dX2_hangTogether_70 rfl hl (by decide) rfl (fun ls hl => ?_)
              refine lv_iinc (v := zI (w5 + 1)) (lv' := [(5, .int (zI (w5 + 1))), (3, .int (zI zc57)), (6, .int (zI zc43)), (4, .int (zI v4)), (0, .ref b), (1, .ref w), (2, .int (zI x))]) hx hb dX2_hangTogether_71 hl (k := 2) rfl (zI_add _ _) (by decide) rfl (fun ls hl => ?_)
              refine lv_goto (tgt := 19) hx hb dX2_hangTogether_74 (by decide) ?_
              exact ih2 zc57 (w5 + 1) _ _ (by omega) (by omega) (hsw.yes (by omega) ⟨by omega, by omega⟩ (hhit53.mp (by omega)) (fun j => (hbt60 j).trans (or_congr Iff.rfl (hbo47 j)))) hP hD hS ls (lv_sub hl [0, 3, 1, 4, 5, 6] rfl)
abbrev rm_X2z_laidInAll : Room := { frames := 0, cells := 0, slots := 0, locals := 0 }
set_option maxRecDepth 100000 in
set_option maxHeartbeats 8000000 in
theorem c_X2z_laidInAll {l : Launch} {E : (Nat → Prop) → State → Prop} (hO : bw_Ok E) {G : va_G} {cI cB cJ cN cW : ClassId} (b : Nat) (q : Nat → Nat) (n : Int) (g : Nat → Nat → Int) (hN : NetOk n g)  : bw_Ci (S := zU) l yX2_laidInAll (bw_ws (Cond.code yX2_laidInAll cX2_laidInAll 3 (some .int))) rm_X2z_laidInAll E G (bw_kt cI cB cJ cN cW) [.ref b] [(b, .inr (2, [.int (zI n), .ref (q 0), .ref (q 1), .ref (q 2), .ref (q 3), .ref (q 4), .ref (q 5), .ref (q 6), .ref (q 7)])), ((q 0), .inl (cI, 10, .inl (fun k => zI ((g 0) k)))), ((q 1), .inl (cI, 10, .inl (fun k => zI ((g 1) k)))), ((q 2), .inl (cI, 10, .inl (fun k => zI ((g 2) k)))), ((q 3), .inl (cI, 40, .inl (fun k => zI ((g 3) k)))), ((q 4), .inl (cI, 40, .inl (fun k => zI ((g 4) k)))), ((q 5), .inl (cI, 40, .inl (fun k => zI ((g 5) k)))), ((q 6), .inl (cI, 20, .inl (fun k => zI ((g 6) k)))), ((q 7), .inl (cI, 20, .inl (fun k => zI ((g 7) k))))] (fun r _ => ∃ z : Int, r = zI z ∧ (z = sumN (g 7) 20)) (fun _ => [(b, .inr (2, [.int (zI n), .ref (q 0), .ref (q 1), .ref (q 2), .ref (q 3), .ref (q 4), .ref (q 5), .ref (q 6), .ref (q 7)])), ((q 0), .inl (cI, 10, .inl (fun k => zI ((g 0) k)))), ((q 1), .inl (cI, 10, .inl (fun k => zI ((g 1) k)))), ((q 2), .inl (cI, 10, .inl (fun k => zI ((g 2) k)))), ((q 3), .inl (cI, 40, .inl (fun k => zI ((g 3) k)))), ((q 4), .inl (cI, 40, .inl (fun k => zI ((g 4) k)))), ((q 5), .inl (cI, 40, .inl (fun k => zI ((g 5) k)))), ((q 6), .inl (cI, 20, .inl (fun k => zI ((g 6) k)))), ((q 7), .inl (cI, 20, .inl (fun k => zI ((g 7) k))))]) := by
  refine bw_Ci.of (cc := cX2_laidInAll) (maxL := 3) (ty := .int) (by decide) rfl (Nat.le_of_ble_eq_true rfl) ?_
  intro p e s m below meth c A Q hx hb hml hts hown hin hK hA hS hP hD hE ret ls hl
  have F : CallFix p m c cX2_laidInAll 3 s ([.ref b] : List Value).toArray bw_T RX2 := ⟨hx, hb, hml, hown, fun w h => hts w (List.mem_cons_of_mem _ h)⟩
  replace hl : lv_has ls 3 [(0, .ref b)] := hl
  have hN0 := hN.1
  refine lv_iconst (v := zI 0) hx hb dX2_laidInAll_0 rfl ?_
  refine lv_istore_n (lv' := [(1, .int (zI 0)), (0, .ref b)]) hx hb dX2_laidInAll_1 rfl hl (by decide) rfl (fun ls hl => ?_)
  refine lv_iconst (v := zI 0) hx hb dX2_laidInAll_2 rfl ?_
  refine lv_istore_n (lv' := [(2, .int (zI 0)), (1, .int (zI 0)), (0, .ref b)]) hx hb dX2_laidInAll_3 rfl hl (by decide) rfl (fun ls hl => ?_)
  refine W.widen (k := 0) (n := 0) (Nat.le_of_ble_eq_true rfl) (Nat.le_of_ble_eq_true rfl) ?_
  refine (?_ : ∀ (n9_1 : Nat) (v1 : Int) (v2 : Int) (H : Heap) (locs : List Loc), (0 ≤ v2 ∧ v2 ≤ 20) → (20 - v2 : Int).toNat < n9_1 → (v1 = sumN (g 7) (v2).toNat) → va_P G vwCl [(b, .inr (2, [.int (zI n), .ref (q 0), .ref (q 1), .ref (q 2), .ref (q 3), .ref (q 4), .ref (q 5), .ref (q 6), .ref (q 7)])), ((q 0), .inl (cI, 10, .inl (fun k => zI ((g 0) k)))), ((q 1), .inl (cI, 10, .inl (fun k => zI ((g 1) k)))), ((q 2), .inl (cI, 10, .inl (fun k => zI ((g 2) k)))), ((q 3), .inl (cI, 40, .inl (fun k => zI ((g 3) k)))), ((q 4), .inl (cI, 40, .inl (fun k => zI ((g 4) k)))), ((q 5), .inl (cI, 40, .inl (fun k => zI ((g 5) k)))), ((q 6), .inl (cI, 20, .inl (fun k => zI ((g 6) k)))), ((q 7), .inl (cI, 20, .inl (fun k => zI ((g 7) k))))] H → va_D A [(b, .inr (2, [.int (zI n), .ref (q 0), .ref (q 1), .ref (q 2), .ref (q 3), .ref (q 4), .ref (q 5), .ref (q 6), .ref (q 7)])), ((q 0), .inl (cI, 10, .inl (fun k => zI ((g 0) k)))), ((q 1), .inl (cI, 10, .inl (fun k => zI ((g 1) k)))), ((q 2), .inl (cI, 10, .inl (fun k => zI ((g 2) k)))), ((q 3), .inl (cI, 40, .inl (fun k => zI ((g 3) k)))), ((q 4), .inl (cI, 40, .inl (fun k => zI ((g 4) k)))), ((q 5), .inl (cI, 40, .inl (fun k => zI ((g 5) k)))), ((q 6), .inl (cI, 20, .inl (fun k => zI ((g 6) k)))), ((q 7), .inl (cI, 20, .inl (fun k => zI ((g 7) k))))] → va_S A s.heap H locs → ∀ ls : Array Slot, lv_has ls 3 [(2, .int (zI v2)), (1, .int (zI v1)), (0, .ref b)] → W p l e rm_X2z_laidInAll s m ([.ref b] : List Value).toArray below meth c H locs 0 0 Q (F0 m 4 ls [])) ((20 - 0 : Int).toNat + 1) 0 0 _ _ (by omega) (by omega) rfl hP hD hS ls hl
  clear hP hD hS hl ls
  intro n9_1
  induction n9_1 with
  | zero =>
    intro v1 v2 H locs hI hM
    exact absurd hM (by omega)
  | succ n9_1 ih1 =>
    intro v1 v2 H locs hI1 hM1 hsw hP hD hS ls hl
    refine lv_iload_n hx hb dX2_laidInAll_4 rfl (lv_at hl 0 rfl) ?_
    refine lv_bipush (v := zI 20) hx hb dX2_laidInAll_5 (by decide) ?_
    refine rz_icmp_ge (tgt := 25) F (by omega) (by omega) dX2_laidInAll_7 (by decide) (fun h7_0 => ?_) (fun h7_0 => ?_)
    · refine lv_iload_n hx hb dX2_laidInAll_25 rfl (lv_at hl 1 rfl) ?_
      exact ret (zI v1) (fun _ => 0, fun _ _ => 0) _ _ _ _ _ _ rfl ⟨v1, rfl, (by have q8 := hsw; rwa [show v2 = 20 by omega] at q8)⟩ (bw_subP (isC := [0, 1, 2, 3, 4, 5, 6, 7, 8]) hP rfl) (hD.sub [0, 1, 2, 3, 4, 5, 6, 7, 8] (by decide) rfl) hS (Nat.le_of_ble_eq_true rfl) (Nat.le_of_ble_eq_true rfl) dX2_laidInAll_26
    · refine lv_iload_n hx hb dX2_laidInAll_10 rfl (lv_at hl 1 rfl) ?_
      refine lv_aload_n hx hb dX2_laidInAll_11 rfl (lv_at hl 2 rfl) ?_
      refine r_get F hK hP 0 8 rfl rfl in_X2 (by decide) k_169 rfl dX2_laidInAll_12 ?_
      refine lv_iload_n hx hb dX2_laidInAll_15 rfl (lv_at hl 0 rfl) ?_
      refine rz_iald F hK hP 8 0 rfl rfl (by omega) (by omega) dX2_laidInAll_16 ?_
      refine r_iadd (v := zI (v1 + ((g 7) (v2).toNat))) F dX2_laidInAll_17 (zI_add _ _) ?_
      refine lv_istore_n (lv' := [(1, .int (zI (v1 + ((g 7) (v2).toNat)))), (2, .int (zI v2)), (0, .ref b)]) hx hb dX2_laidInAll_18 rfl hl (by decide) rfl (fun ls hl => ?_)
      refine lv_iinc (v := zI (v2 + 1)) (lv' := [(2, .int (zI (v2 + 1))), (1, .int (zI (v1 + ((g 7) (v2).toNat)))), (0, .ref b)]) hx hb dX2_laidInAll_19 hl (k := 1) rfl (zI_add _ _) (by decide) rfl (fun ls hl => ?_)
      refine lv_goto (tgt := 4) hx hb dX2_laidInAll_22 (by decide) ?_
      exact ih1 (v1 + ((g 7) (v2).toNat)) (v2 + 1) _ _ (by omega) (by omega) (sumN_step (by omega) hsw rfl) hP hD hS ls (lv_sub hl [0, 1, 2] rfl)
abbrev rm_X2z_hasWay : Room := { frames := 0, cells := 0, slots := 0, locals := 0 }
set_option maxRecDepth 100000 in
set_option maxHeartbeats 8000000 in
theorem c_X2z_hasWay {l : Launch} {E : (Nat → Prop) → State → Prop} (hO : bw_Ok E) {G : va_G} {cI cB cJ cN cW : ClassId} (b : Nat) (q : Nat → Nat) (n : Int) (g : Nat → Nat → Int) (hN : NetOk n g) (x : Int) (hx9 : zR x) : bw_Ci (S := zU) l yX2_hasWay (bw_ws (Cond.code yX2_hasWay cX2_hasWay 2 (some .boolean))) rm_X2z_hasWay E G (bw_kt cI cB cJ cN cW) [.ref b, .int (zI x)] [(b, .inr (2, [.int (zI n), .ref (q 0), .ref (q 1), .ref (q 2), .ref (q 3), .ref (q 4), .ref (q 5), .ref (q 6), .ref (q 7)])), ((q 0), .inl (cI, 10, .inl (fun k => zI ((g 0) k)))), ((q 1), .inl (cI, 10, .inl (fun k => zI ((g 1) k)))), ((q 2), .inl (cI, 10, .inl (fun k => zI ((g 2) k)))), ((q 3), .inl (cI, 40, .inl (fun k => zI ((g 3) k)))), ((q 4), .inl (cI, 40, .inl (fun k => zI ((g 4) k)))), ((q 5), .inl (cI, 40, .inl (fun k => zI ((g 5) k)))), ((q 6), .inl (cI, 20, .inl (fun k => zI ((g 6) k)))), ((q 7), .inl (cI, 20, .inl (fun k => zI ((g 7) k))))] (fun r _ => ∃ z : Int, r = zI z ∧ ((0 ≤ z ∧ z ≤ 1) ∧ (z = 1 ↔ (0 ≤ x ∧ x < 20) ∧ 0 < g 7 x.toNat))) (fun _ => [(b, .inr (2, [.int (zI n), .ref (q 0), .ref (q 1), .ref (q 2), .ref (q 3), .ref (q 4), .ref (q 5), .ref (q 6), .ref (q 7)])), ((q 0), .inl (cI, 10, .inl (fun k => zI ((g 0) k)))), ((q 1), .inl (cI, 10, .inl (fun k => zI ((g 1) k)))), ((q 2), .inl (cI, 10, .inl (fun k => zI ((g 2) k)))), ((q 3), .inl (cI, 40, .inl (fun k => zI ((g 3) k)))), ((q 4), .inl (cI, 40, .inl (fun k => zI ((g 4) k)))), ((q 5), .inl (cI, 40, .inl (fun k => zI ((g 5) k)))), ((q 6), .inl (cI, 20, .inl (fun k => zI ((g 6) k)))), ((q 7), .inl (cI, 20, .inl (fun k => zI ((g 7) k))))]) := by
  refine bw_Ci.of (cc := cX2_hasWay) (maxL := 2) (ty := .boolean) (by decide) rfl (Nat.le_of_ble_eq_true rfl) ?_
  intro p e s m below meth c A Q hx hb hml hts hown hin hK hA hS hP hD hE ret ls hl
  have F : CallFix p m c cX2_hasWay 2 s ([.ref b, .int (zI x)] : List Value).toArray bw_T RX2 := ⟨hx, hb, hml, hown, fun w h => hts w (List.mem_cons_of_mem _ h)⟩
  replace hl : lv_has ls 2 [(0, .ref b), (1, .int (zI x))] := hl
  have hN0 := hN.1
  refine lv_iload_n hx hb dX2_hasWay_0 rfl (lv_at hl 1 rfl) ?_
  refine rz_if_lt (tgt := 23) F (by omega) dX2_hasWay_1 (by decide) (fun h1_0 => ?_) (fun h1_0 => ?_)
  · refine lv_iconst (v := zI 0) hx hb dX2_hasWay_23 rfl ?_
    exact ret (zI 0) (fun _ => 0, fun _ _ => 0) _ _ _ _ _ _ rfl ⟨0, rfl, ⟨by omega, by constructor <;> intro q9 <;> omega⟩⟩ (bw_subP (isC := [0, 1, 2, 3, 4, 5, 6, 7, 8]) hP rfl) (hD.sub [0, 1, 2, 3, 4, 5, 6, 7, 8] (by decide) rfl) hS (Nat.le_of_ble_eq_true rfl) (Nat.le_of_ble_eq_true rfl) dX2_hasWay_24
  · refine lv_iload_n hx hb dX2_hasWay_4 rfl (lv_at hl 1 rfl) ?_
    refine lv_bipush (v := zI 20) hx hb dX2_hasWay_5 (by decide) ?_
    refine rz_icmp_ge (tgt := 23) F (by omega) (by omega) dX2_hasWay_7 (by decide) (fun h7_1 => ?_) (fun h7_1 => ?_)
    · refine lv_iconst (v := zI 0) hx hb dX2_hasWay_23 rfl ?_
      exact ret (zI 0) (fun _ => 0, fun _ _ => 0) _ _ _ _ _ _ rfl ⟨0, rfl, ⟨by omega, by constructor <;> intro q9 <;> omega⟩⟩ (bw_subP (isC := [0, 1, 2, 3, 4, 5, 6, 7, 8]) hP rfl) (hD.sub [0, 1, 2, 3, 4, 5, 6, 7, 8] (by decide) rfl) hS (Nat.le_of_ble_eq_true rfl) (Nat.le_of_ble_eq_true rfl) dX2_hasWay_24
    · refine lv_aload_n hx hb dX2_hasWay_10 rfl (lv_at hl 0 rfl) ?_
      refine r_get F hK hP 0 8 rfl rfl in_X2 (by decide) k_169 rfl dX2_hasWay_11 ?_
      refine lv_iload_n hx hb dX2_hasWay_14 rfl (lv_at hl 1 rfl) ?_
      refine rz_iald F hK hP 8 0 rfl rfl (by omega) (by omega) dX2_hasWay_15 ?_
      have hc3 := hN.2.2.2.2.2.2.2.2 (x).toNat (by omega)
      refine rz_if_le (tgt := 23) F (by omega) dX2_hasWay_16 (by decide) (fun h16_3 => ?_) (fun h16_3 => ?_)
      · refine lv_iconst (v := zI 0) hx hb dX2_hasWay_23 rfl ?_
        exact ret (zI 0) (fun _ => 0, fun _ _ => 0) _ _ _ _ _ _ rfl ⟨0, rfl, ⟨by omega, by constructor <;> intro q9 <;> omega⟩⟩ (bw_subP (isC := [0, 1, 2, 3, 4, 5, 6, 7, 8]) hP rfl) (hD.sub [0, 1, 2, 3, 4, 5, 6, 7, 8] (by decide) rfl) hS (Nat.le_of_ble_eq_true rfl) (Nat.le_of_ble_eq_true rfl) dX2_hasWay_24
      · refine lv_iconst (v := zI 1) hx hb dX2_hasWay_19 rfl ?_
        refine lv_goto (tgt := 24) hx hb dX2_hasWay_20 (by decide) ?_
        exact ret (zI 1) (fun _ => 0, fun _ _ => 0) _ _ _ _ _ _ rfl ⟨1, rfl, ⟨by omega, by constructor <;> intro q9 <;> omega⟩⟩ (bw_subP (isC := [0, 1, 2, 3, 4, 5, 6, 7, 8]) hP rfl) (hD.sub [0, 1, 2, 3, 4, 5, 6, 7, 8] (by decide) rfl) hS (Nat.le_of_ble_eq_true rfl) (Nat.le_of_ble_eq_true rfl) dX2_hasWay_24
abbrev rm_X5z_nextWay : Room := { frames := 1, cells := 0, slots := 0, locals := 26 }
set_option maxRecDepth 100000 in
set_option maxHeartbeats 8000000 in
theorem c_X5z_nextWay {l : Launch} {E : (Nat → Prop) → State → Prop} (hO : bw_Ok E) {G : va_G} {cI cB cJ cN cW : ClassId} (b : Nat) (q : Nat → Nat) (i : Nat → Int) (g : Nat → Nat → Int) (hY : TrailOk i) (o : Nat) (qo : Nat → Nat) (no : Int) (go : Nat → Nat → Int) (hM : NetOk no go) (x : Int) (hx9 : 0 ≤ x ∧ x ≤ 9) (pR : Nat → Int) (hPr : ProgOk pR) (hNR : NRel go pR) (hLN : LN pR no) (hDN : DN pR no) (hRs : Rst pR (g 1)) (hEv : EvF pR (g 1) no.toNat (x).toNat) (hxn : x < no ∨ x = 0) (hEx : ∃ w, EL (g 1) w) : bw_Ci (S := zU) l yX5_nextWay (bw_ws (Cond.code yX5_nextWay cX5_nextWay 5 (some .int))) rm_X5z_nextWay E G (bw_kt cI cB cJ cN cW) [.ref b, .ref o, .int (zI x)] [(b, .inr (5, [.int (zI (i 0)), .int (zI (i 1)), .ref (q 0), .ref (q 1)])), ((q 0), .inl (cI, 180, .inl (fun k => zI ((g 0) k)))), ((q 1), .inl (cI, 20, .inl (fun k => zI ((g 1) k)))), (o, .inr (2, [.int (zI no), .ref (qo 0), .ref (qo 1), .ref (qo 2), .ref (qo 3), .ref (qo 4), .ref (qo 5), .ref (qo 6), .ref (qo 7)])), ((qo 0), .inl (cI, 10, .inl (fun k => zI ((go 0) k)))), ((qo 1), .inl (cI, 10, .inl (fun k => zI ((go 1) k)))), ((qo 2), .inl (cI, 10, .inl (fun k => zI ((go 2) k)))), ((qo 3), .inl (cI, 40, .inl (fun k => zI ((go 3) k)))), ((qo 4), .inl (cI, 40, .inl (fun k => zI ((go 4) k)))), ((qo 5), .inl (cI, 40, .inl (fun k => zI ((go 5) k)))), ((qo 6), .inl (cI, 20, .inl (fun k => zI ((go 6) k)))), ((qo 7), .inl (cI, 20, .inl (fun k => zI ((go 7) k))))] (fun r u => ∃ z : Int, r = zI z ∧ TrailOk u.1 ∧ (z = nxW pR no.toNat (g 1) (x).toNat ∧ 0 ≤ z ∧ u.1 0 = i 0 ∧ u.1 1 = i 1 ∧ u.2 0 = g 0 ∧ u.2 1 = g 1)) (fun u => [(b, .inr (5, [.int (zI (u.1 0)), .int (zI (u.1 1)), .ref (q 0), .ref (q 1)])), ((q 0), .inl (cI, 180, .inl (fun k => zI ((u.2 0) k)))), ((q 1), .inl (cI, 20, .inl (fun k => zI ((u.2 1) k)))), (o, .inr (2, [.int (zI no), .ref (qo 0), .ref (qo 1), .ref (qo 2), .ref (qo 3), .ref (qo 4), .ref (qo 5), .ref (qo 6), .ref (qo 7)])), ((qo 0), .inl (cI, 10, .inl (fun k => zI ((go 0) k)))), ((qo 1), .inl (cI, 10, .inl (fun k => zI ((go 1) k)))), ((qo 2), .inl (cI, 10, .inl (fun k => zI ((go 2) k)))), ((qo 3), .inl (cI, 40, .inl (fun k => zI ((go 3) k)))), ((qo 4), .inl (cI, 40, .inl (fun k => zI ((go 4) k)))), ((qo 5), .inl (cI, 40, .inl (fun k => zI ((go 5) k)))), ((qo 6), .inl (cI, 20, .inl (fun k => zI ((go 6) k)))), ((qo 7), .inl (cI, 20, .inl (fun k => zI ((go 7) k))))]) := by
  refine bw_Ci.of (cc := cX5_nextWay) (maxL := 5) (ty := .int) (by decide) rfl (Nat.le_of_ble_eq_true rfl) ?_
  intro p e s m below meth c A Q hx hb hml hts hown hin hK hA hS hP hD hE ret ls hl
  have F : CallFix p m c cX5_nextWay 5 s ([.ref b, .ref o, .int (zI x)] : List Value).toArray bw_T RX5 := ⟨hx, hb, hml, hown, fun w h => hts w (List.mem_cons_of_mem _ h)⟩
  replace hl : lv_has ls 5 [(0, .ref b), (1, .ref o), (2, .int (zI x))] := hl
  have hM0 := hM.1
  have hcl := nxW_cls (n := no.toNat) hPr hRs (by rw [show ((no.toNat : Nat) : Int) = no by omega]; exact hLN) (by rw [show ((no.toNat : Nat) : Int) = no by omega]; exact hDN) (by omega) hEv (hxn.imp (fun q => by omega) (fun q => by omega)) hEx
  have hxa : 2 * (x).toNat = (2 * x).toNat := by omega
  have hxb : (2 * x).toNat + 1 = ((2 * x) + 1).toNat := by omega
  rw [hxa, hxb] at hcl
  have hc901 := hRs (2 * x).toNat (by omega)
  have hc902 := hRs ((2 * x) + 1).toNat (by omega)
  have hc903 := laidF_rg hPr (x := (((2 * x).toNat : Nat) : Int)) (by omega)
  have hc904 := laidF_rg hPr (x := ((((2 * x) + 1).toNat : Nat) : Int)) (by omega)
  refine lv_iconst (v := zI 2) hx hb dX5_nextWay_0 rfl ?_
  refine lv_iload_n hx hb dX5_nextWay_1 rfl (lv_at hl 2 rfl) ?_
  refine r_imul (v := zI (2 * x)) F dX5_nextWay_2 (zI_mul _ _) ?_
  refine lv_istore_n (lv' := [(3, .int (zI (2 * x))), (0, .ref b), (1, .ref o), (2, .int (zI x))]) hx hb dX5_nextWay_3 rfl hl (by decide) rfl (fun ls hl => ?_)
  refine lv_aload_n hx hb dX5_nextWay_4 rfl (lv_at hl 1 rfl) ?_
  refine r_get F hK hP 0 3 rfl rfl in_X5 (by decide) k_432 rfl dX5_nextWay_5 ?_
  refine lv_iload_n hx hb dX5_nextWay_8 rfl (lv_at hl 0 rfl) ?_
  refine rz_iald F hK hP 2 0 rfl rfl (by omega) (by omega) dX5_nextWay_9 ?_
  refine rz_if_ne (tgt := 17) F (by omega) dX5_nextWay_10 (by decide) (fun h10_0 => ?_) (fun h10_0 => ?_)
  · refine lv_aload_n hx hb dX5_nextWay_17 rfl (lv_at hl 1 rfl) ?_
    refine r_get F hK hP 0 3 rfl rfl in_X5 (by decide) k_432 rfl dX5_nextWay_18 ?_
    refine lv_iload_n hx hb dX5_nextWay_21 rfl (lv_at hl 0 rfl) ?_
    refine lv_iconst (v := zI 1) hx hb dX5_nextWay_22 rfl ?_
    refine r_iadd (v := zI ((2 * x) + 1)) F dX5_nextWay_23 (zI_add _ _) ?_
    refine rz_iald F hK hP 2 0 rfl rfl (by omega) (by omega) dX5_nextWay_24 ?_
    refine rz_if_ne (tgt := 30) F (by omega) dX5_nextWay_25 (by decide) (fun h25_1 => ?_) (fun h25_1 => ?_)
    · refine lv_aload_n hx hb dX5_nextWay_30 rfl (lv_at hl 1 rfl) ?_
      refine r_get F hK hP 0 3 rfl rfl in_X5 (by decide) k_432 rfl dX5_nextWay_31 ?_
      refine lv_iload_n hx hb dX5_nextWay_34 rfl (lv_at hl 0 rfl) ?_
      refine lv_dup2_11 hx hb dX5_nextWay_35 rfl rfl ?_
      refine rz_iald F hK hP 2 0 rfl rfl (by omega) (by omega) dX5_nextWay_36 ?_
      refine lv_iconst (v := zI 1) hx hb dX5_nextWay_37 rfl ?_
      refine r_isub (v := zI (((g 1) ((2 * x)).toNat) - 1)) F dX5_nextWay_38 (zI_sub _ _) ?_
      refine rz_iastG F hK hP hD hS 2 0 rfl rfl (by omega) (by omega) dX5_nextWay_39 (w1 := fun g3 => [(b, .inr (5, [.int (zI (i 0)), .int (zI (i 1)), .ref (q 0), .ref (q 1)])), ((q 0), .inl (cI, 180, .inl (fun k => zI ((g 0) k)))), ((q 1), .inl (cI, 20, .inl (fun k => zI (g3 k)))), (o, .inr (2, [.int (zI no), .ref (qo 0), .ref (qo 1), .ref (qo 2), .ref (qo 3), .ref (qo 4), .ref (qo 5), .ref (qo 6), .ref (qo 7)])), ((qo 0), .inl (cI, 10, .inl (fun k => zI ((go 0) k)))), ((qo 1), .inl (cI, 10, .inl (fun k => zI ((go 1) k)))), ((qo 2), .inl (cI, 10, .inl (fun k => zI ((go 2) k)))), ((qo 3), .inl (cI, 40, .inl (fun k => zI ((go 3) k)))), ((qo 4), .inl (cI, 40, .inl (fun k => zI ((go 4) k)))), ((qo 5), .inl (cI, 40, .inl (fun k => zI ((go 5) k)))), ((qo 6), .inl (cI, 20, .inl (fun k => zI ((go 6) k)))), ((qo 7), .inl (cI, 20, .inl (fun k => zI ((go 7) k))))]) (fun _ => rfl) (fun g3 e_g3 H locs hP hD hS => ?_)
      have hs39 : g3 ((2 * x)).toNat = (((g 1) ((2 * x)).toNat) - 1) := uZ_at e_g3 rfl
      have hdn : g3 = dnW (g 1) (2 * x).toNat := e_g3
      refine lv_aload_n hx hb dX5_nextWay_40 rfl (lv_at hl 2 rfl) ?_
      refine lv_aload_n hx hb dX5_nextWay_41 rfl (lv_at hl 1 rfl) ?_
      refine r_get F hK hP 0 3 rfl rfl in_X5 (by decide) k_432 rfl dX5_nextWay_42 ?_
      refine lv_aload_n hx hb dX5_nextWay_45 rfl (lv_at hl 2 rfl) ?_
      refine r_get F hK hP 3 7 rfl rfl in_X2 (by decide) k_166 rfl dX5_nextWay_46 ?_
      refine lv_iload_n hx hb dX5_nextWay_49 rfl (lv_at hl 0 rfl) ?_
      refine rz_iald F hK hP 10 0 rfl rfl (by omega) (by omega) dX5_nextWay_50 ?_
      have hl9 : 0 < laidF pR (2 * x) := by have q9 := hRs (2 * x).toNat (by omega); rw [show (((2 * x).toNat : Nat) : Int) = 2 * x by omega] at q9; omega
      have hgt := hNR.gt (x := 2 * x) (by omega) hl9
      have hgn := hDN.gt (x := 2 * x) (by omega) hl9
      have hc4 := gtF_rg hPr (x := 2 * x) (by omega)
      have hle : (go 6 (2 * x).toNat).toNat = dW pR (2 * x).toNat := by unfold dW; rw [show (((2 * x).toNat : Nat) : Int) = 2 * x by omega, hgt]
      have hWg : Rst pR g3 := by rw [hdn]; exact hRs.dn (by have q9 := hRs (2 * x).toNat (by omega); omega)
      refine r_callVi (As := [.ref (q 1), .int (zI ((go 6) ((2 * x)).toNat))]) (rest := []) (wr := [(b, .inr (5, [.int (zI (i 0)), .int (zI (i 1)), .ref (q 0), .ref (q 1)])), ((q 0), .inl (cI, 180, .inl (fun k => zI ((g 0) k))))]) F hK hP hD hS hA hO hE (c_X2z_hangOther hO o qo no go hM (q 1) g3 ((go 6) ((2 * x)).toNat) (by omega) pR hPr hNR hLN hDN hWg (Or.inl (by omega))) k_910 kv_X2_hangTogether 2 rfl (by decide +kernel) ⟨Nat.le_of_ble_eq_true rfl, Nat.le_of_ble_eq_true rfl⟩ [3, 4, 5, 6, 7, 8, 9, 10, 11, 2] [0, 1] rfl rfl (by decide) (by decide) (by decide) 0 2 rfl rfl rfl hl.1 rfl (Nat.le_of_ble_eq_true rfl) dX5_nextWay_51 ⟨Nat.le_of_ble_eq_true rfl, Nat.le_of_ble_eq_true rfl⟩ (w1 := fun u5 => [(b, .inr (5, [.int (zI (i 0)), .int (zI (i 1)), .ref (q 0), .ref (q 1)])), ((q 0), .inl (cI, 180, .inl (fun k => zI ((g 0) k)))), (o, .inr (2, [.int (zI no), .ref (qo 0), .ref (qo 1), .ref (qo 2), .ref (qo 3), .ref (qo 4), .ref (qo 5), .ref (qo 6), .ref (qo 7)])), ((qo 0), .inl (cI, 10, .inl (fun k => zI ((go 0) k)))), ((qo 1), .inl (cI, 10, .inl (fun k => zI ((go 1) k)))), ((qo 2), .inl (cI, 10, .inl (fun k => zI ((go 2) k)))), ((qo 3), .inl (cI, 40, .inl (fun k => zI ((go 3) k)))), ((qo 4), .inl (cI, 40, .inl (fun k => zI ((go 4) k)))), ((qo 5), .inl (cI, 40, .inl (fun k => zI ((go 5) k)))), ((qo 6), .inl (cI, 20, .inl (fun k => zI ((go 6) k)))), ((qo 7), .inl (cI, 20, .inl (fun k => zI ((go 7) k)))), ((q 1), .inl (cI, 20, .inl (fun k => zI (g3 k))))]) (fun _ => rfl) (fun r6 u5 H locs hp7 hP hD hS => ?_)
      obtain ⟨z8, rfl, h_z8⟩ := hp7
      have hhg := h_z8
      have hc9 := hhg.1
      rw [hle, hdn] at hhg
      refine lv_istore (lv' := [(4, .int (zI z8)), (3, .int (zI (2 * x))), (0, .ref b), (1, .ref o), (2, .int (zI x))]) hx hb dX5_nextWay_54 hl (by decide) rfl (fun ls hl => ?_)
      refine lv_aload_n hx hb dX5_nextWay_56 rfl (lv_at hl 2 rfl) ?_
      refine r_get F hK hP 0 3 rfl rfl in_X5 (by decide) k_432 rfl dX5_nextWay_57 ?_
      refine lv_iload_n hx hb dX5_nextWay_60 rfl (lv_at hl 1 rfl) ?_
      refine lv_dup2_11 hx hb dX5_nextWay_61 rfl rfl ?_
      refine rz_iald F hK hP 11 0 rfl rfl (by omega) (by omega) dX5_nextWay_62 ?_
      refine lv_iconst (v := zI 1) hx hb dX5_nextWay_63 rfl ?_
      refine r_iadd (v := zI ((g3 ((2 * x)).toNat) + 1)) F dX5_nextWay_64 (zI_add _ _) ?_
      refine rz_iastG F hK hP hD hS 11 0 rfl rfl (by omega) (by omega) dX5_nextWay_65 (w1 := fun g10 => [(b, .inr (5, [.int (zI (i 0)), .int (zI (i 1)), .ref (q 0), .ref (q 1)])), ((q 0), .inl (cI, 180, .inl (fun k => zI ((g 0) k)))), (o, .inr (2, [.int (zI no), .ref (qo 0), .ref (qo 1), .ref (qo 2), .ref (qo 3), .ref (qo 4), .ref (qo 5), .ref (qo 6), .ref (qo 7)])), ((qo 0), .inl (cI, 10, .inl (fun k => zI ((go 0) k)))), ((qo 1), .inl (cI, 10, .inl (fun k => zI ((go 1) k)))), ((qo 2), .inl (cI, 10, .inl (fun k => zI ((go 2) k)))), ((qo 3), .inl (cI, 40, .inl (fun k => zI ((go 3) k)))), ((qo 4), .inl (cI, 40, .inl (fun k => zI ((go 4) k)))), ((qo 5), .inl (cI, 40, .inl (fun k => zI ((go 5) k)))), ((qo 6), .inl (cI, 20, .inl (fun k => zI ((go 6) k)))), ((qo 7), .inl (cI, 20, .inl (fun k => zI ((go 7) k)))), ((q 1), .inl (cI, 20, .inl (fun k => zI (g10 k))))]) (fun _ => rfl) (fun g10 e_g10 H locs hP hD hS => ?_)
      have hbk : g10 = g 1 := uZ_back e_g3 e_g10 (by omega)
      refine lv_iload hx hb dX5_nextWay_66 (lv_at hl 0 rfl) ?_
      refine rz_if_eq (tgt := 75) F (by omega) dX5_nextWay_68 (by decide) (fun h68_10 => ?_) (fun h68_10 => ?_)
      · refine lv_iload_n hx hb dX5_nextWay_75 rfl (lv_at hl 1 rfl) ?_
        refine lv_iconst (v := zI 1) hx hb dX5_nextWay_76 rfl ?_
        refine r_iadd (v := zI ((2 * x) + 1)) F dX5_nextWay_77 (zI_add _ _) ?_
        obtain ⟨i12, e_i12⟩ : ∃ i12 : Nat → Int, i12 = fun k => [(i 0), (i 1)].getD k 0 := ⟨_, rfl⟩
        have e_i12_0 : i12 0 = (i 0) := congrFun e_i12 0
        have e_i12_1 : i12 1 = (i 1) := congrFun e_i12 1
        obtain ⟨gg13, e_gg13⟩ : ∃ gg13 : Nat → Nat → Int, gg13 = fun k => [(g 0), g10].getD k (fun _ => 0) := ⟨_, rfl⟩
        have hO14 : TrailOk i12 := ⟨by omega, by omega⟩
        have hf15 := hO14
        have hP : va_P G vwCl [(b, .inr (5, [.int (zI (i12 0)), .int (zI (i12 1)), .ref (q 0), .ref (q 1)])), ((q 0), .inl (cI, 180, .inl (fun k => zI ((gg13 0) k)))), (o, .inr (2, [.int (zI no), .ref (qo 0), .ref (qo 1), .ref (qo 2), .ref (qo 3), .ref (qo 4), .ref (qo 5), .ref (qo 6), .ref (qo 7)])), ((qo 0), .inl (cI, 10, .inl (fun k => zI ((go 0) k)))), ((qo 1), .inl (cI, 10, .inl (fun k => zI ((go 1) k)))), ((qo 2), .inl (cI, 10, .inl (fun k => zI ((go 2) k)))), ((qo 3), .inl (cI, 40, .inl (fun k => zI ((go 3) k)))), ((qo 4), .inl (cI, 40, .inl (fun k => zI ((go 4) k)))), ((qo 5), .inl (cI, 40, .inl (fun k => zI ((go 5) k)))), ((qo 6), .inl (cI, 20, .inl (fun k => zI ((go 6) k)))), ((qo 7), .inl (cI, 20, .inl (fun k => zI ((go 7) k)))), ((q 1), .inl (cI, 20, .inl (fun k => zI ((gg13 1) k))))] H := by subst e_i12 e_gg13; exact hP
        have hD : va_D A [(b, .inr (5, [.int (zI (i12 0)), .int (zI (i12 1)), .ref (q 0), .ref (q 1)])), ((q 0), .inl (cI, 180, .inl (fun k => zI ((gg13 0) k)))), (o, .inr (2, [.int (zI no), .ref (qo 0), .ref (qo 1), .ref (qo 2), .ref (qo 3), .ref (qo 4), .ref (qo 5), .ref (qo 6), .ref (qo 7)])), ((qo 0), .inl (cI, 10, .inl (fun k => zI ((go 0) k)))), ((qo 1), .inl (cI, 10, .inl (fun k => zI ((go 1) k)))), ((qo 2), .inl (cI, 10, .inl (fun k => zI ((go 2) k)))), ((qo 3), .inl (cI, 40, .inl (fun k => zI ((go 3) k)))), ((qo 4), .inl (cI, 40, .inl (fun k => zI ((go 4) k)))), ((qo 5), .inl (cI, 40, .inl (fun k => zI ((go 5) k)))), ((qo 6), .inl (cI, 20, .inl (fun k => zI ((go 6) k)))), ((qo 7), .inl (cI, 20, .inl (fun k => zI ((go 7) k)))), ((q 1), .inl (cI, 20, .inl (fun k => zI ((gg13 1) k))))] := by subst e_i12 e_gg13; exact hD
        exact ret (zI ((2 * x) + 1)) (i12, gg13) _ _ _ _ _ _ rfl ⟨((2 * x) + 1), rfl, hO14, ⟨(by have q9 := (hcl.2.2 (by omega) (by omega)).2 (fun q8 => absurd (hhg.2.mpr q8) (by omega)); omega), by omega, (show i12 0 = i 0 from by omega), (show i12 1 = i 1 from by omega), (by rw [e_gg13]; rfl), (by rw [e_gg13]; exact hbk)⟩⟩ (bw_subP (isC := [0, 1, 11, 2, 3, 4, 5, 6, 7, 8, 9, 10]) hP rfl) (hD.sub [0, 1, 11, 2, 3, 4, 5, 6, 7, 8, 9, 10] (by decide) rfl) hS (Nat.le_of_ble_eq_true rfl) (Nat.le_of_ble_eq_true rfl) dX5_nextWay_78
      · refine lv_iload_n hx hb dX5_nextWay_71 rfl (lv_at hl 1 rfl) ?_
        refine lv_goto (tgt := 78) hx hb dX5_nextWay_72 (by decide) ?_
        obtain ⟨i16, e_i16⟩ : ∃ i16 : Nat → Int, i16 = fun k => [(i 0), (i 1)].getD k 0 := ⟨_, rfl⟩
        have e_i16_0 : i16 0 = (i 0) := congrFun e_i16 0
        have e_i16_1 : i16 1 = (i 1) := congrFun e_i16 1
        obtain ⟨gg17, e_gg17⟩ : ∃ gg17 : Nat → Nat → Int, gg17 = fun k => [(g 0), g10].getD k (fun _ => 0) := ⟨_, rfl⟩
        have hO18 : TrailOk i16 := ⟨by omega, by omega⟩
        have hf19 := hO18
        have hP : va_P G vwCl [(b, .inr (5, [.int (zI (i16 0)), .int (zI (i16 1)), .ref (q 0), .ref (q 1)])), ((q 0), .inl (cI, 180, .inl (fun k => zI ((gg17 0) k)))), (o, .inr (2, [.int (zI no), .ref (qo 0), .ref (qo 1), .ref (qo 2), .ref (qo 3), .ref (qo 4), .ref (qo 5), .ref (qo 6), .ref (qo 7)])), ((qo 0), .inl (cI, 10, .inl (fun k => zI ((go 0) k)))), ((qo 1), .inl (cI, 10, .inl (fun k => zI ((go 1) k)))), ((qo 2), .inl (cI, 10, .inl (fun k => zI ((go 2) k)))), ((qo 3), .inl (cI, 40, .inl (fun k => zI ((go 3) k)))), ((qo 4), .inl (cI, 40, .inl (fun k => zI ((go 4) k)))), ((qo 5), .inl (cI, 40, .inl (fun k => zI ((go 5) k)))), ((qo 6), .inl (cI, 20, .inl (fun k => zI ((go 6) k)))), ((qo 7), .inl (cI, 20, .inl (fun k => zI ((go 7) k)))), ((q 1), .inl (cI, 20, .inl (fun k => zI ((gg17 1) k))))] H := by subst e_i16 e_gg17; exact hP
        have hD : va_D A [(b, .inr (5, [.int (zI (i16 0)), .int (zI (i16 1)), .ref (q 0), .ref (q 1)])), ((q 0), .inl (cI, 180, .inl (fun k => zI ((gg17 0) k)))), (o, .inr (2, [.int (zI no), .ref (qo 0), .ref (qo 1), .ref (qo 2), .ref (qo 3), .ref (qo 4), .ref (qo 5), .ref (qo 6), .ref (qo 7)])), ((qo 0), .inl (cI, 10, .inl (fun k => zI ((go 0) k)))), ((qo 1), .inl (cI, 10, .inl (fun k => zI ((go 1) k)))), ((qo 2), .inl (cI, 10, .inl (fun k => zI ((go 2) k)))), ((qo 3), .inl (cI, 40, .inl (fun k => zI ((go 3) k)))), ((qo 4), .inl (cI, 40, .inl (fun k => zI ((go 4) k)))), ((qo 5), .inl (cI, 40, .inl (fun k => zI ((go 5) k)))), ((qo 6), .inl (cI, 20, .inl (fun k => zI ((go 6) k)))), ((qo 7), .inl (cI, 20, .inl (fun k => zI ((go 7) k)))), ((q 1), .inl (cI, 20, .inl (fun k => zI ((gg17 1) k))))] := by subst e_i16 e_gg17; exact hD
        exact ret (zI (2 * x)) (i16, gg17) _ _ _ _ _ _ rfl ⟨(2 * x), rfl, hO18, ⟨(by have q9 := (hcl.2.2 (by omega) (by omega)).1 (hhg.2.mp (by omega)); omega), by omega, (show i16 0 = i 0 from by omega), (show i16 1 = i 1 from by omega), (by rw [e_gg17]; rfl), (by rw [e_gg17]; exact hbk)⟩⟩ (bw_subP (isC := [0, 1, 11, 2, 3, 4, 5, 6, 7, 8, 9, 10]) hP rfl) (hD.sub [0, 1, 11, 2, 3, 4, 5, 6, 7, 8, 9, 10] (by decide) rfl) hS (Nat.le_of_ble_eq_true rfl) (Nat.le_of_ble_eq_true rfl) dX5_nextWay_78
    · refine lv_iload_n hx hb dX5_nextWay_28 rfl (lv_at hl 0 rfl) ?_
      exact ret (zI (2 * x)) (i, g) _ _ _ _ _ _ rfl ⟨(2 * x), rfl, hY, ⟨(by have q9 := hcl.2.1 (by omega) (by omega); omega), by omega, (show i 0 = i 0 from by omega), (show i 1 = i 1 from by omega), rfl, rfl⟩⟩ (bw_subP (isC := [0, 1, 2, 3, 4, 5, 6, 7, 8, 9, 10, 11]) hP rfl) (hD.sub [0, 1, 2, 3, 4, 5, 6, 7, 8, 9, 10, 11] (by decide) rfl) hS (Nat.le_of_ble_eq_true rfl) (Nat.le_of_ble_eq_true rfl) dX5_nextWay_29
  · refine lv_iload_n hx hb dX5_nextWay_13 rfl (lv_at hl 0 rfl) ?_
    refine lv_iconst (v := zI 1) hx hb dX5_nextWay_14 rfl ?_
    refine r_iadd (v := zI ((2 * x) + 1)) F dX5_nextWay_15 (zI_add _ _) ?_
    exact ret (zI ((2 * x) + 1)) (i, g) _ _ _ _ _ _ rfl ⟨((2 * x) + 1), rfl, hY, ⟨(by have q9 := (hcl.1 (by omega)).2; omega), by omega, (show i 0 = i 0 from by omega), (show i 1 = i 1 from by omega), rfl, rfl⟩⟩ (bw_subP (isC := [0, 1, 2, 3, 4, 5, 6, 7, 8, 9, 10, 11]) hP rfl) (hD.sub [0, 1, 2, 3, 4, 5, 6, 7, 8, 9, 10, 11] (by decide) rfl) hS (Nat.le_of_ble_eq_true rfl) (Nat.le_of_ble_eq_true rfl) dX5_nextWay_16
abbrev rm_X5z_goThrough : Room := { frames := 2, cells := 0, slots := 0, locals := 50 }
set_option maxRecDepth 100000 in
set_option maxHeartbeats 8000000 in
theorem c_X5z_goThrough {l : Launch} {E : (Nat → Prop) → State → Prop} (hO : bw_Ok E) {G : va_G} {cI cB cJ cN cW : ClassId} (b : Nat) (q : Nat → Nat) (i : Nat → Int) (g : Nat → Nat → Int) (hY : TrailOk i) (o : Nat) (qo : Nat → Nat) (no : Int) (go : Nat → Nat → Int) (hM : NetOk no go) (pR : Nat → Int) (hPr : ProgOk pR) (hNR : NRel go pR) (hLN : LN pR no) (hDN : DN pR no) (hEv0 : EvF pR (lF pR) no.toNat 0) : bw_Cv (S := zU) l yX5_goThrough (bw_ws (Cond.code yX5_goThrough cX5_goThrough 6 none)) rm_X5z_goThrough E G (bw_kt cI cB cJ cN cW) [.ref b, .ref o] [(b, .inr (5, [.int (zI (i 0)), .int (zI (i 1)), .ref (q 0), .ref (q 1)])), ((q 0), .inl (cI, 180, .inl (fun k => zI ((g 0) k)))), ((q 1), .inl (cI, 20, .inl (fun k => zI ((g 1) k)))), (o, .inr (2, [.int (zI no), .ref (qo 0), .ref (qo 1), .ref (qo 2), .ref (qo 3), .ref (qo 4), .ref (qo 5), .ref (qo 6), .ref (qo 7)])), ((qo 0), .inl (cI, 10, .inl (fun k => zI ((go 0) k)))), ((qo 1), .inl (cI, 10, .inl (fun k => zI ((go 1) k)))), ((qo 2), .inl (cI, 10, .inl (fun k => zI ((go 2) k)))), ((qo 3), .inl (cI, 40, .inl (fun k => zI ((go 3) k)))), ((qo 4), .inl (cI, 40, .inl (fun k => zI ((go 4) k)))), ((qo 5), .inl (cI, 40, .inl (fun k => zI ((go 5) k)))), ((qo 6), .inl (cI, 20, .inl (fun k => zI ((go 6) k)))), ((qo 7), .inl (cI, 20, .inl (fun k => zI ((go 7) k))))] (fun u => TrailOk u.1 ∧ (u.1 0 = i 0 ∧ TrF pR no.toNat (u.1 1) (u.2 0))) (fun u => [(b, .inr (5, [.int (zI (u.1 0)), .int (zI (u.1 1)), .ref (q 0), .ref (q 1)])), ((q 0), .inl (cI, 180, .inl (fun k => zI ((u.2 0) k)))), ((q 1), .inl (cI, 20, .inl (fun k => zI ((u.2 1) k)))), (o, .inr (2, [.int (zI no), .ref (qo 0), .ref (qo 1), .ref (qo 2), .ref (qo 3), .ref (qo 4), .ref (qo 5), .ref (qo 6), .ref (qo 7)])), ((qo 0), .inl (cI, 10, .inl (fun k => zI ((go 0) k)))), ((qo 1), .inl (cI, 10, .inl (fun k => zI ((go 1) k)))), ((qo 2), .inl (cI, 10, .inl (fun k => zI ((go 2) k)))), ((qo 3), .inl (cI, 40, .inl (fun k => zI ((go 3) k)))), ((qo 4), .inl (cI, 40, .inl (fun k => zI ((go 4) k)))), ((qo 5), .inl (cI, 40, .inl (fun k => zI ((go 5) k)))), ((qo 6), .inl (cI, 20, .inl (fun k => zI ((go 6) k)))), ((qo 7), .inl (cI, 20, .inl (fun k => zI ((go 7) k))))]) := by
  refine bw_Cv.of (cc := cX5_goThrough) (maxL := 6) (by decide) rfl (Nat.le_of_ble_eq_true rfl) ?_
  intro p e s m below meth c A Q hx hb hml hts hown hin hK hA hS hP hD hE ret ls hl
  have F : CallFix p m c cX5_goThrough 6 s ([.ref b, .ref o] : List Value).toArray bw_T RX5 := ⟨hx, hb, hml, hown, fun w h => hts w (List.mem_cons_of_mem _ h)⟩
  replace hl : lv_has ls 6 [(0, .ref b), (1, .ref o)] := hl
  have hM0 := hM.1
  refine lv_aload_n hx hb dX5_goThrough_0 rfl (lv_at hl 1 rfl) ?_
  refine r_get F hK hP 3 8 rfl rfl in_X2 (by decide) k_170 rfl dX5_goThrough_1 ?_
  refine lv_iconst (v := zI 0) hx hb dX5_goThrough_4 rfl ?_
  refine lv_aload_n hx hb dX5_goThrough_5 rfl (lv_at hl 0 rfl) ?_
  refine r_get F hK hP 0 3 rfl rfl in_X5 (by decide) k_432 rfl dX5_goThrough_6 ?_
  refine lv_iconst (v := zI 0) hx hb dX5_goThrough_9 rfl ?_
  refine lv_bipush (v := zI 20) hx hb dX5_goThrough_10 (by decide) ?_
  refine rz_copy F k_901 k_641 k_640 k_108 hK hP hD hS 11 2 0 rfl rfl rfl (by omega) hl.1 (Nat.le_of_ble_eq_true rfl) (Nat.le_of_ble_eq_true rfl) dX5_goThrough_12 (w1 := fun g1 => [(b, .inr (5, [.int (zI (i 0)), .int (zI (i 1)), .ref (q 0), .ref (q 1)])), ((q 0), .inl (cI, 180, .inl (fun k => zI ((g 0) k)))), ((q 1), .inl (cI, 20, .inl (fun k => zI (g1 k)))), (o, .inr (2, [.int (zI no), .ref (qo 0), .ref (qo 1), .ref (qo 2), .ref (qo 3), .ref (qo 4), .ref (qo 5), .ref (qo 6), .ref (qo 7)])), ((qo 0), .inl (cI, 10, .inl (fun k => zI ((go 0) k)))), ((qo 1), .inl (cI, 10, .inl (fun k => zI ((go 1) k)))), ((qo 2), .inl (cI, 10, .inl (fun k => zI ((go 2) k)))), ((qo 3), .inl (cI, 40, .inl (fun k => zI ((go 3) k)))), ((qo 4), .inl (cI, 40, .inl (fun k => zI ((go 4) k)))), ((qo 5), .inl (cI, 40, .inl (fun k => zI ((go 5) k)))), ((qo 6), .inl (cI, 20, .inl (fun k => zI ((go 6) k)))), ((qo 7), .inl (cI, 20, .inl (fun k => zI ((go 7) k))))]) (fun _ => rfl) (fun g1 e_g1 H locs hP hD hS => ?_)
  have hcp : ∀ k, k < 20 → g1 k = go 7 k := fun k hk => by rw [e_g1]; simp [va_cpy, hk]
  refine lv_aload_n hx hb dX5_goThrough_15 rfl (lv_at hl 1 rfl) ?_
  refine r_callVi (As := []) (rest := []) (wr := [(b, .inr (5, [.int (zI (i 0)), .int (zI (i 1)), .ref (q 0), .ref (q 1)])), ((q 0), .inl (cI, 180, .inl (fun k => zI ((g 0) k)))), ((q 1), .inl (cI, 20, .inl (fun k => zI (g1 k))))]) F hK hP hD hS hA hO hE (c_X2z_laidInAll hO o qo no go hM) k_902 kv_X2_laidInAll 0 rfl (by decide +kernel) ⟨Nat.le_of_ble_eq_true rfl, Nat.le_of_ble_eq_true rfl⟩ [3, 4, 5, 6, 7, 8, 9, 10, 11] [0, 1, 2] rfl rfl (by decide) (by decide) (by decide) 0 2 rfl rfl rfl hl.1 rfl (Nat.le_of_ble_eq_true rfl) dX5_goThrough_16 ⟨Nat.le_of_ble_eq_true rfl, Nat.le_of_ble_eq_true rfl⟩ (w1 := fun u2 => [(b, .inr (5, [.int (zI (i 0)), .int (zI (i 1)), .ref (q 0), .ref (q 1)])), ((q 0), .inl (cI, 180, .inl (fun k => zI ((g 0) k)))), ((q 1), .inl (cI, 20, .inl (fun k => zI (g1 k)))), (o, .inr (2, [.int (zI no), .ref (qo 0), .ref (qo 1), .ref (qo 2), .ref (qo 3), .ref (qo 4), .ref (qo 5), .ref (qo 6), .ref (qo 7)])), ((qo 0), .inl (cI, 10, .inl (fun k => zI ((go 0) k)))), ((qo 1), .inl (cI, 10, .inl (fun k => zI ((go 1) k)))), ((qo 2), .inl (cI, 10, .inl (fun k => zI ((go 2) k)))), ((qo 3), .inl (cI, 40, .inl (fun k => zI ((go 3) k)))), ((qo 4), .inl (cI, 40, .inl (fun k => zI ((go 4) k)))), ((qo 5), .inl (cI, 40, .inl (fun k => zI ((go 5) k)))), ((qo 6), .inl (cI, 20, .inl (fun k => zI ((go 6) k)))), ((qo 7), .inl (cI, 20, .inl (fun k => zI ((go 7) k))))]) (fun _ => rfl) (fun r3 u2 H locs hp4 hP hD hS => ?_)
  obtain ⟨z5, rfl, h_z5⟩ := hp4
  have hla := h_z5
  obtain ⟨hW7, hW⟩ := hNR.rst hPr
  have hS1 := sumN_rg (f := go 7) (m := 9) (by omega) 20 (fun k hk => by have q9 := hW k hk; have q8 := laidF_rg hPr (x := (k : Int)) (by omega); omega)
  refine lv_istore_n (lv' := [(2, .int (zI z5)), (0, .ref b), (1, .ref o)]) hx hb dX5_goThrough_19 rfl hl (by decide) rfl (fun ls hl => ?_)
  refine lv_iconst (v := zI 0) hx hb dX5_goThrough_20 rfl ?_
  refine lv_istore_n (lv' := [(3, .int (zI 0)), (2, .int (zI z5)), (0, .ref b), (1, .ref o)]) hx hb dX5_goThrough_21 rfl hl (by decide) rfl (fun ls hl => ?_)
  refine lv_aload_n hx hb dX5_goThrough_22 rfl (lv_at hl 2 rfl) ?_
  refine lv_iconst (v := zI 0) hx hb dX5_goThrough_23 rfl ?_
  refine r_put F hK hP hD hS 0 1 rfl rfl in_X5 tyX5 tyX5_ok nmX5 (by decide) k_428 rfl rfl rfl (Nat.le_of_ble_eq_true rfl) dX5_goThrough_24 (w1 := [(b, .inr (5, [.int (zI (i 0)), .int (zI 0), .ref (q 0), .ref (q 1)])), ((q 0), .inl (cI, 180, .inl (fun k => zI ((g 0) k)))), ((q 1), .inl (cI, 20, .inl (fun k => zI (g1 k)))), (o, .inr (2, [.int (zI no), .ref (qo 0), .ref (qo 1), .ref (qo 2), .ref (qo 3), .ref (qo 4), .ref (qo 5), .ref (qo 6), .ref (qo 7)])), ((qo 0), .inl (cI, 10, .inl (fun k => zI ((go 0) k)))), ((qo 1), .inl (cI, 10, .inl (fun k => zI ((go 1) k)))), ((qo 2), .inl (cI, 10, .inl (fun k => zI ((go 2) k)))), ((qo 3), .inl (cI, 40, .inl (fun k => zI ((go 3) k)))), ((qo 4), .inl (cI, 40, .inl (fun k => zI ((go 4) k)))), ((qo 5), .inl (cI, 40, .inl (fun k => zI ((go 5) k)))), ((qo 6), .inl (cI, 20, .inl (fun k => zI ((go 6) k)))), ((qo 7), .inl (cI, 20, .inl (fun k => zI ((go 7) k))))]) rfl (fun H locs hP hD hS => ?_)
  refine lv_iconst (v := zI 0) hx hb dX5_goThrough_27 rfl ?_
  refine lv_istore (lv' := [(4, .int (zI 0)), (3, .int (zI 0)), (2, .int (zI z5)), (0, .ref b), (1, .ref o)]) hx hb dX5_goThrough_28 hl (by decide) rfl (fun ls hl => ?_)
  obtain ⟨i6, e_i6⟩ : ∃ i6 : Nat → Int, i6 = fun k => [(i 0), 0].getD k 0 := ⟨_, rfl⟩
  have e_i6_0 : i6 0 = (i 0) := congrFun e_i6 0
  have e_i6_1 : i6 1 = 0 := congrFun e_i6 1
  obtain ⟨gg7, e_gg7⟩ : ∃ gg7 : Nat → Nat → Int, gg7 = fun k => [(g 0), g1].getD k (fun _ => 0) := ⟨_, rfl⟩
  have hO8 : TrailOk i6 := ⟨by omega, by omega⟩
  have hf9 := hO8
  have hP : va_P G vwCl [(b, .inr (5, [.int (zI (i6 0)), .int (zI (i6 1)), .ref (q 0), .ref (q 1)])), ((q 0), .inl (cI, 180, .inl (fun k => zI ((gg7 0) k)))), ((q 1), .inl (cI, 20, .inl (fun k => zI ((gg7 1) k)))), (o, .inr (2, [.int (zI no), .ref (qo 0), .ref (qo 1), .ref (qo 2), .ref (qo 3), .ref (qo 4), .ref (qo 5), .ref (qo 6), .ref (qo 7)])), ((qo 0), .inl (cI, 10, .inl (fun k => zI ((go 0) k)))), ((qo 1), .inl (cI, 10, .inl (fun k => zI ((go 1) k)))), ((qo 2), .inl (cI, 10, .inl (fun k => zI ((go 2) k)))), ((qo 3), .inl (cI, 40, .inl (fun k => zI ((go 3) k)))), ((qo 4), .inl (cI, 40, .inl (fun k => zI ((go 4) k)))), ((qo 5), .inl (cI, 40, .inl (fun k => zI ((go 5) k)))), ((qo 6), .inl (cI, 20, .inl (fun k => zI ((go 6) k)))), ((qo 7), .inl (cI, 20, .inl (fun k => zI ((go 7) k))))] H := by subst e_i6 e_gg7; exact hP
  have hD : va_D A [(b, .inr (5, [.int (zI (i6 0)), .int (zI (i6 1)), .ref (q 0), .ref (q 1)])), ((q 0), .inl (cI, 180, .inl (fun k => zI ((gg7 0) k)))), ((q 1), .inl (cI, 20, .inl (fun k => zI ((gg7 1) k)))), (o, .inr (2, [.int (zI no), .ref (qo 0), .ref (qo 1), .ref (qo 2), .ref (qo 3), .ref (qo 4), .ref (qo 5), .ref (qo 6), .ref (qo 7)])), ((qo 0), .inl (cI, 10, .inl (fun k => zI ((go 0) k)))), ((qo 1), .inl (cI, 10, .inl (fun k => zI ((go 1) k)))), ((qo 2), .inl (cI, 10, .inl (fun k => zI ((go 2) k)))), ((qo 3), .inl (cI, 40, .inl (fun k => zI ((go 3) k)))), ((qo 4), .inl (cI, 40, .inl (fun k => zI ((go 4) k)))), ((qo 5), .inl (cI, 40, .inl (fun k => zI ((go 5) k)))), ((qo 6), .inl (cI, 20, .inl (fun k => zI ((go 6) k)))), ((qo 7), .inl (cI, 20, .inl (fun k => zI ((go 7) k))))] := by subst e_i6 e_gg7; exact hD
  refine W.widen (k := 0) (n := 0) (Nat.le_of_ble_eq_true rfl) (Nat.le_of_ble_eq_true rfl) ?_
  refine (?_ : ∀ (n9_1 : Nat) (v3 : Int) (v4 : Int) (ii : Nat → Int) (gg : Nat → Nat → Int) (H : Heap) (locs : List Loc), (0 ≤ v4 ∧ v4 ≤ 180 ∧ 0 ≤ v3 ∧ v3 ≤ 9 ∧ ii 0 = i 0 ∧ ii 1 = v4 ∧ (v3 < no ∨ v3 = 0)) → (180 - v4 : Int).toNat < n9_1 → (TrailOk ii) → (TrI pR no.toNat (gg 1) (gg 0) v3 v4) → (sumN (gg 1) 20 = sumN (go 7) 20 - v4) → va_P G vwCl [(b, .inr (5, [.int (zI (ii 0)), .int (zI (ii 1)), .ref (q 0), .ref (q 1)])), ((q 0), .inl (cI, 180, .inl (fun k => zI ((gg 0) k)))), ((q 1), .inl (cI, 20, .inl (fun k => zI ((gg 1) k)))), (o, .inr (2, [.int (zI no), .ref (qo 0), .ref (qo 1), .ref (qo 2), .ref (qo 3), .ref (qo 4), .ref (qo 5), .ref (qo 6), .ref (qo 7)])), ((qo 0), .inl (cI, 10, .inl (fun k => zI ((go 0) k)))), ((qo 1), .inl (cI, 10, .inl (fun k => zI ((go 1) k)))), ((qo 2), .inl (cI, 10, .inl (fun k => zI ((go 2) k)))), ((qo 3), .inl (cI, 40, .inl (fun k => zI ((go 3) k)))), ((qo 4), .inl (cI, 40, .inl (fun k => zI ((go 4) k)))), ((qo 5), .inl (cI, 40, .inl (fun k => zI ((go 5) k)))), ((qo 6), .inl (cI, 20, .inl (fun k => zI ((go 6) k)))), ((qo 7), .inl (cI, 20, .inl (fun k => zI ((go 7) k))))] H → va_D A [(b, .inr (5, [.int (zI (ii 0)), .int (zI (ii 1)), .ref (q 0), .ref (q 1)])), ((q 0), .inl (cI, 180, .inl (fun k => zI ((gg 0) k)))), ((q 1), .inl (cI, 20, .inl (fun k => zI ((gg 1) k)))), (o, .inr (2, [.int (zI no), .ref (qo 0), .ref (qo 1), .ref (qo 2), .ref (qo 3), .ref (qo 4), .ref (qo 5), .ref (qo 6), .ref (qo 7)])), ((qo 0), .inl (cI, 10, .inl (fun k => zI ((go 0) k)))), ((qo 1), .inl (cI, 10, .inl (fun k => zI ((go 1) k)))), ((qo 2), .inl (cI, 10, .inl (fun k => zI ((go 2) k)))), ((qo 3), .inl (cI, 40, .inl (fun k => zI ((go 3) k)))), ((qo 4), .inl (cI, 40, .inl (fun k => zI ((go 4) k)))), ((qo 5), .inl (cI, 40, .inl (fun k => zI ((go 5) k)))), ((qo 6), .inl (cI, 20, .inl (fun k => zI ((go 6) k)))), ((qo 7), .inl (cI, 20, .inl (fun k => zI ((go 7) k))))] → va_S A s.heap H locs → ∀ ls : Array Slot, lv_has ls 6 [(4, .int (zI v4)), (3, .int (zI v3)), (2, .int (zI z5)), (0, .ref b), (1, .ref o)] → W p l e rm_X5z_goThrough s m ([.ref b, .ref o] : List Value).toArray below meth c H locs 0 0 Q (F0 m 30 ls [])) ((180 - 0 : Int).toNat + 1) 0 0 i6 gg7 _ _ (by omega) (by omega) hO8 (TrI.init hPr (fun w hw => by rw [e_gg7]; exact (hcp w hw).trans (hW7 w hw)) hEv0) (by rw [e_gg7]; exact (sumN_congr 20 hcp).trans (Int.sub_zero _).symm) hP hD hS ls hl
  clear hP hD hS hl ls
  intro n9_1
  induction n9_1 with
  | zero =>
    intro v3 v4 ii gg H locs hI hM
    exact absurd hM (by omega)
  | succ n9_1 ih1 =>
    intro v3 v4 ii gg H locs hI1 hM1 hG htr hsm hP hD hS ls hl
    have hf10 := hG
    refine lv_iload hx hb dX5_goThrough_30 (lv_at hl 0 rfl) ?_
    refine lv_iload_n hx hb dX5_goThrough_32 rfl (lv_at hl 2 rfl) ?_
    refine rz_icmp_ge (tgt := 106) F (by omega) (by omega) dX5_goThrough_33 (by decide) (fun h33_10 => ?_) (fun h33_10 => ?_)
    · exact ret (ii, gg) _ _ _ _ _ _ ⟨hG, ⟨(show ii 0 = i 0 from by omega), (show TrF pR no.toNat (ii 1) (gg 0) from by rw [show ii 1 = v4 by omega]; exact htr.fin (nxW_none (by have q9 := htr.1; omega) ((EL_sum (fun w hw => (htr.2.2.2.2.2 w hw).1)).1 (by have q8 := (sumN_ge0 20 (fun w hw => (htr.2.2.2.2.2 w hw).1)).1; omega))))⟩⟩ (bw_subP (isC := [0, 1, 2, 3, 4, 5, 6, 7, 8, 9, 10, 11]) hP rfl) (hD.sub [0, 1, 2, 3, 4, 5, 6, 7, 8, 9, 10, 11] (by decide) rfl) hS (Nat.le_of_ble_eq_true rfl) (Nat.le_of_ble_eq_true rfl) dX5_goThrough_106
    · refine lv_iload hx hb dX5_goThrough_36 (lv_at hl 0 rfl) ?_
      have hps := EL_sum (r := gg 1) (fun w hw => (htr.2.2.2.2.2 w hw).1)
      refine lv_sipush (v := zI 180) hx hb dX5_goThrough_38 (by decide) ?_
      refine rz_icmp_ge (tgt := 106) F (by omega) (by omega) dX5_goThrough_41 (by decide) (fun h41_11 => ?_) (fun h41_11 => ?_)
      · exact ret (ii, gg) _ _ _ _ _ _ ⟨hG, ⟨(show ii 0 = i 0 from by omega), (show TrF pR no.toNat (ii 1) (gg 0) from by rw [show ii 1 = v4 by omega]; exact htr.fin (nxW_none (by have q9 := htr.1; omega) ((EL_sum (fun w hw => (htr.2.2.2.2.2 w hw).1)).1 (by have q8 := (sumN_ge0 20 (fun w hw => (htr.2.2.2.2.2 w hw).1)).1; omega))))⟩⟩ (bw_subP (isC := [0, 1, 2, 3, 4, 5, 6, 7, 8, 9, 10, 11]) hP rfl) (hD.sub [0, 1, 2, 3, 4, 5, 6, 7, 8, 9, 10, 11] (by decide) rfl) hS (Nat.le_of_ble_eq_true rfl) (Nat.le_of_ble_eq_true rfl) dX5_goThrough_106
      · refine lv_aload_n hx hb dX5_goThrough_44 rfl (lv_at hl 3 rfl) ?_
        refine lv_aload_n hx hb dX5_goThrough_45 rfl (lv_at hl 4 rfl) ?_
        refine lv_iload_n hx hb dX5_goThrough_46 rfl (lv_at hl 1 rfl) ?_
        refine r_callVi (As := [.ref o, .int (zI v3)]) (rest := []) (wr := []) F hK hP hD hS hA hO hE (c_X5z_nextWay hO b q ii gg hG o qo no go hM v3 (by omega) pR hPr hNR hLN hDN htr.2.2.2.2.2 htr.2.2.2.2.1 (by omega) (hps.2 (by omega))) k_906 kv_X5_nextWay 2 rfl (by decide +kernel) ⟨Nat.le_of_ble_eq_true rfl, Nat.le_of_ble_eq_true rfl⟩ [0, 1, 2, 3, 4, 5, 6, 7, 8, 9, 10, 11] [] rfl rfl (by decide) (by decide) (by decide) 0 5 rfl rfl rfl hl.1 rfl (Nat.le_of_ble_eq_true rfl) dX5_goThrough_47 ⟨Nat.le_of_ble_eq_true rfl, Nat.le_of_ble_eq_true rfl⟩ (w1 := fun u13 => [(b, .inr (5, [.int (zI (u13.1 0)), .int (zI (u13.1 1)), .ref (q 0), .ref (q 1)])), ((q 0), .inl (cI, 180, .inl (fun k => zI ((u13.2 0) k)))), ((q 1), .inl (cI, 20, .inl (fun k => zI ((u13.2 1) k)))), (o, .inr (2, [.int (zI no), .ref (qo 0), .ref (qo 1), .ref (qo 2), .ref (qo 3), .ref (qo 4), .ref (qo 5), .ref (qo 6), .ref (qo 7)])), ((qo 0), .inl (cI, 10, .inl (fun k => zI ((go 0) k)))), ((qo 1), .inl (cI, 10, .inl (fun k => zI ((go 1) k)))), ((qo 2), .inl (cI, 10, .inl (fun k => zI ((go 2) k)))), ((qo 3), .inl (cI, 40, .inl (fun k => zI ((go 3) k)))), ((qo 4), .inl (cI, 40, .inl (fun k => zI ((go 4) k)))), ((qo 5), .inl (cI, 40, .inl (fun k => zI ((go 5) k)))), ((qo 6), .inl (cI, 20, .inl (fun k => zI ((go 6) k)))), ((qo 7), .inl (cI, 20, .inl (fun k => zI ((go 7) k))))]) (fun _ => rfl) (fun r14 u13 H locs hp15 hP hD hS => ?_)
        obtain ⟨z16, rfl, h_z16⟩ := hp15
        have hf17 := h_z16.1
        have hnz := h_z16.2.1
        have hn0 := h_z16.2.2.1
        have hc18 := h_z16.2.2.2.1
        have hc19 := h_z16.2.2.2.2.1
        have hu0 := h_z16.2.2.2.2.2.1
        have hu1 := h_z16.2.2.2.2.2.2
        obtain ⟨w9, hw91, hw92, hw93, -⟩ := nxW_of (p := pR) (n := no.toNat) (r := gg 1) (i := (v3).toNat) (by omega)
        have hzw : (z16).toNat = w9 := by omega
        have hrs := htr.2.2.2.2.2 w9 (by omega)
        rw [show ((w9 : Nat) : Int) = z16 by omega] at hrs
        have hl9 : 0 < laidF pR z16 := by omega
        have hg7 := hNR.laid (x := z16) (by omega)
        have hgt := hNR.gt (x := z16) (by omega) hl9
        have hgn := hDN.gt (x := z16) (by omega) hl9
        have hc20 := gtF_rg hPr (x := z16) (by omega)
        refine lv_istore (lv' := [(5, .int (zI z16)), (4, .int (zI v4)), (3, .int (zI v3)), (2, .int (zI z5)), (0, .ref b), (1, .ref o)]) hx hb dX5_goThrough_50 hl (by decide) rfl (fun ls hl => ?_)
        refine lv_aload_n hx hb dX5_goThrough_52 rfl (lv_at hl 5 rfl) ?_
        refine lv_iload hx hb dX5_goThrough_53 (lv_at hl 0 rfl) ?_
        refine r_callVi (As := [.int (zI z16)]) (rest := []) (wr := [(b, .inr (5, [.int (zI (u13.1 0)), .int (zI (u13.1 1)), .ref (q 0), .ref (q 1)])), ((q 0), .inl (cI, 180, .inl (fun k => zI ((u13.2 0) k)))), ((q 1), .inl (cI, 20, .inl (fun k => zI ((u13.2 1) k))))]) F hK hP hD hS hA hO hE (c_X2z_hasWay hO o qo no go hM z16 (by omega)) k_911 kv_X2_hasWay 1 rfl (by decide +kernel) ⟨Nat.le_of_ble_eq_true rfl, Nat.le_of_ble_eq_true rfl⟩ [3, 4, 5, 6, 7, 8, 9, 10, 11] [0, 1, 2] rfl rfl (by decide) (by decide) (by decide) 0 2 rfl rfl rfl hl.1 rfl (Nat.le_of_ble_eq_true rfl) dX5_goThrough_55 ⟨Nat.le_of_ble_eq_true rfl, Nat.le_of_ble_eq_true rfl⟩ (w1 := fun u21 => [(b, .inr (5, [.int (zI (u13.1 0)), .int (zI (u13.1 1)), .ref (q 0), .ref (q 1)])), ((q 0), .inl (cI, 180, .inl (fun k => zI ((u13.2 0) k)))), ((q 1), .inl (cI, 20, .inl (fun k => zI ((u13.2 1) k)))), (o, .inr (2, [.int (zI no), .ref (qo 0), .ref (qo 1), .ref (qo 2), .ref (qo 3), .ref (qo 4), .ref (qo 5), .ref (qo 6), .ref (qo 7)])), ((qo 0), .inl (cI, 10, .inl (fun k => zI ((go 0) k)))), ((qo 1), .inl (cI, 10, .inl (fun k => zI ((go 1) k)))), ((qo 2), .inl (cI, 10, .inl (fun k => zI ((go 2) k)))), ((qo 3), .inl (cI, 40, .inl (fun k => zI ((go 3) k)))), ((qo 4), .inl (cI, 40, .inl (fun k => zI ((go 4) k)))), ((qo 5), .inl (cI, 40, .inl (fun k => zI ((go 5) k)))), ((qo 6), .inl (cI, 20, .inl (fun k => zI ((go 6) k)))), ((qo 7), .inl (cI, 20, .inl (fun k => zI ((go 7) k))))]) (fun _ => rfl) (fun r22 u21 H locs hp23 hP hD hS => ?_)
        obtain ⟨z24, rfl, h_z24⟩ := hp23
        have hhw := h_z24
        refine rz_if_ne (tgt := 62) F (by omega) dX5_goThrough_58 (by decide) (fun h58_24 => ?_) (fun h58_24 => by omega)
        refine lv_aload_n hx hb dX5_goThrough_62 rfl (lv_at hl 4 rfl) ?_
        refine r_get F hK hP 0 2 rfl rfl in_X5 (by decide) k_430 rfl dX5_goThrough_63 ?_
        refine lv_iload hx hb dX5_goThrough_66 (lv_at hl 1 rfl) ?_
        refine lv_iload hx hb dX5_goThrough_68 (lv_at hl 0 rfl) ?_
        refine rz_iastG F hK hP hD hS 1 0 rfl rfl (by omega) (by omega) dX5_goThrough_70 (w1 := fun g26 => [(b, .inr (5, [.int (zI (u13.1 0)), .int (zI (u13.1 1)), .ref (q 0), .ref (q 1)])), ((q 0), .inl (cI, 180, .inl (fun k => zI (g26 k)))), ((q 1), .inl (cI, 20, .inl (fun k => zI ((u13.2 1) k)))), (o, .inr (2, [.int (zI no), .ref (qo 0), .ref (qo 1), .ref (qo 2), .ref (qo 3), .ref (qo 4), .ref (qo 5), .ref (qo 6), .ref (qo 7)])), ((qo 0), .inl (cI, 10, .inl (fun k => zI ((go 0) k)))), ((qo 1), .inl (cI, 10, .inl (fun k => zI ((go 1) k)))), ((qo 2), .inl (cI, 10, .inl (fun k => zI ((go 2) k)))), ((qo 3), .inl (cI, 40, .inl (fun k => zI ((go 3) k)))), ((qo 4), .inl (cI, 40, .inl (fun k => zI ((go 4) k)))), ((qo 5), .inl (cI, 40, .inl (fun k => zI ((go 5) k)))), ((qo 6), .inl (cI, 20, .inl (fun k => zI ((go 6) k)))), ((qo 7), .inl (cI, 20, .inl (fun k => zI ((go 7) k))))]) (fun _ => rfl) (fun g26 e_g26 H locs hP hD hS => ?_)
        refine lv_aload_n hx hb dX5_goThrough_71 rfl (lv_at hl 4 rfl) ?_
        refine r_get F hK hP 0 3 rfl rfl in_X5 (by decide) k_432 rfl dX5_goThrough_72 ?_
        refine lv_iload hx hb dX5_goThrough_75 (lv_at hl 0 rfl) ?_
        refine lv_dup2_11 hx hb dX5_goThrough_77 rfl rfl ?_
        refine rz_iald F hK hP 2 0 rfl rfl (by omega) (by omega) dX5_goThrough_78 ?_
        refine lv_iconst (v := zI 1) hx hb dX5_goThrough_79 rfl ?_
        refine r_isub (v := zI (((u13.2 1) (z16).toNat) - 1)) F dX5_goThrough_80 (zI_sub _ _) ?_
        refine rz_iastG F hK hP hD hS 2 0 rfl rfl (by omega) (by omega) dX5_goThrough_81 (w1 := fun g27 => [(b, .inr (5, [.int (zI (u13.1 0)), .int (zI (u13.1 1)), .ref (q 0), .ref (q 1)])), ((q 0), .inl (cI, 180, .inl (fun k => zI (g26 k)))), ((q 1), .inl (cI, 20, .inl (fun k => zI (g27 k)))), (o, .inr (2, [.int (zI no), .ref (qo 0), .ref (qo 1), .ref (qo 2), .ref (qo 3), .ref (qo 4), .ref (qo 5), .ref (qo 6), .ref (qo 7)])), ((qo 0), .inl (cI, 10, .inl (fun k => zI ((go 0) k)))), ((qo 1), .inl (cI, 10, .inl (fun k => zI ((go 1) k)))), ((qo 2), .inl (cI, 10, .inl (fun k => zI ((go 2) k)))), ((qo 3), .inl (cI, 40, .inl (fun k => zI ((go 3) k)))), ((qo 4), .inl (cI, 40, .inl (fun k => zI ((go 4) k)))), ((qo 5), .inl (cI, 40, .inl (fun k => zI ((go 5) k)))), ((qo 6), .inl (cI, 20, .inl (fun k => zI ((go 6) k)))), ((qo 7), .inl (cI, 20, .inl (fun k => zI ((go 7) k))))]) (fun _ => rfl) (fun g27 e_g27 H locs hP hD hS => ?_)
        refine lv_aload_n hx hb dX5_goThrough_82 rfl (lv_at hl 5 rfl) ?_
        refine r_get F hK hP 3 7 rfl rfl in_X2 (by decide) k_166 rfl dX5_goThrough_83 ?_
        refine lv_iload hx hb dX5_goThrough_86 (lv_at hl 0 rfl) ?_
        refine rz_iald F hK hP 10 0 rfl rfl (by omega) (by omega) dX5_goThrough_88 ?_
        refine lv_istore_n (lv' := [(3, .int (zI ((go 6) (z16).toNat))), (5, .int (zI z16)), (4, .int (zI v4)), (2, .int (zI z5)), (0, .ref b), (1, .ref o)]) hx hb dX5_goThrough_89 rfl hl (by decide) rfl (fun ls hl => ?_)
        refine lv_aload_n hx hb dX5_goThrough_90 rfl (lv_at hl 4 rfl) ?_
        refine lv_dup hx hb dX5_goThrough_91 rfl ?_
        refine r_get F hK hP 0 1 rfl rfl in_X5 (by decide) k_428 rfl dX5_goThrough_92 ?_
        refine lv_iconst (v := zI 1) hx hb dX5_goThrough_95 rfl ?_
        refine r_iadd (v := zI ((u13.1 1) + 1)) F dX5_goThrough_96 (zI_add _ _) ?_
        refine r_put F hK hP hD hS 0 1 rfl rfl in_X5 tyX5 tyX5_ok nmX5 (by decide) k_428 rfl rfl rfl (Nat.le_of_ble_eq_true rfl) dX5_goThrough_97 (w1 := [(b, .inr (5, [.int (zI (u13.1 0)), .int (zI ((u13.1 1) + 1)), .ref (q 0), .ref (q 1)])), ((q 0), .inl (cI, 180, .inl (fun k => zI (g26 k)))), ((q 1), .inl (cI, 20, .inl (fun k => zI (g27 k)))), (o, .inr (2, [.int (zI no), .ref (qo 0), .ref (qo 1), .ref (qo 2), .ref (qo 3), .ref (qo 4), .ref (qo 5), .ref (qo 6), .ref (qo 7)])), ((qo 0), .inl (cI, 10, .inl (fun k => zI ((go 0) k)))), ((qo 1), .inl (cI, 10, .inl (fun k => zI ((go 1) k)))), ((qo 2), .inl (cI, 10, .inl (fun k => zI ((go 2) k)))), ((qo 3), .inl (cI, 40, .inl (fun k => zI ((go 3) k)))), ((qo 4), .inl (cI, 40, .inl (fun k => zI ((go 4) k)))), ((qo 5), .inl (cI, 40, .inl (fun k => zI ((go 5) k)))), ((qo 6), .inl (cI, 20, .inl (fun k => zI ((go 6) k)))), ((qo 7), .inl (cI, 20, .inl (fun k => zI ((go 7) k))))]) rfl (fun H locs hP hD hS => ?_)
        obtain ⟨i28, e_i28⟩ : ∃ i28 : Nat → Int, i28 = fun k => [(u13.1 0), ((u13.1 1) + 1)].getD k 0 := ⟨_, rfl⟩
        have e_i28_0 : i28 0 = (u13.1 0) := congrFun e_i28 0
        have e_i28_1 : i28 1 = ((u13.1 1) + 1) := congrFun e_i28 1
        obtain ⟨gg29, e_gg29⟩ : ∃ gg29 : Nat → Nat → Int, gg29 = fun k => [g26, g27].getD k (fun _ => 0) := ⟨_, rfl⟩
        have hO30 : TrailOk i28 := ⟨by omega, by omega⟩
        have hf31 := hO30
        have hP : va_P G vwCl [(b, .inr (5, [.int (zI (i28 0)), .int (zI (i28 1)), .ref (q 0), .ref (q 1)])), ((q 0), .inl (cI, 180, .inl (fun k => zI ((gg29 0) k)))), ((q 1), .inl (cI, 20, .inl (fun k => zI ((gg29 1) k)))), (o, .inr (2, [.int (zI no), .ref (qo 0), .ref (qo 1), .ref (qo 2), .ref (qo 3), .ref (qo 4), .ref (qo 5), .ref (qo 6), .ref (qo 7)])), ((qo 0), .inl (cI, 10, .inl (fun k => zI ((go 0) k)))), ((qo 1), .inl (cI, 10, .inl (fun k => zI ((go 1) k)))), ((qo 2), .inl (cI, 10, .inl (fun k => zI ((go 2) k)))), ((qo 3), .inl (cI, 40, .inl (fun k => zI ((go 3) k)))), ((qo 4), .inl (cI, 40, .inl (fun k => zI ((go 4) k)))), ((qo 5), .inl (cI, 40, .inl (fun k => zI ((go 5) k)))), ((qo 6), .inl (cI, 20, .inl (fun k => zI ((go 6) k)))), ((qo 7), .inl (cI, 20, .inl (fun k => zI ((go 7) k))))] H := by subst e_i28 e_gg29; exact hP
        have hD : va_D A [(b, .inr (5, [.int (zI (i28 0)), .int (zI (i28 1)), .ref (q 0), .ref (q 1)])), ((q 0), .inl (cI, 180, .inl (fun k => zI ((gg29 0) k)))), ((q 1), .inl (cI, 20, .inl (fun k => zI ((gg29 1) k)))), (o, .inr (2, [.int (zI no), .ref (qo 0), .ref (qo 1), .ref (qo 2), .ref (qo 3), .ref (qo 4), .ref (qo 5), .ref (qo 6), .ref (qo 7)])), ((qo 0), .inl (cI, 10, .inl (fun k => zI ((go 0) k)))), ((qo 1), .inl (cI, 10, .inl (fun k => zI ((go 1) k)))), ((qo 2), .inl (cI, 10, .inl (fun k => zI ((go 2) k)))), ((qo 3), .inl (cI, 40, .inl (fun k => zI ((go 3) k)))), ((qo 4), .inl (cI, 40, .inl (fun k => zI ((go 4) k)))), ((qo 5), .inl (cI, 40, .inl (fun k => zI ((go 5) k)))), ((qo 6), .inl (cI, 20, .inl (fun k => zI ((go 6) k)))), ((qo 7), .inl (cI, 20, .inl (fun k => zI ((go 7) k))))] := by subst e_i28 e_gg29; exact hD
        have hr9 : gg29 1 = uZ (gg 1) (z16).toNat (gg 1 (z16).toNat - 1) := by rw [e_gg29]; exact (show g27 = _ from by rw [e_g27, hu1])
        have ht9 : gg29 0 = uZ (gg 0) (v4).toNat z16 := by rw [e_gg29]; exact (show g26 = _ from by rw [e_g26, hu0])
        have hsd : sumN (gg29 1) 20 = sumN (gg 1) 20 - 1 := by rw [hr9]; exact sumN_dn (r := gg 1) (by omega)
        refine lv_iinc (v := zI (v4 + 1)) (lv' := [(4, .int (zI (v4 + 1))), (3, .int (zI ((go 6) (z16).toNat))), (5, .int (zI z16)), (2, .int (zI z5)), (0, .ref b), (1, .ref o)]) hx hb dX5_goThrough_100 hl (k := 2) rfl (zI_add _ _) (by decide) rfl (fun ls hl => ?_)
        refine lv_goto (tgt := 30) hx hb dX5_goThrough_103 (by decide) ?_
        exact ih1 ((go 6) (z16).toNat) (v4 + 1) i28 gg29 _ _ (by omega) (by omega) hO30 (TrI.step htr hnz hn0 hr9 ht9 hgt (by omega)) (by omega) hP hD hS ls (lv_sub hl [0, 1, 3, 4, 5] rfl)
abbrev rm_X5z_find : Room := { frames := 3, cells := 0, slots := 0, locals := 75 }
set_option maxRecDepth 100000 in
set_option maxHeartbeats 8000000 in
theorem c_X5z_find {l : Launch} {E : (Nat → Prop) → State → Prop} (hO : bw_Ok E) {G : va_G} {cI cB cJ cN cW : ClassId} (b : Nat) (q : Nat → Nat) (i : Nat → Int) (g : Nat → Nat → Int) (hY : TrailOk i) (o : Nat) (qo : Nat → Nat) (no : Int) (go : Nat → Nat → Int) (hM : NetOk no go) (pR : Nat → Int) (hPr : ProgOk pR) (hNR : NRel go pR) (hLN : LN pR no) (hDN : DN pR no) (hTC : TrC pR no.toNat i g) : bw_Cv (S := zU) l yX5_find (bw_ws (Cond.code yX5_find cX5_find 2 none)) rm_X5z_find E G (bw_kt cI cB cJ cN cW) [.ref b, .ref o] [(b, .inr (5, [.int (zI (i 0)), .int (zI (i 1)), .ref (q 0), .ref (q 1)])), ((q 0), .inl (cI, 180, .inl (fun k => zI ((g 0) k)))), ((q 1), .inl (cI, 20, .inl (fun k => zI ((g 1) k)))), (o, .inr (2, [.int (zI no), .ref (qo 0), .ref (qo 1), .ref (qo 2), .ref (qo 3), .ref (qo 4), .ref (qo 5), .ref (qo 6), .ref (qo 7)])), ((qo 0), .inl (cI, 10, .inl (fun k => zI ((go 0) k)))), ((qo 1), .inl (cI, 10, .inl (fun k => zI ((go 1) k)))), ((qo 2), .inl (cI, 10, .inl (fun k => zI ((go 2) k)))), ((qo 3), .inl (cI, 40, .inl (fun k => zI ((go 3) k)))), ((qo 4), .inl (cI, 40, .inl (fun k => zI ((go 4) k)))), ((qo 5), .inl (cI, 40, .inl (fun k => zI ((go 5) k)))), ((qo 6), .inl (cI, 20, .inl (fun k => zI ((go 6) k)))), ((qo 7), .inl (cI, 20, .inl (fun k => zI ((go 7) k))))] (fun u => TrailOk u.1 ∧ (u.1 0 = 1 ∧ TrA pR no.toNat (u.1 1) (u.2 0))) (fun u => [(b, .inr (5, [.int (zI (u.1 0)), .int (zI (u.1 1)), .ref (q 0), .ref (q 1)])), ((q 0), .inl (cI, 180, .inl (fun k => zI ((u.2 0) k)))), ((q 1), .inl (cI, 20, .inl (fun k => zI ((u.2 1) k)))), (o, .inr (2, [.int (zI no), .ref (qo 0), .ref (qo 1), .ref (qo 2), .ref (qo 3), .ref (qo 4), .ref (qo 5), .ref (qo 6), .ref (qo 7)])), ((qo 0), .inl (cI, 10, .inl (fun k => zI ((go 0) k)))), ((qo 1), .inl (cI, 10, .inl (fun k => zI ((go 1) k)))), ((qo 2), .inl (cI, 10, .inl (fun k => zI ((go 2) k)))), ((qo 3), .inl (cI, 40, .inl (fun k => zI ((go 3) k)))), ((qo 4), .inl (cI, 40, .inl (fun k => zI ((go 4) k)))), ((qo 5), .inl (cI, 40, .inl (fun k => zI ((go 5) k)))), ((qo 6), .inl (cI, 20, .inl (fun k => zI ((go 6) k)))), ((qo 7), .inl (cI, 20, .inl (fun k => zI ((go 7) k))))]) := by
  refine bw_Cv.of (cc := cX5_find) (maxL := 2) (by decide) rfl (Nat.le_of_ble_eq_true rfl) ?_
  intro p e s m below meth c A Q hx hb hml hts hown hin hK hA hS hP hD hE ret ls hl
  have F : CallFix p m c cX5_find 2 s ([.ref b, .ref o] : List Value).toArray bw_T RX5 := ⟨hx, hb, hml, hown, fun w h => hts w (List.mem_cons_of_mem _ h)⟩
  replace hl : lv_has ls 2 [(0, .ref b), (1, .ref o)] := hl
  have hM0 := hM.1
  refine lv_aload_n hx hb dX5_find_0 rfl (lv_at hl 0 rfl) ?_
  refine r_get F hK hP 0 0 rfl rfl in_X5 (by decide) k_426 rfl dX5_find_1 ?_
  refine rz_if_eq (tgt := 8) F (by omega) dX5_find_4 (by decide) (fun h4_0 => ?_) (fun h4_0 => ?_)
  · refine lv_aload_n hx hb dX5_find_8 rfl (lv_at hl 0 rfl) ?_
    refine lv_iconst (v := zI 1) hx hb dX5_find_9 rfl ?_
    refine r_put F hK hP hD hS 0 0 rfl rfl in_X5 tyX5 tyX5_ok nmX5 (by decide) k_426 rfl (zI_nz (by omega)) (zI_fz (by omega)) (Nat.le_of_ble_eq_true rfl) dX5_find_10 (w1 := [(b, .inr (5, [.int (zI 1), .int (zI (i 1)), .ref (q 0), .ref (q 1)])), ((q 0), .inl (cI, 180, .inl (fun k => zI ((g 0) k)))), ((q 1), .inl (cI, 20, .inl (fun k => zI ((g 1) k)))), (o, .inr (2, [.int (zI no), .ref (qo 0), .ref (qo 1), .ref (qo 2), .ref (qo 3), .ref (qo 4), .ref (qo 5), .ref (qo 6), .ref (qo 7)])), ((qo 0), .inl (cI, 10, .inl (fun k => zI ((go 0) k)))), ((qo 1), .inl (cI, 10, .inl (fun k => zI ((go 1) k)))), ((qo 2), .inl (cI, 10, .inl (fun k => zI ((go 2) k)))), ((qo 3), .inl (cI, 40, .inl (fun k => zI ((go 3) k)))), ((qo 4), .inl (cI, 40, .inl (fun k => zI ((go 4) k)))), ((qo 5), .inl (cI, 40, .inl (fun k => zI ((go 5) k)))), ((qo 6), .inl (cI, 20, .inl (fun k => zI ((go 6) k)))), ((qo 7), .inl (cI, 20, .inl (fun k => zI ((go 7) k))))]) rfl (fun H locs hP hD hS => ?_)
    refine lv_aload_n hx hb dX5_find_13 rfl (lv_at hl 0 rfl) ?_
    refine lv_bipush (v := zI (-2)) hx hb dX5_find_14 (by decide) ?_
    refine r_put F hK hP hD hS 0 1 rfl rfl in_X5 tyX5 tyX5_ok nmX5 (by decide) k_428 rfl rfl rfl (Nat.le_of_ble_eq_true rfl) dX5_find_16 (w1 := [(b, .inr (5, [.int (zI 1), .int (zI (-2)), .ref (q 0), .ref (q 1)])), ((q 0), .inl (cI, 180, .inl (fun k => zI ((g 0) k)))), ((q 1), .inl (cI, 20, .inl (fun k => zI ((g 1) k)))), (o, .inr (2, [.int (zI no), .ref (qo 0), .ref (qo 1), .ref (qo 2), .ref (qo 3), .ref (qo 4), .ref (qo 5), .ref (qo 6), .ref (qo 7)])), ((qo 0), .inl (cI, 10, .inl (fun k => zI ((go 0) k)))), ((qo 1), .inl (cI, 10, .inl (fun k => zI ((go 1) k)))), ((qo 2), .inl (cI, 10, .inl (fun k => zI ((go 2) k)))), ((qo 3), .inl (cI, 40, .inl (fun k => zI ((go 3) k)))), ((qo 4), .inl (cI, 40, .inl (fun k => zI ((go 4) k)))), ((qo 5), .inl (cI, 40, .inl (fun k => zI ((go 5) k)))), ((qo 6), .inl (cI, 20, .inl (fun k => zI ((go 6) k)))), ((qo 7), .inl (cI, 20, .inl (fun k => zI ((go 7) k))))]) rfl (fun H locs hP hD hS => ?_)
    refine lv_aload_n hx hb dX5_find_19 rfl (lv_at hl 1 rfl) ?_
    refine r_callVi (As := []) (rest := []) (wr := [(b, .inr (5, [.int (zI 1), .int (zI (-2)), .ref (q 0), .ref (q 1)])), ((q 0), .inl (cI, 180, .inl (fun k => zI ((g 0) k)))), ((q 1), .inl (cI, 20, .inl (fun k => zI ((g 1) k))))]) F hK hP hD hS hA hO hE (c_X2z_isEven hO o qo no go hM pR hPr hNR hLN hDN) k_896 kv_X2_isEven 0 rfl (by decide +kernel) ⟨Nat.le_of_ble_eq_true rfl, Nat.le_of_ble_eq_true rfl⟩ [3, 4, 5, 6, 7, 8, 9, 10, 11] [0, 1, 2] rfl rfl (by decide) (by decide) (by decide) 0 2 rfl rfl rfl hl.1 rfl (Nat.le_of_ble_eq_true rfl) dX5_find_20 ⟨Nat.le_of_ble_eq_true rfl, Nat.le_of_ble_eq_true rfl⟩ (w1 := fun u2 => [(b, .inr (5, [.int (zI 1), .int (zI (-2)), .ref (q 0), .ref (q 1)])), ((q 0), .inl (cI, 180, .inl (fun k => zI ((g 0) k)))), ((q 1), .inl (cI, 20, .inl (fun k => zI ((g 1) k)))), (o, .inr (2, [.int (zI no), .ref (qo 0), .ref (qo 1), .ref (qo 2), .ref (qo 3), .ref (qo 4), .ref (qo 5), .ref (qo 6), .ref (qo 7)])), ((qo 0), .inl (cI, 10, .inl (fun k => zI ((go 0) k)))), ((qo 1), .inl (cI, 10, .inl (fun k => zI ((go 1) k)))), ((qo 2), .inl (cI, 10, .inl (fun k => zI ((go 2) k)))), ((qo 3), .inl (cI, 40, .inl (fun k => zI ((go 3) k)))), ((qo 4), .inl (cI, 40, .inl (fun k => zI ((go 4) k)))), ((qo 5), .inl (cI, 40, .inl (fun k => zI ((go 5) k)))), ((qo 6), .inl (cI, 20, .inl (fun k => zI ((go 6) k)))), ((qo 7), .inl (cI, 20, .inl (fun k => zI ((go 7) k))))]) (fun _ => rfl) (fun r3 u2 H locs hp4 hP hD hS => ?_)
    obtain ⟨z5, rfl, h_z5⟩ := hp4
    have hie := h_z5
    have hc6 := hie.1
    refine rz_if_eq (tgt := 31) F (by omega) dX5_find_23 (by decide) (fun h23_6 => ?_) (fun h23_6 => ?_)
    · obtain ⟨i8, e_i8⟩ : ∃ i8 : Nat → Int, i8 = fun k => [1, (-2)].getD k 0 := ⟨_, rfl⟩
      have e_i8_0 : i8 0 = 1 := congrFun e_i8 0
      have e_i8_1 : i8 1 = (-2) := congrFun e_i8 1
      obtain ⟨gg9, e_gg9⟩ : ∃ gg9 : Nat → Nat → Int, gg9 = fun k => [(g 0), (g 1)].getD k (fun _ => 0) := ⟨_, rfl⟩
      have hO10 : TrailOk i8 := ⟨by omega, by omega⟩
      have hf11 := hO10
      have hP : va_P G vwCl [(b, .inr (5, [.int (zI (i8 0)), .int (zI (i8 1)), .ref (q 0), .ref (q 1)])), ((q 0), .inl (cI, 180, .inl (fun k => zI ((gg9 0) k)))), ((q 1), .inl (cI, 20, .inl (fun k => zI ((gg9 1) k)))), (o, .inr (2, [.int (zI no), .ref (qo 0), .ref (qo 1), .ref (qo 2), .ref (qo 3), .ref (qo 4), .ref (qo 5), .ref (qo 6), .ref (qo 7)])), ((qo 0), .inl (cI, 10, .inl (fun k => zI ((go 0) k)))), ((qo 1), .inl (cI, 10, .inl (fun k => zI ((go 1) k)))), ((qo 2), .inl (cI, 10, .inl (fun k => zI ((go 2) k)))), ((qo 3), .inl (cI, 40, .inl (fun k => zI ((go 3) k)))), ((qo 4), .inl (cI, 40, .inl (fun k => zI ((go 4) k)))), ((qo 5), .inl (cI, 40, .inl (fun k => zI ((go 5) k)))), ((qo 6), .inl (cI, 20, .inl (fun k => zI ((go 6) k)))), ((qo 7), .inl (cI, 20, .inl (fun k => zI ((go 7) k))))] H := by subst e_i8 e_gg9; exact hP
      have hD : va_D A [(b, .inr (5, [.int (zI (i8 0)), .int (zI (i8 1)), .ref (q 0), .ref (q 1)])), ((q 0), .inl (cI, 180, .inl (fun k => zI ((gg9 0) k)))), ((q 1), .inl (cI, 20, .inl (fun k => zI ((gg9 1) k)))), (o, .inr (2, [.int (zI no), .ref (qo 0), .ref (qo 1), .ref (qo 2), .ref (qo 3), .ref (qo 4), .ref (qo 5), .ref (qo 6), .ref (qo 7)])), ((qo 0), .inl (cI, 10, .inl (fun k => zI ((go 0) k)))), ((qo 1), .inl (cI, 10, .inl (fun k => zI ((go 1) k)))), ((qo 2), .inl (cI, 10, .inl (fun k => zI ((go 2) k)))), ((qo 3), .inl (cI, 40, .inl (fun k => zI ((go 3) k)))), ((qo 4), .inl (cI, 40, .inl (fun k => zI ((go 4) k)))), ((qo 5), .inl (cI, 40, .inl (fun k => zI ((go 5) k)))), ((qo 6), .inl (cI, 20, .inl (fun k => zI ((go 6) k)))), ((qo 7), .inl (cI, 20, .inl (fun k => zI ((go 7) k))))] := by subst e_i8 e_gg9; exact hD
      exact ret (i8, gg9) _ _ _ _ _ _ ⟨hO10, ⟨(show i8 0 = 1 from by omega), Or.inr ⟨fun q9 => absurd (hie.2.mpr q9) (by omega), (show i8 1 = -2 from by omega)⟩⟩⟩ (bw_subP (isC := [0, 1, 2, 3, 4, 5, 6, 7, 8, 9, 10, 11]) hP rfl) (hD.sub [0, 1, 2, 3, 4, 5, 6, 7, 8, 9, 10, 11] (by decide) rfl) hS (Nat.le_of_ble_eq_true rfl) (Nat.le_of_ble_eq_true rfl) dX5_find_31
    · refine lv_aload_n hx hb dX5_find_26 rfl (lv_at hl 0 rfl) ?_
      refine lv_aload_n hx hb dX5_find_27 rfl (lv_at hl 1 rfl) ?_
      obtain ⟨i12, e_i12⟩ : ∃ i12 : Nat → Int, i12 = fun k => [1, (-2)].getD k 0 := ⟨_, rfl⟩
      have e_i12_0 : i12 0 = 1 := congrFun e_i12 0
      have e_i12_1 : i12 1 = (-2) := congrFun e_i12 1
      obtain ⟨gg13, e_gg13⟩ : ∃ gg13 : Nat → Nat → Int, gg13 = fun k => [(g 0), (g 1)].getD k (fun _ => 0) := ⟨_, rfl⟩
      have hO14 : TrailOk i12 := ⟨by omega, by omega⟩
      have hf15 := hO14
      have hP : va_P G vwCl [(b, .inr (5, [.int (zI (i12 0)), .int (zI (i12 1)), .ref (q 0), .ref (q 1)])), ((q 0), .inl (cI, 180, .inl (fun k => zI ((gg13 0) k)))), ((q 1), .inl (cI, 20, .inl (fun k => zI ((gg13 1) k)))), (o, .inr (2, [.int (zI no), .ref (qo 0), .ref (qo 1), .ref (qo 2), .ref (qo 3), .ref (qo 4), .ref (qo 5), .ref (qo 6), .ref (qo 7)])), ((qo 0), .inl (cI, 10, .inl (fun k => zI ((go 0) k)))), ((qo 1), .inl (cI, 10, .inl (fun k => zI ((go 1) k)))), ((qo 2), .inl (cI, 10, .inl (fun k => zI ((go 2) k)))), ((qo 3), .inl (cI, 40, .inl (fun k => zI ((go 3) k)))), ((qo 4), .inl (cI, 40, .inl (fun k => zI ((go 4) k)))), ((qo 5), .inl (cI, 40, .inl (fun k => zI ((go 5) k)))), ((qo 6), .inl (cI, 20, .inl (fun k => zI ((go 6) k)))), ((qo 7), .inl (cI, 20, .inl (fun k => zI ((go 7) k))))] H := by subst e_i12 e_gg13; exact hP
      have hD : va_D A [(b, .inr (5, [.int (zI (i12 0)), .int (zI (i12 1)), .ref (q 0), .ref (q 1)])), ((q 0), .inl (cI, 180, .inl (fun k => zI ((gg13 0) k)))), ((q 1), .inl (cI, 20, .inl (fun k => zI ((gg13 1) k)))), (o, .inr (2, [.int (zI no), .ref (qo 0), .ref (qo 1), .ref (qo 2), .ref (qo 3), .ref (qo 4), .ref (qo 5), .ref (qo 6), .ref (qo 7)])), ((qo 0), .inl (cI, 10, .inl (fun k => zI ((go 0) k)))), ((qo 1), .inl (cI, 10, .inl (fun k => zI ((go 1) k)))), ((qo 2), .inl (cI, 10, .inl (fun k => zI ((go 2) k)))), ((qo 3), .inl (cI, 40, .inl (fun k => zI ((go 3) k)))), ((qo 4), .inl (cI, 40, .inl (fun k => zI ((go 4) k)))), ((qo 5), .inl (cI, 40, .inl (fun k => zI ((go 5) k)))), ((qo 6), .inl (cI, 20, .inl (fun k => zI ((go 6) k)))), ((qo 7), .inl (cI, 20, .inl (fun k => zI ((go 7) k))))] := by subst e_i12 e_gg13; exact hD
      refine r_callVv (As := [.ref o]) (rest := []) (wr := []) F hK hP hD hS hA hO hE (c_X5z_goThrough hO b q i12 gg13 hO14 o qo no go hM pR hPr hNR hLN hDN (hie.2.mp (by omega))) k_897 kv_X5_goThrough 1 rfl (by decide +kernel) ⟨Nat.le_of_ble_eq_true rfl, Nat.le_of_ble_eq_true rfl⟩ [0, 1, 2, 3, 4, 5, 6, 7, 8, 9, 10, 11] [] rfl rfl (by decide) (by decide) (by decide) 0 5 rfl rfl rfl hl.1 rfl (Nat.le_of_ble_eq_true rfl) dX5_find_28 ⟨Nat.le_of_ble_eq_true rfl, Nat.le_of_ble_eq_true rfl⟩ (w1 := fun u16 => [(b, .inr (5, [.int (zI (u16.1 0)), .int (zI (u16.1 1)), .ref (q 0), .ref (q 1)])), ((q 0), .inl (cI, 180, .inl (fun k => zI ((u16.2 0) k)))), ((q 1), .inl (cI, 20, .inl (fun k => zI ((u16.2 1) k)))), (o, .inr (2, [.int (zI no), .ref (qo 0), .ref (qo 1), .ref (qo 2), .ref (qo 3), .ref (qo 4), .ref (qo 5), .ref (qo 6), .ref (qo 7)])), ((qo 0), .inl (cI, 10, .inl (fun k => zI ((go 0) k)))), ((qo 1), .inl (cI, 10, .inl (fun k => zI ((go 1) k)))), ((qo 2), .inl (cI, 10, .inl (fun k => zI ((go 2) k)))), ((qo 3), .inl (cI, 40, .inl (fun k => zI ((go 3) k)))), ((qo 4), .inl (cI, 40, .inl (fun k => zI ((go 4) k)))), ((qo 5), .inl (cI, 40, .inl (fun k => zI ((go 5) k)))), ((qo 6), .inl (cI, 20, .inl (fun k => zI ((go 6) k)))), ((qo 7), .inl (cI, 20, .inl (fun k => zI ((go 7) k))))]) (fun _ => rfl) (fun  u16 H locs hp17 hP hD hS => ?_)
      have hf18 := hp17.1
      have hc19 := hp17.2.1
      exact ret (u16.1, u16.2) _ _ _ _ _ _ ⟨hp17.1, ⟨(show u16.1 0 = 1 from by omega), Or.inl ⟨hie.2.mp (by omega), hp17.2.2⟩⟩⟩ (bw_subP (isC := [0, 1, 2, 3, 4, 5, 6, 7, 8, 9, 10, 11]) hP rfl) (hD.sub [0, 1, 2, 3, 4, 5, 6, 7, 8, 9, 10, 11] (by decide) rfl) hS (Nat.le_of_ble_eq_true rfl) (Nat.le_of_ble_eq_true rfl) dX5_find_31
  · exact ret (i, g) _ _ _ _ _ _ ⟨hY, ⟨(show i 0 = 1 from by omega), hTC.resolve_left (show ¬ i 0 = 0 from by omega)⟩⟩ (bw_subP (isC := [0, 1, 2, 3, 4, 5, 6, 7, 8, 9, 10, 11]) hP rfl) (hD.sub [0, 1, 2, 3, 4, 5, 6, 7, 8, 9, 10, 11] (by decide) rfl) hS (Nat.le_of_ble_eq_true rfl) (Nat.le_of_ble_eq_true rfl) dX5_find_7
abbrev rm_X8z_trails : Room := { frames := 4, cells := 0, slots := 0, locals := 96 }
set_option maxRecDepth 100000 in
set_option maxHeartbeats 8000000 in
theorem c_X8z_trails {l : Launch} {E : (Nat → Prop) → State → Prop} (hO : bw_Ok E) {G : va_G} {cI cB cJ cN cW : ClassId} (b : Nat) (q : Nat → Nat) (t ld : Int) (hL : ld = 0 ∨ ld = 1) (ht : 0 ≤ t ∧ t ≤ 6) (qN : Nat → Nat) (nN : Int) (gN : Nat → Nat → Int) (hc_N : NetOk nN gN) (qL : Nat → Nat) (iL : Nat → Int) (gL : Nat → Nat → Int) (hc_L : TrailOk iL) (pR : Nat → Int) (hPr : ProgOk pR) (hNR : NRel gN pR) (hLN : LN pR nN) (hDN : DN pR nN) (hTC : TrC pR nN.toNat iL gL) : bw_Ci (S := zV) l yX8_trails (bw_ws (Cond.code yX8_trails cX8_trails 1 (some .int))) rm_X8z_trails E G (bw_kt cI cB cJ cN cW) [.ref b] [(b, .inr (8, [.int (zI t), .int (zI ld), .ref (q 0), .ref (q 1), .ref (q 2), .ref (q 3), .ref (q 4), .ref (q 5), .ref (q 6), .ref (q 7), .ref (q 8), .ref (q 9), .ref (q 10), .ref (q 11)])), ((q 2), .inr (2, [.int (zI nN), .ref (qN 0), .ref (qN 1), .ref (qN 2), .ref (qN 3), .ref (qN 4), .ref (qN 5), .ref (qN 6), .ref (qN 7)])), ((qN 0), .inl (cI, 10, .inl (fun k => zI ((gN 0) k)))), ((qN 1), .inl (cI, 10, .inl (fun k => zI ((gN 1) k)))), ((qN 2), .inl (cI, 10, .inl (fun k => zI ((gN 2) k)))), ((qN 3), .inl (cI, 40, .inl (fun k => zI ((gN 3) k)))), ((qN 4), .inl (cI, 40, .inl (fun k => zI ((gN 4) k)))), ((qN 5), .inl (cI, 40, .inl (fun k => zI ((gN 5) k)))), ((qN 6), .inl (cI, 20, .inl (fun k => zI ((gN 6) k)))), ((qN 7), .inl (cI, 20, .inl (fun k => zI ((gN 7) k)))), ((q 9), .inr (5, [.int (zI (iL 0)), .int (zI (iL 1)), .ref (qL 0), .ref (qL 1)])), ((qL 0), .inl (cI, 180, .inl (fun k => zI ((gL 0) k)))), ((qL 1), .inl (cI, 20, .inl (fun k => zI ((gL 1) k))))] (fun r u => ∃ z : Int, r = zI z ∧ ((0 ≤ (u 0).1 0 ∧ (u 0).1 0 ≤ 6) ∧ (((u 0).1 1 = 0 ∨ (u 0).1 1 = 1) ∧ (u 0).1 1 = ld ∧ (u 0).1 0 ≠ 4)) ∧ (TrailOk ((u 1).1)) ∧ ((TrC pR nN.toNat (u 1).1 (u 1).2) ∧ ((ld = 1 ∧ ∃ t : Nat → Int, TrA pR nN.toNat z t) ∨ (¬ ld = 1 ∧ z = -1)))) (fun u => [(b, .inr (8, [.int (zI ((u 0).1 0)), .int (zI ((u 0).1 1)), .ref (q 0), .ref (q 1), .ref (q 2), .ref (q 3), .ref (q 4), .ref (q 5), .ref (q 6), .ref (q 7), .ref (q 8), .ref (q 9), .ref (q 10), .ref (q 11)])), ((q 2), .inr (2, [.int (zI nN), .ref (qN 0), .ref (qN 1), .ref (qN 2), .ref (qN 3), .ref (qN 4), .ref (qN 5), .ref (qN 6), .ref (qN 7)])), ((qN 0), .inl (cI, 10, .inl (fun k => zI ((gN 0) k)))), ((qN 1), .inl (cI, 10, .inl (fun k => zI ((gN 1) k)))), ((qN 2), .inl (cI, 10, .inl (fun k => zI ((gN 2) k)))), ((qN 3), .inl (cI, 40, .inl (fun k => zI ((gN 3) k)))), ((qN 4), .inl (cI, 40, .inl (fun k => zI ((gN 4) k)))), ((qN 5), .inl (cI, 40, .inl (fun k => zI ((gN 5) k)))), ((qN 6), .inl (cI, 20, .inl (fun k => zI ((gN 6) k)))), ((qN 7), .inl (cI, 20, .inl (fun k => zI ((gN 7) k)))), ((q 9), .inr (5, [.int (zI ((u 1).1 0)), .int (zI ((u 1).1 1)), .ref (qL 0), .ref (qL 1)])), ((qL 0), .inl (cI, 180, .inl (fun k => zI (((u 1).2 0) k)))), ((qL 1), .inl (cI, 20, .inl (fun k => zI (((u 1).2 1) k))))]) := by
  refine bw_Ci.of (cc := cX8_trails) (maxL := 1) (ty := .int) (by decide) rfl (Nat.le_of_ble_eq_true rfl) ?_
  intro p e s m below meth c A Q hx hb hml hts hown hin hK hA hS hP hD hE ret ls hl
  have F : CallFix p m c cX8_trails 1 s ([.ref b] : List Value).toArray bw_T RX8 := ⟨hx, hb, hml, hown, fun w h => hts w (List.mem_cons_of_mem _ h)⟩
  replace hl : lv_has ls 1 [(0, .ref b)] := hl
  have hf1 := hc_N.1
  have hf2 := hc_L
  refine lv_aload_n hx hb dX8_trails_0 rfl (lv_at hl 0 rfl) ?_
  refine r_callVi (As := []) (rest := []) (wr := [((q 2), .inr (2, [.int (zI nN), .ref (qN 0), .ref (qN 1), .ref (qN 2), .ref (qN 3), .ref (qN 4), .ref (qN 5), .ref (qN 6), .ref (qN 7)])), ((qN 0), .inl (cI, 10, .inl (fun k => zI ((gN 0) k)))), ((qN 1), .inl (cI, 10, .inl (fun k => zI ((gN 1) k)))), ((qN 2), .inl (cI, 10, .inl (fun k => zI ((gN 2) k)))), ((qN 3), .inl (cI, 40, .inl (fun k => zI ((gN 3) k)))), ((qN 4), .inl (cI, 40, .inl (fun k => zI ((gN 4) k)))), ((qN 5), .inl (cI, 40, .inl (fun k => zI ((gN 5) k)))), ((qN 6), .inl (cI, 20, .inl (fun k => zI ((gN 6) k)))), ((qN 7), .inl (cI, 20, .inl (fun k => zI ((gN 7) k)))), ((q 9), .inr (5, [.int (zI (iL 0)), .int (zI (iL 1)), .ref (qL 0), .ref (qL 1)])), ((qL 0), .inl (cI, 180, .inl (fun k => zI ((gL 0) k)))), ((qL 1), .inl (cI, 20, .inl (fun k => zI ((gL 1) k))))]) F hK hP hD hS hA hO hE (c_X8_isLoaded hO b q t ld (by omega)) k_683 kv_X8_isLoaded 0 rfl (by decide +kernel) ⟨Nat.le_of_ble_eq_true rfl, Nat.le_of_ble_eq_true rfl⟩ [0] [1, 2, 3, 4, 5, 6, 7, 8, 9, 10, 11, 12] rfl rfl (by decide) (by decide) (by decide) 0 8 rfl rfl rfl hl.1 rfl (Nat.le_of_ble_eq_true rfl) dX8_trails_1 ⟨Nat.le_of_ble_eq_true rfl, Nat.le_of_ble_eq_true rfl⟩ (w1 := fun u3 => [((q 2), .inr (2, [.int (zI nN), .ref (qN 0), .ref (qN 1), .ref (qN 2), .ref (qN 3), .ref (qN 4), .ref (qN 5), .ref (qN 6), .ref (qN 7)])), ((qN 0), .inl (cI, 10, .inl (fun k => zI ((gN 0) k)))), ((qN 1), .inl (cI, 10, .inl (fun k => zI ((gN 1) k)))), ((qN 2), .inl (cI, 10, .inl (fun k => zI ((gN 2) k)))), ((qN 3), .inl (cI, 40, .inl (fun k => zI ((gN 3) k)))), ((qN 4), .inl (cI, 40, .inl (fun k => zI ((gN 4) k)))), ((qN 5), .inl (cI, 40, .inl (fun k => zI ((gN 5) k)))), ((qN 6), .inl (cI, 20, .inl (fun k => zI ((gN 6) k)))), ((qN 7), .inl (cI, 20, .inl (fun k => zI ((gN 7) k)))), ((q 9), .inr (5, [.int (zI (iL 0)), .int (zI (iL 1)), .ref (qL 0), .ref (qL 1)])), ((qL 0), .inl (cI, 180, .inl (fun k => zI ((gL 0) k)))), ((qL 1), .inl (cI, 20, .inl (fun k => zI ((gL 1) k)))), (b, .inr (8, [.int (zI (u3.1 0)), .int (zI ld), .ref (q 0), .ref (q 1), .ref (q 2), .ref (q 3), .ref (q 4), .ref (q 5), .ref (q 6), .ref (q 7), .ref (q 8), .ref (q 9), .ref (q 10), .ref (q 11)]))]) (fun _ => rfl) (fun r4 u3 H locs hp5 hP hD hS => ?_)
  obtain ⟨z6, rfl, h_z6⟩ := hp5
  refine rz_if_ne (tgt := 9) F (by omega) dX8_trails_4 (by decide) (fun h4_6 => ?_) (fun h4_6 => ?_)
  · refine lv_aload_n hx hb dX8_trails_9 rfl (lv_at hl 0 rfl) ?_
    refine r_get F hK hP 12 11 rfl rfl in_X8 (by decide) k_506 rfl dX8_trails_10 ?_
    refine lv_aload_n hx hb dX8_trails_13 rfl (lv_at hl 0 rfl) ?_
    refine r_get F hK hP 12 4 rfl rfl in_X8 (by decide) k_499 rfl dX8_trails_14 ?_
    refine r_callVv (As := [.ref (q 2)]) (rest := []) (wr := [(b, .inr (8, [.int (zI (u3.1 0)), .int (zI ld), .ref (q 0), .ref (q 1), .ref (q 2), .ref (q 3), .ref (q 4), .ref (q 5), .ref (q 6), .ref (q 7), .ref (q 8), .ref (q 9), .ref (q 10), .ref (q 11)]))]) F hK hP hD hS hA hO hE (c_X5z_find hO (q 9) qL iL gL hc_L (q 2) qN nN gN hc_N pR hPr hNR hLN hDN hTC) k_892 kv_X5_find 1 rfl (by decide +kernel) ⟨Nat.le_of_ble_eq_true rfl, Nat.le_of_ble_eq_true rfl⟩ [9, 10, 11, 0, 1, 2, 3, 4, 5, 6, 7, 8] [12] rfl rfl (by decide) (by decide) (by decide) 0 5 rfl rfl rfl hl.1 rfl (Nat.le_of_ble_eq_true rfl) dX8_trails_17 ⟨Nat.le_of_ble_eq_true rfl, Nat.le_of_ble_eq_true rfl⟩ (w1 := fun u8 => [(b, .inr (8, [.int (zI (u3.1 0)), .int (zI ld), .ref (q 0), .ref (q 1), .ref (q 2), .ref (q 3), .ref (q 4), .ref (q 5), .ref (q 6), .ref (q 7), .ref (q 8), .ref (q 9), .ref (q 10), .ref (q 11)])), ((q 9), .inr (5, [.int (zI (u8.1 0)), .int (zI (u8.1 1)), .ref (qL 0), .ref (qL 1)])), ((qL 0), .inl (cI, 180, .inl (fun k => zI ((u8.2 0) k)))), ((qL 1), .inl (cI, 20, .inl (fun k => zI ((u8.2 1) k)))), ((q 2), .inr (2, [.int (zI nN), .ref (qN 0), .ref (qN 1), .ref (qN 2), .ref (qN 3), .ref (qN 4), .ref (qN 5), .ref (qN 6), .ref (qN 7)])), ((qN 0), .inl (cI, 10, .inl (fun k => zI ((gN 0) k)))), ((qN 1), .inl (cI, 10, .inl (fun k => zI ((gN 1) k)))), ((qN 2), .inl (cI, 10, .inl (fun k => zI ((gN 2) k)))), ((qN 3), .inl (cI, 40, .inl (fun k => zI ((gN 3) k)))), ((qN 4), .inl (cI, 40, .inl (fun k => zI ((gN 4) k)))), ((qN 5), .inl (cI, 40, .inl (fun k => zI ((gN 5) k)))), ((qN 6), .inl (cI, 20, .inl (fun k => zI ((gN 6) k)))), ((qN 7), .inl (cI, 20, .inl (fun k => zI ((gN 7) k))))]) (fun _ => rfl) (fun  u8 H locs hp9 hP hD hS => ?_)
    have hf10 := hp9.1
    have hfd := hp9.2.2
    have hc11 := hp9.2.1
    refine lv_aload_n hx hb dX8_trails_20 rfl (lv_at hl 0 rfl) ?_
    refine r_get F hK hP 0 11 rfl rfl in_X8 (by decide) k_506 rfl dX8_trails_21 ?_
    refine r_get F hK hP 1 1 rfl rfl in_X5 (by decide) k_429 rfl dX8_trails_24 ?_
    exact ret (zI (u8.1 1)) (fun k => [(fun k => [(u3.1 0), ld].getD k 0, fun _ _ => 0), (u8.1, u8.2)].getD k (fun _ => 0, fun _ _ => 0)) _ _ _ _ _ _ rfl ⟨(u8.1 1), rfl, (show ((0 : Int) ≤ (u3.1 0) ∧ (u3.1 0) ≤ 6) ∧ (((ld : Int) = 0 ∨ (ld : Int) = 1) ∧ (ld : Int) = ld ∧ ((u3.1 0) : Int) ≠ 4) from by omega), hp9.1, ⟨(show TrC pR nN.toNat u8.1 u8.2 from Or.inr hfd), (show (ld = 1 ∧ ∃ t : Nat → Int, TrA pR nN.toNat ((u8.1 1) : Int) t) ∨ (¬ ld = 1 ∧ ((u8.1 1) : Int) = -1) from Or.inl ⟨by omega, _, hfd⟩)⟩⟩ (bw_subP (isC := [0, 4, 5, 6, 7, 8, 9, 10, 11, 12, 1, 2, 3]) hP rfl) (hD.sub [0, 4, 5, 6, 7, 8, 9, 10, 11, 12, 1, 2, 3] (by decide) rfl) hS (Nat.le_of_ble_eq_true rfl) (Nat.le_of_ble_eq_true rfl) dX8_trails_27
  · refine lv_iconst (v := zI (-1)) hx hb dX8_trails_7 rfl ?_
    exact ret (zI (-1)) (fun k => [(fun k => [(u3.1 0), ld].getD k 0, fun _ _ => 0), (iL, gL)].getD k (fun _ => 0, fun _ _ => 0)) _ _ _ _ _ _ rfl ⟨(-1), rfl, (show ((0 : Int) ≤ (u3.1 0) ∧ (u3.1 0) ≤ 6) ∧ (((ld : Int) = 0 ∨ (ld : Int) = 1) ∧ (ld : Int) = ld ∧ ((u3.1 0) : Int) ≠ 4) from by omega), hc_L, ⟨(show TrC pR nN.toNat iL gL from hTC), (show (ld = 1 ∧ ∃ t : Nat → Int, TrA pR nN.toNat ((-1) : Int) t) ∨ (¬ ld = 1 ∧ ((-1) : Int) = -1) from Or.inr ⟨by omega, by omega⟩)⟩⟩ (bw_subP (isC := [12, 0, 1, 2, 3, 4, 5, 6, 7, 8, 9, 10, 11]) hP rfl) (hD.sub [12, 0, 1, 2, 3, 4, 5, 6, 7, 8, 9, 10, 11] (by decide) rfl) hS (Nat.le_of_ble_eq_true rfl) (Nat.le_of_ble_eq_true rfl) dX8_trails_8
abbrev rm_X9_goTrailX : Room := { frames := 2, cells := 0, slots := 0, locals := 50 }
set_option maxRecDepth 100000 in
set_option maxHeartbeats 8000000 in
theorem c_X9_goTrailX {l : Launch} {E : (Nat → Prop) → State → Prop} (hO : bw_Ok E) {G : va_G} {cI cB cJ cN cW : ClassId} (y : Nat) (q : Nat → Nat) (i : Nat → Int) (hM : ModOk i) (g_now : Nat → Int) (g_rest : Nat → Int) (hr_rest : ∀ k, k < 20 → 0 ≤ g_rest k ∧ g_rest k ≤ 9) (g_trail : Nat → Int) (hr_trail : ∀ k, k < 180 → 0 ≤ g_trail k ∧ g_trail k ≤ 19) (hpn : ProgOk g_now) (hLr : LN g_now (i 13)) : bw_Ci (S := zV) l yX9_goTrail (bw_ws (Cond.code yX9_goTrail cX9_goTrail 5 (some .int))) rm_X9_goTrailX E G (bw_kt cI cB cJ cN cW) [.ref y] [(y, .inr (9, [.int (zI (i 0)), .ref (q 0), .int (zI (i 1)), .int (zI (i 2)), .int (zI (i 3)), .int (zI (i 4)), .int (zI (i 5)), .int (zI (i 6)), .int (zI (i 7)), .int (zI (i 8)), .int (zI (i 9)), .int (zI (i 10)), .ref (q 1), .int (zI (i 11)), .int (zI (i 12)), .ref (q 2), .ref (q 3), .ref (q 4), .ref (q 5), .ref (q 6), .ref (q 7), .ref (q 8), .ref (q 9), .ref (q 10), .ref (q 11), .ref (q 12), .ref (q 13), .ref (q 14), .ref (q 15), .ref (q 16), .int (zI (i 13)), .int (zI (i 14)), .int (zI (i 15)), .int (zI (i 16)), .int (zI (i 17)), .int (zI (i 18)), .ref (q 17), .ref (q 18), .ref (q 19), .ref (q 20)])), ((q 3), .inl (cI, 200, .inl (fun k => zI (g_now k)))), ((q 17), .inl (cI, 20, .inl (fun k => zI (g_rest k)))), ((q 18), .inl (cI, 180, .inl (fun k => zI (g_trail k))))] (fun r u => ∃ z : Int, r = zI z ∧ (∀ k, k < 20 → 0 ≤ ((u 1).2 0) k ∧ ((u 1).2 0) k ≤ 9) ∧ (∀ k, k < 180 → 0 ≤ ((u 2).2 0) k ∧ ((u 2).2 0) k ≤ 19) ∧ ((-2 ≤ z ∧ z ≤ 180) ∧ TrA g_now (i 13).toNat z ((u 2).2 0))) (fun u => [(y, .inr (9, [.int (zI (i 0)), .ref (q 0), .int (zI (i 1)), .int (zI (i 2)), .int (zI (i 3)), .int (zI (i 4)), .int (zI (i 5)), .int (zI (i 6)), .int (zI (i 7)), .int (zI (i 8)), .int (zI (i 9)), .int (zI (i 10)), .ref (q 1), .int (zI (i 11)), .int (zI (i 12)), .ref (q 2), .ref (q 3), .ref (q 4), .ref (q 5), .ref (q 6), .ref (q 7), .ref (q 8), .ref (q 9), .ref (q 10), .ref (q 11), .ref (q 12), .ref (q 13), .ref (q 14), .ref (q 15), .ref (q 16), .int (zI (i 13)), .int (zI (i 14)), .int (zI (i 15)), .int (zI (i 16)), .int (zI (i 17)), .int (zI (i 18)), .ref (q 17), .ref (q 18), .ref (q 19), .ref (q 20)])), ((q 3), .inl (cI, 200, .inl (fun k => zI (g_now k)))), ((q 17), .inl (cI, 20, .inl (fun k => zI (((u 1).2 0) k)))), ((q 18), .inl (cI, 180, .inl (fun k => zI (((u 2).2 0) k))))]) := by
  refine bw_Ci.of (cc := cX9_goTrail) (maxL := 5) (ty := .int) (by decide) rfl (Nat.le_of_ble_eq_true rfl) ?_
  intro p e s m below meth c A Q hx hb hml hts hown hin hK hA hS hP hD hE ret ls hl
  have F : CallFix p m c cX9_goTrail 5 s ([.ref y] : List Value).toArray bw_T RX9 := ⟨hx, hb, hml, hown, fun w h => hts w (List.mem_cons_of_mem _ h)⟩
  replace hl : lv_has ls 5 [(0, .ref y)] := hl
  have hf1 := hM.1
  refine lv_aload_n hx hb dX9_goTrail_0 rfl (lv_at hl 0 rfl) ?_
  refine r_callVv (As := []) (rest := []) (wr := [((q 18), .inl (cI, 180, .inl (fun k => zI (g_trail k))))]) F hK hP hD hS hA hO hE (c_X9_layRestX hO y q i hM g_now g_rest hr_rest hpn hLr) k_1585 kv_X9_layRest 0 rfl (by decide +kernel) ⟨Nat.le_of_ble_eq_true rfl, Nat.le_of_ble_eq_true rfl⟩ [0, 1, 2] [3] rfl rfl (by decide) (by decide) (by decide) 0 9 rfl rfl rfl hl.1 rfl (Nat.le_of_ble_eq_true rfl) dX9_goTrail_1 ⟨Nat.le_of_ble_eq_true rfl, Nat.le_of_ble_eq_true rfl⟩ (w1 := fun u2 => [((q 18), .inl (cI, 180, .inl (fun k => zI (g_trail k)))), (y, .inr (9, [.int (zI (i 0)), .ref (q 0), .int (zI (i 1)), .int (zI (i 2)), .int (zI (i 3)), .int (zI (i 4)), .int (zI (i 5)), .int (zI (i 6)), .int (zI (i 7)), .int (zI (i 8)), .int (zI (i 9)), .int (zI (i 10)), .ref (q 1), .int (zI (i 11)), .int (zI (i 12)), .ref (q 2), .ref (q 3), .ref (q 4), .ref (q 5), .ref (q 6), .ref (q 7), .ref (q 8), .ref (q 9), .ref (q 10), .ref (q 11), .ref (q 12), .ref (q 13), .ref (q 14), .ref (q 15), .ref (q 16), .int (zI (i 13)), .int (zI (i 14)), .int (zI (i 15)), .int (zI (i 16)), .int (zI (i 17)), .int (zI (i 18)), .ref (q 17), .ref (q 18), .ref (q 19), .ref (q 20)])), ((q 3), .inl (cI, 200, .inl (fun k => zI (g_now k)))), ((q 17), .inl (cI, 20, .inl (fun k => zI (((u2 1).2 0) k))))]) (fun _ => rfl) (fun  u2 H locs hp3 hP hD hS => ?_)
  have hly := hp3.2
  have hRs0 := Rst.ofl hpn hly
  have hc4 := sumZ_bd (n := 20) (c := 9) (fun k hk => (hp3.1 k hk).2)
  have hc5 := sumZ_pos (n := 20) (fun k hk => (hp3.1 k hk).1)
  refine lv_aload_n hx hb dX9_goTrail_4 rfl (lv_at hl 0 rfl) ?_
  refine lv_iconst (v := zI 0) hx hb dX9_goTrail_5 rfl ?_
  refine r_callVi (As := [.int (zI 0)]) (rest := []) (wr := [((q 18), .inl (cI, 180, .inl (fun k => zI (g_trail k))))]) F hK hP hD hS hA hO hE (c_X9_isEvenX hO y q i hM g_now ((u2 1).2 0) hp3.1 0 (by omega) hpn (by omega) hLr hRs0) k_1589 kv_X9_isEven 1 rfl (by decide +kernel) ⟨Nat.le_of_ble_eq_true rfl, Nat.le_of_ble_eq_true rfl⟩ [1, 2, 3] [0] rfl rfl (by decide) (by decide) (by decide) 0 9 rfl rfl rfl hl.1 rfl (Nat.le_of_ble_eq_true rfl) dX9_goTrail_6 ⟨Nat.le_of_ble_eq_true rfl, Nat.le_of_ble_eq_true rfl⟩ (w1 := fun u6 => [((q 18), .inl (cI, 180, .inl (fun k => zI (g_trail k)))), (y, .inr (9, [.int (zI (i 0)), .ref (q 0), .int (zI (i 1)), .int (zI (i 2)), .int (zI (i 3)), .int (zI (i 4)), .int (zI (i 5)), .int (zI (i 6)), .int (zI (i 7)), .int (zI (i 8)), .int (zI (i 9)), .int (zI (i 10)), .ref (q 1), .int (zI (i 11)), .int (zI (i 12)), .ref (q 2), .ref (q 3), .ref (q 4), .ref (q 5), .ref (q 6), .ref (q 7), .ref (q 8), .ref (q 9), .ref (q 10), .ref (q 11), .ref (q 12), .ref (q 13), .ref (q 14), .ref (q 15), .ref (q 16), .int (zI (i 13)), .int (zI (i 14)), .int (zI (i 15)), .int (zI (i 16)), .int (zI (i 17)), .int (zI (i 18)), .ref (q 17), .ref (q 18), .ref (q 19), .ref (q 20)])), ((q 3), .inl (cI, 200, .inl (fun k => zI (g_now k)))), ((q 17), .inl (cI, 20, .inl (fun k => zI (((u2 1).2 0) k))))]) (fun _ => rfl) (fun r7 u6 H locs hp8 hP hD hS => ?_)
  obtain ⟨z9, rfl, h_z9⟩ := hp8
  have hev0 := h_z9
  have hc10 := hev0.1
  have hEc := EvF.congr (p := g_now) (n := (i 13).toNat) (f := 0) hly
  refine rz_ifb_ne (tgt := 15) F (by omega) dX9_goTrail_9 (by decide) (fun h9_10 => ?_) (fun h9_10 => ?_)
  · refine lv_iconst (v := zI 0) hx hb dX9_goTrail_15 rfl ?_
    refine lv_istore_n (lv' := [(1, .int (zI 0)), (0, .ref y)]) hx hb dX9_goTrail_16 rfl hl (by decide) rfl (fun ls hl => ?_)
    refine lv_iconst (v := zI 0) hx hb dX9_goTrail_17 rfl ?_
    refine lv_istore_n (lv' := [(2, .int (zI 0)), (1, .int (zI 0)), (0, .ref y)]) hx hb dX9_goTrail_18 rfl hl (by decide) rfl (fun ls hl => ?_)
    refine lv_iconst (v := zI 1) hx hb dX9_goTrail_19 rfl ?_
    refine lv_istore_n (lv' := [(3, .int (zI 1)), (2, .int (zI 0)), (1, .int (zI 0)), (0, .ref y)]) hx hb dX9_goTrail_20 rfl hl (by decide) rfl (fun ls hl => ?_)
    refine W.widen (k := 0) (n := 0) (Nat.le_of_ble_eq_true rfl) (Nat.le_of_ble_eq_true rfl) ?_
    refine (?_ : ∀ (n9_1 : Nat) (v1 : Int) (v2 : Int) (v3 : Int) (gr9 : Nat → Int) (gt9 : Nat → Int) (H : Heap) (locs : List Loc), (0 ≤ v1 ∧ v1 + sumZ gr9 20 ≤ 180 ∧ 0 ≤ v2 ∧ v2 ≤ 9 ∧ 0 ≤ v3 ∧ v3 ≤ 1) → (2 * (181 - v1) + v3 : Int).toNat < n9_1 → (∀ k, k < 20 → 0 ≤ gr9 k ∧ gr9 k ≤ 9) → (∀ k, k < 180 → 0 ≤ gt9 k ∧ gt9 k ≤ 19) → ((v3 = 1 ∧ TrI g_now (i 13).toNat gr9 gt9 v2 v1) ∨ (v3 = 0 ∧ TrF g_now (i 13).toNat v1 gt9)) → va_P G vwCl [((q 18), .inl (cI, 180, .inl (fun k => zI (gt9 k)))), (y, .inr (9, [.int (zI (i 0)), .ref (q 0), .int (zI (i 1)), .int (zI (i 2)), .int (zI (i 3)), .int (zI (i 4)), .int (zI (i 5)), .int (zI (i 6)), .int (zI (i 7)), .int (zI (i 8)), .int (zI (i 9)), .int (zI (i 10)), .ref (q 1), .int (zI (i 11)), .int (zI (i 12)), .ref (q 2), .ref (q 3), .ref (q 4), .ref (q 5), .ref (q 6), .ref (q 7), .ref (q 8), .ref (q 9), .ref (q 10), .ref (q 11), .ref (q 12), .ref (q 13), .ref (q 14), .ref (q 15), .ref (q 16), .int (zI (i 13)), .int (zI (i 14)), .int (zI (i 15)), .int (zI (i 16)), .int (zI (i 17)), .int (zI (i 18)), .ref (q 17), .ref (q 18), .ref (q 19), .ref (q 20)])), ((q 3), .inl (cI, 200, .inl (fun k => zI (g_now k)))), ((q 17), .inl (cI, 20, .inl (fun k => zI (gr9 k))))] H → va_D A [((q 18), .inl (cI, 180, .inl (fun k => zI (gt9 k)))), (y, .inr (9, [.int (zI (i 0)), .ref (q 0), .int (zI (i 1)), .int (zI (i 2)), .int (zI (i 3)), .int (zI (i 4)), .int (zI (i 5)), .int (zI (i 6)), .int (zI (i 7)), .int (zI (i 8)), .int (zI (i 9)), .int (zI (i 10)), .ref (q 1), .int (zI (i 11)), .int (zI (i 12)), .ref (q 2), .ref (q 3), .ref (q 4), .ref (q 5), .ref (q 6), .ref (q 7), .ref (q 8), .ref (q 9), .ref (q 10), .ref (q 11), .ref (q 12), .ref (q 13), .ref (q 14), .ref (q 15), .ref (q 16), .int (zI (i 13)), .int (zI (i 14)), .int (zI (i 15)), .int (zI (i 16)), .int (zI (i 17)), .int (zI (i 18)), .ref (q 17), .ref (q 18), .ref (q 19), .ref (q 20)])), ((q 3), .inl (cI, 200, .inl (fun k => zI (g_now k)))), ((q 17), .inl (cI, 20, .inl (fun k => zI (gr9 k))))] → va_S A s.heap H locs → ∀ ls : Array Slot, lv_has ls 5 [(3, .int (zI v3)), (2, .int (zI v2)), (1, .int (zI v1)), (0, .ref y)] → W p l e rm_X9_goTrailX s m ([.ref y] : List Value).toArray below meth c H locs 0 0 Q (F0 m 21 ls [])) ((2 * (181 - 0) + 1 : Int).toNat + 1) 0 0 1 ((u2 1).2 0) g_trail _ _ (by omega) (by omega) hp3.1 hr_trail (Or.inl ⟨rfl, TrI.init hpn hly (hEc.mp (hev0.2.mp (by omega)))⟩) hP hD hS ls hl
    clear hP hD hS hl ls
    intro n9_1
    induction n9_1 with
    | zero =>
      intro v1 v2 v3 gr9 gt9 H locs hI hM
      exact absurd hM (by omega)
    | succ n9_1 ih1 =>
      intro v1 v2 v3 gr9 gt9 H locs hI1 hM1 h_gr9 h_gt9 hq9 hP hD hS ls hl
      refine lv_iload_n hx hb dX9_goTrail_21 rfl (lv_at hl 0 rfl) ?_
      have hc12 := sumZ_pos (n := 20) (fun k hk => (h_gr9 k hk).1)
      refine rz_if_eq (tgt := 142) F (by omega) dX9_goTrail_22 (by decide) (fun h22_12 => ?_) (fun h22_12 => ?_)
      · refine lv_iload_n hx hb dX9_goTrail_142 rfl (lv_at hl 2 rfl) ?_
        have hfin : TrF g_now (i 13).toNat v1 gt9 := by
          rcases hq9 with ⟨q, _⟩ | ⟨_, q⟩
          · omega
          · exact q
        exact ret (zI v1) (fun k => [((fun _ => 0), fun _ _ => 0), (fun _ => 0, fun _ => gr9), (fun _ => 0, fun _ => gt9)].getD k (fun _ => 0, fun _ _ => 0)) _ _ _ _ _ _ rfl ⟨v1, rfl, h_gr9, h_gt9, ⟨by omega, Or.inl ⟨hEc.mp (hev0.2.mp (by omega)), hfin⟩⟩⟩ (bw_subP (isC := [1, 2, 3, 0]) hP rfl) (hD.sub [1, 2, 3, 0] (by decide) rfl) hS (Nat.le_of_ble_eq_true rfl) (Nat.le_of_ble_eq_true rfl) dX9_goTrail_143
      · refine lv_iconst (v := zI 0) hx hb dX9_goTrail_25 rfl ?_
        have htr : TrI g_now (i 13).toNat gr9 gt9 v2 v1 := by
          rcases hq9 with ⟨_, q⟩ | ⟨q, _⟩
          · exact q
          · omega
        refine lv_istore_n (lv' := [(3, .int (zI 0)), (2, .int (zI v2)), (1, .int (zI v1)), (0, .ref y)]) hx hb dX9_goTrail_26 rfl hl (by decide) rfl (fun ls hl => ?_)
        refine lv_iconst (v := zI 2) hx hb dX9_goTrail_27 rfl ?_
        refine lv_iload_n hx hb dX9_goTrail_28 rfl (lv_at hl 1 rfl) ?_
        refine r_imul (v := zI (2 * v2)) F dX9_goTrail_29 (zI_mul _ _) ?_
        refine lv_istore (lv' := [(4, .int (zI (2 * v2))), (3, .int (zI 0)), (2, .int (zI v2)), (1, .int (zI v1)), (0, .ref y)]) hx hb dX9_goTrail_30 hl (by decide) rfl (fun ls hl => ?_)
        refine W.widen (k := 0) (n := 0) (Nat.le_of_ble_eq_true rfl) (Nat.le_of_ble_eq_true rfl) ?_
        refine (?_ : ∀ (n9_2 : Nat) (w1 : Int) (w3 : Int) (w4 : Int) (gr8 : Nat → Int) (gt8 : Nat → Int) (H : Heap) (locs : List Loc), (0 ≤ w3 ∧ w3 ≤ 1 ∧ w1 = v1 + w3 ∧ w1 + sumZ gr8 20 ≤ 180 ∧ 2 * v2 ≤ w4 ∧ w4 ≤ 2 * v2 + 2) → (2 * v2 + 2 - w4 : Int).toNat < n9_2 → (∀ k, k < 20 → 0 ≤ gr8 k ∧ gr8 k ≤ 9) → (∀ k, k < 180 → 0 ≤ gt8 k ∧ gt8 k ≤ 19) → ((w3 = 0 ∧ TrI g_now (i 13).toNat gr8 gt8 v2 v1 ∧ NoT g_now (i 13).toNat gr8 v2 w4) ∨ (w3 = 1 ∧ TrI g_now (i 13).toNat gr8 gt8 (gtF g_now (gt8 (v1).toNat)) (v1 + 1))) → va_P G vwCl [((q 18), .inl (cI, 180, .inl (fun k => zI (gt8 k)))), (y, .inr (9, [.int (zI (i 0)), .ref (q 0), .int (zI (i 1)), .int (zI (i 2)), .int (zI (i 3)), .int (zI (i 4)), .int (zI (i 5)), .int (zI (i 6)), .int (zI (i 7)), .int (zI (i 8)), .int (zI (i 9)), .int (zI (i 10)), .ref (q 1), .int (zI (i 11)), .int (zI (i 12)), .ref (q 2), .ref (q 3), .ref (q 4), .ref (q 5), .ref (q 6), .ref (q 7), .ref (q 8), .ref (q 9), .ref (q 10), .ref (q 11), .ref (q 12), .ref (q 13), .ref (q 14), .ref (q 15), .ref (q 16), .int (zI (i 13)), .int (zI (i 14)), .int (zI (i 15)), .int (zI (i 16)), .int (zI (i 17)), .int (zI (i 18)), .ref (q 17), .ref (q 18), .ref (q 19), .ref (q 20)])), ((q 3), .inl (cI, 200, .inl (fun k => zI (g_now k)))), ((q 17), .inl (cI, 20, .inl (fun k => zI (gr8 k))))] H → va_D A [((q 18), .inl (cI, 180, .inl (fun k => zI (gt8 k)))), (y, .inr (9, [.int (zI (i 0)), .ref (q 0), .int (zI (i 1)), .int (zI (i 2)), .int (zI (i 3)), .int (zI (i 4)), .int (zI (i 5)), .int (zI (i 6)), .int (zI (i 7)), .int (zI (i 8)), .int (zI (i 9)), .int (zI (i 10)), .ref (q 1), .int (zI (i 11)), .int (zI (i 12)), .ref (q 2), .ref (q 3), .ref (q 4), .ref (q 5), .ref (q 6), .ref (q 7), .ref (q 8), .ref (q 9), .ref (q 10), .ref (q 11), .ref (q 12), .ref (q 13), .ref (q 14), .ref (q 15), .ref (q 16), .int (zI (i 13)), .int (zI (i 14)), .int (zI (i 15)), .int (zI (i 16)), .int (zI (i 17)), .int (zI (i 18)), .ref (q 17), .ref (q 18), .ref (q 19), .ref (q 20)])), ((q 3), .inl (cI, 200, .inl (fun k => zI (g_now k)))), ((q 17), .inl (cI, 20, .inl (fun k => zI (gr8 k))))] → va_S A s.heap H locs → ∀ ls : Array Slot, lv_has ls 5 [(4, .int (zI w4)), (3, .int (zI w3)), (2, .int (zI v2)), (1, .int (zI w1)), (0, .ref y)] → W p l e rm_X9_goTrailX s m ([.ref y] : List Value).toArray below meth c H locs 0 0 Q (F0 m 32 ls [])) ((2 * v2 + 2 - (2 * v2) : Int).toNat + 1) v1 0 (2 * v2) gr9 gt9 _ _ (by omega) (by omega) h_gr9 h_gt9 (Or.inl ⟨rfl, htr, NoT.init⟩) hP hD hS ls hl
        clear hP hD hS hl ls
        intro n9_2
        induction n9_2 with
        | zero =>
          intro w1 w3 w4 gr8 gt8 H locs hI hM
          exact absurd hM (by omega)
        | succ n9_2 ih2 =>
          intro w1 w3 w4 gr8 gt8 H locs hI2 hM2 h_gr8 h_gt8 hin hP hD hS ls hl
          refine lv_iload hx hb dX9_goTrail_32 (lv_at hl 0 rfl) ?_
          have hc14 := sumZ_pos (n := 20) (fun k hk => (h_gr8 k hk).1)
          refine lv_iconst (v := zI 2) hx hb dX9_goTrail_34 rfl ?_
          refine lv_iload_n hx hb dX9_goTrail_35 rfl (lv_at hl 2 rfl) ?_
          refine r_imul (v := zI (2 * v2)) F dX9_goTrail_36 (zI_mul _ _) ?_
          refine lv_iconst (v := zI 2) hx hb dX9_goTrail_37 rfl ?_
          refine r_iadd (v := zI ((2 * v2) + 2)) F dX9_goTrail_38 (zI_add _ _) ?_
          refine rz_icmp_ge (tgt := 119) F (by omega) (by omega) dX9_goTrail_39 (by decide) (fun h39_14 => ?_) (fun h39_14 => ?_)
          · refine lv_iload_n hx hb dX9_goTrail_119 rfl (lv_at hl 1 rfl) ?_
            refine rz_if_eq (tgt := 21) F (by omega) dX9_goTrail_120 (by decide) (fun h120_15 => ?_) (fun h120_15 => ?_)
            · exact ih1 w1 v2 w3 gr8 gt8 _ _ (by omega) (by omega) h_gr8 h_gt8 (Or.inr ⟨by omega, by
                rcases hin with ⟨_, q1, q2⟩ | ⟨q, _⟩
                · rw [show w1 = v1 by omega]; exact q1.fin (q2.fin (by omega) (by omega))
                · omega⟩) hP hD hS ls (lv_sub hl [1, 2, 3, 4] rfl)
            · refine lv_aload_n hx hb dX9_goTrail_123 rfl (lv_at hl 4 rfl) ?_
              refine r_get F hK hP 1 16 rfl rfl in_X9 (by decide) k_1179 rfl dX9_goTrail_124 ?_
              refine lv_aload_n hx hb dX9_goTrail_127 rfl (lv_at hl 4 rfl) ?_
              refine r_get F hK hP 1 37 rfl rfl in_X9 (by decide) k_1200 rfl dX9_goTrail_128 ?_
              refine lv_iload_n hx hb dX9_goTrail_131 rfl (lv_at hl 3 rfl) ?_
              refine lv_iconst (v := zI 1) hx hb dX9_goTrail_132 rfl ?_
              refine r_isub (v := zI (w1 - 1)) F dX9_goTrail_133 (zI_sub _ _) ?_
              refine rz_iald F hK hP 0 0 rfl rfl (by omega) (by omega) dX9_goTrail_134 ?_
              have h_l134_16 := h_gt8 ((w1 - 1)).toNat (by omega)
              refine r_callSi (As := [.ref (q 3), .int (zI (gt8 ((w1 - 1)).toNat))]) (rest := []) (wr := [((q 18), .inl (cI, 180, .inl (fun k => zI (gt8 k)))), (y, .inr (9, [.int (zI (i 0)), .ref (q 0), .int (zI (i 1)), .int (zI (i 2)), .int (zI (i 3)), .int (zI (i 4)), .int (zI (i 5)), .int (zI (i 6)), .int (zI (i 7)), .int (zI (i 8)), .int (zI (i 9)), .int (zI (i 10)), .ref (q 1), .int (zI (i 11)), .int (zI (i 12)), .ref (q 2), .ref (q 3), .ref (q 4), .ref (q 5), .ref (q 6), .ref (q 7), .ref (q 8), .ref (q 9), .ref (q 10), .ref (q 11), .ref (q 12), .ref (q 13), .ref (q 14), .ref (q 15), .ref (q 16), .int (zI (i 13)), .int (zI (i 14)), .int (zI (i 15)), .int (zI (i 16)), .int (zI (i 17)), .int (zI (i 18)), .ref (q 17), .ref (q 18), .ref (q 19), .ref (q 20)])), ((q 17), .inl (cI, 20, .inl (fun k => zI (gr8 k))))]) F hK hP hD hS hA hO hE (c_X9_gtX hO (q 3) g_now (gt8 ((w1 - 1)).toNat) (by omega) hpn (by omega)) k_1578 ks_X9_goesTo 2 rfl (by decide +kernel) ⟨Nat.le_of_ble_eq_true rfl, Nat.le_of_ble_eq_true rfl⟩ [2] [0, 1, 3] rfl rfl (by decide) (by decide) (by decide) hl.1 rfl (Nat.le_of_ble_eq_true rfl) dX9_goTrail_135 ⟨Nat.le_of_ble_eq_true rfl, Nat.le_of_ble_eq_true rfl⟩ (w1 := fun u18 => [((q 18), .inl (cI, 180, .inl (fun k => zI (gt8 k)))), (y, .inr (9, [.int (zI (i 0)), .ref (q 0), .int (zI (i 1)), .int (zI (i 2)), .int (zI (i 3)), .int (zI (i 4)), .int (zI (i 5)), .int (zI (i 6)), .int (zI (i 7)), .int (zI (i 8)), .int (zI (i 9)), .int (zI (i 10)), .ref (q 1), .int (zI (i 11)), .int (zI (i 12)), .ref (q 2), .ref (q 3), .ref (q 4), .ref (q 5), .ref (q 6), .ref (q 7), .ref (q 8), .ref (q 9), .ref (q 10), .ref (q 11), .ref (q 12), .ref (q 13), .ref (q 14), .ref (q 15), .ref (q 16), .int (zI (i 13)), .int (zI (i 14)), .int (zI (i 15)), .int (zI (i 16)), .int (zI (i 17)), .int (zI (i 18)), .ref (q 17), .ref (q 18), .ref (q 19), .ref (q 20)])), ((q 17), .inl (cI, 20, .inl (fun k => zI (gr8 k)))), ((q 3), .inl (cI, 200, .inl (fun k => zI (g_now k))))]) (fun _ => rfl) (fun r19 u18 H locs hp20 hP hD hS => ?_)
              obtain ⟨z21, rfl, h_z21⟩ := hp20
              have hgz := h_z21
              refine lv_istore_n (lv' := [(2, .int (zI z21)), (4, .int (zI w4)), (3, .int (zI w3)), (1, .int (zI w1)), (0, .ref y)]) hx hb dX9_goTrail_138 rfl hl (by decide) rfl (fun ls hl => ?_)
              refine lv_goto (tgt := 21) hx hb dX9_goTrail_139 (by decide) ?_
              have hP := bw_subP (isC := [0, 1, 3, 2]) (wc := [((q 18), .inl (cI, 180, .inl (fun k => zI (gt8 k)))), (y, .inr (9, [.int (zI (i 0)), .ref (q 0), .int (zI (i 1)), .int (zI (i 2)), .int (zI (i 3)), .int (zI (i 4)), .int (zI (i 5)), .int (zI (i 6)), .int (zI (i 7)), .int (zI (i 8)), .int (zI (i 9)), .int (zI (i 10)), .ref (q 1), .int (zI (i 11)), .int (zI (i 12)), .ref (q 2), .ref (q 3), .ref (q 4), .ref (q 5), .ref (q 6), .ref (q 7), .ref (q 8), .ref (q 9), .ref (q 10), .ref (q 11), .ref (q 12), .ref (q 13), .ref (q 14), .ref (q 15), .ref (q 16), .int (zI (i 13)), .int (zI (i 14)), .int (zI (i 15)), .int (zI (i 16)), .int (zI (i 17)), .int (zI (i 18)), .ref (q 17), .ref (q 18), .ref (q 19), .ref (q 20)])), ((q 3), .inl (cI, 200, .inl (fun k => zI (g_now k)))), ((q 17), .inl (cI, 20, .inl (fun k => zI (gr8 k))))]) hP rfl
              have hD := hD.sub (ws' := [((q 18), .inl (cI, 180, .inl (fun k => zI (gt8 k)))), (y, .inr (9, [.int (zI (i 0)), .ref (q 0), .int (zI (i 1)), .int (zI (i 2)), .int (zI (i 3)), .int (zI (i 4)), .int (zI (i 5)), .int (zI (i 6)), .int (zI (i 7)), .int (zI (i 8)), .int (zI (i 9)), .int (zI (i 10)), .ref (q 1), .int (zI (i 11)), .int (zI (i 12)), .ref (q 2), .ref (q 3), .ref (q 4), .ref (q 5), .ref (q 6), .ref (q 7), .ref (q 8), .ref (q 9), .ref (q 10), .ref (q 11), .ref (q 12), .ref (q 13), .ref (q 14), .ref (q 15), .ref (q 16), .int (zI (i 13)), .int (zI (i 14)), .int (zI (i 15)), .int (zI (i 16)), .int (zI (i 17)), .int (zI (i 18)), .ref (q 17), .ref (q 18), .ref (q 19), .ref (q 20)])), ((q 3), .inl (cI, 200, .inl (fun k => zI (g_now k)))), ((q 17), .inl (cI, 20, .inl (fun k => zI (gr8 k))))]) [0, 1, 3, 2] (by decide) rfl
              exact ih1 w1 z21 w3 gr8 gt8 _ _ (by omega) (by omega) h_gr8 h_gt8 (Or.inl ⟨by omega, by
                rcases hin with ⟨q, _⟩ | ⟨_, q2⟩
                · omega
                · rw [hgz.1, show (w1 - 1).toNat = (v1).toNat by omega, show w1 = v1 + 1 by omega]; exact q2⟩) hP hD hS ls (lv_sub hl [2, 0, 3, 4] rfl)
          · refine lv_iload_n hx hb dX9_goTrail_42 rfl (lv_at hl 1 rfl) ?_
            refine rz_if_ne (tgt := 119) F (by omega) dX9_goTrail_43 (by decide) (fun h43_21 => ?_) (fun h43_21 => ?_)
            · refine lv_iload_n hx hb dX9_goTrail_119 rfl (lv_at hl 1 rfl) ?_
              refine rz_if_eq (tgt := 21) F (by omega) dX9_goTrail_120 (by decide) (fun h120_22 => by omega) (fun h120_22 => ?_)
              refine lv_aload_n hx hb dX9_goTrail_123 rfl (lv_at hl 4 rfl) ?_
              refine r_get F hK hP 1 16 rfl rfl in_X9 (by decide) k_1179 rfl dX9_goTrail_124 ?_
              refine lv_aload_n hx hb dX9_goTrail_127 rfl (lv_at hl 4 rfl) ?_
              refine r_get F hK hP 1 37 rfl rfl in_X9 (by decide) k_1200 rfl dX9_goTrail_128 ?_
              refine lv_iload_n hx hb dX9_goTrail_131 rfl (lv_at hl 3 rfl) ?_
              refine lv_iconst (v := zI 1) hx hb dX9_goTrail_132 rfl ?_
              refine r_isub (v := zI (w1 - 1)) F dX9_goTrail_133 (zI_sub _ _) ?_
              refine rz_iald F hK hP 0 0 rfl rfl (by omega) (by omega) dX9_goTrail_134 ?_
              have h_l134_23 := h_gt8 ((w1 - 1)).toNat (by omega)
              refine r_callSi (As := [.ref (q 3), .int (zI (gt8 ((w1 - 1)).toNat))]) (rest := []) (wr := [((q 18), .inl (cI, 180, .inl (fun k => zI (gt8 k)))), (y, .inr (9, [.int (zI (i 0)), .ref (q 0), .int (zI (i 1)), .int (zI (i 2)), .int (zI (i 3)), .int (zI (i 4)), .int (zI (i 5)), .int (zI (i 6)), .int (zI (i 7)), .int (zI (i 8)), .int (zI (i 9)), .int (zI (i 10)), .ref (q 1), .int (zI (i 11)), .int (zI (i 12)), .ref (q 2), .ref (q 3), .ref (q 4), .ref (q 5), .ref (q 6), .ref (q 7), .ref (q 8), .ref (q 9), .ref (q 10), .ref (q 11), .ref (q 12), .ref (q 13), .ref (q 14), .ref (q 15), .ref (q 16), .int (zI (i 13)), .int (zI (i 14)), .int (zI (i 15)), .int (zI (i 16)), .int (zI (i 17)), .int (zI (i 18)), .ref (q 17), .ref (q 18), .ref (q 19), .ref (q 20)])), ((q 17), .inl (cI, 20, .inl (fun k => zI (gr8 k))))]) F hK hP hD hS hA hO hE (c_X9_gtX hO (q 3) g_now (gt8 ((w1 - 1)).toNat) (by omega) hpn (by omega)) k_1578 ks_X9_goesTo 2 rfl (by decide +kernel) ⟨Nat.le_of_ble_eq_true rfl, Nat.le_of_ble_eq_true rfl⟩ [2] [0, 1, 3] rfl rfl (by decide) (by decide) (by decide) hl.1 rfl (Nat.le_of_ble_eq_true rfl) dX9_goTrail_135 ⟨Nat.le_of_ble_eq_true rfl, Nat.le_of_ble_eq_true rfl⟩ (w1 := fun u25 => [((q 18), .inl (cI, 180, .inl (fun k => zI (gt8 k)))), (y, .inr (9, [.int (zI (i 0)), .ref (q 0), .int (zI (i 1)), .int (zI (i 2)), .int (zI (i 3)), .int (zI (i 4)), .int (zI (i 5)), .int (zI (i 6)), .int (zI (i 7)), .int (zI (i 8)), .int (zI (i 9)), .int (zI (i 10)), .ref (q 1), .int (zI (i 11)), .int (zI (i 12)), .ref (q 2), .ref (q 3), .ref (q 4), .ref (q 5), .ref (q 6), .ref (q 7), .ref (q 8), .ref (q 9), .ref (q 10), .ref (q 11), .ref (q 12), .ref (q 13), .ref (q 14), .ref (q 15), .ref (q 16), .int (zI (i 13)), .int (zI (i 14)), .int (zI (i 15)), .int (zI (i 16)), .int (zI (i 17)), .int (zI (i 18)), .ref (q 17), .ref (q 18), .ref (q 19), .ref (q 20)])), ((q 17), .inl (cI, 20, .inl (fun k => zI (gr8 k)))), ((q 3), .inl (cI, 200, .inl (fun k => zI (g_now k))))]) (fun _ => rfl) (fun r26 u25 H locs hp27 hP hD hS => ?_)
              obtain ⟨z28, rfl, h_z28⟩ := hp27
              have hgz := h_z28
              refine lv_istore_n (lv' := [(2, .int (zI z28)), (4, .int (zI w4)), (3, .int (zI w3)), (1, .int (zI w1)), (0, .ref y)]) hx hb dX9_goTrail_138 rfl hl (by decide) rfl (fun ls hl => ?_)
              refine lv_goto (tgt := 21) hx hb dX9_goTrail_139 (by decide) ?_
              have hP := bw_subP (isC := [0, 1, 3, 2]) (wc := [((q 18), .inl (cI, 180, .inl (fun k => zI (gt8 k)))), (y, .inr (9, [.int (zI (i 0)), .ref (q 0), .int (zI (i 1)), .int (zI (i 2)), .int (zI (i 3)), .int (zI (i 4)), .int (zI (i 5)), .int (zI (i 6)), .int (zI (i 7)), .int (zI (i 8)), .int (zI (i 9)), .int (zI (i 10)), .ref (q 1), .int (zI (i 11)), .int (zI (i 12)), .ref (q 2), .ref (q 3), .ref (q 4), .ref (q 5), .ref (q 6), .ref (q 7), .ref (q 8), .ref (q 9), .ref (q 10), .ref (q 11), .ref (q 12), .ref (q 13), .ref (q 14), .ref (q 15), .ref (q 16), .int (zI (i 13)), .int (zI (i 14)), .int (zI (i 15)), .int (zI (i 16)), .int (zI (i 17)), .int (zI (i 18)), .ref (q 17), .ref (q 18), .ref (q 19), .ref (q 20)])), ((q 3), .inl (cI, 200, .inl (fun k => zI (g_now k)))), ((q 17), .inl (cI, 20, .inl (fun k => zI (gr8 k))))]) hP rfl
              have hD := hD.sub (ws' := [((q 18), .inl (cI, 180, .inl (fun k => zI (gt8 k)))), (y, .inr (9, [.int (zI (i 0)), .ref (q 0), .int (zI (i 1)), .int (zI (i 2)), .int (zI (i 3)), .int (zI (i 4)), .int (zI (i 5)), .int (zI (i 6)), .int (zI (i 7)), .int (zI (i 8)), .int (zI (i 9)), .int (zI (i 10)), .ref (q 1), .int (zI (i 11)), .int (zI (i 12)), .ref (q 2), .ref (q 3), .ref (q 4), .ref (q 5), .ref (q 6), .ref (q 7), .ref (q 8), .ref (q 9), .ref (q 10), .ref (q 11), .ref (q 12), .ref (q 13), .ref (q 14), .ref (q 15), .ref (q 16), .int (zI (i 13)), .int (zI (i 14)), .int (zI (i 15)), .int (zI (i 16)), .int (zI (i 17)), .int (zI (i 18)), .ref (q 17), .ref (q 18), .ref (q 19), .ref (q 20)])), ((q 3), .inl (cI, 200, .inl (fun k => zI (g_now k)))), ((q 17), .inl (cI, 20, .inl (fun k => zI (gr8 k))))]) [0, 1, 3, 2] (by decide) rfl
              exact ih1 w1 z28 w3 gr8 gt8 _ _ (by omega) (by omega) h_gr8 h_gt8 (Or.inl ⟨by omega, by
                rcases hin with ⟨q, _⟩ | ⟨_, q2⟩
                · omega
                · rw [hgz.1, show (w1 - 1).toNat = (v1).toNat by omega, show w1 = v1 + 1 by omega]; exact q2⟩) hP hD hS ls (lv_sub hl [2, 0, 3, 4] rfl)
            · refine lv_aload_n hx hb dX9_goTrail_46 rfl (lv_at hl 4 rfl) ?_
              have hw8 : w3 = 0 ∧ TrI g_now (i 13).toNat gr8 gt8 v2 v1 ∧ NoT g_now (i 13).toNat gr8 v2 w4 := by
                rcases hin with q | ⟨q, _⟩
                · exact q
                · omega
              have htr8 := hw8.2.1
              have hno8 := hw8.2.2
              have hR8 := htr8.2.2.2.2.2
              have hrw := hR8 (w4).toNat (by omega)
              rw [show (((w4).toNat : Nat) : Int) = w4 by omega] at hrw
              refine r_get F hK hP 1 36 rfl rfl in_X9 (by decide) k_1199 rfl dX9_goTrail_47 ?_
              refine lv_iload hx hb dX9_goTrail_50 (lv_at hl 0 rfl) ?_
              refine rz_iald F hK hP 3 0 rfl rfl (by omega) (by omega) dX9_goTrail_52 ?_
              have h_l52_28 := h_gr8 (w4).toNat (by omega)
              refine rz_if_ne (tgt := 59) F (by omega) dX9_goTrail_53 (by decide) (fun h53_29 => ?_) (fun h53_29 => ?_)
              · refine lv_aload_n hx hb dX9_goTrail_59 rfl (lv_at hl 4 rfl) ?_
                refine r_get F hK hP 1 36 rfl rfl in_X9 (by decide) k_1199 rfl dX9_goTrail_60 ?_
                refine lv_iload hx hb dX9_goTrail_63 (lv_at hl 0 rfl) ?_
                refine lv_dup2_11 hx hb dX9_goTrail_65 rfl rfl ?_
                refine rz_iald F hK hP 3 0 rfl rfl (by omega) (by omega) dX9_goTrail_66 ?_
                have h_l66_30 := h_gr8 (w4).toNat (by omega)
                refine lv_iconst (v := zI 1) hx hb dX9_goTrail_67 rfl ?_
                refine r_isub (v := zI ((gr8 (w4).toNat) - 1)) F dX9_goTrail_68 (zI_sub _ _) ?_
                refine rz_iastG F hK hP hD hS 3 0 rfl rfl (by omega) (by omega) dX9_goTrail_69 (w1 := fun g32 => [((q 18), .inl (cI, 180, .inl (fun k => zI (gt8 k)))), (y, .inr (9, [.int (zI (i 0)), .ref (q 0), .int (zI (i 1)), .int (zI (i 2)), .int (zI (i 3)), .int (zI (i 4)), .int (zI (i 5)), .int (zI (i 6)), .int (zI (i 7)), .int (zI (i 8)), .int (zI (i 9)), .int (zI (i 10)), .ref (q 1), .int (zI (i 11)), .int (zI (i 12)), .ref (q 2), .ref (q 3), .ref (q 4), .ref (q 5), .ref (q 6), .ref (q 7), .ref (q 8), .ref (q 9), .ref (q 10), .ref (q 11), .ref (q 12), .ref (q 13), .ref (q 14), .ref (q 15), .ref (q 16), .int (zI (i 13)), .int (zI (i 14)), .int (zI (i 15)), .int (zI (i 16)), .int (zI (i 17)), .int (zI (i 18)), .ref (q 17), .ref (q 18), .ref (q 19), .ref (q 20)])), ((q 3), .inl (cI, 200, .inl (fun k => zI (g_now k)))), ((q 17), .inl (cI, 20, .inl (fun k => zI (g32 k))))]) (fun _ => rfl) (fun g32 e_g32 H locs hP hD hS => ?_)
                have h_g32 : ∀ k, k < 20 → 0 ≤ g32 k ∧ g32 k ≤ 9 := by rw [e_g32]; exact uZ_all (P := fun _ y9 => 0 ≤ y9 ∧ y9 ≤ 9) h_gr8 (fun _ => by omega)
                have hc33 : g32 (w4).toNat = ((gr8 (w4).toNat) - 1) := uZ_at e_g32 rfl
                have hc34 := sum_uZ e_g32 (by omega)
                have hc35 := sumZ_pos (n := 20) (fun k hk => (h_g32 k hk).1)
                have hdn8 : g32 = dnW gr8 (w4).toNat := e_g32
                have hRd : Rst g_now g32 := by rw [hdn8]; exact hR8.dn (by omega)
                refine lv_aload_n hx hb dX9_goTrail_70 rfl (lv_at hl 4 rfl) ?_
                refine lv_aload_n hx hb dX9_goTrail_71 rfl (lv_at hl 4 rfl) ?_
                refine r_get F hK hP 1 16 rfl rfl in_X9 (by decide) k_1179 rfl dX9_goTrail_72 ?_
                refine lv_iload hx hb dX9_goTrail_75 (lv_at hl 0 rfl) ?_
                refine r_callSi (As := [.ref (q 3), .int (zI w4)]) (rest := [.ref y]) (wr := [((q 18), .inl (cI, 180, .inl (fun k => zI (gt8 k)))), (y, .inr (9, [.int (zI (i 0)), .ref (q 0), .int (zI (i 1)), .int (zI (i 2)), .int (zI (i 3)), .int (zI (i 4)), .int (zI (i 5)), .int (zI (i 6)), .int (zI (i 7)), .int (zI (i 8)), .int (zI (i 9)), .int (zI (i 10)), .ref (q 1), .int (zI (i 11)), .int (zI (i 12)), .ref (q 2), .ref (q 3), .ref (q 4), .ref (q 5), .ref (q 6), .ref (q 7), .ref (q 8), .ref (q 9), .ref (q 10), .ref (q 11), .ref (q 12), .ref (q 13), .ref (q 14), .ref (q 15), .ref (q 16), .int (zI (i 13)), .int (zI (i 14)), .int (zI (i 15)), .int (zI (i 16)), .int (zI (i 17)), .int (zI (i 18)), .ref (q 17), .ref (q 18), .ref (q 19), .ref (q 20)])), ((q 17), .inl (cI, 20, .inl (fun k => zI (g32 k))))]) F hK hP hD hS hA hO hE (c_X9_gtX hO (q 3) g_now w4 (by omega) hpn (by omega)) k_1578 ks_X9_goesTo 2 rfl (by decide +kernel) ⟨Nat.le_of_ble_eq_true rfl, Nat.le_of_ble_eq_true rfl⟩ [2] [0, 1, 3] rfl rfl (by decide) (by decide) (by decide) hl.1 rfl (Nat.le_of_ble_eq_true rfl) dX9_goTrail_77 ⟨Nat.le_of_ble_eq_true rfl, Nat.le_of_ble_eq_true rfl⟩ (w1 := fun u36 => [((q 18), .inl (cI, 180, .inl (fun k => zI (gt8 k)))), (y, .inr (9, [.int (zI (i 0)), .ref (q 0), .int (zI (i 1)), .int (zI (i 2)), .int (zI (i 3)), .int (zI (i 4)), .int (zI (i 5)), .int (zI (i 6)), .int (zI (i 7)), .int (zI (i 8)), .int (zI (i 9)), .int (zI (i 10)), .ref (q 1), .int (zI (i 11)), .int (zI (i 12)), .ref (q 2), .ref (q 3), .ref (q 4), .ref (q 5), .ref (q 6), .ref (q 7), .ref (q 8), .ref (q 9), .ref (q 10), .ref (q 11), .ref (q 12), .ref (q 13), .ref (q 14), .ref (q 15), .ref (q 16), .int (zI (i 13)), .int (zI (i 14)), .int (zI (i 15)), .int (zI (i 16)), .int (zI (i 17)), .int (zI (i 18)), .ref (q 17), .ref (q 18), .ref (q 19), .ref (q 20)])), ((q 17), .inl (cI, 20, .inl (fun k => zI (g32 k)))), ((q 3), .inl (cI, 200, .inl (fun k => zI (g_now k))))]) (fun _ => rfl) (fun r37 u36 H locs hp38 hP hD hS => ?_)
                obtain ⟨z39, rfl, h_z39⟩ := hp38
                have hgz := h_z39
                have hgw : (z39).toNat = dW g_now (w4).toNat := by unfold dW; rw [show (((w4).toNat : Nat) : Int) = w4 by omega, hgz.1]
                refine r_callVi (As := [.int (zI z39)]) (rest := []) (wr := [((q 18), .inl (cI, 180, .inl (fun k => zI (gt8 k))))]) F hK hP hD hS hA hO hE (c_X9_isEvenX hO y q i hM g_now g32 h_g32 z39 (by omega) hpn (by omega) hLr hRd) k_1589 kv_X9_isEven 1 rfl (by decide +kernel) ⟨Nat.le_of_ble_eq_true rfl, Nat.le_of_ble_eq_true rfl⟩ [1, 3, 2] [0] rfl rfl (by decide) (by decide) (by decide) 0 9 rfl rfl rfl hl.1 rfl (Nat.le_of_ble_eq_true rfl) dX9_goTrail_80 ⟨Nat.le_of_ble_eq_true rfl, Nat.le_of_ble_eq_true rfl⟩ (w1 := fun u40 => [((q 18), .inl (cI, 180, .inl (fun k => zI (gt8 k)))), (y, .inr (9, [.int (zI (i 0)), .ref (q 0), .int (zI (i 1)), .int (zI (i 2)), .int (zI (i 3)), .int (zI (i 4)), .int (zI (i 5)), .int (zI (i 6)), .int (zI (i 7)), .int (zI (i 8)), .int (zI (i 9)), .int (zI (i 10)), .ref (q 1), .int (zI (i 11)), .int (zI (i 12)), .ref (q 2), .ref (q 3), .ref (q 4), .ref (q 5), .ref (q 6), .ref (q 7), .ref (q 8), .ref (q 9), .ref (q 10), .ref (q 11), .ref (q 12), .ref (q 13), .ref (q 14), .ref (q 15), .ref (q 16), .int (zI (i 13)), .int (zI (i 14)), .int (zI (i 15)), .int (zI (i 16)), .int (zI (i 17)), .int (zI (i 18)), .ref (q 17), .ref (q 18), .ref (q 19), .ref (q 20)])), ((q 3), .inl (cI, 200, .inl (fun k => zI (g_now k)))), ((q 17), .inl (cI, 20, .inl (fun k => zI (g32 k))))]) (fun _ => rfl) (fun r41 u40 H locs hp42 hP hD hS => ?_)
                obtain ⟨z43, rfl, h_z43⟩ := hp42
                have hev1 := h_z43
                have hc44 := hev1.1
                rw [hgw, hdn8] at hev1
                refine rz_ifb_ne (tgt := 100) F (by omega) dX9_goTrail_83 (by decide) (fun h83_44 => ?_) (fun h83_44 => ?_)
                · refine lv_aload_n hx hb dX9_goTrail_100 rfl (lv_at hl 4 rfl) ?_
                  refine r_get F hK hP 1 37 rfl rfl in_X9 (by decide) k_1200 rfl dX9_goTrail_101 ?_
                  refine lv_iload_n hx hb dX9_goTrail_104 rfl (lv_at hl 3 rfl) ?_
                  refine lv_iload hx hb dX9_goTrail_105 (lv_at hl 0 rfl) ?_
                  refine rz_iastG F hK hP hD hS 0 0 rfl rfl (by omega) (by omega) dX9_goTrail_107 (w1 := fun g46 => [((q 18), .inl (cI, 180, .inl (fun k => zI (g46 k)))), (y, .inr (9, [.int (zI (i 0)), .ref (q 0), .int (zI (i 1)), .int (zI (i 2)), .int (zI (i 3)), .int (zI (i 4)), .int (zI (i 5)), .int (zI (i 6)), .int (zI (i 7)), .int (zI (i 8)), .int (zI (i 9)), .int (zI (i 10)), .ref (q 1), .int (zI (i 11)), .int (zI (i 12)), .ref (q 2), .ref (q 3), .ref (q 4), .ref (q 5), .ref (q 6), .ref (q 7), .ref (q 8), .ref (q 9), .ref (q 10), .ref (q 11), .ref (q 12), .ref (q 13), .ref (q 14), .ref (q 15), .ref (q 16), .int (zI (i 13)), .int (zI (i 14)), .int (zI (i 15)), .int (zI (i 16)), .int (zI (i 17)), .int (zI (i 18)), .ref (q 17), .ref (q 18), .ref (q 19), .ref (q 20)])), ((q 3), .inl (cI, 200, .inl (fun k => zI (g_now k)))), ((q 17), .inl (cI, 20, .inl (fun k => zI (g32 k))))]) (fun _ => rfl) (fun g46 e_g46 H locs hP hD hS => ?_)
                  have h_g46 : ∀ k, k < 180 → 0 ≤ g46 k ∧ g46 k ≤ 19 := by rw [e_g46]; exact uZ_all (P := fun _ y9 => 0 ≤ y9 ∧ y9 ≤ 19) h_gt8 (fun _ => by omega)
                  refine lv_iinc (v := zI (w1 + 1)) (lv' := [(1, .int (zI (w1 + 1))), (4, .int (zI w4)), (3, .int (zI w3)), (2, .int (zI v2)), (0, .ref y)]) hx hb dX9_goTrail_108 hl (k := 3) rfl (zI_add _ _) (by decide) rfl (fun ls hl => ?_)
                  refine lv_iconst (v := zI 1) hx hb dX9_goTrail_111 rfl ?_
                  refine lv_istore_n (lv' := [(3, .int (zI 1)), (1, .int (zI (w1 + 1))), (4, .int (zI w4)), (2, .int (zI v2)), (0, .ref y)]) hx hb dX9_goTrail_112 rfl hl (by decide) rfl (fun ls hl => ?_)
                  refine lv_iinc (v := zI (w4 + 1)) (lv' := [(4, .int (zI (w4 + 1))), (3, .int (zI 1)), (1, .int (zI (w1 + 1))), (2, .int (zI v2)), (0, .ref y)]) hx hb dX9_goTrail_113 hl (k := 2) rfl (zI_add _ _) (by decide) rfl (fun ls hl => ?_)
                  refine lv_goto (tgt := 32) hx hb dX9_goTrail_116 (by decide) ?_
                  exact ih2 (w1 + 1) 1 (w4 + 1) g32 g46 _ _ (by omega) (by omega) h_g32 h_g46 (Or.inr ⟨by omega, by rw [show g46 (v1).toNat = w4 from uZ_at e_g46 (by omega)]; exact TrI.step htr8 (hno8.yes (by omega) (by omega) ⟨by omega, hev1.2.mp (by omega)⟩) (by omega) e_g32 (by rw [e_g46, show (w1).toNat = (v1).toNat by omega]) rfl (by have q8 := hgz; omega)⟩) hP hD hS ls (lv_sub hl [0, 1, 3, 2, 4] rfl)
                · refine lv_aload_n hx hb dX9_goTrail_86 rfl (lv_at hl 4 rfl) ?_
                  refine r_get F hK hP 1 36 rfl rfl in_X9 (by decide) k_1199 rfl dX9_goTrail_87 ?_
                  refine lv_iload hx hb dX9_goTrail_90 (lv_at hl 0 rfl) ?_
                  refine lv_dup2_11 hx hb dX9_goTrail_92 rfl rfl ?_
                  refine rz_iald F hK hP 3 0 rfl rfl (by omega) (by omega) dX9_goTrail_93 ?_
                  have h_l93_46 := h_g32 (w4).toNat (by omega)
                  refine lv_iconst (v := zI 1) hx hb dX9_goTrail_94 rfl ?_
                  refine r_iadd (v := zI ((g32 (w4).toNat) + 1)) F dX9_goTrail_95 (zI_add _ _) ?_
                  refine rz_iastG F hK hP hD hS 3 0 rfl rfl (by omega) (by omega) dX9_goTrail_96 (w1 := fun g48 => [((q 18), .inl (cI, 180, .inl (fun k => zI (gt8 k)))), (y, .inr (9, [.int (zI (i 0)), .ref (q 0), .int (zI (i 1)), .int (zI (i 2)), .int (zI (i 3)), .int (zI (i 4)), .int (zI (i 5)), .int (zI (i 6)), .int (zI (i 7)), .int (zI (i 8)), .int (zI (i 9)), .int (zI (i 10)), .ref (q 1), .int (zI (i 11)), .int (zI (i 12)), .ref (q 2), .ref (q 3), .ref (q 4), .ref (q 5), .ref (q 6), .ref (q 7), .ref (q 8), .ref (q 9), .ref (q 10), .ref (q 11), .ref (q 12), .ref (q 13), .ref (q 14), .ref (q 15), .ref (q 16), .int (zI (i 13)), .int (zI (i 14)), .int (zI (i 15)), .int (zI (i 16)), .int (zI (i 17)), .int (zI (i 18)), .ref (q 17), .ref (q 18), .ref (q 19), .ref (q 20)])), ((q 3), .inl (cI, 200, .inl (fun k => zI (g_now k)))), ((q 17), .inl (cI, 20, .inl (fun k => zI (g48 k))))]) (fun _ => rfl) (fun g48 e_g48 H locs hP hD hS => ?_)
                  have h_g48 : ∀ k, k < 20 → 0 ≤ g48 k ∧ g48 k ≤ 9 := by rw [e_g48]; exact uZ_all (P := fun _ y9 => 0 ≤ y9 ∧ y9 ≤ 9) h_g32 (fun _ => by omega)
                  have hc49 : g48 (w4).toNat = ((g32 (w4).toNat) + 1) := uZ_at e_g48 rfl
                  have hc50 := sum_uZ e_g48 (by omega)
                  have hc51 := sumZ_pos (n := 20) (fun k hk => (h_g48 k hk).1)
                  have hbk : g48 = gr8 := uZ_back e_g32 e_g48 (by omega)
                  refine lv_goto (tgt := 113) hx hb dX9_goTrail_97 (by decide) ?_
                  refine lv_iinc (v := zI (w4 + 1)) (lv' := [(4, .int (zI (w4 + 1))), (3, .int (zI w3)), (2, .int (zI v2)), (1, .int (zI w1)), (0, .ref y)]) hx hb dX9_goTrail_113 hl (k := 0) rfl (zI_add _ _) (by decide) rfl (fun ls hl => ?_)
                  refine lv_goto (tgt := 32) hx hb dX9_goTrail_116 (by decide) ?_
                  exact ih2 w1 w3 (w4 + 1) g48 gt8 _ _ (by omega) (by omega) h_g48 h_gt8 (Or.inl ⟨by omega, by rw [hbk]; exact htr8, by rw [hbk]; exact hno8.step (by omega) (by omega) (fun q9 => absurd (hev1.2.mpr q9.2) (by omega))⟩) hP hD hS ls (lv_sub hl [0, 1, 2, 3, 4] rfl)
              · refine lv_goto (tgt := 113) hx hb dX9_goTrail_56 (by decide) ?_
                refine lv_iinc (v := zI (w4 + 1)) (lv' := [(4, .int (zI (w4 + 1))), (3, .int (zI w3)), (2, .int (zI v2)), (1, .int (zI w1)), (0, .ref y)]) hx hb dX9_goTrail_113 hl (k := 0) rfl (zI_add _ _) (by decide) rfl (fun ls hl => ?_)
                refine lv_goto (tgt := 32) hx hb dX9_goTrail_116 (by decide) ?_
                exact ih2 w1 w3 (w4 + 1) gr8 gt8 _ _ (by omega) (by omega) h_gr8 h_gt8 (Or.inl ⟨by omega, htr8, hno8.step (by omega) (by omega) (fun q9 => by have q8 := q9.1; omega)⟩) hP hD hS ls (lv_sub hl [0, 1, 2, 3, 4] rfl)
  · refine lv_bipush (v := zI (-2)) hx hb dX9_goTrail_12 (by decide) ?_
    exact ret (zI (-2)) (fun k => [((fun _ => 0), fun _ _ => 0), (fun _ => 0, fun _ => ((u2 1).2 0)), (fun _ => 0, fun _ => g_trail)].getD k (fun _ => 0, fun _ _ => 0)) _ _ _ _ _ _ rfl ⟨(-2), rfl, hp3.1, hr_trail, ⟨by omega, Or.inr ⟨fun q9 => absurd (hev0.2.mpr (hEc.mpr q9)) (by omega), by omega⟩⟩⟩ (bw_subP (isC := [1, 2, 3, 0]) hP rfl) (hD.sub [1, 2, 3, 0] (by decide) rfl) hS (Nat.le_of_ble_eq_true rfl) (Nat.le_of_ble_eq_true rfl) dX9_goTrail_14
abbrev rm_X9_trailsX : Room := { frames := 3, cells := 0, slots := 0, locals := 74 }
set_option maxRecDepth 100000 in
set_option maxHeartbeats 8000000 in
theorem c_X9_trailsX {l : Launch} {E : (Nat → Prop) → State → Prop} (hO : bw_Ok E) {G : va_G} {cI cB cJ cN cW : ClassId} (y : Nat) (q : Nat → Nat) (i : Nat → Int) (hM : ModOk i) (g_now : Nat → Int) (g_rest : Nat → Int) (hr_rest : ∀ k, k < 20 → 0 ≤ g_rest k ∧ g_rest k ≤ 9) (g_trail : Nat → Int) (hr_trail : ∀ k, k < 180 → 0 ≤ g_trail k ∧ g_trail k ≤ 19) (hpn : ProgOk g_now) (hLr : LN g_now (i 13)) : bw_Ci (S := zV) l yX9_trails (bw_ws (Cond.code yX9_trails cX9_trails 1 (some .int))) rm_X9_trailsX E G (bw_kt cI cB cJ cN cW) [.ref y] [(y, .inr (9, [.int (zI (i 0)), .ref (q 0), .int (zI (i 1)), .int (zI (i 2)), .int (zI (i 3)), .int (zI (i 4)), .int (zI (i 5)), .int (zI (i 6)), .int (zI (i 7)), .int (zI (i 8)), .int (zI (i 9)), .int (zI (i 10)), .ref (q 1), .int (zI (i 11)), .int (zI (i 12)), .ref (q 2), .ref (q 3), .ref (q 4), .ref (q 5), .ref (q 6), .ref (q 7), .ref (q 8), .ref (q 9), .ref (q 10), .ref (q 11), .ref (q 12), .ref (q 13), .ref (q 14), .ref (q 15), .ref (q 16), .int (zI (i 13)), .int (zI (i 14)), .int (zI (i 15)), .int (zI (i 16)), .int (zI (i 17)), .int (zI (i 18)), .ref (q 17), .ref (q 18), .ref (q 19), .ref (q 20)])), ((q 3), .inl (cI, 200, .inl (fun k => zI (g_now k)))), ((q 17), .inl (cI, 20, .inl (fun k => zI (g_rest k)))), ((q 18), .inl (cI, 180, .inl (fun k => zI (g_trail k))))] (fun r u => ∃ z : Int, r = zI z ∧ (ModOk (u 0).1) ∧ (∀ k, k < 20 → 0 ≤ ((u 1).2 0) k ∧ ((u 1).2 0) k ≤ 9) ∧ (∀ k, k < 180 → 0 ≤ ((u 2).2 0) k ∧ ((u 2).2 0) k ≤ 19) ∧ ((((u 0).1 1 = i 1 ∧ (u 0).1 8 = i 8 ∧ (u 0).1 9 = i 9 ∧ (u 0).1 12 = i 12 ∧ (u 0).1 13 = i 13 ∧ (u 0).1 15 = i 15 ∧ (u 0).1 17 = i 17 ∧ (u 0).1 10 ≠ 4)) ∧ ((i 12 = 1 ∧ ∃ t : Nat → Int, TrA g_now (i 13).toNat z t) ∨ (¬ i 12 = 1 ∧ z = -1)))) (fun u => [(y, .inr (9, [.int (zI ((u 0).1 0)), .ref (q 0), .int (zI ((u 0).1 1)), .int (zI ((u 0).1 2)), .int (zI ((u 0).1 3)), .int (zI ((u 0).1 4)), .int (zI ((u 0).1 5)), .int (zI ((u 0).1 6)), .int (zI ((u 0).1 7)), .int (zI ((u 0).1 8)), .int (zI ((u 0).1 9)), .int (zI ((u 0).1 10)), .ref (q 1), .int (zI ((u 0).1 11)), .int (zI ((u 0).1 12)), .ref (q 2), .ref (q 3), .ref (q 4), .ref (q 5), .ref (q 6), .ref (q 7), .ref (q 8), .ref (q 9), .ref (q 10), .ref (q 11), .ref (q 12), .ref (q 13), .ref (q 14), .ref (q 15), .ref (q 16), .int (zI ((u 0).1 13)), .int (zI ((u 0).1 14)), .int (zI ((u 0).1 15)), .int (zI ((u 0).1 16)), .int (zI ((u 0).1 17)), .int (zI ((u 0).1 18)), .ref (q 17), .ref (q 18), .ref (q 19), .ref (q 20)])), ((q 3), .inl (cI, 200, .inl (fun k => zI (g_now k)))), ((q 17), .inl (cI, 20, .inl (fun k => zI (((u 1).2 0) k)))), ((q 18), .inl (cI, 180, .inl (fun k => zI (((u 2).2 0) k))))]) := by
  refine bw_Ci.of (cc := cX9_trails) (maxL := 1) (ty := .int) (by decide) rfl (Nat.le_of_ble_eq_true rfl) ?_
  intro p e s m below meth c A Q hx hb hml hts hown hin hK hA hS hP hD hE ret ls hl
  have F : CallFix p m c cX9_trails 1 s ([.ref y] : List Value).toArray bw_T RX9 := ⟨hx, hb, hml, hown, fun w h => hts w (List.mem_cons_of_mem _ h)⟩
  replace hl : lv_has ls 1 [(0, .ref y)] := hl
  have hf1 := hM.1
  refine lv_aload_n hx hb dX9_trails_0 rfl (lv_at hl 0 rfl) ?_
  refine r_callVv (As := []) (rest := []) (wr := [((q 3), .inl (cI, 200, .inl (fun k => zI (g_now k)))), ((q 17), .inl (cI, 20, .inl (fun k => zI (g_rest k)))), ((q 18), .inl (cI, 180, .inl (fun k => zI (g_trail k))))]) F hK hP hD hS hA hO hE (c_X9_good hO y q i hM) k_1292 kv_X9_good 0 rfl (by decide +kernel) ⟨Nat.le_of_ble_eq_true rfl, Nat.le_of_ble_eq_true rfl⟩ [0] [1, 2, 3] rfl rfl (by decide) (by decide) (by decide) 0 9 rfl rfl rfl hl.1 rfl (Nat.le_of_ble_eq_true rfl) dX9_trails_1 ⟨Nat.le_of_ble_eq_true rfl, Nat.le_of_ble_eq_true rfl⟩ (w1 := fun u2 => [((q 3), .inl (cI, 200, .inl (fun k => zI (g_now k)))), ((q 17), .inl (cI, 20, .inl (fun k => zI (g_rest k)))), ((q 18), .inl (cI, 180, .inl (fun k => zI (g_trail k)))), (y, .inr (9, [.int (zI ((u2 0).1 0)), .ref (q 0), .int (zI ((u2 0).1 1)), .int (zI ((u2 0).1 2)), .int (zI ((u2 0).1 3)), .int (zI ((u2 0).1 4)), .int (zI ((u2 0).1 5)), .int (zI ((u2 0).1 6)), .int (zI ((u2 0).1 7)), .int (zI ((u2 0).1 8)), .int (zI ((u2 0).1 9)), .int (zI ((u2 0).1 10)), .ref (q 1), .int (zI ((u2 0).1 11)), .int (zI ((u2 0).1 12)), .ref (q 2), .ref (q 3), .ref (q 4), .ref (q 5), .ref (q 6), .ref (q 7), .ref (q 8), .ref (q 9), .ref (q 10), .ref (q 11), .ref (q 12), .ref (q 13), .ref (q 14), .ref (q 15), .ref (q 16), .int (zI ((u2 0).1 13)), .int (zI ((u2 0).1 14)), .int (zI ((u2 0).1 15)), .int (zI ((u2 0).1 16)), .int (zI ((u2 0).1 17)), .int (zI ((u2 0).1 18)), .ref (q 17), .ref (q 18), .ref (q 19), .ref (q 20)]))]) (fun _ => rfl) (fun  u2 H locs hp3 hP hD hS => ?_)
  have hf4 := hp3.1.1
  refine lv_aload_n hx hb dX9_trails_4 rfl (lv_at hl 0 rfl) ?_
  refine r_get F hK hP 3 14 rfl rfl in_X9 (by decide) k_1177 rfl dX9_trails_5 ?_
  refine rz_ifb_eq (tgt := 18) F (by omega) dX9_trails_8 (by decide) (fun h8_4 => ?_) (fun h8_4 => ?_)
  · refine lv_aload_n hx hb dX9_trails_18 rfl (lv_at hl 0 rfl) ?_
    refine lv_iconst (v := zI 1) hx hb dX9_trails_19 rfl ?_
    refine r_callVi (As := [.int (zI 1)]) (rest := []) (wr := [((q 3), .inl (cI, 200, .inl (fun k => zI (g_now k)))), ((q 17), .inl (cI, 20, .inl (fun k => zI (g_rest k)))), ((q 18), .inl (cI, 180, .inl (fun k => zI (g_trail k))))]) F hK hP hD hS hA hO hE (c_X9_no hO y q ((u2 0).1) hp3.1 1 (by omega) (by omega)) k_1299 kv_X9_no 1 rfl (by decide +kernel) ⟨Nat.le_of_ble_eq_true rfl, Nat.le_of_ble_eq_true rfl⟩ [3] [0, 1, 2] rfl rfl (by decide) (by decide) (by decide) 0 9 rfl rfl rfl hl.1 rfl (Nat.le_of_ble_eq_true rfl) dX9_trails_20 ⟨Nat.le_of_ble_eq_true rfl, Nat.le_of_ble_eq_true rfl⟩ (w1 := fun u6 => [((q 3), .inl (cI, 200, .inl (fun k => zI (g_now k)))), ((q 17), .inl (cI, 20, .inl (fun k => zI (g_rest k)))), ((q 18), .inl (cI, 180, .inl (fun k => zI (g_trail k)))), (y, .inr (9, [.int (zI ((u6 0).1 0)), .ref (q 0), .int (zI ((u6 0).1 1)), .int (zI ((u6 0).1 2)), .int (zI ((u6 0).1 3)), .int (zI ((u6 0).1 4)), .int (zI ((u6 0).1 5)), .int (zI ((u6 0).1 6)), .int (zI ((u6 0).1 7)), .int (zI ((u6 0).1 8)), .int (zI ((u6 0).1 9)), .int (zI ((u6 0).1 10)), .ref (q 1), .int (zI ((u6 0).1 11)), .int (zI ((u6 0).1 12)), .ref (q 2), .ref (q 3), .ref (q 4), .ref (q 5), .ref (q 6), .ref (q 7), .ref (q 8), .ref (q 9), .ref (q 10), .ref (q 11), .ref (q 12), .ref (q 13), .ref (q 14), .ref (q 15), .ref (q 16), .int (zI ((u6 0).1 13)), .int (zI ((u6 0).1 14)), .int (zI ((u6 0).1 15)), .int (zI ((u6 0).1 16)), .int (zI ((u6 0).1 17)), .int (zI ((u6 0).1 18)), .ref (q 17), .ref (q 18), .ref (q 19), .ref (q 20)]))]) (fun _ => rfl) (fun r7 u6 H locs hp8 hP hD hS => ?_)
    obtain ⟨z9, rfl, h_z9⟩ := hp8
    have hf10 := h_z9.1.1
    exact ret (zI z9) (fun k => [((u6 0).1, fun _ _ => 0), (fun _ => 0, fun _ => g_rest), (fun _ => 0, fun _ => g_trail)].getD k (fun _ => 0, fun _ _ => 0)) _ _ _ _ _ _ rfl ⟨z9, rfl, h_z9.1, hr_rest, hr_trail, ⟨(show ((u6 0).1) 1 = i 1 ∧ ((u6 0).1) 8 = i 8 ∧ ((u6 0).1) 9 = i 9 ∧ ((u6 0).1) 12 = i 12 ∧ ((u6 0).1) 13 = i 13 ∧ ((u6 0).1) 15 = i 15 ∧ ((u6 0).1) 17 = i 17 ∧ ((u6 0).1) 10 ≠ 4 from by omega), (show (i 12 = 1 ∧ ∃ t : Nat → Int, TrA g_now (i 13).toNat (z9 : Int) t) ∨ (¬ i 12 = 1 ∧ (z9 : Int) = -1) from Or.inr ⟨by omega, by omega⟩)⟩⟩ (bw_subP (isC := [3, 0, 1, 2]) hP rfl) (hD.sub [3, 0, 1, 2] (by decide) rfl) hS (Nat.le_of_ble_eq_true rfl) (Nat.le_of_ble_eq_true rfl) dX9_trails_23
  · refine lv_aload_n hx hb dX9_trails_11 rfl (lv_at hl 0 rfl) ?_
    refine r_callVi (As := []) (rest := []) (wr := []) F hK hP hD hS hA hO hE (c_X9_goTrailX hO y q ((u2 0).1) hp3.1 g_now g_rest hr_rest g_trail hr_trail hpn (by rw [show ((u2 0).1) 13 = i 13 by omega]; exact hLr)) k_1601 kv_X9_goTrail 0 rfl (by decide +kernel) ⟨Nat.le_of_ble_eq_true rfl, Nat.le_of_ble_eq_true rfl⟩ [3, 0, 1, 2] [] rfl rfl (by decide) (by decide) (by decide) 0 9 rfl rfl rfl hl.1 rfl (Nat.le_of_ble_eq_true rfl) dX9_trails_12 ⟨Nat.le_of_ble_eq_true rfl, Nat.le_of_ble_eq_true rfl⟩ (w1 := fun u11 => [(y, .inr (9, [.int (zI ((u2 0).1 0)), .ref (q 0), .int (zI ((u2 0).1 1)), .int (zI ((u2 0).1 2)), .int (zI ((u2 0).1 3)), .int (zI ((u2 0).1 4)), .int (zI ((u2 0).1 5)), .int (zI ((u2 0).1 6)), .int (zI ((u2 0).1 7)), .int (zI ((u2 0).1 8)), .int (zI ((u2 0).1 9)), .int (zI ((u2 0).1 10)), .ref (q 1), .int (zI ((u2 0).1 11)), .int (zI ((u2 0).1 12)), .ref (q 2), .ref (q 3), .ref (q 4), .ref (q 5), .ref (q 6), .ref (q 7), .ref (q 8), .ref (q 9), .ref (q 10), .ref (q 11), .ref (q 12), .ref (q 13), .ref (q 14), .ref (q 15), .ref (q 16), .int (zI ((u2 0).1 13)), .int (zI ((u2 0).1 14)), .int (zI ((u2 0).1 15)), .int (zI ((u2 0).1 16)), .int (zI ((u2 0).1 17)), .int (zI ((u2 0).1 18)), .ref (q 17), .ref (q 18), .ref (q 19), .ref (q 20)])), ((q 3), .inl (cI, 200, .inl (fun k => zI (g_now k)))), ((q 17), .inl (cI, 20, .inl (fun k => zI (((u11 1).2 0) k)))), ((q 18), .inl (cI, 180, .inl (fun k => zI (((u11 2).2 0) k))))]) (fun _ => rfl) (fun r12 u11 H locs hp13 hP hD hS => ?_)
    obtain ⟨z14, rfl, h_z14⟩ := hp13
    have htra := h_z14.2.2.2
    have hc15 := h_z14.2.2.1
    rw [show ((u2 0).1) 13 = i 13 by omega] at htra
    refine lv_goto (tgt := 23) hx hb dX9_trails_15 (by decide) ?_
    exact ret (zI z14) (fun k => [((u2 0).1, fun _ _ => 0), (fun _ => 0, fun _ => ((u11 1).2 0)), (fun _ => 0, fun _ => ((u11 2).2 0))].getD k (fun _ => 0, fun _ _ => 0)) _ _ _ _ _ _ rfl ⟨z14, rfl, hp3.1, h_z14.1, h_z14.2.1, ⟨(show ((u2 0).1) 1 = i 1 ∧ ((u2 0).1) 8 = i 8 ∧ ((u2 0).1) 9 = i 9 ∧ ((u2 0).1) 12 = i 12 ∧ ((u2 0).1) 13 = i 13 ∧ ((u2 0).1) 15 = i 15 ∧ ((u2 0).1) 17 = i 17 ∧ ((u2 0).1) 10 ≠ 4 from by omega), (show (i 12 = 1 ∧ ∃ t : Nat → Int, TrA g_now (i 13).toNat (z14 : Int) t) ∨ (¬ i 12 = 1 ∧ (z14 : Int) = -1) from Or.inl ⟨by omega, _, htra⟩)⟩⟩ (bw_subP (isC := [0, 1, 2, 3]) hP rfl) (hD.sub [0, 1, 2, 3] (by decide) rfl) hS (Nat.le_of_ble_eq_true rfl) (Nat.le_of_ble_eq_true rfl) dX9_trails_23