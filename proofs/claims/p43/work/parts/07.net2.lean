theorem dX2_hangTogether_0 : decode cX2_hangTogether 0 = .ok (.iconst 1, 1) := bo_4 (by decide +kernel)
theorem dX2_hangTogether_1 : decode cX2_hangTogether 1 = .ok (.iload_n 2, 1) := bo_28 (by decide +kernel)
theorem dX2_hangTogether_2 : decode cX2_hangTogether 2 = .ok (.ishl, 1) := bo_120 (by decide +kernel)
theorem dX2_hangTogether_3 : decode cX2_hangTogether 3 = .ok (.istore_n 3, 1) := bo_62 (by decide +kernel)
theorem dX2_hangTogether_4 : decode cX2_hangTogether 4 = .ok (.iconst 0, 1) := bo_3 (by decide +kernel)
theorem dX2_hangTogether_5 : decode cX2_hangTogether 5 = .ok (.istore 4, 2) := bo_54 (by decide +kernel)
theorem dX2_hangTogether_7 : decode cX2_hangTogether 7 = .ok (.iload 4, 2) := bo_21 (by decide +kernel)
theorem dX2_hangTogether_9 : decode cX2_hangTogether 9 = .ok (.aload_n 0, 1) := bo_42 (by decide +kernel)
theorem dX2_hangTogether_10 : decode cX2_hangTogether 10 = .ok (.getfield 9, 3) := bo_180 0 9 (by decide +kernel)
theorem dX2_hangTogether_13 : decode cX2_hangTogether 13 = .ok (.if_icmp .ge 70, 3) := bo_162 0 70 (by decide +kernel)
theorem dX2_hangTogether_83 : decode cX2_hangTogether 83 = .ok (.iconst 0, 1) := bo_3 (by decide +kernel)
theorem dX2_hangTogether_84 : decode cX2_hangTogether 84 = .ok (.istore 4, 2) := bo_54 (by decide +kernel)
theorem dX2_hangTogether_86 : decode cX2_hangTogether 86 = .ok (.iload 4, 2) := bo_21 (by decide +kernel)
theorem dX2_hangTogether_88 : decode cX2_hangTogether 88 = .ok (.bipush 20, 2) := bo_16 20 (by decide +kernel)
theorem dX2_hangTogether_90 : decode cX2_hangTogether 90 = .ok (.if_icmp .ge 29, 3) := bo_162 0 29 (by decide +kernel)
theorem dX2_hangTogether_119 : decode cX2_hangTogether 119 = .ok (.iconst 1, 1) := bo_4 (by decide +kernel)
theorem dX2_hangTogether_120 : decode cX2_hangTogether 120 = .ok (.ireturn, 1) := bo_172 (by decide +kernel)
theorem dX2_hangTogether_93 : decode cX2_hangTogether 93 = .ok (.aload_n 1, 1) := bo_43 (by decide +kernel)
theorem dX2_hangTogether_94 : decode cX2_hangTogether 94 = .ok (.iload 4, 2) := bo_21 (by decide +kernel)
theorem dX2_hangTogether_96 : decode cX2_hangTogether 96 = .ok (.iaload, 1) := bo_46 (by decide +kernel)
theorem dX2_hangTogether_97 : decode cX2_hangTogether 97 = .ok (.ifCond .le 16, 3) := bo_158 0 16 (by decide +kernel)
theorem dX2_hangTogether_113 : decode cX2_hangTogether 113 = .ok (.iinc 4 1, 3) := bo_132 4 1 (by decide +kernel)
theorem dX2_hangTogether_116 : decode cX2_hangTogether 116 = .ok (.goto (-30), 3) := bo_167 255 226 (by decide +kernel)
theorem dX2_hangTogether_100 : decode cX2_hangTogether 100 = .ok (.iload_n 3, 1) := bo_29 (by decide +kernel)
theorem dX2_hangTogether_101 : decode cX2_hangTogether 101 = .ok (.iload 4, 2) := bo_21 (by decide +kernel)
theorem dX2_hangTogether_103 : decode cX2_hangTogether 103 = .ok (.iconst 2, 1) := bo_5 (by decide +kernel)
theorem dX2_hangTogether_104 : decode cX2_hangTogether 104 = .ok (.idiv, 1) := bo_108 (by decide +kernel)
theorem dX2_hangTogether_105 : decode cX2_hangTogether 105 = .ok (.ishr, 1) := bo_122 (by decide +kernel)
theorem dX2_hangTogether_106 : decode cX2_hangTogether 106 = .ok (.iconst 1, 1) := bo_4 (by decide +kernel)
theorem dX2_hangTogether_107 : decode cX2_hangTogether 107 = .ok (.iand, 1) := bo_126 (by decide +kernel)
theorem dX2_hangTogether_108 : decode cX2_hangTogether 108 = .ok (.ifCond .ne 5, 3) := bo_154 0 5 (by decide +kernel)
theorem dX2_hangTogether_111 : decode cX2_hangTogether 111 = .ok (.iconst 0, 1) := bo_3 (by decide +kernel)
theorem dX2_hangTogether_112 : decode cX2_hangTogether 112 = .ok (.ireturn, 1) := bo_172 (by decide +kernel)
theorem dX2_hangTogether_16 : decode cX2_hangTogether 16 = .ok (.iconst 0, 1) := bo_3 (by decide +kernel)
theorem dX2_hangTogether_17 : decode cX2_hangTogether 17 = .ok (.istore 5, 2) := bo_54 (by decide +kernel)
theorem dX2_hangTogether_19 : decode cX2_hangTogether 19 = .ok (.iload 5, 2) := bo_21 (by decide +kernel)
theorem dX2_hangTogether_21 : decode cX2_hangTogether 21 = .ok (.bipush 20, 2) := bo_16 20 (by decide +kernel)
theorem dX2_hangTogether_23 : decode cX2_hangTogether 23 = .ok (.if_icmp .ge 54, 3) := bo_162 0 54 (by decide +kernel)
theorem dX2_hangTogether_77 : decode cX2_hangTogether 77 = .ok (.iinc 4 1, 3) := bo_132 4 1 (by decide +kernel)
theorem dX2_hangTogether_80 : decode cX2_hangTogether 80 = .ok (.goto (-73), 3) := bo_167 255 183 (by decide +kernel)
theorem dX2_hangTogether_26 : decode cX2_hangTogether 26 = .ok (.aload_n 1, 1) := bo_43 (by decide +kernel)
theorem dX2_hangTogether_27 : decode cX2_hangTogether 27 = .ok (.iload 5, 2) := bo_21 (by decide +kernel)
theorem dX2_hangTogether_29 : decode cX2_hangTogether 29 = .ok (.iaload, 1) := bo_46 (by decide +kernel)
theorem dX2_hangTogether_30 : decode cX2_hangTogether 30 = .ok (.ifCond .le 22, 3) := bo_158 0 22 (by decide +kernel)
theorem dX2_hangTogether_52 : decode cX2_hangTogether 52 = .ok (.iconst 0, 1) := bo_3 (by decide +kernel)
theorem dX2_hangTogether_53 : decode cX2_hangTogether 53 = .ok (.istore 6, 2) := bo_54 (by decide +kernel)
theorem dX2_hangTogether_55 : decode cX2_hangTogether 55 = .ok (.iload_n 3, 1) := bo_29 (by decide +kernel)
theorem dX2_hangTogether_56 : decode cX2_hangTogether 56 = .ok (.iload_n 3, 1) := bo_29 (by decide +kernel)
theorem dX2_hangTogether_57 : decode cX2_hangTogether 57 = .ok (.iload 6, 2) := bo_21 (by decide +kernel)
theorem dX2_hangTogether_59 : decode cX2_hangTogether 59 = .ok (.iand, 1) := bo_126 (by decide +kernel)
theorem dX2_hangTogether_60 : decode cX2_hangTogether 60 = .ok (.ifCond .eq 8, 3) := bo_153 0 8 (by decide +kernel)
theorem dX2_hangTogether_68 : decode cX2_hangTogether 68 = .ok (.iconst 0, 1) := bo_3 (by decide +kernel)
theorem dX2_hangTogether_69 : decode cX2_hangTogether 69 = .ok (.ior, 1) := bo_128 (by decide +kernel)
theorem dX2_hangTogether_70 : decode cX2_hangTogether 70 = .ok (.istore_n 3, 1) := bo_62 (by decide +kernel)
theorem dX2_hangTogether_71 : decode cX2_hangTogether 71 = .ok (.iinc 5 1, 3) := bo_132 5 1 (by decide +kernel)
theorem dX2_hangTogether_74 : decode cX2_hangTogether 74 = .ok (.goto (-55), 3) := bo_167 255 201 (by decide +kernel)
theorem dX2_hangTogether_63 : decode cX2_hangTogether 63 = .ok (.iload 6, 2) := bo_21 (by decide +kernel)
theorem dX2_hangTogether_65 : decode cX2_hangTogether 65 = .ok (.goto 4, 3) := bo_167 0 4 (by decide +kernel)
theorem dX2_hangTogether_33 : decode cX2_hangTogether 33 = .ok (.iconst 1, 1) := bo_4 (by decide +kernel)
theorem dX2_hangTogether_34 : decode cX2_hangTogether 34 = .ok (.iload 5, 2) := bo_21 (by decide +kernel)
theorem dX2_hangTogether_36 : decode cX2_hangTogether 36 = .ok (.iconst 2, 1) := bo_5 (by decide +kernel)
theorem dX2_hangTogether_37 : decode cX2_hangTogether 37 = .ok (.idiv, 1) := bo_108 (by decide +kernel)
theorem dX2_hangTogether_38 : decode cX2_hangTogether 38 = .ok (.ishl, 1) := bo_120 (by decide +kernel)
theorem dX2_hangTogether_39 : decode cX2_hangTogether 39 = .ok (.iconst 1, 1) := bo_4 (by decide +kernel)
theorem dX2_hangTogether_40 : decode cX2_hangTogether 40 = .ok (.aload_n 0, 1) := bo_42 (by decide +kernel)
theorem dX2_hangTogether_41 : decode cX2_hangTogether 41 = .ok (.getfield 34, 3) := bo_180 0 34 (by decide +kernel)
theorem dX2_hangTogether_44 : decode cX2_hangTogether 44 = .ok (.iload 5, 2) := bo_21 (by decide +kernel)
theorem dX2_hangTogether_46 : decode cX2_hangTogether 46 = .ok (.iaload, 1) := bo_46 (by decide +kernel)
theorem dX2_hangTogether_47 : decode cX2_hangTogether 47 = .ok (.ishl, 1) := bo_120 (by decide +kernel)
theorem dX2_hangTogether_48 : decode cX2_hangTogether 48 = .ok (.ior, 1) := bo_128 (by decide +kernel)
theorem dX2_hangTogether_49 : decode cX2_hangTogether 49 = .ok (.goto 4, 3) := bo_167 0 4 (by decide +kernel)
abbrev rm_X2_hangSelf : Room := { frames := 0, cells := 0, slots := 0, locals := 0 }
set_option maxRecDepth 100000 in
set_option maxHeartbeats 8000000 in
theorem c_X2_hangSelf {l : Launch} {E : (Nat → Prop) → State → Prop} (hO : bw_Ok E) {G : va_G} {cI cB cJ cN cW : ClassId} (b : Nat) (q : Nat → Nat) (n : Int) (g : Nat → Nat → Int) (hN : NetOk n g) (x : Int) (hx9 : zR x) : bw_Ci (S := zU) l yX2_hangTogether (bw_ws (Cond.code yX2_hangTogether cX2_hangTogether 7 (some .boolean))) rm_X2_hangSelf E G (bw_kt cI cB cJ cN cW) [.ref b, .ref (q 7), .int (zI x)] [(b, .inr (2, [.int (zI n), .ref (q 0), .ref (q 1), .ref (q 2), .ref (q 3), .ref (q 4), .ref (q 5), .ref (q 6), .ref (q 7)])), ((q 0), .inl (cI, 10, .inl (fun k => zI ((g 0) k)))), ((q 1), .inl (cI, 10, .inl (fun k => zI ((g 1) k)))), ((q 2), .inl (cI, 10, .inl (fun k => zI ((g 2) k)))), ((q 3), .inl (cI, 40, .inl (fun k => zI ((g 3) k)))), ((q 4), .inl (cI, 40, .inl (fun k => zI ((g 4) k)))), ((q 5), .inl (cI, 40, .inl (fun k => zI ((g 5) k)))), ((q 6), .inl (cI, 20, .inl (fun k => zI ((g 6) k)))), ((q 7), .inl (cI, 20, .inl (fun k => zI ((g 7) k))))] (fun r _ => ∃ z : Int, r = zI z ∧ (z = 0 ∨ z = 1)) (fun _ => [(b, .inr (2, [.int (zI n), .ref (q 0), .ref (q 1), .ref (q 2), .ref (q 3), .ref (q 4), .ref (q 5), .ref (q 6), .ref (q 7)])), ((q 0), .inl (cI, 10, .inl (fun k => zI ((g 0) k)))), ((q 1), .inl (cI, 10, .inl (fun k => zI ((g 1) k)))), ((q 2), .inl (cI, 10, .inl (fun k => zI ((g 2) k)))), ((q 3), .inl (cI, 40, .inl (fun k => zI ((g 3) k)))), ((q 4), .inl (cI, 40, .inl (fun k => zI ((g 4) k)))), ((q 5), .inl (cI, 40, .inl (fun k => zI ((g 5) k)))), ((q 6), .inl (cI, 20, .inl (fun k => zI ((g 6) k)))), ((q 7), .inl (cI, 20, .inl (fun k => zI ((g 7) k))))]) := by
  refine bw_Ci.of (cc := cX2_hangTogether) (maxL := 7) (ty := .boolean) (by decide) rfl (Nat.le_of_ble_eq_true rfl) ?_
  intro p e s m below meth c A Q hx hb hml hts hown hin hK hA hS hP hD hE ret ls hl
  have F : CallFix p m c cX2_hangTogether 7 s ([.ref b, .ref (q 7), .int (zI x)] : List Value).toArray bw_T RX2 := ⟨hx, hb, hml, hown, fun w h => hts w (List.mem_cons_of_mem _ h)⟩
  replace hl : lv_has ls 7 [(0, .ref b), (1, .ref (q 7)), (2, .int (zI x))] := hl
  have hN0 := hN.1
  refine lv_iconst (v := zI 1) hx hb dX2_hangTogether_0 rfl ?_
  refine lv_iload_n hx hb dX2_hangTogether_1 rfl (lv_at hl 2 rfl) ?_
  refine lv_ishl hx hb dX2_hangTogether_2 ?_
  refine rz_top (fun z1 h_z1 => ?_)
  refine lv_istore_n (lv' := [(3, .int (zI z1)), (0, .ref b), (1, .ref (q 7)), (2, .int (zI x))]) hx hb dX2_hangTogether_3 rfl hl (by decide) rfl (fun ls hl => ?_)
  refine lv_iconst (v := zI 0) hx hb dX2_hangTogether_4 rfl ?_
  refine lv_istore (lv' := [(4, .int (zI 0)), (3, .int (zI z1)), (0, .ref b), (1, .ref (q 7)), (2, .int (zI x))]) hx hb dX2_hangTogether_5 hl (by decide) rfl (fun ls hl => ?_)
  refine W.widen (k := 0) (n := 0) (Nat.le_of_ble_eq_true rfl) (Nat.le_of_ble_eq_true rfl) ?_
  refine (?_ : ∀ (n9_1 : Nat) (v3 : Int) (v4 : Int) (H : Heap) (locs : List Loc), (0 ≤ v4 ∧ v4 ≤ n) → (n - v4 : Int).toNat < n9_1 → va_P G vwCl [(b, .inr (2, [.int (zI n), .ref (q 0), .ref (q 1), .ref (q 2), .ref (q 3), .ref (q 4), .ref (q 5), .ref (q 6), .ref (q 7)])), ((q 0), .inl (cI, 10, .inl (fun k => zI ((g 0) k)))), ((q 1), .inl (cI, 10, .inl (fun k => zI ((g 1) k)))), ((q 2), .inl (cI, 10, .inl (fun k => zI ((g 2) k)))), ((q 3), .inl (cI, 40, .inl (fun k => zI ((g 3) k)))), ((q 4), .inl (cI, 40, .inl (fun k => zI ((g 4) k)))), ((q 5), .inl (cI, 40, .inl (fun k => zI ((g 5) k)))), ((q 6), .inl (cI, 20, .inl (fun k => zI ((g 6) k)))), ((q 7), .inl (cI, 20, .inl (fun k => zI ((g 7) k))))] H → va_D A [(b, .inr (2, [.int (zI n), .ref (q 0), .ref (q 1), .ref (q 2), .ref (q 3), .ref (q 4), .ref (q 5), .ref (q 6), .ref (q 7)])), ((q 0), .inl (cI, 10, .inl (fun k => zI ((g 0) k)))), ((q 1), .inl (cI, 10, .inl (fun k => zI ((g 1) k)))), ((q 2), .inl (cI, 10, .inl (fun k => zI ((g 2) k)))), ((q 3), .inl (cI, 40, .inl (fun k => zI ((g 3) k)))), ((q 4), .inl (cI, 40, .inl (fun k => zI ((g 4) k)))), ((q 5), .inl (cI, 40, .inl (fun k => zI ((g 5) k)))), ((q 6), .inl (cI, 20, .inl (fun k => zI ((g 6) k)))), ((q 7), .inl (cI, 20, .inl (fun k => zI ((g 7) k))))] → va_S A s.heap H locs → ∀ ls : Array Slot, lv_has ls 7 [(4, .int (zI v4)), (3, .int (zI v3)), (0, .ref b), (1, .ref (q 7)), (2, .int (zI x))] → W p l e rm_X2_hangSelf s m ([.ref b, .ref (q 7), .int (zI x)] : List Value).toArray below meth c H locs 0 0 Q (F0 m 7 ls [])) ((n - 0 : Int).toNat + 1) z1 0 _ _ (by omega) (by omega) hP hD hS ls hl
  clear hP hD hS hl ls
  intro n9_1
  induction n9_1 with
  | zero =>
    intro v3 v4 H locs hI hM
    exact absurd hM (by omega)
  | succ n9_1 ih1 =>
    intro v3 v4 H locs hI1 hM1  hP hD hS ls hl
    refine lv_iload hx hb dX2_hangTogether_7 (lv_at hl 0 rfl) ?_
    refine lv_aload_n hx hb dX2_hangTogether_9 rfl (lv_at hl 2 rfl) ?_
    refine r_get F hK hP 0 0 rfl rfl in_X2 (by decide) k_144 rfl dX2_hangTogether_10 ?_
    refine rz_icmp_ge (tgt := 83) F (by omega) (by omega) dX2_hangTogether_13 (by decide) (fun h13_1 => ?_) (fun h13_1 => ?_)
    · refine lv_iconst (v := zI 0) hx hb dX2_hangTogether_83 rfl ?_
      refine lv_istore (lv' := [(4, .int (zI 0)), (3, .int (zI v3)), (0, .ref b), (1, .ref (q 7)), (2, .int (zI x))]) hx hb dX2_hangTogether_84 hl (by decide) rfl (fun ls hl => ?_)
      refine W.widen (k := 0) (n := 0) (Nat.le_of_ble_eq_true rfl) (Nat.le_of_ble_eq_true rfl) ?_
      refine (?_ : ∀ (n9_2 : Nat) (v4 : Int) (H : Heap) (locs : List Loc), (0 ≤ v4 ∧ v4 ≤ 20) → (20 - v4 : Int).toNat < n9_2 → va_P G vwCl [(b, .inr (2, [.int (zI n), .ref (q 0), .ref (q 1), .ref (q 2), .ref (q 3), .ref (q 4), .ref (q 5), .ref (q 6), .ref (q 7)])), ((q 0), .inl (cI, 10, .inl (fun k => zI ((g 0) k)))), ((q 1), .inl (cI, 10, .inl (fun k => zI ((g 1) k)))), ((q 2), .inl (cI, 10, .inl (fun k => zI ((g 2) k)))), ((q 3), .inl (cI, 40, .inl (fun k => zI ((g 3) k)))), ((q 4), .inl (cI, 40, .inl (fun k => zI ((g 4) k)))), ((q 5), .inl (cI, 40, .inl (fun k => zI ((g 5) k)))), ((q 6), .inl (cI, 20, .inl (fun k => zI ((g 6) k)))), ((q 7), .inl (cI, 20, .inl (fun k => zI ((g 7) k))))] H → va_D A [(b, .inr (2, [.int (zI n), .ref (q 0), .ref (q 1), .ref (q 2), .ref (q 3), .ref (q 4), .ref (q 5), .ref (q 6), .ref (q 7)])), ((q 0), .inl (cI, 10, .inl (fun k => zI ((g 0) k)))), ((q 1), .inl (cI, 10, .inl (fun k => zI ((g 1) k)))), ((q 2), .inl (cI, 10, .inl (fun k => zI ((g 2) k)))), ((q 3), .inl (cI, 40, .inl (fun k => zI ((g 3) k)))), ((q 4), .inl (cI, 40, .inl (fun k => zI ((g 4) k)))), ((q 5), .inl (cI, 40, .inl (fun k => zI ((g 5) k)))), ((q 6), .inl (cI, 20, .inl (fun k => zI ((g 6) k)))), ((q 7), .inl (cI, 20, .inl (fun k => zI ((g 7) k))))] → va_S A s.heap H locs → ∀ ls : Array Slot, lv_has ls 7 [(4, .int (zI v4)), (3, .int (zI v3)), (0, .ref b), (1, .ref (q 7)), (2, .int (zI x))] → W p l e rm_X2_hangSelf s m ([.ref b, .ref (q 7), .int (zI x)] : List Value).toArray below meth c H locs 0 0 Q (F0 m 86 ls [])) ((20 - 0 : Int).toNat + 1) 0 _ _ (by omega) (by omega) hP hD hS ls hl
      clear hP hD hS hl ls
      intro n9_2
      induction n9_2 with
      | zero =>
        intro v4 H locs hI hM
        exact absurd hM (by omega)
      | succ n9_2 ih2 =>
        intro v4 H locs hI2 hM2  hP hD hS ls hl
        refine lv_iload hx hb dX2_hangTogether_86 (lv_at hl 0 rfl) ?_
        refine lv_bipush (v := zI 20) hx hb dX2_hangTogether_88 (by decide) ?_
        refine rz_icmp_ge (tgt := 119) F (by omega) (by omega) dX2_hangTogether_90 (by decide) (fun h90_2 => ?_) (fun h90_2 => ?_)
        · refine lv_iconst (v := zI 1) hx hb dX2_hangTogether_119 rfl ?_
          exact ret (zI 1) (fun _ => 0, fun _ _ => 0) _ _ _ _ _ _ rfl ⟨1, rfl, by omega⟩ (bw_subP (isC := [0, 1, 2, 3, 4, 5, 6, 7, 8]) hP rfl) (hD.sub [0, 1, 2, 3, 4, 5, 6, 7, 8] (by decide) rfl) hS (Nat.le_of_ble_eq_true rfl) (Nat.le_of_ble_eq_true rfl) dX2_hangTogether_120
        · refine lv_aload_n hx hb dX2_hangTogether_93 rfl (lv_at hl 3 rfl) ?_
          refine lv_iload hx hb dX2_hangTogether_94 (lv_at hl 0 rfl) ?_
          refine rz_iald F hK hP 8 0 rfl rfl (by omega) (by omega) dX2_hangTogether_96 ?_
          have h_l96_3 := hN.2.2.2.2.2.2.2.2 (v4).toNat (by omega)
          refine rz_if_le (tgt := 113) F (by omega) dX2_hangTogether_97 (by decide) (fun h97_4 => ?_) (fun h97_4 => ?_)
          · refine lv_iinc (v := zI (v4 + 1)) (lv' := [(4, .int (zI (v4 + 1))), (3, .int (zI v3)), (0, .ref b), (1, .ref (q 7)), (2, .int (zI x))]) hx hb dX2_hangTogether_113 hl (k := 0) rfl (zI_add _ _) (by decide) rfl (fun ls hl => ?_)
            refine lv_goto (tgt := 86) hx hb dX2_hangTogether_116 (by decide) ?_
            exact ih2 (v4 + 1) _ _ (by omega) (by omega) hP hD hS ls (lv_sub hl [0, 1, 2, 3, 4] rfl)
          · refine lv_iload_n hx hb dX2_hangTogether_100 rfl (lv_at hl 1 rfl) ?_
            refine lv_iload hx hb dX2_hangTogether_101 (lv_at hl 0 rfl) ?_
            refine lv_iconst (v := zI 2) hx hb dX2_hangTogether_103 rfl ?_
            refine rz_idiv F (by omega) (by omega) dX2_hangTogether_104 (fun z6 h_z6 => ?_)
            refine lv_ishr hx hb dX2_hangTogether_105 ?_
            refine rz_top (fun z7 h_z7 => ?_)
            refine lv_iconst (v := zI 1) hx hb dX2_hangTogether_106 rfl ?_
            refine lv_iand hx hb dX2_hangTogether_107 ?_
            refine rz_top (fun z8 h_z8 => ?_)
            refine rz_if_ne (tgt := 113) F (by omega) dX2_hangTogether_108 (by decide) (fun h108_8 => ?_) (fun h108_8 => ?_)
            · refine lv_iinc (v := zI (v4 + 1)) (lv' := [(4, .int (zI (v4 + 1))), (3, .int (zI v3)), (0, .ref b), (1, .ref (q 7)), (2, .int (zI x))]) hx hb dX2_hangTogether_113 hl (k := 0) rfl (zI_add _ _) (by decide) rfl (fun ls hl => ?_)
              refine lv_goto (tgt := 86) hx hb dX2_hangTogether_116 (by decide) ?_
              exact ih2 (v4 + 1) _ _ (by omega) (by omega) hP hD hS ls (lv_sub hl [0, 1, 2, 3, 4] rfl)
            · refine lv_iconst (v := zI 0) hx hb dX2_hangTogether_111 rfl ?_
              exact ret (zI 0) (fun _ => 0, fun _ _ => 0) _ _ _ _ _ _ rfl ⟨0, rfl, by omega⟩ (bw_subP (isC := [0, 1, 2, 3, 4, 5, 6, 7, 8]) hP rfl) (hD.sub [0, 1, 2, 3, 4, 5, 6, 7, 8] (by decide) rfl) hS (Nat.le_of_ble_eq_true rfl) (Nat.le_of_ble_eq_true rfl) dX2_hangTogether_112
    · refine lv_iconst (v := zI 0) hx hb dX2_hangTogether_16 rfl ?_
      refine lv_istore (lv' := [(5, .int (zI 0)), (4, .int (zI v4)), (3, .int (zI v3)), (0, .ref b), (1, .ref (q 7)), (2, .int (zI x))]) hx hb dX2_hangTogether_17 hl (by decide) rfl (fun ls hl => ?_)
      refine W.widen (k := 0) (n := 0) (Nat.le_of_ble_eq_true rfl) (Nat.le_of_ble_eq_true rfl) ?_
      refine (?_ : ∀ (n9_2 : Nat) (v3 : Int) (v5 : Int) (H : Heap) (locs : List Loc), (0 ≤ v5 ∧ v5 ≤ 20) → (20 - v5 : Int).toNat < n9_2 → va_P G vwCl [(b, .inr (2, [.int (zI n), .ref (q 0), .ref (q 1), .ref (q 2), .ref (q 3), .ref (q 4), .ref (q 5), .ref (q 6), .ref (q 7)])), ((q 0), .inl (cI, 10, .inl (fun k => zI ((g 0) k)))), ((q 1), .inl (cI, 10, .inl (fun k => zI ((g 1) k)))), ((q 2), .inl (cI, 10, .inl (fun k => zI ((g 2) k)))), ((q 3), .inl (cI, 40, .inl (fun k => zI ((g 3) k)))), ((q 4), .inl (cI, 40, .inl (fun k => zI ((g 4) k)))), ((q 5), .inl (cI, 40, .inl (fun k => zI ((g 5) k)))), ((q 6), .inl (cI, 20, .inl (fun k => zI ((g 6) k)))), ((q 7), .inl (cI, 20, .inl (fun k => zI ((g 7) k))))] H → va_D A [(b, .inr (2, [.int (zI n), .ref (q 0), .ref (q 1), .ref (q 2), .ref (q 3), .ref (q 4), .ref (q 5), .ref (q 6), .ref (q 7)])), ((q 0), .inl (cI, 10, .inl (fun k => zI ((g 0) k)))), ((q 1), .inl (cI, 10, .inl (fun k => zI ((g 1) k)))), ((q 2), .inl (cI, 10, .inl (fun k => zI ((g 2) k)))), ((q 3), .inl (cI, 40, .inl (fun k => zI ((g 3) k)))), ((q 4), .inl (cI, 40, .inl (fun k => zI ((g 4) k)))), ((q 5), .inl (cI, 40, .inl (fun k => zI ((g 5) k)))), ((q 6), .inl (cI, 20, .inl (fun k => zI ((g 6) k)))), ((q 7), .inl (cI, 20, .inl (fun k => zI ((g 7) k))))] → va_S A s.heap H locs → ∀ ls : Array Slot, lv_has ls 7 [(5, .int (zI v5)), (4, .int (zI v4)), (3, .int (zI v3)), (0, .ref b), (1, .ref (q 7)), (2, .int (zI x))] → W p l e rm_X2_hangSelf s m ([.ref b, .ref (q 7), .int (zI x)] : List Value).toArray below meth c H locs 0 0 Q (F0 m 19 ls [])) ((20 - 0 : Int).toNat + 1) v3 0 _ _ (by omega) (by omega) hP hD hS ls hl
      clear hP hD hS hl ls
      intro n9_2
      induction n9_2 with
      | zero =>
        intro v3 v5 H locs hI hM
        exact absurd hM (by omega)
      | succ n9_2 ih2 =>
        intro v3 v5 H locs hI2 hM2  hP hD hS ls hl
        refine lv_iload hx hb dX2_hangTogether_19 (lv_at hl 0 rfl) ?_
        refine lv_bipush (v := zI 20) hx hb dX2_hangTogether_21 (by decide) ?_
        refine rz_icmp_ge (tgt := 77) F (by omega) (by omega) dX2_hangTogether_23 (by decide) (fun h23_9 => ?_) (fun h23_9 => ?_)
        · refine lv_iinc (v := zI (v4 + 1)) (lv' := [(4, .int (zI (v4 + 1))), (5, .int (zI v5)), (3, .int (zI v3)), (0, .ref b), (1, .ref (q 7)), (2, .int (zI x))]) hx hb dX2_hangTogether_77 hl (k := 1) rfl (zI_add _ _) (by decide) rfl (fun ls hl => ?_)
          refine lv_goto (tgt := 7) hx hb dX2_hangTogether_80 (by decide) ?_
          exact ih1 v3 (v4 + 1) _ _ (by omega) (by omega) hP hD hS ls (lv_sub hl [0, 2, 3, 4, 5] rfl)
        · refine lv_aload_n hx hb dX2_hangTogether_26 rfl (lv_at hl 4 rfl) ?_
          refine lv_iload hx hb dX2_hangTogether_27 (lv_at hl 0 rfl) ?_
          refine rz_iald F hK hP 8 0 rfl rfl (by omega) (by omega) dX2_hangTogether_29 ?_
          have h_l29_10 := hN.2.2.2.2.2.2.2.2 (v5).toNat (by omega)
          refine rz_if_le (tgt := 52) F (by omega) dX2_hangTogether_30 (by decide) (fun h30_11 => ?_) (fun h30_11 => ?_)
          · refine lv_iconst (v := zI 0) hx hb dX2_hangTogether_52 rfl ?_
            refine lv_istore (lv' := [(6, .int (zI 0)), (5, .int (zI v5)), (4, .int (zI v4)), (3, .int (zI v3)), (0, .ref b), (1, .ref (q 7)), (2, .int (zI x))]) hx hb dX2_hangTogether_53 hl (by decide) rfl (fun ls hl => ?_)
            refine lv_iload_n hx hb dX2_hangTogether_55 rfl (lv_at hl 3 rfl) ?_
            refine lv_iload_n hx hb dX2_hangTogether_56 rfl (lv_at hl 3 rfl) ?_
            refine lv_iload hx hb dX2_hangTogether_57 (lv_at hl 0 rfl) ?_
            refine lv_iand hx hb dX2_hangTogether_59 ?_
            refine rz_top (fun z13 h_z13 => ?_)
            refine rz_if_eq (tgt := 68) F (by omega) dX2_hangTogether_60 (by decide) (fun h60_13 => ?_) (fun h60_13 => ?_)
            · refine lv_iconst (v := zI 0) hx hb dX2_hangTogether_68 rfl ?_
              refine lv_ior hx hb dX2_hangTogether_69 ?_
              refine rz_top (fun z15 h_z15 => ?_)
              refine lv_istore_n (lv' := [(3, .int (zI z15)), (6, .int (zI 0)), (5, .int (zI v5)), (4, .int (zI v4)), (0, .ref b), (1, .ref (q 7)), (2, .int (zI x))]) hx hb dX2_hangTogether_70 rfl hl (by decide) rfl (fun ls hl => ?_)
              refine lv_iinc (v := zI (v5 + 1)) (lv' := [(5, .int (zI (v5 + 1))), (3, .int (zI z15)), (6, .int (zI 0)), (4, .int (zI v4)), (0, .ref b), (1, .ref (q 7)), (2, .int (zI x))]) hx hb dX2_hangTogether_71 hl (k := 2) rfl (zI_add _ _) (by decide) rfl (fun ls hl => ?_)
              refine lv_goto (tgt := 19) hx hb dX2_hangTogether_74 (by decide) ?_
              exact ih2 z15 (v5 + 1) _ _ (by omega) (by omega) hP hD hS ls (lv_sub hl [0, 3, 1, 4, 5, 6] rfl)
            · refine lv_iload hx hb dX2_hangTogether_63 (lv_at hl 0 rfl) ?_
              refine lv_goto (tgt := 69) hx hb dX2_hangTogether_65 (by decide) ?_
              refine lv_ior hx hb dX2_hangTogether_69 ?_
              refine rz_top (fun z16 h_z16 => ?_)
              refine lv_istore_n (lv' := [(3, .int (zI z16)), (6, .int (zI 0)), (5, .int (zI v5)), (4, .int (zI v4)), (0, .ref b), (1, .ref (q 7)), (2, .int (zI x))]) hx hb dX2_hangTogether_70 rfl hl (by decide) rfl (fun ls hl => ?_)
              refine lv_iinc (v := zI (v5 + 1)) (lv' := [(5, .int (zI (v5 + 1))), (3, .int (zI z16)), (6, .int (zI 0)), (4, .int (zI v4)), (0, .ref b), (1, .ref (q 7)), (2, .int (zI x))]) hx hb dX2_hangTogether_71 hl (k := 2) rfl (zI_add _ _) (by decide) rfl (fun ls hl => ?_)
              refine lv_goto (tgt := 19) hx hb dX2_hangTogether_74 (by decide) ?_
              exact ih2 z16 (v5 + 1) _ _ (by omega) (by omega) hP hD hS ls (lv_sub hl [0, 3, 1, 4, 5, 6] rfl)
          · refine lv_iconst (v := zI 1) hx hb dX2_hangTogether_33 rfl ?_
            refine lv_iload hx hb dX2_hangTogether_34 (lv_at hl 0 rfl) ?_
            refine lv_iconst (v := zI 2) hx hb dX2_hangTogether_36 rfl ?_
            refine rz_idiv F (by omega) (by omega) dX2_hangTogether_37 (fun z17 h_z17 => ?_)
            refine lv_ishl hx hb dX2_hangTogether_38 ?_
            refine rz_top (fun z18 h_z18 => ?_)
            refine lv_iconst (v := zI 1) hx hb dX2_hangTogether_39 rfl ?_
            refine lv_aload_n hx hb dX2_hangTogether_40 rfl (lv_at hl 3 rfl) ?_
            refine r_get F hK hP 0 7 rfl rfl in_X2 (by decide) k_165 rfl dX2_hangTogether_41 ?_
            refine lv_iload hx hb dX2_hangTogether_44 (lv_at hl 0 rfl) ?_
            refine rz_iald F hK hP 7 0 rfl rfl (by omega) (by omega) dX2_hangTogether_46 ?_
            have h_l46_18 := hN.2.2.2.2.2.2.2.1 (v5).toNat (by omega)
            refine lv_ishl hx hb dX2_hangTogether_47 ?_
            refine rz_top (fun z20 h_z20 => ?_)
            refine lv_ior hx hb dX2_hangTogether_48 ?_
            refine rz_top (fun z21 h_z21 => ?_)
            refine lv_goto (tgt := 53) hx hb dX2_hangTogether_49 (by decide) ?_
            refine lv_istore (lv' := [(6, .int (zI z21)), (5, .int (zI v5)), (4, .int (zI v4)), (3, .int (zI v3)), (0, .ref b), (1, .ref (q 7)), (2, .int (zI x))]) hx hb dX2_hangTogether_53 hl (by decide) rfl (fun ls hl => ?_)
            refine lv_iload_n hx hb dX2_hangTogether_55 rfl (lv_at hl 3 rfl) ?_
            refine lv_iload_n hx hb dX2_hangTogether_56 rfl (lv_at hl 3 rfl) ?_
            refine lv_iload hx hb dX2_hangTogether_57 (lv_at hl 0 rfl) ?_
            refine lv_iand hx hb dX2_hangTogether_59 ?_
            refine rz_top (fun z22 h_z22 => ?_)
            refine rz_if_eq (tgt := 68) F (by omega) dX2_hangTogether_60 (by decide) (fun h60_22 => ?_) (fun h60_22 => ?_)
            · refine lv_iconst (v := zI 0) hx hb dX2_hangTogether_68 rfl ?_
              refine lv_ior hx hb dX2_hangTogether_69 ?_
              refine rz_top (fun z24 h_z24 => ?_)
              refine lv_istore_n (lv' := [(3, .int (zI z24)), (6, .int (zI z21)), (5, .int (zI v5)), (4, .int (zI v4)), (0, .ref b), (1, .ref (q 7)), (2, .int (zI x))]) hx hb dX2_hangTogether_70 rfl hl (by decide) rfl (fun ls hl => ?_)
              refine lv_iinc (v := zI (v5 + 1)) (lv' := [(5, .int (zI (v5 + 1))), (3, .int (zI z24)), (6, .int (zI z21)), (4, .int (zI v4)), (0, .ref b), (1, .ref (q 7)), (2, .int (zI x))]) hx hb dX2_hangTogether_71 hl (k := 2) rfl (zI_add _ _) (by decide) rfl (fun ls hl => ?_)
              refine lv_goto (tgt := 19) hx hb dX2_hangTogether_74 (by decide) ?_
              exact ih2 z24 (v5 + 1) _ _ (by omega) (by omega) hP hD hS ls (lv_sub hl [0, 3, 1, 4, 5, 6] rfl)
            · refine lv_iload hx hb dX2_hangTogether_63 (lv_at hl 0 rfl) ?_
              refine lv_goto (tgt := 69) hx hb dX2_hangTogether_65 (by decide) ?_
              refine lv_ior hx hb dX2_hangTogether_69 ?_
              refine rz_top (fun z25 h_z25 => ?_)
              refine lv_istore_n (lv' := [(3, .int (zI z25)), (6, .int (zI z21)), (5, .int (zI v5)), (4, .int (zI v4)), (0, .ref b), (1, .ref (q 7)), (2, .int (zI x))]) hx hb dX2_hangTogether_70 rfl hl (by decide) rfl (fun ls hl => ?_)
              refine lv_iinc (v := zI (v5 + 1)) (lv' := [(5, .int (zI (v5 + 1))), (3, .int (zI z25)), (6, .int (zI z21)), (4, .int (zI v4)), (0, .ref b), (1, .ref (q 7)), (2, .int (zI x))]) hx hb dX2_hangTogether_71 hl (k := 2) rfl (zI_add _ _) (by decide) rfl (fun ls hl => ?_)
              refine lv_goto (tgt := 19) hx hb dX2_hangTogether_74 (by decide) ?_
              exact ih2 z25 (v5 + 1) _ _ (by omega) (by omega) hP hD hS ls (lv_sub hl [0, 3, 1, 4, 5, 6] rfl)
abbrev rm_X2_hangOther : Room := { frames := 0, cells := 0, slots := 0, locals := 0 }
set_option maxRecDepth 100000 in
set_option maxHeartbeats 8000000 in
theorem c_X2_hangOther {l : Launch} {E : (Nat → Prop) → State → Prop} (hO : bw_Ok E) {G : va_G} {cI cB cJ cN cW : ClassId} (b : Nat) (q : Nat → Nat) (n : Int) (g : Nat → Nat → Int) (hN : NetOk n g) (w : Nat) (gw : Nat → Int) (x : Int) (hx9 : zR x) : bw_Ci (S := zU) l yX2_hangTogether (bw_ws (Cond.code yX2_hangTogether cX2_hangTogether 7 (some .boolean))) rm_X2_hangOther E G (bw_kt cI cB cJ cN cW) [.ref b, .ref w, .int (zI x)] [(b, .inr (2, [.int (zI n), .ref (q 0), .ref (q 1), .ref (q 2), .ref (q 3), .ref (q 4), .ref (q 5), .ref (q 6), .ref (q 7)])), ((q 0), .inl (cI, 10, .inl (fun k => zI ((g 0) k)))), ((q 1), .inl (cI, 10, .inl (fun k => zI ((g 1) k)))), ((q 2), .inl (cI, 10, .inl (fun k => zI ((g 2) k)))), ((q 3), .inl (cI, 40, .inl (fun k => zI ((g 3) k)))), ((q 4), .inl (cI, 40, .inl (fun k => zI ((g 4) k)))), ((q 5), .inl (cI, 40, .inl (fun k => zI ((g 5) k)))), ((q 6), .inl (cI, 20, .inl (fun k => zI ((g 6) k)))), ((q 7), .inl (cI, 20, .inl (fun k => zI ((g 7) k)))), (w, .inl (cI, 20, .inl (fun k => zI (gw k))))] (fun r _ => ∃ z : Int, r = zI z ∧ (z = 0 ∨ z = 1)) (fun _ => [(b, .inr (2, [.int (zI n), .ref (q 0), .ref (q 1), .ref (q 2), .ref (q 3), .ref (q 4), .ref (q 5), .ref (q 6), .ref (q 7)])), ((q 0), .inl (cI, 10, .inl (fun k => zI ((g 0) k)))), ((q 1), .inl (cI, 10, .inl (fun k => zI ((g 1) k)))), ((q 2), .inl (cI, 10, .inl (fun k => zI ((g 2) k)))), ((q 3), .inl (cI, 40, .inl (fun k => zI ((g 3) k)))), ((q 4), .inl (cI, 40, .inl (fun k => zI ((g 4) k)))), ((q 5), .inl (cI, 40, .inl (fun k => zI ((g 5) k)))), ((q 6), .inl (cI, 20, .inl (fun k => zI ((g 6) k)))), ((q 7), .inl (cI, 20, .inl (fun k => zI ((g 7) k)))), (w, .inl (cI, 20, .inl (fun k => zI (gw k))))]) := by
  refine bw_Ci.of (cc := cX2_hangTogether) (maxL := 7) (ty := .boolean) (by decide) rfl (Nat.le_of_ble_eq_true rfl) ?_
  intro p e s m below meth c A Q hx hb hml hts hown hin hK hA hS hP hD hE ret ls hl
  have F : CallFix p m c cX2_hangTogether 7 s ([.ref b, .ref w, .int (zI x)] : List Value).toArray bw_T RX2 := ⟨hx, hb, hml, hown, fun w h => hts w (List.mem_cons_of_mem _ h)⟩
  replace hl : lv_has ls 7 [(0, .ref b), (1, .ref w), (2, .int (zI x))] := hl
  have hN0 := hN.1
  refine lv_iconst (v := zI 1) hx hb dX2_hangTogether_0 rfl ?_
  refine lv_iload_n hx hb dX2_hangTogether_1 rfl (lv_at hl 2 rfl) ?_
  refine lv_ishl hx hb dX2_hangTogether_2 ?_
  refine rz_top (fun z1 h_z1 => ?_)
  refine lv_istore_n (lv' := [(3, .int (zI z1)), (0, .ref b), (1, .ref w), (2, .int (zI x))]) hx hb dX2_hangTogether_3 rfl hl (by decide) rfl (fun ls hl => ?_)
  refine lv_iconst (v := zI 0) hx hb dX2_hangTogether_4 rfl ?_
  refine lv_istore (lv' := [(4, .int (zI 0)), (3, .int (zI z1)), (0, .ref b), (1, .ref w), (2, .int (zI x))]) hx hb dX2_hangTogether_5 hl (by decide) rfl (fun ls hl => ?_)
  refine W.widen (k := 0) (n := 0) (Nat.le_of_ble_eq_true rfl) (Nat.le_of_ble_eq_true rfl) ?_
  refine (?_ : ∀ (n9_1 : Nat) (v3 : Int) (v4 : Int) (H : Heap) (locs : List Loc), (0 ≤ v4 ∧ v4 ≤ n) → (n - v4 : Int).toNat < n9_1 → va_P G vwCl [(b, .inr (2, [.int (zI n), .ref (q 0), .ref (q 1), .ref (q 2), .ref (q 3), .ref (q 4), .ref (q 5), .ref (q 6), .ref (q 7)])), ((q 0), .inl (cI, 10, .inl (fun k => zI ((g 0) k)))), ((q 1), .inl (cI, 10, .inl (fun k => zI ((g 1) k)))), ((q 2), .inl (cI, 10, .inl (fun k => zI ((g 2) k)))), ((q 3), .inl (cI, 40, .inl (fun k => zI ((g 3) k)))), ((q 4), .inl (cI, 40, .inl (fun k => zI ((g 4) k)))), ((q 5), .inl (cI, 40, .inl (fun k => zI ((g 5) k)))), ((q 6), .inl (cI, 20, .inl (fun k => zI ((g 6) k)))), ((q 7), .inl (cI, 20, .inl (fun k => zI ((g 7) k)))), (w, .inl (cI, 20, .inl (fun k => zI (gw k))))] H → va_D A [(b, .inr (2, [.int (zI n), .ref (q 0), .ref (q 1), .ref (q 2), .ref (q 3), .ref (q 4), .ref (q 5), .ref (q 6), .ref (q 7)])), ((q 0), .inl (cI, 10, .inl (fun k => zI ((g 0) k)))), ((q 1), .inl (cI, 10, .inl (fun k => zI ((g 1) k)))), ((q 2), .inl (cI, 10, .inl (fun k => zI ((g 2) k)))), ((q 3), .inl (cI, 40, .inl (fun k => zI ((g 3) k)))), ((q 4), .inl (cI, 40, .inl (fun k => zI ((g 4) k)))), ((q 5), .inl (cI, 40, .inl (fun k => zI ((g 5) k)))), ((q 6), .inl (cI, 20, .inl (fun k => zI ((g 6) k)))), ((q 7), .inl (cI, 20, .inl (fun k => zI ((g 7) k)))), (w, .inl (cI, 20, .inl (fun k => zI (gw k))))] → va_S A s.heap H locs → ∀ ls : Array Slot, lv_has ls 7 [(4, .int (zI v4)), (3, .int (zI v3)), (0, .ref b), (1, .ref w), (2, .int (zI x))] → W p l e rm_X2_hangOther s m ([.ref b, .ref w, .int (zI x)] : List Value).toArray below meth c H locs 0 0 Q (F0 m 7 ls [])) ((n - 0 : Int).toNat + 1) z1 0 _ _ (by omega) (by omega) hP hD hS ls hl
  clear hP hD hS hl ls
  intro n9_1
  induction n9_1 with
  | zero =>
    intro v3 v4 H locs hI hM
    exact absurd hM (by omega)
  | succ n9_1 ih1 =>
    intro v3 v4 H locs hI1 hM1  hP hD hS ls hl
    refine lv_iload hx hb dX2_hangTogether_7 (lv_at hl 0 rfl) ?_
    refine lv_aload_n hx hb dX2_hangTogether_9 rfl (lv_at hl 2 rfl) ?_
    refine r_get F hK hP 0 0 rfl rfl in_X2 (by decide) k_144 rfl dX2_hangTogether_10 ?_
    refine rz_icmp_ge (tgt := 83) F (by omega) (by omega) dX2_hangTogether_13 (by decide) (fun h13_1 => ?_) (fun h13_1 => ?_)
    · refine lv_iconst (v := zI 0) hx hb dX2_hangTogether_83 rfl ?_
      refine lv_istore (lv' := [(4, .int (zI 0)), (3, .int (zI v3)), (0, .ref b), (1, .ref w), (2, .int (zI x))]) hx hb dX2_hangTogether_84 hl (by decide) rfl (fun ls hl => ?_)
      refine W.widen (k := 0) (n := 0) (Nat.le_of_ble_eq_true rfl) (Nat.le_of_ble_eq_true rfl) ?_
      refine (?_ : ∀ (n9_2 : Nat) (v4 : Int) (H : Heap) (locs : List Loc), (0 ≤ v4 ∧ v4 ≤ 20) → (20 - v4 : Int).toNat < n9_2 → va_P G vwCl [(b, .inr (2, [.int (zI n), .ref (q 0), .ref (q 1), .ref (q 2), .ref (q 3), .ref (q 4), .ref (q 5), .ref (q 6), .ref (q 7)])), ((q 0), .inl (cI, 10, .inl (fun k => zI ((g 0) k)))), ((q 1), .inl (cI, 10, .inl (fun k => zI ((g 1) k)))), ((q 2), .inl (cI, 10, .inl (fun k => zI ((g 2) k)))), ((q 3), .inl (cI, 40, .inl (fun k => zI ((g 3) k)))), ((q 4), .inl (cI, 40, .inl (fun k => zI ((g 4) k)))), ((q 5), .inl (cI, 40, .inl (fun k => zI ((g 5) k)))), ((q 6), .inl (cI, 20, .inl (fun k => zI ((g 6) k)))), ((q 7), .inl (cI, 20, .inl (fun k => zI ((g 7) k)))), (w, .inl (cI, 20, .inl (fun k => zI (gw k))))] H → va_D A [(b, .inr (2, [.int (zI n), .ref (q 0), .ref (q 1), .ref (q 2), .ref (q 3), .ref (q 4), .ref (q 5), .ref (q 6), .ref (q 7)])), ((q 0), .inl (cI, 10, .inl (fun k => zI ((g 0) k)))), ((q 1), .inl (cI, 10, .inl (fun k => zI ((g 1) k)))), ((q 2), .inl (cI, 10, .inl (fun k => zI ((g 2) k)))), ((q 3), .inl (cI, 40, .inl (fun k => zI ((g 3) k)))), ((q 4), .inl (cI, 40, .inl (fun k => zI ((g 4) k)))), ((q 5), .inl (cI, 40, .inl (fun k => zI ((g 5) k)))), ((q 6), .inl (cI, 20, .inl (fun k => zI ((g 6) k)))), ((q 7), .inl (cI, 20, .inl (fun k => zI ((g 7) k)))), (w, .inl (cI, 20, .inl (fun k => zI (gw k))))] → va_S A s.heap H locs → ∀ ls : Array Slot, lv_has ls 7 [(4, .int (zI v4)), (3, .int (zI v3)), (0, .ref b), (1, .ref w), (2, .int (zI x))] → W p l e rm_X2_hangOther s m ([.ref b, .ref w, .int (zI x)] : List Value).toArray below meth c H locs 0 0 Q (F0 m 86 ls [])) ((20 - 0 : Int).toNat + 1) 0 _ _ (by omega) (by omega) hP hD hS ls hl
      clear hP hD hS hl ls
      intro n9_2
      induction n9_2 with
      | zero =>
        intro v4 H locs hI hM
        exact absurd hM (by omega)
      | succ n9_2 ih2 =>
        intro v4 H locs hI2 hM2  hP hD hS ls hl
        refine lv_iload hx hb dX2_hangTogether_86 (lv_at hl 0 rfl) ?_
        refine lv_bipush (v := zI 20) hx hb dX2_hangTogether_88 (by decide) ?_
        refine rz_icmp_ge (tgt := 119) F (by omega) (by omega) dX2_hangTogether_90 (by decide) (fun h90_2 => ?_) (fun h90_2 => ?_)
        · refine lv_iconst (v := zI 1) hx hb dX2_hangTogether_119 rfl ?_
          exact ret (zI 1) (fun _ => 0, fun _ _ => 0) _ _ _ _ _ _ rfl ⟨1, rfl, by omega⟩ (bw_subP (isC := [0, 1, 2, 3, 4, 5, 6, 7, 8, 9]) hP rfl) (hD.sub [0, 1, 2, 3, 4, 5, 6, 7, 8, 9] (by decide) rfl) hS (Nat.le_of_ble_eq_true rfl) (Nat.le_of_ble_eq_true rfl) dX2_hangTogether_120
        · refine lv_aload_n hx hb dX2_hangTogether_93 rfl (lv_at hl 3 rfl) ?_
          refine lv_iload hx hb dX2_hangTogether_94 (lv_at hl 0 rfl) ?_
          refine rz_iald F hK hP 9 0 rfl rfl (by omega) (by omega) dX2_hangTogether_96 ?_
          refine rz_top (fun z4 h_z4 => ?_)
          refine rz_if_le (tgt := 113) F (by omega) dX2_hangTogether_97 (by decide) (fun h97_4 => ?_) (fun h97_4 => ?_)
          · refine lv_iinc (v := zI (v4 + 1)) (lv' := [(4, .int (zI (v4 + 1))), (3, .int (zI v3)), (0, .ref b), (1, .ref w), (2, .int (zI x))]) hx hb dX2_hangTogether_113 hl (k := 0) rfl (zI_add _ _) (by decide) rfl (fun ls hl => ?_)
            refine lv_goto (tgt := 86) hx hb dX2_hangTogether_116 (by decide) ?_
            exact ih2 (v4 + 1) _ _ (by omega) (by omega) hP hD hS ls (lv_sub hl [0, 1, 2, 3, 4] rfl)
          · refine lv_iload_n hx hb dX2_hangTogether_100 rfl (lv_at hl 1 rfl) ?_
            refine lv_iload hx hb dX2_hangTogether_101 (lv_at hl 0 rfl) ?_
            refine lv_iconst (v := zI 2) hx hb dX2_hangTogether_103 rfl ?_
            refine rz_idiv F (by omega) (by omega) dX2_hangTogether_104 (fun z6 h_z6 => ?_)
            refine lv_ishr hx hb dX2_hangTogether_105 ?_
            refine rz_top (fun z7 h_z7 => ?_)
            refine lv_iconst (v := zI 1) hx hb dX2_hangTogether_106 rfl ?_
            refine lv_iand hx hb dX2_hangTogether_107 ?_
            refine rz_top (fun z8 h_z8 => ?_)
            refine rz_if_ne (tgt := 113) F (by omega) dX2_hangTogether_108 (by decide) (fun h108_8 => ?_) (fun h108_8 => ?_)
            · refine lv_iinc (v := zI (v4 + 1)) (lv' := [(4, .int (zI (v4 + 1))), (3, .int (zI v3)), (0, .ref b), (1, .ref w), (2, .int (zI x))]) hx hb dX2_hangTogether_113 hl (k := 0) rfl (zI_add _ _) (by decide) rfl (fun ls hl => ?_)
              refine lv_goto (tgt := 86) hx hb dX2_hangTogether_116 (by decide) ?_
              exact ih2 (v4 + 1) _ _ (by omega) (by omega) hP hD hS ls (lv_sub hl [0, 1, 2, 3, 4] rfl)
            · refine lv_iconst (v := zI 0) hx hb dX2_hangTogether_111 rfl ?_
              exact ret (zI 0) (fun _ => 0, fun _ _ => 0) _ _ _ _ _ _ rfl ⟨0, rfl, by omega⟩ (bw_subP (isC := [0, 1, 2, 3, 4, 5, 6, 7, 8, 9]) hP rfl) (hD.sub [0, 1, 2, 3, 4, 5, 6, 7, 8, 9] (by decide) rfl) hS (Nat.le_of_ble_eq_true rfl) (Nat.le_of_ble_eq_true rfl) dX2_hangTogether_112
    · refine lv_iconst (v := zI 0) hx hb dX2_hangTogether_16 rfl ?_
      refine lv_istore (lv' := [(5, .int (zI 0)), (4, .int (zI v4)), (3, .int (zI v3)), (0, .ref b), (1, .ref w), (2, .int (zI x))]) hx hb dX2_hangTogether_17 hl (by decide) rfl (fun ls hl => ?_)
      refine W.widen (k := 0) (n := 0) (Nat.le_of_ble_eq_true rfl) (Nat.le_of_ble_eq_true rfl) ?_
      refine (?_ : ∀ (n9_2 : Nat) (v3 : Int) (v5 : Int) (H : Heap) (locs : List Loc), (0 ≤ v5 ∧ v5 ≤ 20) → (20 - v5 : Int).toNat < n9_2 → va_P G vwCl [(b, .inr (2, [.int (zI n), .ref (q 0), .ref (q 1), .ref (q 2), .ref (q 3), .ref (q 4), .ref (q 5), .ref (q 6), .ref (q 7)])), ((q 0), .inl (cI, 10, .inl (fun k => zI ((g 0) k)))), ((q 1), .inl (cI, 10, .inl (fun k => zI ((g 1) k)))), ((q 2), .inl (cI, 10, .inl (fun k => zI ((g 2) k)))), ((q 3), .inl (cI, 40, .inl (fun k => zI ((g 3) k)))), ((q 4), .inl (cI, 40, .inl (fun k => zI ((g 4) k)))), ((q 5), .inl (cI, 40, .inl (fun k => zI ((g 5) k)))), ((q 6), .inl (cI, 20, .inl (fun k => zI ((g 6) k)))), ((q 7), .inl (cI, 20, .inl (fun k => zI ((g 7) k)))), (w, .inl (cI, 20, .inl (fun k => zI (gw k))))] H → va_D A [(b, .inr (2, [.int (zI n), .ref (q 0), .ref (q 1), .ref (q 2), .ref (q 3), .ref (q 4), .ref (q 5), .ref (q 6), .ref (q 7)])), ((q 0), .inl (cI, 10, .inl (fun k => zI ((g 0) k)))), ((q 1), .inl (cI, 10, .inl (fun k => zI ((g 1) k)))), ((q 2), .inl (cI, 10, .inl (fun k => zI ((g 2) k)))), ((q 3), .inl (cI, 40, .inl (fun k => zI ((g 3) k)))), ((q 4), .inl (cI, 40, .inl (fun k => zI ((g 4) k)))), ((q 5), .inl (cI, 40, .inl (fun k => zI ((g 5) k)))), ((q 6), .inl (cI, 20, .inl (fun k => zI ((g 6) k)))), ((q 7), .inl (cI, 20, .inl (fun k => zI ((g 7) k)))), (w, .inl (cI, 20, .inl (fun k => zI (gw k))))] → va_S A s.heap H locs → ∀ ls : Array Slot, lv_has ls 7 [(5, .int (zI v5)), (4, .int (zI v4)), (3, .int (zI v3)), (0, .ref b), (1, .ref w), (2, .int (zI x))] → W p l e rm_X2_hangOther s m ([.ref b, .ref w, .int (zI x)] : List Value).toArray below meth c H locs 0 0 Q (F0 m 19 ls [])) ((20 - 0 : Int).toNat + 1) v3 0 _ _ (by omega) (by omega) hP hD hS ls hl
      clear hP hD hS hl ls
      intro n9_2
      induction n9_2 with
      | zero =>
        intro v3 v5 H locs hI hM
        exact absurd hM (by omega)
      | succ n9_2 ih2 =>
        intro v3 v5 H locs hI2 hM2  hP hD hS ls hl
        refine lv_iload hx hb dX2_hangTogether_19 (lv_at hl 0 rfl) ?_
        refine lv_bipush (v := zI 20) hx hb dX2_hangTogether_21 (by decide) ?_
        refine rz_icmp_ge (tgt := 77) F (by omega) (by omega) dX2_hangTogether_23 (by decide) (fun h23_9 => ?_) (fun h23_9 => ?_)
        · refine lv_iinc (v := zI (v4 + 1)) (lv' := [(4, .int (zI (v4 + 1))), (5, .int (zI v5)), (3, .int (zI v3)), (0, .ref b), (1, .ref w), (2, .int (zI x))]) hx hb dX2_hangTogether_77 hl (k := 1) rfl (zI_add _ _) (by decide) rfl (fun ls hl => ?_)
          refine lv_goto (tgt := 7) hx hb dX2_hangTogether_80 (by decide) ?_
          exact ih1 v3 (v4 + 1) _ _ (by omega) (by omega) hP hD hS ls (lv_sub hl [0, 2, 3, 4, 5] rfl)
        · refine lv_aload_n hx hb dX2_hangTogether_26 rfl (lv_at hl 4 rfl) ?_
          refine lv_iload hx hb dX2_hangTogether_27 (lv_at hl 0 rfl) ?_
          refine rz_iald F hK hP 9 0 rfl rfl (by omega) (by omega) dX2_hangTogether_29 ?_
          refine rz_top (fun z11 h_z11 => ?_)
          refine rz_if_le (tgt := 52) F (by omega) dX2_hangTogether_30 (by decide) (fun h30_11 => ?_) (fun h30_11 => ?_)
          · refine lv_iconst (v := zI 0) hx hb dX2_hangTogether_52 rfl ?_
            refine lv_istore (lv' := [(6, .int (zI 0)), (5, .int (zI v5)), (4, .int (zI v4)), (3, .int (zI v3)), (0, .ref b), (1, .ref w), (2, .int (zI x))]) hx hb dX2_hangTogether_53 hl (by decide) rfl (fun ls hl => ?_)
            refine lv_iload_n hx hb dX2_hangTogether_55 rfl (lv_at hl 3 rfl) ?_
            refine lv_iload_n hx hb dX2_hangTogether_56 rfl (lv_at hl 3 rfl) ?_
            refine lv_iload hx hb dX2_hangTogether_57 (lv_at hl 0 rfl) ?_
            refine lv_iand hx hb dX2_hangTogether_59 ?_
            refine rz_top (fun z13 h_z13 => ?_)
            refine rz_if_eq (tgt := 68) F (by omega) dX2_hangTogether_60 (by decide) (fun h60_13 => ?_) (fun h60_13 => ?_)
            · refine lv_iconst (v := zI 0) hx hb dX2_hangTogether_68 rfl ?_
              refine lv_ior hx hb dX2_hangTogether_69 ?_
              refine rz_top (fun z15 h_z15 => ?_)
              refine lv_istore_n (lv' := [(3, .int (zI z15)), (6, .int (zI 0)), (5, .int (zI v5)), (4, .int (zI v4)), (0, .ref b), (1, .ref w), (2, .int (zI x))]) hx hb dX2_hangTogether_70 rfl hl (by decide) rfl (fun ls hl => ?_)
              refine lv_iinc (v := zI (v5 + 1)) (lv' := [(5, .int (zI (v5 + 1))), (3, .int (zI z15)), (6, .int (zI 0)), (4, .int (zI v4)), (0, .ref b), (1, .ref w), (2, .int (zI x))]) hx hb dX2_hangTogether_71 hl (k := 2) rfl (zI_add _ _) (by decide) rfl (fun ls hl => ?_)
              refine lv_goto (tgt := 19) hx hb dX2_hangTogether_74 (by decide) ?_
              exact ih2 z15 (v5 + 1) _ _ (by omega) (by omega) hP hD hS ls (lv_sub hl [0, 3, 1, 4, 5, 6] rfl)
            · refine lv_iload hx hb dX2_hangTogether_63 (lv_at hl 0 rfl) ?_
              refine lv_goto (tgt := 69) hx hb dX2_hangTogether_65 (by decide) ?_
              refine lv_ior hx hb dX2_hangTogether_69 ?_
              refine rz_top (fun z16 h_z16 => ?_)
              refine lv_istore_n (lv' := [(3, .int (zI z16)), (6, .int (zI 0)), (5, .int (zI v5)), (4, .int (zI v4)), (0, .ref b), (1, .ref w), (2, .int (zI x))]) hx hb dX2_hangTogether_70 rfl hl (by decide) rfl (fun ls hl => ?_)
              refine lv_iinc (v := zI (v5 + 1)) (lv' := [(5, .int (zI (v5 + 1))), (3, .int (zI z16)), (6, .int (zI 0)), (4, .int (zI v4)), (0, .ref b), (1, .ref w), (2, .int (zI x))]) hx hb dX2_hangTogether_71 hl (k := 2) rfl (zI_add _ _) (by decide) rfl (fun ls hl => ?_)
              refine lv_goto (tgt := 19) hx hb dX2_hangTogether_74 (by decide) ?_
              exact ih2 z16 (v5 + 1) _ _ (by omega) (by omega) hP hD hS ls (lv_sub hl [0, 3, 1, 4, 5, 6] rfl)
          · refine lv_iconst (v := zI 1) hx hb dX2_hangTogether_33 rfl ?_
            refine lv_iload hx hb dX2_hangTogether_34 (lv_at hl 0 rfl) ?_
            refine lv_iconst (v := zI 2) hx hb dX2_hangTogether_36 rfl ?_
            refine rz_idiv F (by omega) (by omega) dX2_hangTogether_37 (fun z17 h_z17 => ?_)
            refine lv_ishl hx hb dX2_hangTogether_38 ?_
            refine rz_top (fun z18 h_z18 => ?_)
            refine lv_iconst (v := zI 1) hx hb dX2_hangTogether_39 rfl ?_
            refine lv_aload_n hx hb dX2_hangTogether_40 rfl (lv_at hl 3 rfl) ?_
            refine r_get F hK hP 0 7 rfl rfl in_X2 (by decide) k_165 rfl dX2_hangTogether_41 ?_
            refine lv_iload hx hb dX2_hangTogether_44 (lv_at hl 0 rfl) ?_
            refine rz_iald F hK hP 7 0 rfl rfl (by omega) (by omega) dX2_hangTogether_46 ?_
            have h_l46_18 := hN.2.2.2.2.2.2.2.1 (v5).toNat (by omega)
            refine lv_ishl hx hb dX2_hangTogether_47 ?_
            refine rz_top (fun z20 h_z20 => ?_)
            refine lv_ior hx hb dX2_hangTogether_48 ?_
            refine rz_top (fun z21 h_z21 => ?_)
            refine lv_goto (tgt := 53) hx hb dX2_hangTogether_49 (by decide) ?_
            refine lv_istore (lv' := [(6, .int (zI z21)), (5, .int (zI v5)), (4, .int (zI v4)), (3, .int (zI v3)), (0, .ref b), (1, .ref w), (2, .int (zI x))]) hx hb dX2_hangTogether_53 hl (by decide) rfl (fun ls hl => ?_)
            refine lv_iload_n hx hb dX2_hangTogether_55 rfl (lv_at hl 3 rfl) ?_
            refine lv_iload_n hx hb dX2_hangTogether_56 rfl (lv_at hl 3 rfl) ?_
            refine lv_iload hx hb dX2_hangTogether_57 (lv_at hl 0 rfl) ?_
            refine lv_iand hx hb dX2_hangTogether_59 ?_
            refine rz_top (fun z22 h_z22 => ?_)
            refine rz_if_eq (tgt := 68) F (by omega) dX2_hangTogether_60 (by decide) (fun h60_22 => ?_) (fun h60_22 => ?_)
            · refine lv_iconst (v := zI 0) hx hb dX2_hangTogether_68 rfl ?_
              refine lv_ior hx hb dX2_hangTogether_69 ?_
              refine rz_top (fun z24 h_z24 => ?_)
              refine lv_istore_n (lv' := [(3, .int (zI z24)), (6, .int (zI z21)), (5, .int (zI v5)), (4, .int (zI v4)), (0, .ref b), (1, .ref w), (2, .int (zI x))]) hx hb dX2_hangTogether_70 rfl hl (by decide) rfl (fun ls hl => ?_)
              refine lv_iinc (v := zI (v5 + 1)) (lv' := [(5, .int (zI (v5 + 1))), (3, .int (zI z24)), (6, .int (zI z21)), (4, .int (zI v4)), (0, .ref b), (1, .ref w), (2, .int (zI x))]) hx hb dX2_hangTogether_71 hl (k := 2) rfl (zI_add _ _) (by decide) rfl (fun ls hl => ?_)
              refine lv_goto (tgt := 19) hx hb dX2_hangTogether_74 (by decide) ?_
              exact ih2 z24 (v5 + 1) _ _ (by omega) (by omega) hP hD hS ls (lv_sub hl [0, 3, 1, 4, 5, 6] rfl)
            · refine lv_iload hx hb dX2_hangTogether_63 (lv_at hl 0 rfl) ?_
              refine lv_goto (tgt := 69) hx hb dX2_hangTogether_65 (by decide) ?_
              refine lv_ior hx hb dX2_hangTogether_69 ?_
              refine rz_top (fun z25 h_z25 => ?_)
              refine lv_istore_n (lv' := [(3, .int (zI z25)), (6, .int (zI z21)), (5, .int (zI v5)), (4, .int (zI v4)), (0, .ref b), (1, .ref w), (2, .int (zI x))]) hx hb dX2_hangTogether_70 rfl hl (by decide) rfl (fun ls hl => ?_)
              refine lv_iinc (v := zI (v5 + 1)) (lv' := [(5, .int (zI (v5 + 1))), (3, .int (zI z25)), (6, .int (zI z21)), (4, .int (zI v4)), (0, .ref b), (1, .ref w), (2, .int (zI x))]) hx hb dX2_hangTogether_71 hl (k := 2) rfl (zI_add _ _) (by decide) rfl (fun ls hl => ?_)
              refine lv_goto (tgt := 19) hx hb dX2_hangTogether_74 (by decide) ?_
              exact ih2 z25 (v5 + 1) _ _ (by omega) (by omega) hP hD hS ls (lv_sub hl [0, 3, 1, 4, 5, 6] rfl)
theorem dX2_isEven_0 : decode cX2_isEven 0 = .ok (.aload_n 0, 1) := bo_42 (by decide +kernel)
theorem dX2_isEven_1 : decode cX2_isEven 1 = .ok (.invokevirtual 73, 3) := bo_182 0 73 (by decide +kernel)
theorem k_867 : Cond.methodLink RX2 73 yX2_isBalanced ∈ bw_T := bw_m 867 (by decide +kernel) rfl
theorem kv_X2_isBalanced : bw_KV RX2 yX2_isBalanced (Cond.code yX2_isBalanced cX2_isBalanced 5 (some .boolean)) := ⟨bw_m 869 (by decide +kernel) rfl, bw_m 30 (by decide +kernel) rfl, bw_m 96 (by decide +kernel) rfl, bw_m 870 (by decide +kernel) rfl⟩
theorem dX2_isEven_4 : decode cX2_isEven 4 = .ok (.ifCond .eq 19, 3) := bo_153 0 19 (by decide +kernel)
theorem dX2_isEven_23 : decode cX2_isEven 23 = .ok (.iconst 0, 1) := bo_3 (by decide +kernel)
theorem dX2_isEven_24 : decode cX2_isEven 24 = .ok (.ireturn, 1) := bo_172 (by decide +kernel)
theorem dX2_isEven_7 : decode cX2_isEven 7 = .ok (.aload_n 0, 1) := bo_42 (by decide +kernel)
theorem dX2_isEven_8 : decode cX2_isEven 8 = .ok (.aload_n 0, 1) := bo_42 (by decide +kernel)
theorem dX2_isEven_9 : decode cX2_isEven 9 = .ok (.getfield 37, 3) := bo_180 0 37 (by decide +kernel)
theorem dX2_isEven_12 : decode cX2_isEven 12 = .ok (.iconst 0, 1) := bo_3 (by decide +kernel)
theorem dX2_isEven_13 : decode cX2_isEven 13 = .ok (.invokevirtual 77, 3) := bo_182 0 77 (by decide +kernel)
theorem k_875 : Cond.methodLink RX2 77 yX2_hangTogether ∈ bw_T := bw_m 875 (by decide +kernel) rfl
theorem kv_X2_hangTogether : bw_KV RX2 yX2_hangTogether (Cond.code yX2_hangTogether cX2_hangTogether 7 (some .boolean)) := ⟨bw_m 876 (by decide +kernel) rfl, bw_m 877 (by decide +kernel) rfl, bw_m 96 (by decide +kernel) rfl, bw_m 878 (by decide +kernel) rfl⟩
theorem dX2_isEven_16 : decode cX2_isEven 16 = .ok (.ifCond .eq 7, 3) := bo_153 0 7 (by decide +kernel)
theorem dX2_isEven_19 : decode cX2_isEven 19 = .ok (.iconst 1, 1) := bo_4 (by decide +kernel)
theorem dX2_isEven_20 : decode cX2_isEven 20 = .ok (.goto 4, 3) := bo_167 0 4 (by decide +kernel)
abbrev rm_X2_isEven : Room := { frames := 2, cells := 0, slots := 0, locals := 47 }
set_option maxRecDepth 100000 in
set_option maxHeartbeats 8000000 in
theorem c_X2_isEven {l : Launch} {E : (Nat → Prop) → State → Prop} (hO : bw_Ok E) {G : va_G} {cI cB cJ cN cW : ClassId} (b : Nat) (q : Nat → Nat) (n : Int) (g : Nat → Nat → Int) (hN : NetOk n g) : bw_Ci (S := zU) l yX2_isEven (bw_ws (Cond.code yX2_isEven cX2_isEven 1 (some .boolean))) rm_X2_isEven E G (bw_kt cI cB cJ cN cW) [.ref b] [(b, .inr (2, [.int (zI n), .ref (q 0), .ref (q 1), .ref (q 2), .ref (q 3), .ref (q 4), .ref (q 5), .ref (q 6), .ref (q 7)])), ((q 0), .inl (cI, 10, .inl (fun k => zI ((g 0) k)))), ((q 1), .inl (cI, 10, .inl (fun k => zI ((g 1) k)))), ((q 2), .inl (cI, 10, .inl (fun k => zI ((g 2) k)))), ((q 3), .inl (cI, 40, .inl (fun k => zI ((g 3) k)))), ((q 4), .inl (cI, 40, .inl (fun k => zI ((g 4) k)))), ((q 5), .inl (cI, 40, .inl (fun k => zI ((g 5) k)))), ((q 6), .inl (cI, 20, .inl (fun k => zI ((g 6) k)))), ((q 7), .inl (cI, 20, .inl (fun k => zI ((g 7) k))))] (fun r _ => ∃ z : Int, r = zI z ∧ (z = 0 ∨ z = 1)) (fun _ => [(b, .inr (2, [.int (zI n), .ref (q 0), .ref (q 1), .ref (q 2), .ref (q 3), .ref (q 4), .ref (q 5), .ref (q 6), .ref (q 7)])), ((q 0), .inl (cI, 10, .inl (fun k => zI ((g 0) k)))), ((q 1), .inl (cI, 10, .inl (fun k => zI ((g 1) k)))), ((q 2), .inl (cI, 10, .inl (fun k => zI ((g 2) k)))), ((q 3), .inl (cI, 40, .inl (fun k => zI ((g 3) k)))), ((q 4), .inl (cI, 40, .inl (fun k => zI ((g 4) k)))), ((q 5), .inl (cI, 40, .inl (fun k => zI ((g 5) k)))), ((q 6), .inl (cI, 20, .inl (fun k => zI ((g 6) k)))), ((q 7), .inl (cI, 20, .inl (fun k => zI ((g 7) k))))]) := by
  refine bw_Ci.of (cc := cX2_isEven) (maxL := 1) (ty := .boolean) (by decide) rfl (Nat.le_of_ble_eq_true rfl) ?_
  intro p e s m below meth c A Q hx hb hml hts hown hin hK hA hS hP hD hE ret ls hl
  have F : CallFix p m c cX2_isEven 1 s ([.ref b] : List Value).toArray bw_T RX2 := ⟨hx, hb, hml, hown, fun w h => hts w (List.mem_cons_of_mem _ h)⟩
  replace hl : lv_has ls 1 [(0, .ref b)] := hl
  have hN0 := hN.1
  refine lv_aload_n hx hb dX2_isEven_0 rfl (lv_at hl 0 rfl) ?_
  refine r_callVi (As := []) (rest := []) (wr := []) F hK hP hD hS hA hO hE (c_X2_isBalanced hO b q n g hN) k_867 kv_X2_isBalanced 0 rfl (by decide +kernel) ⟨Nat.le_of_ble_eq_true rfl, Nat.le_of_ble_eq_true rfl⟩ [0, 1, 2, 3, 4, 5, 6, 7, 8] [] rfl rfl (by decide) (by decide) (by decide) 0 2 rfl rfl rfl hl.1 rfl (Nat.le_of_ble_eq_true rfl) dX2_isEven_1 ⟨Nat.le_of_ble_eq_true rfl, Nat.le_of_ble_eq_true rfl⟩ (w1 := fun u1 => [(b, .inr (2, [.int (zI n), .ref (q 0), .ref (q 1), .ref (q 2), .ref (q 3), .ref (q 4), .ref (q 5), .ref (q 6), .ref (q 7)])), ((q 0), .inl (cI, 10, .inl (fun k => zI ((g 0) k)))), ((q 1), .inl (cI, 10, .inl (fun k => zI ((g 1) k)))), ((q 2), .inl (cI, 10, .inl (fun k => zI ((g 2) k)))), ((q 3), .inl (cI, 40, .inl (fun k => zI ((g 3) k)))), ((q 4), .inl (cI, 40, .inl (fun k => zI ((g 4) k)))), ((q 5), .inl (cI, 40, .inl (fun k => zI ((g 5) k)))), ((q 6), .inl (cI, 20, .inl (fun k => zI ((g 6) k)))), ((q 7), .inl (cI, 20, .inl (fun k => zI ((g 7) k))))]) (fun _ => rfl) (fun r2 u1 H locs hp3 hP hD hS => ?_)
  obtain ⟨z4, rfl, h_z4⟩ := hp3
  refine rz_if_eq (tgt := 23) F (by omega) dX2_isEven_4 (by decide) (fun h4_4 => ?_) (fun h4_4 => ?_)
  · refine lv_iconst (v := zI 0) hx hb dX2_isEven_23 rfl ?_
    exact ret (zI 0) (fun _ => 0, fun _ _ => 0) _ _ _ _ _ _ rfl ⟨0, rfl, by omega⟩ (bw_subP (isC := [0, 1, 2, 3, 4, 5, 6, 7, 8]) hP rfl) (hD.sub [0, 1, 2, 3, 4, 5, 6, 7, 8] (by decide) rfl) hS (Nat.le_of_ble_eq_true rfl) (Nat.le_of_ble_eq_true rfl) dX2_isEven_24
  · refine lv_aload_n hx hb dX2_isEven_7 rfl (lv_at hl 0 rfl) ?_
    refine lv_aload_n hx hb dX2_isEven_8 rfl (lv_at hl 0 rfl) ?_
    refine r_get F hK hP 0 8 rfl rfl in_X2 (by decide) k_169 rfl dX2_isEven_9 ?_
    refine lv_iconst (v := zI 0) hx hb dX2_isEven_12 rfl ?_
    refine r_callVi (As := [.ref (q 7), .int (zI 0)]) (rest := []) (wr := []) F hK hP hD hS hA hO hE (c_X2_hangSelf hO b q n g hN 0 (by omega)) k_875 kv_X2_hangTogether 2 rfl (by decide +kernel) ⟨Nat.le_of_ble_eq_true rfl, Nat.le_of_ble_eq_true rfl⟩ [0, 1, 2, 3, 4, 5, 6, 7, 8] [] rfl rfl (by decide) (by decide) (by decide) 0 2 rfl rfl rfl hl.1 rfl (Nat.le_of_ble_eq_true rfl) dX2_isEven_13 ⟨Nat.le_of_ble_eq_true rfl, Nat.le_of_ble_eq_true rfl⟩ (w1 := fun u6 => [(b, .inr (2, [.int (zI n), .ref (q 0), .ref (q 1), .ref (q 2), .ref (q 3), .ref (q 4), .ref (q 5), .ref (q 6), .ref (q 7)])), ((q 0), .inl (cI, 10, .inl (fun k => zI ((g 0) k)))), ((q 1), .inl (cI, 10, .inl (fun k => zI ((g 1) k)))), ((q 2), .inl (cI, 10, .inl (fun k => zI ((g 2) k)))), ((q 3), .inl (cI, 40, .inl (fun k => zI ((g 3) k)))), ((q 4), .inl (cI, 40, .inl (fun k => zI ((g 4) k)))), ((q 5), .inl (cI, 40, .inl (fun k => zI ((g 5) k)))), ((q 6), .inl (cI, 20, .inl (fun k => zI ((g 6) k)))), ((q 7), .inl (cI, 20, .inl (fun k => zI ((g 7) k))))]) (fun _ => rfl) (fun r7 u6 H locs hp8 hP hD hS => ?_)
    obtain ⟨z9, rfl, h_z9⟩ := hp8
    refine rz_if_eq (tgt := 23) F (by omega) dX2_isEven_16 (by decide) (fun h16_9 => ?_) (fun h16_9 => ?_)
    · refine lv_iconst (v := zI 0) hx hb dX2_isEven_23 rfl ?_
      exact ret (zI 0) (fun _ => 0, fun _ _ => 0) _ _ _ _ _ _ rfl ⟨0, rfl, by omega⟩ (bw_subP (isC := [0, 1, 2, 3, 4, 5, 6, 7, 8]) hP rfl) (hD.sub [0, 1, 2, 3, 4, 5, 6, 7, 8] (by decide) rfl) hS (Nat.le_of_ble_eq_true rfl) (Nat.le_of_ble_eq_true rfl) dX2_isEven_24
    · refine lv_iconst (v := zI 1) hx hb dX2_isEven_19 rfl ?_
      refine lv_goto (tgt := 24) hx hb dX2_isEven_20 (by decide) ?_
      exact ret (zI 1) (fun _ => 0, fun _ _ => 0) _ _ _ _ _ _ rfl ⟨1, rfl, by omega⟩ (bw_subP (isC := [0, 1, 2, 3, 4, 5, 6, 7, 8]) hP rfl) (hD.sub [0, 1, 2, 3, 4, 5, 6, 7, 8] (by decide) rfl) hS (Nat.le_of_ble_eq_true rfl) (Nat.le_of_ble_eq_true rfl) dX2_isEven_24
theorem dX2_haveSameActs_0 : decode cX2_haveSameActs 0 = .ok (.aload_n 0, 1) := bo_42 (by decide +kernel)
theorem dX2_haveSameActs_1 : decode cX2_haveSameActs 1 = .ok (.getfield 22, 3) := bo_180 0 22 (by decide +kernel)
theorem dX2_haveSameActs_4 : decode cX2_haveSameActs 4 = .ok (.iload_n 1, 1) := bo_27 (by decide +kernel)
theorem dX2_haveSameActs_5 : decode cX2_haveSameActs 5 = .ok (.iaload, 1) := bo_46 (by decide +kernel)
theorem dX2_haveSameActs_6 : decode cX2_haveSameActs 6 = .ok (.aload_n 0, 1) := bo_42 (by decide +kernel)
theorem dX2_haveSameActs_7 : decode cX2_haveSameActs 7 = .ok (.getfield 22, 3) := bo_180 0 22 (by decide +kernel)
theorem dX2_haveSameActs_10 : decode cX2_haveSameActs 10 = .ok (.iload_n 2, 1) := bo_28 (by decide +kernel)
theorem dX2_haveSameActs_11 : decode cX2_haveSameActs 11 = .ok (.iaload, 1) := bo_46 (by decide +kernel)
theorem dX2_haveSameActs_12 : decode cX2_haveSameActs 12 = .ok (.if_icmp .eq 5, 3) := bo_159 0 5 (by decide +kernel)
theorem dX2_haveSameActs_17 : decode cX2_haveSameActs 17 = .ok (.iconst 0, 1) := bo_3 (by decide +kernel)
theorem dX2_haveSameActs_18 : decode cX2_haveSameActs 18 = .ok (.istore_n 3, 1) := bo_62 (by decide +kernel)
theorem dX2_haveSameActs_19 : decode cX2_haveSameActs 19 = .ok (.iload_n 3, 1) := bo_29 (by decide +kernel)
theorem dX2_haveSameActs_20 : decode cX2_haveSameActs 20 = .ok (.aload_n 0, 1) := bo_42 (by decide +kernel)
theorem dX2_haveSameActs_21 : decode cX2_haveSameActs 21 = .ok (.getfield 22, 3) := bo_180 0 22 (by decide +kernel)
theorem dX2_haveSameActs_24 : decode cX2_haveSameActs 24 = .ok (.iload_n 1, 1) := bo_27 (by decide +kernel)
theorem dX2_haveSameActs_25 : decode cX2_haveSameActs 25 = .ok (.iaload, 1) := bo_46 (by decide +kernel)
theorem dX2_haveSameActs_26 : decode cX2_haveSameActs 26 = .ok (.if_icmp .ge 76, 3) := bo_162 0 76 (by decide +kernel)
theorem dX2_haveSameActs_102 : decode cX2_haveSameActs 102 = .ok (.iconst 1, 1) := bo_4 (by decide +kernel)
theorem dX2_haveSameActs_103 : decode cX2_haveSameActs 103 = .ok (.ireturn, 1) := bo_172 (by decide +kernel)
theorem dX2_haveSameActs_29 : decode cX2_haveSameActs 29 = .ok (.iload_n 1, 1) := bo_27 (by decide +kernel)
theorem dX2_haveSameActs_30 : decode cX2_haveSameActs 30 = .ok (.iconst 4, 1) := bo_7 (by decide +kernel)
theorem dX2_haveSameActs_31 : decode cX2_haveSameActs 31 = .ok (.imul, 1) := bo_104 (by decide +kernel)
theorem dX2_haveSameActs_32 : decode cX2_haveSameActs 32 = .ok (.iload_n 3, 1) := bo_29 (by decide +kernel)
theorem dX2_haveSameActs_33 : decode cX2_haveSameActs 33 = .ok (.iadd, 1) := bo_96 (by decide +kernel)
theorem dX2_haveSameActs_34 : decode cX2_haveSameActs 34 = .ok (.istore 4, 2) := bo_54 (by decide +kernel)
theorem dX2_haveSameActs_36 : decode cX2_haveSameActs 36 = .ok (.iload_n 2, 1) := bo_28 (by decide +kernel)
theorem dX2_haveSameActs_37 : decode cX2_haveSameActs 37 = .ok (.iconst 4, 1) := bo_7 (by decide +kernel)
theorem dX2_haveSameActs_38 : decode cX2_haveSameActs 38 = .ok (.imul, 1) := bo_104 (by decide +kernel)
theorem dX2_haveSameActs_39 : decode cX2_haveSameActs 39 = .ok (.iload_n 3, 1) := bo_29 (by decide +kernel)
theorem dX2_haveSameActs_40 : decode cX2_haveSameActs 40 = .ok (.iadd, 1) := bo_96 (by decide +kernel)
theorem dX2_haveSameActs_41 : decode cX2_haveSameActs 41 = .ok (.istore 5, 2) := bo_54 (by decide +kernel)
theorem dX2_haveSameActs_43 : decode cX2_haveSameActs 43 = .ok (.aload_n 0, 1) := bo_42 (by decide +kernel)
theorem dX2_haveSameActs_44 : decode cX2_haveSameActs 44 = .ok (.getfield 25, 3) := bo_180 0 25 (by decide +kernel)
theorem k_156 : Cond.fieldLink RX2 25 "BurntWays$Net" "actKinds" "[I" ∈ bw_T := bw_m 156 (by decide +kernel) rfl
theorem dX2_haveSameActs_47 : decode cX2_haveSameActs 47 = .ok (.iload 4, 2) := bo_21 (by decide +kernel)
theorem dX2_haveSameActs_49 : decode cX2_haveSameActs 49 = .ok (.iaload, 1) := bo_46 (by decide +kernel)
theorem dX2_haveSameActs_50 : decode cX2_haveSameActs 50 = .ok (.aload_n 0, 1) := bo_42 (by decide +kernel)
theorem dX2_haveSameActs_51 : decode cX2_haveSameActs 51 = .ok (.getfield 25, 3) := bo_180 0 25 (by decide +kernel)
theorem dX2_haveSameActs_54 : decode cX2_haveSameActs 54 = .ok (.iload 5, 2) := bo_21 (by decide +kernel)
theorem dX2_haveSameActs_56 : decode cX2_haveSameActs 56 = .ok (.iaload, 1) := bo_46 (by decide +kernel)
theorem dX2_haveSameActs_57 : decode cX2_haveSameActs 57 = .ok (.if_icmp .ne 37, 3) := bo_160 0 37 (by decide +kernel)
theorem dX2_haveSameActs_94 : decode cX2_haveSameActs 94 = .ok (.iconst 0, 1) := bo_3 (by decide +kernel)
theorem dX2_haveSameActs_95 : decode cX2_haveSameActs 95 = .ok (.ireturn, 1) := bo_172 (by decide +kernel)
theorem dX2_haveSameActs_60 : decode cX2_haveSameActs 60 = .ok (.aload_n 0, 1) := bo_42 (by decide +kernel)
theorem dX2_haveSameActs_61 : decode cX2_haveSameActs 61 = .ok (.getfield 28, 3) := bo_180 0 28 (by decide +kernel)
theorem k_159 : Cond.fieldLink RX2 28 "BurntWays$Net" "actTargets" "[I" ∈ bw_T := bw_m 159 (by decide +kernel) rfl
theorem dX2_haveSameActs_64 : decode cX2_haveSameActs 64 = .ok (.iload 4, 2) := bo_21 (by decide +kernel)
theorem dX2_haveSameActs_66 : decode cX2_haveSameActs 66 = .ok (.iaload, 1) := bo_46 (by decide +kernel)
theorem dX2_haveSameActs_67 : decode cX2_haveSameActs 67 = .ok (.aload_n 0, 1) := bo_42 (by decide +kernel)
theorem dX2_haveSameActs_68 : decode cX2_haveSameActs 68 = .ok (.getfield 28, 3) := bo_180 0 28 (by decide +kernel)
theorem dX2_haveSameActs_71 : decode cX2_haveSameActs 71 = .ok (.iload 5, 2) := bo_21 (by decide +kernel)
theorem dX2_haveSameActs_73 : decode cX2_haveSameActs 73 = .ok (.iaload, 1) := bo_46 (by decide +kernel)
theorem dX2_haveSameActs_74 : decode cX2_haveSameActs 74 = .ok (.if_icmp .ne 20, 3) := bo_160 0 20 (by decide +kernel)
theorem dX2_haveSameActs_77 : decode cX2_haveSameActs 77 = .ok (.aload_n 0, 1) := bo_42 (by decide +kernel)
theorem dX2_haveSameActs_78 : decode cX2_haveSameActs 78 = .ok (.getfield 31, 3) := bo_180 0 31 (by decide +kernel)
theorem k_162 : Cond.fieldLink RX2 31 "BurntWays$Net" "actValues" "[I" ∈ bw_T := bw_m 162 (by decide +kernel) rfl
theorem dX2_haveSameActs_81 : decode cX2_haveSameActs 81 = .ok (.iload 4, 2) := bo_21 (by decide +kernel)
theorem dX2_haveSameActs_83 : decode cX2_haveSameActs 83 = .ok (.iaload, 1) := bo_46 (by decide +kernel)
theorem dX2_haveSameActs_84 : decode cX2_haveSameActs 84 = .ok (.aload_n 0, 1) := bo_42 (by decide +kernel)
theorem dX2_haveSameActs_85 : decode cX2_haveSameActs 85 = .ok (.getfield 31, 3) := bo_180 0 31 (by decide +kernel)
theorem dX2_haveSameActs_88 : decode cX2_haveSameActs 88 = .ok (.iload 5, 2) := bo_21 (by decide +kernel)
theorem dX2_haveSameActs_90 : decode cX2_haveSameActs 90 = .ok (.iaload, 1) := bo_46 (by decide +kernel)
theorem dX2_haveSameActs_91 : decode cX2_haveSameActs 91 = .ok (.if_icmp .eq 5, 3) := bo_159 0 5 (by decide +kernel)
theorem dX2_haveSameActs_96 : decode cX2_haveSameActs 96 = .ok (.iinc 3 1, 3) := bo_132 3 1 (by decide +kernel)
theorem dX2_haveSameActs_99 : decode cX2_haveSameActs 99 = .ok (.goto (-80), 3) := bo_167 255 176 (by decide +kernel)
theorem dX2_haveSameActs_15 : decode cX2_haveSameActs 15 = .ok (.iconst 0, 1) := bo_3 (by decide +kernel)
theorem dX2_haveSameActs_16 : decode cX2_haveSameActs 16 = .ok (.ireturn, 1) := bo_172 (by decide +kernel)
abbrev rm_X2_haveSameActs : Room := { frames := 0, cells := 0, slots := 0, locals := 0 }
set_option maxRecDepth 100000 in
set_option maxHeartbeats 8000000 in
theorem c_X2_haveSameActs {l : Launch} {E : (Nat → Prop) → State → Prop} (hO : bw_Ok E) {G : va_G} {cI cB cJ cN cW : ClassId} (b : Nat) (q : Nat → Nat) (n : Int) (g : Nat → Nat → Int) (hN : NetOk n g) (x : Int) (y : Int) (hx9 : 0 ≤ x ∧ x < 10) (hy9 : 0 ≤ y ∧ y < 10) : bw_Ci (S := zU) l yX2_haveSameActs (bw_ws (Cond.code yX2_haveSameActs cX2_haveSameActs 6 (some .boolean))) rm_X2_haveSameActs E G (bw_kt cI cB cJ cN cW) [.ref b, .int (zI x), .int (zI y)] [(b, .inr (2, [.int (zI n), .ref (q 0), .ref (q 1), .ref (q 2), .ref (q 3), .ref (q 4), .ref (q 5), .ref (q 6), .ref (q 7)])), ((q 0), .inl (cI, 10, .inl (fun k => zI ((g 0) k)))), ((q 1), .inl (cI, 10, .inl (fun k => zI ((g 1) k)))), ((q 2), .inl (cI, 10, .inl (fun k => zI ((g 2) k)))), ((q 3), .inl (cI, 40, .inl (fun k => zI ((g 3) k)))), ((q 4), .inl (cI, 40, .inl (fun k => zI ((g 4) k)))), ((q 5), .inl (cI, 40, .inl (fun k => zI ((g 5) k)))), ((q 6), .inl (cI, 20, .inl (fun k => zI ((g 6) k)))), ((q 7), .inl (cI, 20, .inl (fun k => zI ((g 7) k))))] (fun r _ => ∃ z : Int, r = zI z ∧ (z = 0 ∨ z = 1)) (fun _ => [(b, .inr (2, [.int (zI n), .ref (q 0), .ref (q 1), .ref (q 2), .ref (q 3), .ref (q 4), .ref (q 5), .ref (q 6), .ref (q 7)])), ((q 0), .inl (cI, 10, .inl (fun k => zI ((g 0) k)))), ((q 1), .inl (cI, 10, .inl (fun k => zI ((g 1) k)))), ((q 2), .inl (cI, 10, .inl (fun k => zI ((g 2) k)))), ((q 3), .inl (cI, 40, .inl (fun k => zI ((g 3) k)))), ((q 4), .inl (cI, 40, .inl (fun k => zI ((g 4) k)))), ((q 5), .inl (cI, 40, .inl (fun k => zI ((g 5) k)))), ((q 6), .inl (cI, 20, .inl (fun k => zI ((g 6) k)))), ((q 7), .inl (cI, 20, .inl (fun k => zI ((g 7) k))))]) := by
  refine bw_Ci.of (cc := cX2_haveSameActs) (maxL := 6) (ty := .boolean) (by decide) rfl (Nat.le_of_ble_eq_true rfl) ?_
  intro p e s m below meth c A Q hx hb hml hts hown hin hK hA hS hP hD hE ret ls hl
  have F : CallFix p m c cX2_haveSameActs 6 s ([.ref b, .int (zI x), .int (zI y)] : List Value).toArray bw_T RX2 := ⟨hx, hb, hml, hown, fun w h => hts w (List.mem_cons_of_mem _ h)⟩
  replace hl : lv_has ls 6 [(0, .ref b), (1, .int (zI x)), (2, .int (zI y))] := hl
  have hN0 := hN.1
  refine lv_aload_n hx hb dX2_haveSameActs_0 rfl (lv_at hl 0 rfl) ?_
  refine r_get F hK hP 0 3 rfl rfl in_X2 (by decide) k_153 rfl dX2_haveSameActs_1 ?_
  refine lv_iload_n hx hb dX2_haveSameActs_4 rfl (lv_at hl 1 rfl) ?_
  refine rz_iald F hK hP 3 0 rfl rfl (by omega) (by omega) dX2_haveSameActs_5 ?_
  have h_l5_0 := hN.2.2.2.1 (x).toNat (by omega)
  refine lv_aload_n hx hb dX2_haveSameActs_6 rfl (lv_at hl 0 rfl) ?_
  refine r_get F hK hP 0 3 rfl rfl in_X2 (by decide) k_153 rfl dX2_haveSameActs_7 ?_
  refine lv_iload_n hx hb dX2_haveSameActs_10 rfl (lv_at hl 2 rfl) ?_
  refine rz_iald F hK hP 3 0 rfl rfl (by omega) (by omega) dX2_haveSameActs_11 ?_
  have h_l11_1 := hN.2.2.2.1 (y).toNat (by omega)
  refine rz_icmp_eq (tgt := 17) F (by omega) (by omega) dX2_haveSameActs_12 (by decide) (fun h12_2 => ?_) (fun h12_2 => ?_)
  · refine lv_iconst (v := zI 0) hx hb dX2_haveSameActs_17 rfl ?_
    refine lv_istore_n (lv' := [(3, .int (zI 0)), (0, .ref b), (1, .int (zI x)), (2, .int (zI y))]) hx hb dX2_haveSameActs_18 rfl hl (by decide) rfl (fun ls hl => ?_)
    refine W.widen (k := 0) (n := 0) (Nat.le_of_ble_eq_true rfl) (Nat.le_of_ble_eq_true rfl) ?_
    refine (?_ : ∀ (n9_1 : Nat) (v3 : Int) (H : Heap) (locs : List Loc), (0 ≤ v3 ∧ v3 ≤ 4) → (4 - v3 : Int).toNat < n9_1 → va_P G vwCl [(b, .inr (2, [.int (zI n), .ref (q 0), .ref (q 1), .ref (q 2), .ref (q 3), .ref (q 4), .ref (q 5), .ref (q 6), .ref (q 7)])), ((q 0), .inl (cI, 10, .inl (fun k => zI ((g 0) k)))), ((q 1), .inl (cI, 10, .inl (fun k => zI ((g 1) k)))), ((q 2), .inl (cI, 10, .inl (fun k => zI ((g 2) k)))), ((q 3), .inl (cI, 40, .inl (fun k => zI ((g 3) k)))), ((q 4), .inl (cI, 40, .inl (fun k => zI ((g 4) k)))), ((q 5), .inl (cI, 40, .inl (fun k => zI ((g 5) k)))), ((q 6), .inl (cI, 20, .inl (fun k => zI ((g 6) k)))), ((q 7), .inl (cI, 20, .inl (fun k => zI ((g 7) k))))] H → va_D A [(b, .inr (2, [.int (zI n), .ref (q 0), .ref (q 1), .ref (q 2), .ref (q 3), .ref (q 4), .ref (q 5), .ref (q 6), .ref (q 7)])), ((q 0), .inl (cI, 10, .inl (fun k => zI ((g 0) k)))), ((q 1), .inl (cI, 10, .inl (fun k => zI ((g 1) k)))), ((q 2), .inl (cI, 10, .inl (fun k => zI ((g 2) k)))), ((q 3), .inl (cI, 40, .inl (fun k => zI ((g 3) k)))), ((q 4), .inl (cI, 40, .inl (fun k => zI ((g 4) k)))), ((q 5), .inl (cI, 40, .inl (fun k => zI ((g 5) k)))), ((q 6), .inl (cI, 20, .inl (fun k => zI ((g 6) k)))), ((q 7), .inl (cI, 20, .inl (fun k => zI ((g 7) k))))] → va_S A s.heap H locs → ∀ ls : Array Slot, lv_has ls 6 [(3, .int (zI v3)), (0, .ref b), (1, .int (zI x)), (2, .int (zI y))] → W p l e rm_X2_haveSameActs s m ([.ref b, .int (zI x), .int (zI y)] : List Value).toArray below meth c H locs 0 0 Q (F0 m 19 ls [])) ((4 - 0 : Int).toNat + 1) 0 _ _ (by omega) (by omega) hP hD hS ls hl
    clear hP hD hS hl ls
    intro n9_1
    induction n9_1 with
    | zero =>
      intro v3 H locs hI hM
      exact absurd hM (by omega)
    | succ n9_1 ih1 =>
      intro v3 H locs hI1 hM1  hP hD hS ls hl
      refine lv_iload_n hx hb dX2_haveSameActs_19 rfl (lv_at hl 0 rfl) ?_
      refine lv_aload_n hx hb dX2_haveSameActs_20 rfl (lv_at hl 1 rfl) ?_
      refine r_get F hK hP 0 3 rfl rfl in_X2 (by decide) k_153 rfl dX2_haveSameActs_21 ?_
      refine lv_iload_n hx hb dX2_haveSameActs_24 rfl (lv_at hl 2 rfl) ?_
      refine rz_iald F hK hP 3 0 rfl rfl (by omega) (by omega) dX2_haveSameActs_25 ?_
      have h_l25_3 := hN.2.2.2.1 (x).toNat (by omega)
      refine rz_icmp_ge (tgt := 102) F (by omega) (by omega) dX2_haveSameActs_26 (by decide) (fun h26_4 => ?_) (fun h26_4 => ?_)
      · refine lv_iconst (v := zI 1) hx hb dX2_haveSameActs_102 rfl ?_
        exact ret (zI 1) (fun _ => 0, fun _ _ => 0) _ _ _ _ _ _ rfl ⟨1, rfl, by omega⟩ (bw_subP (isC := [0, 1, 2, 3, 4, 5, 6, 7, 8]) hP rfl) (hD.sub [0, 1, 2, 3, 4, 5, 6, 7, 8] (by decide) rfl) hS (Nat.le_of_ble_eq_true rfl) (Nat.le_of_ble_eq_true rfl) dX2_haveSameActs_103
      · refine lv_iload_n hx hb dX2_haveSameActs_29 rfl (lv_at hl 2 rfl) ?_
        refine lv_iconst (v := zI 4) hx hb dX2_haveSameActs_30 rfl ?_
        refine r_imul (v := zI (x * 4)) F dX2_haveSameActs_31 (zI_mul _ _) ?_
        refine lv_iload_n hx hb dX2_haveSameActs_32 rfl (lv_at hl 0 rfl) ?_
        refine r_iadd (v := zI ((x * 4) + v3)) F dX2_haveSameActs_33 (zI_add _ _) ?_
        refine lv_istore (lv' := [(4, .int (zI ((x * 4) + v3))), (3, .int (zI v3)), (0, .ref b), (1, .int (zI x)), (2, .int (zI y))]) hx hb dX2_haveSameActs_34 hl (by decide) rfl (fun ls hl => ?_)
        refine lv_iload_n hx hb dX2_haveSameActs_36 rfl (lv_at hl 4 rfl) ?_
        refine lv_iconst (v := zI 4) hx hb dX2_haveSameActs_37 rfl ?_
        refine r_imul (v := zI (y * 4)) F dX2_haveSameActs_38 (zI_mul _ _) ?_
        refine lv_iload_n hx hb dX2_haveSameActs_39 rfl (lv_at hl 1 rfl) ?_
        refine r_iadd (v := zI ((y * 4) + v3)) F dX2_haveSameActs_40 (zI_add _ _) ?_
        refine lv_istore (lv' := [(5, .int (zI ((y * 4) + v3))), (4, .int (zI ((x * 4) + v3))), (3, .int (zI v3)), (0, .ref b), (1, .int (zI x)), (2, .int (zI y))]) hx hb dX2_haveSameActs_41 hl (by decide) rfl (fun ls hl => ?_)
        refine lv_aload_n hx hb dX2_haveSameActs_43 rfl (lv_at hl 3 rfl) ?_
        refine r_get F hK hP 0 4 rfl rfl in_X2 (by decide) k_156 rfl dX2_haveSameActs_44 ?_
        refine lv_iload hx hb dX2_haveSameActs_47 (lv_at hl 1 rfl) ?_
        refine rz_iald F hK hP 4 0 rfl rfl (by omega) (by omega) dX2_haveSameActs_49 ?_
        have h_l49_5 := hN.2.2.2.2.1 (((x * 4) + v3)).toNat (by omega)
        refine lv_aload_n hx hb dX2_haveSameActs_50 rfl (lv_at hl 3 rfl) ?_
        refine r_get F hK hP 0 4 rfl rfl in_X2 (by decide) k_156 rfl dX2_haveSameActs_51 ?_
        refine lv_iload hx hb dX2_haveSameActs_54 (lv_at hl 0 rfl) ?_
        refine rz_iald F hK hP 4 0 rfl rfl (by omega) (by omega) dX2_haveSameActs_56 ?_
        have h_l56_6 := hN.2.2.2.2.1 (((y * 4) + v3)).toNat (by omega)
        refine rz_icmp_ne (tgt := 94) F (by omega) (by omega) dX2_haveSameActs_57 (by decide) (fun h57_7 => ?_) (fun h57_7 => ?_)
        · refine lv_iconst (v := zI 0) hx hb dX2_haveSameActs_94 rfl ?_
          exact ret (zI 0) (fun _ => 0, fun _ _ => 0) _ _ _ _ _ _ rfl ⟨0, rfl, by omega⟩ (bw_subP (isC := [0, 1, 2, 3, 4, 5, 6, 7, 8]) hP rfl) (hD.sub [0, 1, 2, 3, 4, 5, 6, 7, 8] (by decide) rfl) hS (Nat.le_of_ble_eq_true rfl) (Nat.le_of_ble_eq_true rfl) dX2_haveSameActs_95
        · refine lv_aload_n hx hb dX2_haveSameActs_60 rfl (lv_at hl 3 rfl) ?_
          refine r_get F hK hP 0 5 rfl rfl in_X2 (by decide) k_159 rfl dX2_haveSameActs_61 ?_
          refine lv_iload hx hb dX2_haveSameActs_64 (lv_at hl 1 rfl) ?_
          refine rz_iald F hK hP 5 0 rfl rfl (by omega) (by omega) dX2_haveSameActs_66 ?_
          have h_l66_8 := hN.2.2.2.2.2.1 (((x * 4) + v3)).toNat (by omega)
          refine lv_aload_n hx hb dX2_haveSameActs_67 rfl (lv_at hl 3 rfl) ?_
          refine r_get F hK hP 0 5 rfl rfl in_X2 (by decide) k_159 rfl dX2_haveSameActs_68 ?_
          refine lv_iload hx hb dX2_haveSameActs_71 (lv_at hl 0 rfl) ?_
          refine rz_iald F hK hP 5 0 rfl rfl (by omega) (by omega) dX2_haveSameActs_73 ?_
          have h_l73_9 := hN.2.2.2.2.2.1 (((y * 4) + v3)).toNat (by omega)
          refine rz_icmp_ne (tgt := 94) F (by omega) (by omega) dX2_haveSameActs_74 (by decide) (fun h74_10 => ?_) (fun h74_10 => ?_)
          · refine lv_iconst (v := zI 0) hx hb dX2_haveSameActs_94 rfl ?_
            exact ret (zI 0) (fun _ => 0, fun _ _ => 0) _ _ _ _ _ _ rfl ⟨0, rfl, by omega⟩ (bw_subP (isC := [0, 1, 2, 3, 4, 5, 6, 7, 8]) hP rfl) (hD.sub [0, 1, 2, 3, 4, 5, 6, 7, 8] (by decide) rfl) hS (Nat.le_of_ble_eq_true rfl) (Nat.le_of_ble_eq_true rfl) dX2_haveSameActs_95
          · refine lv_aload_n hx hb dX2_haveSameActs_77 rfl (lv_at hl 3 rfl) ?_
            refine r_get F hK hP 0 6 rfl rfl in_X2 (by decide) k_162 rfl dX2_haveSameActs_78 ?_
            refine lv_iload hx hb dX2_haveSameActs_81 (lv_at hl 1 rfl) ?_
            refine rz_iald F hK hP 6 0 rfl rfl (by omega) (by omega) dX2_haveSameActs_83 ?_
            have h_l83_11 := hN.2.2.2.2.2.2.1 (((x * 4) + v3)).toNat (by omega)
            refine lv_aload_n hx hb dX2_haveSameActs_84 rfl (lv_at hl 3 rfl) ?_
            refine r_get F hK hP 0 6 rfl rfl in_X2 (by decide) k_162 rfl dX2_haveSameActs_85 ?_
            refine lv_iload hx hb dX2_haveSameActs_88 (lv_at hl 0 rfl) ?_
            refine rz_iald F hK hP 6 0 rfl rfl (by omega) (by omega) dX2_haveSameActs_90 ?_
            have h_l90_12 := hN.2.2.2.2.2.2.1 (((y * 4) + v3)).toNat (by omega)
            refine rz_icmp_eq (tgt := 96) F (by omega) (by omega) dX2_haveSameActs_91 (by decide) (fun h91_13 => ?_) (fun h91_13 => ?_)
            · refine lv_iinc (v := zI (v3 + 1)) (lv' := [(3, .int (zI (v3 + 1))), (5, .int (zI ((y * 4) + v3))), (4, .int (zI ((x * 4) + v3))), (0, .ref b), (1, .int (zI x)), (2, .int (zI y))]) hx hb dX2_haveSameActs_96 hl (k := 2) rfl (zI_add _ _) (by decide) rfl (fun ls hl => ?_)
              refine lv_goto (tgt := 19) hx hb dX2_haveSameActs_99 (by decide) ?_
              exact ih1 (v3 + 1) _ _ (by omega) (by omega) hP hD hS ls (lv_sub hl [0, 3, 4, 5] rfl)
            · refine lv_iconst (v := zI 0) hx hb dX2_haveSameActs_94 rfl ?_
              exact ret (zI 0) (fun _ => 0, fun _ _ => 0) _ _ _ _ _ _ rfl ⟨0, rfl, by omega⟩ (bw_subP (isC := [0, 1, 2, 3, 4, 5, 6, 7, 8]) hP rfl) (hD.sub [0, 1, 2, 3, 4, 5, 6, 7, 8] (by decide) rfl) hS (Nat.le_of_ble_eq_true rfl) (Nat.le_of_ble_eq_true rfl) dX2_haveSameActs_95
  · refine lv_iconst (v := zI 0) hx hb dX2_haveSameActs_15 rfl ?_
    exact ret (zI 0) (fun _ => 0, fun _ _ => 0) _ _ _ _ _ _ rfl ⟨0, rfl, by omega⟩ (bw_subP (isC := [0, 1, 2, 3, 4, 5, 6, 7, 8]) hP rfl) (hD.sub [0, 1, 2, 3, 4, 5, 6, 7, 8] (by decide) rfl) hS (Nat.le_of_ble_eq_true rfl) (Nat.le_of_ble_eq_true rfl) dX2_haveSameActs_16
theorem dX2_areAlike_0 : decode cX2_areAlike 0 = .ok (.aload_n 0, 1) := bo_42 (by decide +kernel)
theorem dX2_areAlike_1 : decode cX2_areAlike 1 = .ok (.iload_n 1, 1) := bo_27 (by decide +kernel)
theorem dX2_areAlike_2 : decode cX2_areAlike 2 = .ok (.invokevirtual 53, 3) := bo_182 0 53 (by decide +kernel)
theorem dX2_areAlike_5 : decode cX2_areAlike 5 = .ok (.ifCond .eq 96, 3) := bo_153 0 96 (by decide +kernel)
theorem dX2_areAlike_101 : decode cX2_areAlike 101 = .ok (.iconst 0, 1) := bo_3 (by decide +kernel)
theorem dX2_areAlike_102 : decode cX2_areAlike 102 = .ok (.ireturn, 1) := bo_172 (by decide +kernel)
theorem dX2_areAlike_8 : decode cX2_areAlike 8 = .ok (.aload_n 0, 1) := bo_42 (by decide +kernel)
theorem dX2_areAlike_9 : decode cX2_areAlike 9 = .ok (.iload_n 2, 1) := bo_28 (by decide +kernel)
theorem dX2_areAlike_10 : decode cX2_areAlike 10 = .ok (.invokevirtual 53, 3) := bo_182 0 53 (by decide +kernel)
theorem dX2_areAlike_13 : decode cX2_areAlike 13 = .ok (.ifCond .eq 88, 3) := bo_153 0 88 (by decide +kernel)
theorem dX2_areAlike_16 : decode cX2_areAlike 16 = .ok (.aload_n 0, 1) := bo_42 (by decide +kernel)
theorem dX2_areAlike_17 : decode cX2_areAlike 17 = .ok (.getfield 15, 3) := bo_180 0 15 (by decide +kernel)
theorem dX2_areAlike_20 : decode cX2_areAlike 20 = .ok (.iload_n 1, 1) := bo_27 (by decide +kernel)
theorem dX2_areAlike_21 : decode cX2_areAlike 21 = .ok (.iaload, 1) := bo_46 (by decide +kernel)
theorem dX2_areAlike_22 : decode cX2_areAlike 22 = .ok (.aload_n 0, 1) := bo_42 (by decide +kernel)
theorem dX2_areAlike_23 : decode cX2_areAlike 23 = .ok (.getfield 15, 3) := bo_180 0 15 (by decide +kernel)
theorem dX2_areAlike_26 : decode cX2_areAlike 26 = .ok (.iload_n 2, 1) := bo_28 (by decide +kernel)
theorem dX2_areAlike_27 : decode cX2_areAlike 27 = .ok (.iaload, 1) := bo_46 (by decide +kernel)
theorem dX2_areAlike_28 : decode cX2_areAlike 28 = .ok (.if_icmp .ne 73, 3) := bo_160 0 73 (by decide +kernel)
theorem dX2_areAlike_31 : decode cX2_areAlike 31 = .ok (.aload_n 0, 1) := bo_42 (by decide +kernel)
theorem dX2_areAlike_32 : decode cX2_areAlike 32 = .ok (.getfield 19, 3) := bo_180 0 19 (by decide +kernel)
theorem dX2_areAlike_35 : decode cX2_areAlike 35 = .ok (.iload_n 1, 1) := bo_27 (by decide +kernel)
theorem dX2_areAlike_36 : decode cX2_areAlike 36 = .ok (.iaload, 1) := bo_46 (by decide +kernel)
theorem dX2_areAlike_37 : decode cX2_areAlike 37 = .ok (.aload_n 0, 1) := bo_42 (by decide +kernel)
theorem dX2_areAlike_38 : decode cX2_areAlike 38 = .ok (.getfield 19, 3) := bo_180 0 19 (by decide +kernel)
theorem dX2_areAlike_41 : decode cX2_areAlike 41 = .ok (.iload_n 2, 1) := bo_28 (by decide +kernel)
theorem dX2_areAlike_42 : decode cX2_areAlike 42 = .ok (.iaload, 1) := bo_46 (by decide +kernel)
theorem dX2_areAlike_43 : decode cX2_areAlike 43 = .ok (.if_icmp .ne 58, 3) := bo_160 0 58 (by decide +kernel)
theorem dX2_areAlike_46 : decode cX2_areAlike 46 = .ok (.aload_n 0, 1) := bo_42 (by decide +kernel)
theorem dX2_areAlike_47 : decode cX2_areAlike 47 = .ok (.getfield 34, 3) := bo_180 0 34 (by decide +kernel)
theorem dX2_areAlike_50 : decode cX2_areAlike 50 = .ok (.iconst 2, 1) := bo_5 (by decide +kernel)
theorem dX2_areAlike_51 : decode cX2_areAlike 51 = .ok (.iload_n 1, 1) := bo_27 (by decide +kernel)
theorem dX2_areAlike_52 : decode cX2_areAlike 52 = .ok (.imul, 1) := bo_104 (by decide +kernel)
theorem dX2_areAlike_53 : decode cX2_areAlike 53 = .ok (.iaload, 1) := bo_46 (by decide +kernel)
theorem dX2_areAlike_54 : decode cX2_areAlike 54 = .ok (.aload_n 0, 1) := bo_42 (by decide +kernel)
theorem dX2_areAlike_55 : decode cX2_areAlike 55 = .ok (.getfield 34, 3) := bo_180 0 34 (by decide +kernel)
theorem dX2_areAlike_58 : decode cX2_areAlike 58 = .ok (.iconst 2, 1) := bo_5 (by decide +kernel)
theorem dX2_areAlike_59 : decode cX2_areAlike 59 = .ok (.iload_n 2, 1) := bo_28 (by decide +kernel)
theorem dX2_areAlike_60 : decode cX2_areAlike 60 = .ok (.imul, 1) := bo_104 (by decide +kernel)
theorem dX2_areAlike_61 : decode cX2_areAlike 61 = .ok (.iaload, 1) := bo_46 (by decide +kernel)
theorem dX2_areAlike_62 : decode cX2_areAlike 62 = .ok (.if_icmp .ne 39, 3) := bo_160 0 39 (by decide +kernel)
theorem dX2_areAlike_65 : decode cX2_areAlike 65 = .ok (.aload_n 0, 1) := bo_42 (by decide +kernel)
theorem dX2_areAlike_66 : decode cX2_areAlike 66 = .ok (.getfield 34, 3) := bo_180 0 34 (by decide +kernel)
theorem dX2_areAlike_69 : decode cX2_areAlike 69 = .ok (.iconst 2, 1) := bo_5 (by decide +kernel)
theorem dX2_areAlike_70 : decode cX2_areAlike 70 = .ok (.iload_n 1, 1) := bo_27 (by decide +kernel)
theorem dX2_areAlike_71 : decode cX2_areAlike 71 = .ok (.imul, 1) := bo_104 (by decide +kernel)
theorem dX2_areAlike_72 : decode cX2_areAlike 72 = .ok (.iconst 1, 1) := bo_4 (by decide +kernel)
theorem dX2_areAlike_73 : decode cX2_areAlike 73 = .ok (.iadd, 1) := bo_96 (by decide +kernel)
theorem dX2_areAlike_74 : decode cX2_areAlike 74 = .ok (.iaload, 1) := bo_46 (by decide +kernel)
theorem dX2_areAlike_75 : decode cX2_areAlike 75 = .ok (.aload_n 0, 1) := bo_42 (by decide +kernel)
theorem dX2_areAlike_76 : decode cX2_areAlike 76 = .ok (.getfield 34, 3) := bo_180 0 34 (by decide +kernel)
theorem dX2_areAlike_79 : decode cX2_areAlike 79 = .ok (.iconst 2, 1) := bo_5 (by decide +kernel)
theorem dX2_areAlike_80 : decode cX2_areAlike 80 = .ok (.iload_n 2, 1) := bo_28 (by decide +kernel)
theorem dX2_areAlike_81 : decode cX2_areAlike 81 = .ok (.imul, 1) := bo_104 (by decide +kernel)
theorem dX2_areAlike_82 : decode cX2_areAlike 82 = .ok (.iconst 1, 1) := bo_4 (by decide +kernel)
theorem dX2_areAlike_83 : decode cX2_areAlike 83 = .ok (.iadd, 1) := bo_96 (by decide +kernel)
theorem dX2_areAlike_84 : decode cX2_areAlike 84 = .ok (.iaload, 1) := bo_46 (by decide +kernel)
theorem dX2_areAlike_85 : decode cX2_areAlike 85 = .ok (.if_icmp .ne 16, 3) := bo_160 0 16 (by decide +kernel)
theorem dX2_areAlike_88 : decode cX2_areAlike 88 = .ok (.aload_n 0, 1) := bo_42 (by decide +kernel)
theorem dX2_areAlike_89 : decode cX2_areAlike 89 = .ok (.iload_n 1, 1) := bo_27 (by decide +kernel)
theorem dX2_areAlike_90 : decode cX2_areAlike 90 = .ok (.iload_n 2, 1) := bo_28 (by decide +kernel)
theorem dX2_areAlike_91 : decode cX2_areAlike 91 = .ok (.invokevirtual 84, 3) := bo_182 0 84 (by decide +kernel)
theorem k_970 : Cond.methodLink RX2 84 yX2_haveSameActs ∈ bw_T := bw_m 970 (by decide +kernel) rfl
theorem kv_X2_haveSameActs : bw_KV RX2 yX2_haveSameActs (Cond.code yX2_haveSameActs cX2_haveSameActs 6 (some .boolean)) := ⟨bw_m 972 (by decide +kernel) rfl, bw_m 36 (by decide +kernel) rfl, bw_m 96 (by decide +kernel) rfl, bw_m 973 (by decide +kernel) rfl⟩
theorem dX2_areAlike_94 : decode cX2_areAlike 94 = .ok (.ifCond .eq 7, 3) := bo_153 0 7 (by decide +kernel)
theorem dX2_areAlike_97 : decode cX2_areAlike 97 = .ok (.iconst 1, 1) := bo_4 (by decide +kernel)
theorem dX2_areAlike_98 : decode cX2_areAlike 98 = .ok (.goto 4, 3) := bo_167 0 4 (by decide +kernel)
abbrev rm_X2_areAlike : Room := { frames := 1, cells := 0, slots := 0, locals := 25 }
set_option maxRecDepth 100000 in
set_option maxHeartbeats 8000000 in
theorem c_X2_areAlike {l : Launch} {E : (Nat → Prop) → State → Prop} (hO : bw_Ok E) {G : va_G} {cI cB cJ cN cW : ClassId} (b : Nat) (q : Nat → Nat) (n : Int) (g : Nat → Nat → Int) (hN : NetOk n g) (x : Int) (y : Int) (hx9 : 0 ≤ x ∧ x < 10) (hy9 : 0 ≤ y ∧ y < 10) : bw_Ci (S := zU) l yX2_areAlike (bw_ws (Cond.code yX2_areAlike cX2_areAlike 3 (some .boolean))) rm_X2_areAlike E G (bw_kt cI cB cJ cN cW) [.ref b, .int (zI x), .int (zI y)] [(b, .inr (2, [.int (zI n), .ref (q 0), .ref (q 1), .ref (q 2), .ref (q 3), .ref (q 4), .ref (q 5), .ref (q 6), .ref (q 7)])), ((q 0), .inl (cI, 10, .inl (fun k => zI ((g 0) k)))), ((q 1), .inl (cI, 10, .inl (fun k => zI ((g 1) k)))), ((q 2), .inl (cI, 10, .inl (fun k => zI ((g 2) k)))), ((q 3), .inl (cI, 40, .inl (fun k => zI ((g 3) k)))), ((q 4), .inl (cI, 40, .inl (fun k => zI ((g 4) k)))), ((q 5), .inl (cI, 40, .inl (fun k => zI ((g 5) k)))), ((q 6), .inl (cI, 20, .inl (fun k => zI ((g 6) k)))), ((q 7), .inl (cI, 20, .inl (fun k => zI ((g 7) k))))] (fun r _ => ∃ z : Int, r = zI z ∧ (z = 0 ∨ z = 1) ∧ (z = 1 → g 6 (2 * x).toNat = g 6 (2 * y).toNat ∧ g 6 (2 * x + 1).toNat = g 6 (2 * y + 1).toNat)) (fun _ => [(b, .inr (2, [.int (zI n), .ref (q 0), .ref (q 1), .ref (q 2), .ref (q 3), .ref (q 4), .ref (q 5), .ref (q 6), .ref (q 7)])), ((q 0), .inl (cI, 10, .inl (fun k => zI ((g 0) k)))), ((q 1), .inl (cI, 10, .inl (fun k => zI ((g 1) k)))), ((q 2), .inl (cI, 10, .inl (fun k => zI ((g 2) k)))), ((q 3), .inl (cI, 40, .inl (fun k => zI ((g 3) k)))), ((q 4), .inl (cI, 40, .inl (fun k => zI ((g 4) k)))), ((q 5), .inl (cI, 40, .inl (fun k => zI ((g 5) k)))), ((q 6), .inl (cI, 20, .inl (fun k => zI ((g 6) k)))), ((q 7), .inl (cI, 20, .inl (fun k => zI ((g 7) k))))]) := by
  refine bw_Ci.of (cc := cX2_areAlike) (maxL := 3) (ty := .boolean) (by decide) rfl (Nat.le_of_ble_eq_true rfl) ?_
  intro p e s m below meth c A Q hx hb hml hts hown hin hK hA hS hP hD hE ret ls hl
  have F : CallFix p m c cX2_areAlike 3 s ([.ref b, .int (zI x), .int (zI y)] : List Value).toArray bw_T RX2 := ⟨hx, hb, hml, hown, fun w h => hts w (List.mem_cons_of_mem _ h)⟩
  replace hl : lv_has ls 3 [(0, .ref b), (1, .int (zI x)), (2, .int (zI y))] := hl
  have hN0 := hN.1
  refine lv_aload_n hx hb dX2_areAlike_0 rfl (lv_at hl 0 rfl) ?_
  refine lv_iload_n hx hb dX2_areAlike_1 rfl (lv_at hl 1 rfl) ?_
  refine r_callVi (As := [.int (zI x)]) (rest := []) (wr := []) F hK hP hD hS hA hO hE (c_X2_tells hO b q n g hN x (by omega)) k_969 kv_X2_tells 1 rfl (by decide +kernel) ⟨Nat.le_of_ble_eq_true rfl, Nat.le_of_ble_eq_true rfl⟩ [0, 1, 2, 3, 4, 5, 6, 7, 8] [] rfl rfl (by decide) (by decide) (by decide) 0 2 rfl rfl rfl hl.1 rfl (Nat.le_of_ble_eq_true rfl) dX2_areAlike_2 ⟨Nat.le_of_ble_eq_true rfl, Nat.le_of_ble_eq_true rfl⟩ (w1 := fun u1 => [(b, .inr (2, [.int (zI n), .ref (q 0), .ref (q 1), .ref (q 2), .ref (q 3), .ref (q 4), .ref (q 5), .ref (q 6), .ref (q 7)])), ((q 0), .inl (cI, 10, .inl (fun k => zI ((g 0) k)))), ((q 1), .inl (cI, 10, .inl (fun k => zI ((g 1) k)))), ((q 2), .inl (cI, 10, .inl (fun k => zI ((g 2) k)))), ((q 3), .inl (cI, 40, .inl (fun k => zI ((g 3) k)))), ((q 4), .inl (cI, 40, .inl (fun k => zI ((g 4) k)))), ((q 5), .inl (cI, 40, .inl (fun k => zI ((g 5) k)))), ((q 6), .inl (cI, 20, .inl (fun k => zI ((g 6) k)))), ((q 7), .inl (cI, 20, .inl (fun k => zI ((g 7) k))))]) (fun _ => rfl) (fun r2 u1 H locs hp3 hP hD hS => ?_)
  obtain ⟨z4, rfl, h_z4⟩ := hp3
  refine rz_if_eq (tgt := 101) F (by omega) dX2_areAlike_5 (by decide) (fun h5_4 => ?_) (fun h5_4 => ?_)
  · refine lv_iconst (v := zI 0) hx hb dX2_areAlike_101 rfl ?_
    exact ret (zI 0) (fun _ => 0, fun _ _ => 0) _ _ _ _ _ _ rfl ⟨0, rfl, by omega, fun _ => by omega⟩ (bw_subP (isC := [0, 1, 2, 3, 4, 5, 6, 7, 8]) hP rfl) (hD.sub [0, 1, 2, 3, 4, 5, 6, 7, 8] (by decide) rfl) hS (Nat.le_of_ble_eq_true rfl) (Nat.le_of_ble_eq_true rfl) dX2_areAlike_102
  · refine lv_aload_n hx hb dX2_areAlike_8 rfl (lv_at hl 0 rfl) ?_
    refine lv_iload_n hx hb dX2_areAlike_9 rfl (lv_at hl 2 rfl) ?_
    refine r_callVi (As := [.int (zI y)]) (rest := []) (wr := []) F hK hP hD hS hA hO hE (c_X2_tells hO b q n g hN y (by omega)) k_969 kv_X2_tells 1 rfl (by decide +kernel) ⟨Nat.le_of_ble_eq_true rfl, Nat.le_of_ble_eq_true rfl⟩ [0, 1, 2, 3, 4, 5, 6, 7, 8] [] rfl rfl (by decide) (by decide) (by decide) 0 2 rfl rfl rfl hl.1 rfl (Nat.le_of_ble_eq_true rfl) dX2_areAlike_10 ⟨Nat.le_of_ble_eq_true rfl, Nat.le_of_ble_eq_true rfl⟩ (w1 := fun u6 => [(b, .inr (2, [.int (zI n), .ref (q 0), .ref (q 1), .ref (q 2), .ref (q 3), .ref (q 4), .ref (q 5), .ref (q 6), .ref (q 7)])), ((q 0), .inl (cI, 10, .inl (fun k => zI ((g 0) k)))), ((q 1), .inl (cI, 10, .inl (fun k => zI ((g 1) k)))), ((q 2), .inl (cI, 10, .inl (fun k => zI ((g 2) k)))), ((q 3), .inl (cI, 40, .inl (fun k => zI ((g 3) k)))), ((q 4), .inl (cI, 40, .inl (fun k => zI ((g 4) k)))), ((q 5), .inl (cI, 40, .inl (fun k => zI ((g 5) k)))), ((q 6), .inl (cI, 20, .inl (fun k => zI ((g 6) k)))), ((q 7), .inl (cI, 20, .inl (fun k => zI ((g 7) k))))]) (fun _ => rfl) (fun r7 u6 H locs hp8 hP hD hS => ?_)
    obtain ⟨z9, rfl, h_z9⟩ := hp8
    refine rz_if_eq (tgt := 101) F (by omega) dX2_areAlike_13 (by decide) (fun h13_9 => ?_) (fun h13_9 => ?_)
    · refine lv_iconst (v := zI 0) hx hb dX2_areAlike_101 rfl ?_
      exact ret (zI 0) (fun _ => 0, fun _ _ => 0) _ _ _ _ _ _ rfl ⟨0, rfl, by omega, fun _ => by omega⟩ (bw_subP (isC := [0, 1, 2, 3, 4, 5, 6, 7, 8]) hP rfl) (hD.sub [0, 1, 2, 3, 4, 5, 6, 7, 8] (by decide) rfl) hS (Nat.le_of_ble_eq_true rfl) (Nat.le_of_ble_eq_true rfl) dX2_areAlike_102
    · refine lv_aload_n hx hb dX2_areAlike_16 rfl (lv_at hl 0 rfl) ?_
      refine r_get F hK hP 0 1 rfl rfl in_X2 (by decide) k_147 rfl dX2_areAlike_17 ?_
      refine lv_iload_n hx hb dX2_areAlike_20 rfl (lv_at hl 1 rfl) ?_
      refine rz_iald F hK hP 1 0 rfl rfl (by omega) (by omega) dX2_areAlike_21 ?_
      have h_l21_10 := hN.2.1 (x).toNat (by omega)
      refine lv_aload_n hx hb dX2_areAlike_22 rfl (lv_at hl 0 rfl) ?_
      refine r_get F hK hP 0 1 rfl rfl in_X2 (by decide) k_147 rfl dX2_areAlike_23 ?_
      refine lv_iload_n hx hb dX2_areAlike_26 rfl (lv_at hl 2 rfl) ?_
      refine rz_iald F hK hP 1 0 rfl rfl (by omega) (by omega) dX2_areAlike_27 ?_
      have h_l27_11 := hN.2.1 (y).toNat (by omega)
      refine rz_icmp_ne (tgt := 101) F (by omega) (by omega) dX2_areAlike_28 (by decide) (fun h28_12 => ?_) (fun h28_12 => ?_)
      · refine lv_iconst (v := zI 0) hx hb dX2_areAlike_101 rfl ?_
        exact ret (zI 0) (fun _ => 0, fun _ _ => 0) _ _ _ _ _ _ rfl ⟨0, rfl, by omega, fun _ => by omega⟩ (bw_subP (isC := [0, 1, 2, 3, 4, 5, 6, 7, 8]) hP rfl) (hD.sub [0, 1, 2, 3, 4, 5, 6, 7, 8] (by decide) rfl) hS (Nat.le_of_ble_eq_true rfl) (Nat.le_of_ble_eq_true rfl) dX2_areAlike_102
      · refine lv_aload_n hx hb dX2_areAlike_31 rfl (lv_at hl 0 rfl) ?_
        refine r_get F hK hP 0 2 rfl rfl in_X2 (by decide) k_150 rfl dX2_areAlike_32 ?_
        refine lv_iload_n hx hb dX2_areAlike_35 rfl (lv_at hl 1 rfl) ?_
        refine rz_iald F hK hP 2 0 rfl rfl (by omega) (by omega) dX2_areAlike_36 ?_
        have h_l36_13 := hN.2.2.1 (x).toNat (by omega)
        refine lv_aload_n hx hb dX2_areAlike_37 rfl (lv_at hl 0 rfl) ?_
        refine r_get F hK hP 0 2 rfl rfl in_X2 (by decide) k_150 rfl dX2_areAlike_38 ?_
        refine lv_iload_n hx hb dX2_areAlike_41 rfl (lv_at hl 2 rfl) ?_
        refine rz_iald F hK hP 2 0 rfl rfl (by omega) (by omega) dX2_areAlike_42 ?_
        have h_l42_14 := hN.2.2.1 (y).toNat (by omega)
        refine rz_icmp_ne (tgt := 101) F (by omega) (by omega) dX2_areAlike_43 (by decide) (fun h43_15 => ?_) (fun h43_15 => ?_)
        · refine lv_iconst (v := zI 0) hx hb dX2_areAlike_101 rfl ?_
          exact ret (zI 0) (fun _ => 0, fun _ _ => 0) _ _ _ _ _ _ rfl ⟨0, rfl, by omega, fun _ => by omega⟩ (bw_subP (isC := [0, 1, 2, 3, 4, 5, 6, 7, 8]) hP rfl) (hD.sub [0, 1, 2, 3, 4, 5, 6, 7, 8] (by decide) rfl) hS (Nat.le_of_ble_eq_true rfl) (Nat.le_of_ble_eq_true rfl) dX2_areAlike_102
        · refine lv_aload_n hx hb dX2_areAlike_46 rfl (lv_at hl 0 rfl) ?_
          refine r_get F hK hP 0 7 rfl rfl in_X2 (by decide) k_165 rfl dX2_areAlike_47 ?_
          refine lv_iconst (v := zI 2) hx hb dX2_areAlike_50 rfl ?_
          refine lv_iload_n hx hb dX2_areAlike_51 rfl (lv_at hl 1 rfl) ?_
          refine r_imul (v := zI (2 * x)) F dX2_areAlike_52 (zI_mul _ _) ?_
          refine rz_iald F hK hP 7 0 rfl rfl (by omega) (by omega) dX2_areAlike_53 ?_
          have h_l53_16 := hN.2.2.2.2.2.2.2.1 ((2 * x)).toNat (by omega)
          refine lv_aload_n hx hb dX2_areAlike_54 rfl (lv_at hl 0 rfl) ?_
          refine r_get F hK hP 0 7 rfl rfl in_X2 (by decide) k_165 rfl dX2_areAlike_55 ?_
          refine lv_iconst (v := zI 2) hx hb dX2_areAlike_58 rfl ?_
          refine lv_iload_n hx hb dX2_areAlike_59 rfl (lv_at hl 2 rfl) ?_
          refine r_imul (v := zI (2 * y)) F dX2_areAlike_60 (zI_mul _ _) ?_
          refine rz_iald F hK hP 7 0 rfl rfl (by omega) (by omega) dX2_areAlike_61 ?_
          have h_l61_17 := hN.2.2.2.2.2.2.2.1 ((2 * y)).toNat (by omega)
          refine rz_icmp_ne (tgt := 101) F (by omega) (by omega) dX2_areAlike_62 (by decide) (fun h62_18 => ?_) (fun h62_18 => ?_)
          · refine lv_iconst (v := zI 0) hx hb dX2_areAlike_101 rfl ?_
            exact ret (zI 0) (fun _ => 0, fun _ _ => 0) _ _ _ _ _ _ rfl ⟨0, rfl, by omega, fun _ => by omega⟩ (bw_subP (isC := [0, 1, 2, 3, 4, 5, 6, 7, 8]) hP rfl) (hD.sub [0, 1, 2, 3, 4, 5, 6, 7, 8] (by decide) rfl) hS (Nat.le_of_ble_eq_true rfl) (Nat.le_of_ble_eq_true rfl) dX2_areAlike_102
          · refine lv_aload_n hx hb dX2_areAlike_65 rfl (lv_at hl 0 rfl) ?_
            refine r_get F hK hP 0 7 rfl rfl in_X2 (by decide) k_165 rfl dX2_areAlike_66 ?_
            refine lv_iconst (v := zI 2) hx hb dX2_areAlike_69 rfl ?_
            refine lv_iload_n hx hb dX2_areAlike_70 rfl (lv_at hl 1 rfl) ?_
            refine r_imul (v := zI (2 * x)) F dX2_areAlike_71 (zI_mul _ _) ?_
            refine lv_iconst (v := zI 1) hx hb dX2_areAlike_72 rfl ?_
            refine r_iadd (v := zI ((2 * x) + 1)) F dX2_areAlike_73 (zI_add _ _) ?_
            refine rz_iald F hK hP 7 0 rfl rfl (by omega) (by omega) dX2_areAlike_74 ?_
            have h_l74_19 := hN.2.2.2.2.2.2.2.1 (((2 * x) + 1)).toNat (by omega)
            refine lv_aload_n hx hb dX2_areAlike_75 rfl (lv_at hl 0 rfl) ?_
            refine r_get F hK hP 0 7 rfl rfl in_X2 (by decide) k_165 rfl dX2_areAlike_76 ?_
            refine lv_iconst (v := zI 2) hx hb dX2_areAlike_79 rfl ?_
            refine lv_iload_n hx hb dX2_areAlike_80 rfl (lv_at hl 2 rfl) ?_
            refine r_imul (v := zI (2 * y)) F dX2_areAlike_81 (zI_mul _ _) ?_
            refine lv_iconst (v := zI 1) hx hb dX2_areAlike_82 rfl ?_
            refine r_iadd (v := zI ((2 * y) + 1)) F dX2_areAlike_83 (zI_add _ _) ?_
            refine rz_iald F hK hP 7 0 rfl rfl (by omega) (by omega) dX2_areAlike_84 ?_
            have h_l84_20 := hN.2.2.2.2.2.2.2.1 (((2 * y) + 1)).toNat (by omega)
            refine rz_icmp_ne (tgt := 101) F (by omega) (by omega) dX2_areAlike_85 (by decide) (fun h85_21 => ?_) (fun h85_21 => ?_)
            · refine lv_iconst (v := zI 0) hx hb dX2_areAlike_101 rfl ?_
              exact ret (zI 0) (fun _ => 0, fun _ _ => 0) _ _ _ _ _ _ rfl ⟨0, rfl, by omega, fun _ => by omega⟩ (bw_subP (isC := [0, 1, 2, 3, 4, 5, 6, 7, 8]) hP rfl) (hD.sub [0, 1, 2, 3, 4, 5, 6, 7, 8] (by decide) rfl) hS (Nat.le_of_ble_eq_true rfl) (Nat.le_of_ble_eq_true rfl) dX2_areAlike_102
            · refine lv_aload_n hx hb dX2_areAlike_88 rfl (lv_at hl 0 rfl) ?_
              refine lv_iload_n hx hb dX2_areAlike_89 rfl (lv_at hl 1 rfl) ?_
              refine lv_iload_n hx hb dX2_areAlike_90 rfl (lv_at hl 2 rfl) ?_
              refine r_callVi (As := [.int (zI x), .int (zI y)]) (rest := []) (wr := []) F hK hP hD hS hA hO hE (c_X2_haveSameActs hO b q n g hN x y (by omega) (by omega)) k_970 kv_X2_haveSameActs 2 rfl (by decide +kernel) ⟨Nat.le_of_ble_eq_true rfl, Nat.le_of_ble_eq_true rfl⟩ [0, 1, 2, 3, 4, 5, 6, 7, 8] [] rfl rfl (by decide) (by decide) (by decide) 0 2 rfl rfl rfl hl.1 rfl (Nat.le_of_ble_eq_true rfl) dX2_areAlike_91 ⟨Nat.le_of_ble_eq_true rfl, Nat.le_of_ble_eq_true rfl⟩ (w1 := fun u23 => [(b, .inr (2, [.int (zI n), .ref (q 0), .ref (q 1), .ref (q 2), .ref (q 3), .ref (q 4), .ref (q 5), .ref (q 6), .ref (q 7)])), ((q 0), .inl (cI, 10, .inl (fun k => zI ((g 0) k)))), ((q 1), .inl (cI, 10, .inl (fun k => zI ((g 1) k)))), ((q 2), .inl (cI, 10, .inl (fun k => zI ((g 2) k)))), ((q 3), .inl (cI, 40, .inl (fun k => zI ((g 3) k)))), ((q 4), .inl (cI, 40, .inl (fun k => zI ((g 4) k)))), ((q 5), .inl (cI, 40, .inl (fun k => zI ((g 5) k)))), ((q 6), .inl (cI, 20, .inl (fun k => zI ((g 6) k)))), ((q 7), .inl (cI, 20, .inl (fun k => zI ((g 7) k))))]) (fun _ => rfl) (fun r24 u23 H locs hp25 hP hD hS => ?_)
              obtain ⟨z26, rfl, h_z26⟩ := hp25
              refine rz_if_eq (tgt := 101) F (by omega) dX2_areAlike_94 (by decide) (fun h94_26 => ?_) (fun h94_26 => ?_)
              · refine lv_iconst (v := zI 0) hx hb dX2_areAlike_101 rfl ?_
                exact ret (zI 0) (fun _ => 0, fun _ _ => 0) _ _ _ _ _ _ rfl ⟨0, rfl, by omega, fun _ => by omega⟩ (bw_subP (isC := [0, 1, 2, 3, 4, 5, 6, 7, 8]) hP rfl) (hD.sub [0, 1, 2, 3, 4, 5, 6, 7, 8] (by decide) rfl) hS (Nat.le_of_ble_eq_true rfl) (Nat.le_of_ble_eq_true rfl) dX2_areAlike_102
              · refine lv_iconst (v := zI 1) hx hb dX2_areAlike_97 rfl ?_
                refine lv_goto (tgt := 102) hx hb dX2_areAlike_98 (by decide) ?_
                exact ret (zI 1) (fun _ => 0, fun _ _ => 0) _ _ _ _ _ _ rfl ⟨1, rfl, by omega, fun _ => by omega⟩ (bw_subP (isC := [0, 1, 2, 3, 4, 5, 6, 7, 8]) hP rfl) (hD.sub [0, 1, 2, 3, 4, 5, 6, 7, 8] (by decide) rfl) hS (Nat.le_of_ble_eq_true rfl) (Nat.le_of_ble_eq_true rfl) dX2_areAlike_102
