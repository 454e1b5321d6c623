abbrev rm_X9_isToldX : Room := { frames := 0, cells := 0, slots := 0, locals := 0 }
set_option maxRecDepth 100000 in
set_option maxHeartbeats 8000000 in
theorem c_X9_isToldX {l : Launch} {E : (Nat → Prop) → State → Prop} (hO : bw_Ok E) {G : va_G} {cI cB cJ cN cW : ClassId} (a : Nat) (g_p : Nat → Int) (x : Int) (hx9 : zR x) (hp : ProgOk g_p) (hx8 : 0 ≤ x ∧ x < 10) : bw_Ci (S := zV) l yX9_isTold (bw_ws (Cond.code yX9_isTold cX9_isTold 2 (some .boolean))) rm_X9_isToldX E G (bw_kt cI cB cJ cN cW) [.ref a, .int (zI x)] [(a, .inl (cI, 200, .inl (fun k => zI (g_p k))))] (fun r u => ∃ z : Int, r = zI z ∧ ((0 ≤ z ∧ z ≤ 1) ∧ Imp (z = 1) (g_p (20 * x + 0).toNat = 1) ∧ Imp (z = 0) (g_p (20 * x + 0).toNat ≠ 1))) (fun u => [(a, .inl (cI, 200, .inl (fun k => zI (g_p k))))]) := by
  refine bw_Ci.of (cc := cX9_isTold) (maxL := 2) (ty := .boolean) (by decide) rfl (Nat.le_of_ble_eq_true rfl) ?_
  intro p e s m below meth c A Q hx hb hml hts hown hin hK hA hS hP hD hE ret ls hl
  have F : CallFix p m c cX9_isTold 2 s ([.ref a, .int (zI x)] : List Value).toArray bw_T RX9 := ⟨hx, hb, hml, hown, fun w h => hts w (List.mem_cons_of_mem _ h)⟩
  replace hl : lv_has ls 2 [(0, .ref a), (1, .int (zI x))] := hl
  refine lv_aload_n hx hb dX9_isTold_0 rfl (lv_at hl 0 rfl) ?_
  refine lv_bipush (v := zI 20) hx hb dX9_isTold_1 (by decide) ?_
  refine lv_iload_n hx hb dX9_isTold_3 rfl (lv_at hl 1 rfl) ?_
  refine r_imul (v := zI (20 * x)) F dX9_isTold_4 (zI_mul _ _) ?_
  refine lv_iconst (v := zI 0) hx hb dX9_isTold_5 rfl ?_
  refine r_iadd (v := zI ((20 * x) + 0)) F dX9_isTold_6 (zI_add _ _) ?_
  refine rz_iald F hK hP 0 0 rfl rfl (by omega) (by omega) dX9_isTold_7 ?_
  have hpl1 : 0 ≤ (g_p (((20 * x) + 0)).toNat) ∧ (g_p (((20 * x) + 0)).toNat) ≤ 1 := ProgR.at hp.1 (e := ((20 * x) + 0)) x 0 (by omega) (by omega) (by decide) rfl
  refine lv_iconst (v := zI 1) hx hb dX9_isTold_8 rfl ?_
  refine rz_icmp_ne (tgt := 16) F (by omega) (by omega) dX9_isTold_9 (by decide) (fun h9_1 => ?_) (fun h9_1 => ?_)
  · refine lv_iconst (v := zI 0) hx hb dX9_isTold_16 rfl ?_
    exact ret (zI 0) (fun k => [((fun _ => 0), fun _ _ => 0)].getD k (fun _ => 0, fun _ _ => 0)) _ _ _ _ _ _ rfl ⟨0, rfl, ⟨(show 0 ≤ (0 : Int) ∧ (0 : Int) ≤ 1 from by omega), (show Imp ((0 : Int) = 1) (g_p (20 * x + 0).toNat = 1) from fun q9 => by omega), (show Imp ((0 : Int) = 0) (g_p (20 * x + 0).toNat ≠ 1) from fun q9 => by omega)⟩⟩ (bw_subP (isC := [0]) hP rfl) (hD.sub [0] (by decide) rfl) hS (Nat.le_of_ble_eq_true rfl) (Nat.le_of_ble_eq_true rfl) dX9_isTold_17
  · refine lv_iconst (v := zI 1) hx hb dX9_isTold_12 rfl ?_
    refine lv_goto (tgt := 17) hx hb dX9_isTold_13 (by decide) ?_
    exact ret (zI 1) (fun k => [((fun _ => 0), fun _ _ => 0)].getD k (fun _ => 0, fun _ _ => 0)) _ _ _ _ _ _ rfl ⟨1, rfl, ⟨(show 0 ≤ (1 : Int) ∧ (1 : Int) ≤ 1 from by omega), (show Imp ((1 : Int) = 1) (g_p (20 * x + 0).toNat = 1) from fun q9 => by omega), (show Imp ((1 : Int) = 0) (g_p (20 * x + 0).toNat ≠ 1) from fun q9 => by omega)⟩⟩ (bw_subP (isC := [0]) hP rfl) (hD.sub [0] (by decide) rfl) hS (Nat.le_of_ble_eq_true rfl) (Nat.le_of_ble_eq_true rfl) dX9_isTold_17
abbrev rm_X9_stepX : Room := { frames := 2, cells := 0, slots := 0, locals := 46 }
set_option maxRecDepth 100000 in
set_option maxHeartbeats 8000000 in
theorem c_X9_stepX {l : Launch} {E : (Nat → Prop) → State → Prop} (hO : bw_Ok E) {G : va_G} {cI cB cJ cN cW : ClassId} (a : Nat) (g_p : Nat → Int) (d : Nat) (g_s : Nat → Int) (hp : ProgOk g_p) (hs : StOk g_p g_s) (h6 : g_s 6 = 0) : bw_Cv (S := zV) l yX9_step (bw_ws (Cond.code yX9_step cX9_step 7 none)) rm_X9_stepX E G (bw_kt cI cB cJ cN cW) [.ref a, .ref d] [(a, .inl (cI, 200, .inl (fun k => zI (g_p k)))), (d, .inl (cI, 159, .inl (fun k => zI (g_s k))))] (fun u => ((StOk g_p ((u 1).2 0) ∧ ((u 1).2 0) 5 = g_s 5 + 1) ∧ ((u 1).2 0) = stepF g_p g_s)) (fun u => [(a, .inl (cI, 200, .inl (fun k => zI (g_p k)))), (d, .inl (cI, 159, .inl (fun k => zI (((u 1).2 0) k))))]) := by
  refine bw_Cv.of (cc := cX9_step) (maxL := 7) (by decide) rfl (Nat.le_of_ble_eq_true rfl) ?_
  intro p e s m below meth c A Q hx hb hml hts hown hin hK hA hS hP hD hE ret ls hl
  have F : CallFix p m c cX9_step 7 s ([.ref a, .ref d] : List Value).toArray bw_T RX9 := ⟨hx, hb, hml, hown, fun w h => hts w (List.mem_cons_of_mem _ h)⟩
  replace hl : lv_has ls 7 [(0, .ref a), (1, .ref d)] := hl
  have hs2 := hs.1.2.1
  have hs5 := hs.2.1
  have hs6 := hs.2.2 h6
  have hrp := rM_pos hs.1 hp.1.le9
  have hp1 := ProgR.at hp.1 (e := (20 * (g_s 4)) + 1) (g_s 4) 1 (by omega) (by omega) (by decide) rfl
  refine lv_aload_n hx hb dX9_step_0 rfl (lv_at hl 1 rfl) ?_
  refine lv_iconst (v := zI 4) hx hb dX9_step_1 rfl ?_
  refine rz_ialdN F hK hP 1 0 rfl rfl (by omega) (by omega) dX9_step_2 4 rfl ?_
  refine lv_istore_n (lv' := [(2, .int (zI (g_s 4))), (0, .ref a), (1, .ref d)]) hx hb dX9_step_3 rfl hl (by decide) rfl (fun ls hl => ?_)
  refine lv_bipush (v := zI 20) hx hb dX9_step_4 (by decide) ?_
  refine lv_iload_n hx hb dX9_step_6 rfl (lv_at hl 0 rfl) ?_
  refine r_imul (v := zI (20 * (g_s 4))) F dX9_step_7 (zI_mul _ _) ?_
  refine lv_istore_n (lv' := [(3, .int (zI (20 * (g_s 4)))), (2, .int (zI (g_s 4))), (0, .ref a), (1, .ref d)]) hx hb dX9_step_8 rfl hl (by decide) rfl (fun ls hl => ?_)
  refine lv_iconst (v := zI 0) hx hb dX9_step_9 rfl ?_
  refine lv_istore (lv' := [(4, .int (zI 0)), (3, .int (zI (20 * (g_s 4)))), (2, .int (zI (g_s 4))), (0, .ref a), (1, .ref d)]) hx hb dX9_step_10 hl (by decide) rfl (fun ls hl => ?_)
  refine W.widen (k := 0) (n := 0) (Nat.le_of_ble_eq_true rfl) (Nat.le_of_ble_eq_true rfl) ?_
  refine (?_ : ∀ (n9_1 : Nat) (v4 : Int) (gs9 : Nat → Int) (H : Heap) (locs : List Loc), (0 ≤ v4 ∧ v4 ≤ 4 ∧ v4 ≤ g_p ((20 * (g_s 4)) + 1).toNat) → (4 - v4 : Int).toNat < n9_1 → (SI g_p gs9 ∧ rM gs9 ≤ rM g_s ∧ gs9 4 = g_s 4 ∧ gs9 5 = g_s 5 ∧ gs9 6 = g_s 6) → (gs9 = actsF g_p g_s (g_s 4) (v4).toNat) → va_P G vwCl [(a, .inl (cI, 200, .inl (fun k => zI (g_p k)))), (d, .inl (cI, 159, .inl (fun k => zI (gs9 k))))] H → va_D A [(a, .inl (cI, 200, .inl (fun k => zI (g_p k)))), (d, .inl (cI, 159, .inl (fun k => zI (gs9 k))))] → va_S A s.heap H locs → ∀ ls : Array Slot, lv_has ls 7 [(4, .int (zI v4)), (3, .int (zI (20 * (g_s 4)))), (2, .int (zI (g_s 4))), (0, .ref a), (1, .ref d)] → W p l e rm_X9_stepX s m ([.ref a, .ref d] : List Value).toArray below meth c H locs 0 0 Q (F0 m 12 ls [])) ((4 - 0 : Int).toNat + 1) 0 g_s _ _ (by omega) (by omega) ⟨hs.1, by omega, rfl, rfl, rfl⟩ rfl hP hD hS ls hl
  clear hP hD hS hl ls
  intro n9_1
  induction n9_1 with
  | zero =>
    intro v4 gs9 H locs hI hM
    exact absurd hM (by omega)
  | succ n9_1 ih1 =>
    intro v4 gs9 H locs hI1 hM1 hsi9 hex9 hP hD hS ls hl
    refine lv_iload hx hb dX9_step_12 (lv_at hl 0 rfl) ?_
    have hc1 := hsi9.2
    refine lv_aload_n hx hb dX9_step_14 rfl (lv_at hl 3 rfl) ?_
    refine lv_iload_n hx hb dX9_step_15 rfl (lv_at hl 1 rfl) ?_
    refine lv_iconst (v := zI 1) hx hb dX9_step_16 rfl ?_
    refine r_iadd (v := zI ((20 * (g_s 4)) + 1)) F dX9_step_17 (zI_add _ _) ?_
    refine rz_iald F hK hP 0 0 rfl rfl (by omega) (by omega) dX9_step_18 ?_
    have hpl2 : 0 ≤ (g_p (((20 * (g_s 4)) + 1)).toNat) ∧ (g_p (((20 * (g_s 4)) + 1)).toNat) ≤ 4 := ProgR.at hp.1 (e := ((20 * (g_s 4)) + 1)) (g_s 4) 1 (by omega) (by omega) (by decide) rfl
    refine rz_icmp_ge (tgt := 36) F (by omega) (by omega) dX9_step_19 (by decide) (fun h19_2 => ?_) (fun h19_2 => ?_)
    · refine lv_aload_n hx hb dX9_step_36 rfl (lv_at hl 4 rfl) ?_
      have hac : gs9 = actsF g_p g_s (g_s 4) (g_p (20 * (g_s 4) + 1).toNat).toNat := by have q8 := hex9; rwa [show v4 = g_p (20 * (g_s 4) + 1).toNat by omega] at q8
      refine lv_iconst (v := zI 5) hx hb dX9_step_37 rfl ?_
      refine lv_dup2_11 hx hb dX9_step_38 rfl rfl ?_
      refine rz_ialdN F hK hP 1 0 rfl rfl (by omega) (by omega) dX9_step_39 5 rfl ?_
      refine lv_iconst (v := zI 1) hx hb dX9_step_40 rfl ?_
      refine r_iadd (v := zI ((gs9 5) + 1)) F dX9_step_41 (zI_add _ _) ?_
      refine rz_iastN F hK hP hD hS 1 0 rfl rfl (by omega) (by omega) dX9_step_42 5 rfl (w1 := fun g4 => [(a, .inl (cI, 200, .inl (fun k => zI (g_p k)))), (d, .inl (cI, 159, .inl (fun k => zI (g4 k))))]) (fun _ => rfl) (fun g4 e_g4 H locs hP hD hS => ?_)
      obtain ⟨hsi5, hr_hsi5⟩ := SI.free hsi9.1 e_g4 (by omega)
      have ht6 : g4 4 = gs9 4 := uZ_off e_g4 (by omega)
      have ht7 : g4 5 = ((gs9 5) + 1) := uZ_at e_g4 rfl
      have ht8 : g4 6 = gs9 6 := uZ_off e_g4 (by omega)
      refine lv_aload_n hx hb dX9_step_43 rfl (lv_at hl 3 rfl) ?_
      refine lv_iload_n hx hb dX9_step_44 rfl (lv_at hl 1 rfl) ?_
      refine lv_bipush (v := zI 14) hx hb dX9_step_45 (by decide) ?_
      refine r_iadd (v := zI ((20 * (g_s 4)) + 14)) F dX9_step_47 (zI_add _ _) ?_
      refine rz_iald F hK hP 0 0 rfl rfl (by omega) (by omega) dX9_step_48 ?_
      have hpl9 : 0 ≤ (g_p (((20 * (g_s 4)) + 14)).toNat) ∧ (g_p (((20 * (g_s 4)) + 14)).toNat) ≤ 2 := ProgR.at hp.1 (e := ((20 * (g_s 4)) + 14)) (g_s 4) 14 (by omega) (by omega) (by decide) rfl
      refine rz_if_ne (tgt := 60) F (by omega) dX9_step_49 (by decide) (fun h49_9 => ?_) (fun h49_9 => ?_)
      · refine lv_aload_n hx hb dX9_step_60 rfl (lv_at hl 3 rfl) ?_
        refine lv_iload_n hx hb dX9_step_61 rfl (lv_at hl 1 rfl) ?_
        refine lv_bipush (v := zI 14) hx hb dX9_step_62 (by decide) ?_
        refine r_iadd (v := zI ((20 * (g_s 4)) + 14)) F dX9_step_64 (zI_add _ _) ?_
        refine rz_iald F hK hP 0 0 rfl rfl (by omega) (by omega) dX9_step_65 ?_
        have hpl11 : 0 ≤ (g_p (((20 * (g_s 4)) + 14)).toNat) ∧ (g_p (((20 * (g_s 4)) + 14)).toNat) ≤ 2 := ProgR.at hp.1 (e := ((20 * (g_s 4)) + 14)) (g_s 4) 14 (by omega) (by omega) (by decide) rfl
        refine lv_iconst (v := zI 2) hx hb dX9_step_66 rfl ?_
        refine rz_icmp_ne (tgt := 85) F (by omega) (by omega) dX9_step_67 (by decide) (fun h67_11 => ?_) (fun h67_11 => ?_)
        · refine lv_iconst (v := zI 0) hx hb dX9_step_85 rfl ?_
          refine lv_istore (lv' := [(4, .int (zI 0)), (3, .int (zI (20 * (g_s 4)))), (2, .int (zI (g_s 4))), (0, .ref a), (1, .ref d)]) hx hb dX9_step_86 hl (by decide) rfl (fun ls hl => ?_)
          refine lv_iconst (v := zI 2) hx hb dX9_step_88 rfl ?_
          refine lv_iload_n hx hb dX9_step_89 rfl (lv_at hl 2 rfl) ?_
          refine r_imul (v := zI (2 * (g_s 4))) F dX9_step_90 (zI_mul _ _) ?_
          refine lv_iload hx hb dX9_step_91 (lv_at hl 0 rfl) ?_
          refine rz_if_eq (tgt := 100) F (by omega) dX9_step_93 (by decide) (fun h93_12 => ?_) (fun h93_12 => by omega)
          refine lv_iconst (v := zI 0) hx hb dX9_step_100 rfl ?_
          refine r_iadd (v := zI ((2 * (g_s 4)) + 0)) F dX9_step_101 (zI_add _ _) ?_
          refine lv_istore (lv' := [(5, .int (zI ((2 * (g_s 4)) + 0))), (4, .int (zI 0)), (3, .int (zI (20 * (g_s 4)))), (2, .int (zI (g_s 4))), (0, .ref a), (1, .ref d)]) hx hb dX9_step_102 hl (by decide) rfl (fun ls hl => ?_)
          refine lv_iload_n hx hb dX9_step_104 rfl (lv_at hl 2 rfl) ?_
          refine lv_iload hx hb dX9_step_105 (lv_at hl 1 rfl) ?_
          refine rz_if_eq (tgt := 115) F (by omega) dX9_step_107 (by decide) (fun h107_13 => ?_) (fun h107_13 => by omega)
          refine lv_bipush (v := zI 16) hx hb dX9_step_115 (by decide) ?_
          refine r_iadd (v := zI ((20 * (g_s 4)) + 16)) F dX9_step_117 (zI_add _ _) ?_
          refine lv_istore (lv' := [(6, .int (zI ((20 * (g_s 4)) + 16))), (5, .int (zI ((2 * (g_s 4)) + 0))), (4, .int (zI 0)), (3, .int (zI (20 * (g_s 4)))), (2, .int (zI (g_s 4))), (0, .ref a), (1, .ref d)]) hx hb dX9_step_118 hl (by decide) rfl (fun ls hl => ?_)
          refine lv_aload_n hx hb dX9_step_120 rfl (lv_at hl 6 rfl) ?_
          refine lv_bipush (v := zI 8) hx hb dX9_step_121 (by decide) ?_
          refine lv_iload hx hb dX9_step_123 (lv_at hl 1 rfl) ?_
          refine r_iadd (v := zI (8 + ((2 * (g_s 4)) + 0))) F dX9_step_125 (zI_add _ _) ?_
          refine rz_iald F hK hP 1 0 rfl rfl (by omega) (by omega) dX9_step_126 ?_
          refine lv_aload_n hx hb dX9_step_127 rfl (lv_at hl 5 rfl) ?_
          refine lv_iload hx hb dX9_step_128 (lv_at hl 0 rfl) ?_
          refine lv_iconst (v := zI 1) hx hb dX9_step_130 rfl ?_
          refine r_iadd (v := zI (((20 * (g_s 4)) + 16) + 1)) F dX9_step_131 (zI_add _ _) ?_
          refine rz_iald F hK hP 0 0 rfl rfl (by omega) (by omega) dX9_step_132 ?_
          have hc15 := SI.take hsi5 (i := (g_s 4)) (k := (8 + ((2 * (g_s 4)) + 0)).toNat) (l := ((((20 * (g_s 4)) + 16) + 1)).toNat) (by omega) (by omega) (by omega)
          have hc16 := hp.1.le9 ((((20 * (g_s 4)) + 16) + 1)).toNat (by omega)
          refine rz_icmp_ne (tgt := 144) F (by omega) (by omega) dX9_step_133 (by decide) (fun h133_16 => ?_) (fun h133_16 => ?_)
          · refine lv_aload_n hx hb dX9_step_144 rfl (lv_at hl 6 rfl) ?_
            refine lv_bipush (v := zI 8) hx hb dX9_step_145 (by decide) ?_
            refine lv_iload hx hb dX9_step_147 (lv_at hl 1 rfl) ?_
            refine r_iadd (v := zI (8 + ((2 * (g_s 4)) + 0))) F dX9_step_149 (zI_add _ _) ?_
            refine lv_dup2_11 hx hb dX9_step_150 rfl rfl ?_
            refine rz_iald F hK hP 1 0 rfl rfl (by omega) (by omega) dX9_step_151 ?_
            refine lv_iconst (v := zI 1) hx hb dX9_step_152 rfl ?_
            refine r_iadd (v := zI ((g4 ((8 + ((2 * (g_s 4)) + 0))).toNat) + 1)) F dX9_step_153 (zI_add _ _) ?_
            refine rz_iastG F hK hP hD hS 1 0 rfl rfl (by omega) (by omega) dX9_step_154 (w1 := fun g18 => [(a, .inl (cI, 200, .inl (fun k => zI (g_p k)))), (d, .inl (cI, 159, .inl (fun k => zI (g18 k))))]) (fun _ => rfl) (fun g18 e_g18 H locs hP hD hS => ?_)
            obtain ⟨hsi19, hr_hsi19⟩ := SI.tk0 hsi5 e_g18 (l := ((((20 * (g_s 4)) + 16) + 1)).toNat) (i := ((g_s 4)).toNat) (by omega) (by omega) (by omega) (by omega)
            have ht20 : g18 4 = g4 4 := uZ_off e_g18 (by omega)
            have ht21 : g18 5 = g4 5 := uZ_off e_g18 (by omega)
            have ht22 : g18 6 = g4 6 := uZ_off e_g18 (by omega)
            refine lv_aload_n hx hb dX9_step_155 rfl (lv_at hl 6 rfl) ?_
            refine lv_sipush (v := zI 139) hx hb dX9_step_156 (by decide) ?_
            refine lv_iload hx hb dX9_step_159 (lv_at hl 1 rfl) ?_
            refine r_iadd (v := zI (139 + ((2 * (g_s 4)) + 0))) F dX9_step_161 (zI_add _ _) ?_
            refine lv_dup2_11 hx hb dX9_step_162 rfl rfl ?_
            refine rz_iald F hK hP 1 0 rfl rfl (by omega) (by omega) dX9_step_163 ?_
            refine lv_iconst (v := zI 1) hx hb dX9_step_164 rfl ?_
            refine r_iadd (v := zI ((g18 ((139 + ((2 * (g_s 4)) + 0))).toNat) + 1)) F dX9_step_165 (zI_add _ _) ?_
            refine rz_iastG F hK hP hD hS 1 0 rfl rfl (by omega) (by omega) dX9_step_166 (w1 := fun g23 => [(a, .inl (cI, 200, .inl (fun k => zI (g_p k)))), (d, .inl (cI, 159, .inl (fun k => zI (g23 k))))]) (fun _ => rfl) (fun g23 e_g23 H locs hP hD hS => ?_)
            obtain ⟨hsi24, hr_hsi24⟩ := SI.free hsi19 e_g23 (by omega)
            have ht25 : g23 4 = g18 4 := uZ_off e_g23 (by omega)
            have ht26 : g23 5 = g18 5 := uZ_off e_g23 (by omega)
            have ht27 : g23 6 = g18 6 := uZ_off e_g23 (by omega)
            refine lv_aload_n hx hb dX9_step_167 rfl (lv_at hl 6 rfl) ?_
            refine lv_bipush (v := zI 7) hx hb dX9_step_168 (by decide) ?_
            refine lv_dup2_11 hx hb dX9_step_170 rfl rfl ?_
            refine rz_ialdN F hK hP 1 0 rfl rfl (by omega) (by omega) dX9_step_171 7 rfl ?_
            refine lv_iconst (v := zI 1) hx hb dX9_step_172 rfl ?_
            refine r_iadd (v := zI ((g23 7) + 1)) F dX9_step_173 (zI_add _ _) ?_
            refine rz_iastN F hK hP hD hS 1 0 rfl rfl (by omega) (by omega) dX9_step_174 7 rfl (w1 := fun g28 => [(a, .inl (cI, 200, .inl (fun k => zI (g_p k)))), (d, .inl (cI, 159, .inl (fun k => zI (g28 k))))]) (fun _ => rfl) (fun g28 e_g28 H locs hP hD hS => ?_)
            obtain ⟨hsi29, hr_hsi29⟩ := SI.free hsi24 e_g28 (by omega)
            have ht30 : g28 4 = g23 4 := uZ_off e_g28 (by omega)
            have ht31 : g28 5 = g23 5 := uZ_off e_g28 (by omega)
            have ht32 : g28 6 = g23 6 := uZ_off e_g28 (by omega)
            refine lv_aload_n hx hb dX9_step_175 rfl (lv_at hl 6 rfl) ?_
            refine lv_bipush (v := zI 38) hx hb dX9_step_176 (by decide) ?_
            refine lv_dup2_11 hx hb dX9_step_178 rfl rfl ?_
            refine rz_ialdN F hK hP 1 0 rfl rfl (by omega) (by omega) dX9_step_179 38 rfl ?_
            refine lv_iconst (v := zI 1) hx hb dX9_step_180 rfl ?_
            refine lv_iload hx hb dX9_step_181 (lv_at hl 1 rfl) ?_
            refine lv_ishl hx hb dX9_step_183 ?_
            refine lv_ior hx hb dX9_step_184 ?_
            refine rz_eq (z := (orW (g28 38) ((2 * (g_s 4)) + 0))) (Int32.ofInt_toInt _).symm ?_
            refine rz_iastN F hK hP hD hS 1 0 rfl rfl (by omega) (by omega) dX9_step_185 38 rfl (w1 := fun g35 => [(a, .inl (cI, 200, .inl (fun k => zI (g_p k)))), (d, .inl (cI, 159, .inl (fun k => zI (g35 k))))]) (fun _ => rfl) (fun g35 e_g35 H locs hP hD hS => ?_)
            obtain ⟨hsi36, hr_hsi36⟩ := SI.free hsi29 e_g35 (by omega)
            have ht37 : g35 4 = g28 4 := uZ_off e_g35 (by omega)
            have ht38 : g35 5 = g28 5 := uZ_off e_g35 (by omega)
            have ht39 : g35 6 = g28 6 := uZ_off e_g35 (by omega)
            refine lv_aload_n hx hb dX9_step_186 rfl (lv_at hl 6 rfl) ?_
            refine lv_iconst (v := zI 4) hx hb dX9_step_187 rfl ?_
            refine lv_aload_n hx hb dX9_step_188 rfl (lv_at hl 5 rfl) ?_
            refine lv_iload hx hb dX9_step_189 (lv_at hl 0 rfl) ?_
            refine rz_iald F hK hP 0 0 rfl rfl (by omega) (by omega) dX9_step_191 ?_
            have hpl40 : 0 ≤ (g_p (((20 * (g_s 4)) + 16)).toNat) ∧ (g_p (((20 * (g_s 4)) + 16)).toNat) ≤ 9 := ProgR.at hp.1 (e := ((20 * (g_s 4)) + 16)) (g_s 4) 16 (by omega) (by omega) (by decide) rfl
            refine rz_iastN F hK hP hD hS 1 0 rfl rfl (by omega) (by omega) dX9_step_192 4 rfl (w1 := fun g41 => [(a, .inl (cI, 200, .inl (fun k => zI (g_p k)))), (d, .inl (cI, 159, .inl (fun k => zI (g41 k))))]) (fun _ => rfl) (fun g41 e_g41 H locs hP hD hS => ?_)
            obtain ⟨hsi42, hr_hsi42⟩ := SI.ats hsi36 e_g41 (by omega)
            have ht43 : g41 4 = (g_p (((20 * (g_s 4)) + 16)).toNat) := uZ_at e_g41 rfl
            have ht44 : g41 5 = g35 5 := uZ_off e_g41 (by omega)
            have ht45 : g41 6 = g35 6 := uZ_off e_g41 (by omega)
            refine lv_aload_n hx hb dX9_step_193 rfl (lv_at hl 6 rfl) ?_
            refine lv_bipush (v := zI 6) hx hb dX9_step_194 (by decide) ?_
            refine lv_aload_n hx hb dX9_step_196 rfl (lv_at hl 5 rfl) ?_
            refine lv_aload_n hx hb dX9_step_197 rfl (lv_at hl 5 rfl) ?_
            refine lv_iload hx hb dX9_step_198 (lv_at hl 0 rfl) ?_
            refine rz_iald F hK hP 0 0 rfl rfl (by omega) (by omega) dX9_step_200 ?_
            have hpl46 : 0 ≤ (g_p (((20 * (g_s 4)) + 16)).toNat) ∧ (g_p (((20 * (g_s 4)) + 16)).toNat) ≤ 9 := ProgR.at hp.1 (e := ((20 * (g_s 4)) + 16)) (g_s 4) 16 (by omega) (by omega) (by decide) rfl
            refine r_callSi (As := [.ref a, .int (zI (g_p (((20 * (g_s 4)) + 16)).toNat))]) (rest := [.int (zI 6), .ref d]) (wr := [(d, .inl (cI, 159, .inl (fun k => zI (g41 k))))]) F hK hP hD hS hA hO hE (c_X9_isToldX hO a g_p (g_p (((20 * (g_s 4)) + 16)).toNat) (by omega) hp (by omega)) k_1424 ks_X9_isTold 2 rfl (by decide +kernel) ⟨Nat.le_of_ble_eq_true rfl, Nat.le_of_ble_eq_true rfl⟩ [0] [1] rfl rfl (by decide) (by decide) (by decide) hl.1 rfl (Nat.le_of_ble_eq_true rfl) dX9_step_201 ⟨Nat.le_of_ble_eq_true rfl, Nat.le_of_ble_eq_true rfl⟩ (w1 := fun u47 => [(d, .inl (cI, 159, .inl (fun k => zI (g41 k)))), (a, .inl (cI, 200, .inl (fun k => zI (g_p k))))]) (fun _ => rfl) (fun r48 u47 H locs hp49 hP hD hS => ?_)
            obtain ⟨z50, rfl, h_z50⟩ := hp49
            refine rz_ifb_eq (tgt := 211) F (by omega) dX9_step_204 (by decide) (fun h204_50 => ?_) (fun h204_50 => ?_)
            · refine lv_iconst (v := zI 3) hx hb dX9_step_211 rfl ?_
              refine rz_iastN F hK hP hD hS 0 0 rfl rfl (by omega) (by omega) dX9_step_212 6 rfl (w1 := fun g52 => [(d, .inl (cI, 159, .inl (fun k => zI (g52 k)))), (a, .inl (cI, 200, .inl (fun k => zI (g_p k))))]) (fun _ => rfl) (fun g52 e_g52 H locs hP hD hS => ?_)
              obtain ⟨hsi53, hr_hsi53⟩ := SI.en hsi42 e_g52 (by omega)
              have ht54 : g52 4 = g41 4 := uZ_off e_g52 (by omega)
              have ht55 : g52 5 = g41 5 := uZ_off e_g52 (by omega)
              have ht56 : g52 6 = 3 := uZ_at e_g52 rfl
              refine lv_aload_n hx hb dX9_step_213 rfl (lv_at hl 6 rfl) ?_
              refine lv_iconst (v := zI 5) hx hb dX9_step_214 rfl ?_
              refine rz_ialdN F hK hP 0 0 rfl rfl (by omega) (by omega) dX9_step_215 5 rfl ?_
              refine lv_bipush (v := zI 100) hx hb dX9_step_216 (by decide) ?_
              refine rz_icmp_ge (tgt := 232) F (by omega) (by omega) dX9_step_218 (by decide) (fun h218_56 => ?_) (fun h218_56 => ?_)
              · exact ret (fun k => [((fun _ => 0), fun _ _ => 0), (fun _ => 0, fun _ => g52)].getD k (fun _ => 0, fun _ _ => 0)) _ _ _ _ _ _ ⟨(show StOk g_p g52 ∧ g52 5 = g_s 5 + 1 from ⟨⟨hsi53, (show 0 ≤ g52 5 ∧ g52 5 ≤ 1001 from by omega), (show g52 6 = 0 → g52 5 + rM g52 ≤ 1000 from fun q9 => by omega)⟩, by omega⟩), (show g52 = stepF g_p g_s from by unfold stepF; rw [← hac, (show uZ gs9 5 (gs9 5 + 1) = g4 from e_g4.symm), (show goF g_p g4 (g_s 4) = g52 from by unfold goF; rw [if_neg (show ¬ g_p (20 * (g_s 4) + 14).toNat = 0 by omega), if_neg (show ¬ (g_p (20 * (g_s 4) + 14).toNat = 2 ∧ g4 (g_p (20 * (g_s 4) + 15).toNat).toNat = 0) by omega)]; exact (show takeF g_p g4 (2 * (g_s 4) + 0) (20 * (g_s 4) + 16) = g52 from by unfold takeF; rw [if_neg (show ¬ g4 (8 + (2 * (g_s 4) + 0)).toNat = g_p (20 * (g_s 4) + 16 + 1).toNat by omega), if_neg (h_z50.2.2 (by omega)), e_g52, e_g41, e_g35, e_g28, e_g23, e_g18]; rfl)), (show pathF g52 = g52 from by unfold pathF; rw [if_neg (show ¬ g52 5 < 100 by omega)])])⟩ (bw_subP (isC := [1, 0]) hP rfl) (hD.sub [1, 0] (by decide) rfl) hS (Nat.le_of_ble_eq_true rfl) (Nat.le_of_ble_eq_true rfl) dX9_step_232
              · refine lv_aload_n hx hb dX9_step_221 rfl (lv_at hl 6 rfl) ?_
                refine lv_bipush (v := zI 39) hx hb dX9_step_222 (by decide) ?_
                refine lv_aload_n hx hb dX9_step_224 rfl (lv_at hl 6 rfl) ?_
                refine lv_iconst (v := zI 5) hx hb dX9_step_225 rfl ?_
                refine rz_ialdN F hK hP 0 0 rfl rfl (by omega) (by omega) dX9_step_226 5 rfl ?_
                refine r_iadd (v := zI (39 + (g52 5))) F dX9_step_227 (zI_add _ _) ?_
                refine lv_aload_n hx hb dX9_step_228 rfl (lv_at hl 6 rfl) ?_
                refine lv_iconst (v := zI 4) hx hb dX9_step_229 rfl ?_
                refine rz_ialdN F hK hP 0 0 rfl rfl (by omega) (by omega) dX9_step_230 4 rfl ?_
                refine rz_iastG F hK hP hD hS 0 0 rfl rfl (by omega) (by omega) dX9_step_231 (w1 := fun g58 => [(d, .inl (cI, 159, .inl (fun k => zI (g58 k)))), (a, .inl (cI, 200, .inl (fun k => zI (g_p k))))]) (fun _ => rfl) (fun g58 e_g58 H locs hP hD hS => ?_)
                obtain ⟨hsi59, hr_hsi59⟩ := SI.free hsi53 e_g58 (by omega)
                have ht60 : g58 4 = g52 4 := uZ_off e_g58 (by omega)
                have ht61 : g58 5 = g52 5 := uZ_off e_g58 (by omega)
                have ht62 : g58 6 = g52 6 := uZ_off e_g58 (by omega)
                exact ret (fun k => [((fun _ => 0), fun _ _ => 0), (fun _ => 0, fun _ => g58)].getD k (fun _ => 0, fun _ _ => 0)) _ _ _ _ _ _ ⟨(show StOk g_p g58 ∧ g58 5 = g_s 5 + 1 from ⟨⟨hsi59, (show 0 ≤ g58 5 ∧ g58 5 ≤ 1001 from by omega), (show g58 6 = 0 → g58 5 + rM g58 ≤ 1000 from fun q9 => by omega)⟩, by omega⟩), (show g58 = stepF g_p g_s from by unfold stepF; rw [← hac, (show uZ gs9 5 (gs9 5 + 1) = g4 from e_g4.symm), (show goF g_p g4 (g_s 4) = g52 from by unfold goF; rw [if_neg (show ¬ g_p (20 * (g_s 4) + 14).toNat = 0 by omega), if_neg (show ¬ (g_p (20 * (g_s 4) + 14).toNat = 2 ∧ g4 (g_p (20 * (g_s 4) + 15).toNat).toNat = 0) by omega)]; exact (show takeF g_p g4 (2 * (g_s 4) + 0) (20 * (g_s 4) + 16) = g52 from by unfold takeF; rw [if_neg (show ¬ g4 (8 + (2 * (g_s 4) + 0)).toNat = g_p (20 * (g_s 4) + 16 + 1).toNat by omega), if_neg (h_z50.2.2 (by omega)), e_g52, e_g41, e_g35, e_g28, e_g23, e_g18]; rfl)), (show pathF g52 = g58 from by unfold pathF; rw [if_pos (show g52 5 < 100 by omega), e_g58])])⟩ (bw_subP (isC := [1, 0]) hP rfl) (hD.sub [1, 0] (by decide) rfl) hS (Nat.le_of_ble_eq_true rfl) (Nat.le_of_ble_eq_true rfl) dX9_step_232
            · refine lv_iconst (v := zI 0) hx hb dX9_step_207 rfl ?_
              refine lv_goto (tgt := 212) hx hb dX9_step_208 (by decide) ?_
              refine rz_iastN F hK hP hD hS 0 0 rfl rfl (by omega) (by omega) dX9_step_212 6 rfl (w1 := fun g63 => [(d, .inl (cI, 159, .inl (fun k => zI (g63 k)))), (a, .inl (cI, 200, .inl (fun k => zI (g_p k))))]) (fun _ => rfl) (fun g63 e_g63 H locs hP hD hS => ?_)
              obtain ⟨hsi64, hr_hsi64⟩ := SI.en hsi42 e_g63 (by omega)
              have ht65 : g63 4 = g41 4 := uZ_off e_g63 (by omega)
              have ht66 : g63 5 = g41 5 := uZ_off e_g63 (by omega)
              have ht67 : g63 6 = 0 := uZ_at e_g63 rfl
              refine lv_aload_n hx hb dX9_step_213 rfl (lv_at hl 6 rfl) ?_
              refine lv_iconst (v := zI 5) hx hb dX9_step_214 rfl ?_
              refine rz_ialdN F hK hP 0 0 rfl rfl (by omega) (by omega) dX9_step_215 5 rfl ?_
              refine lv_bipush (v := zI 100) hx hb dX9_step_216 (by decide) ?_
              refine rz_icmp_ge (tgt := 232) F (by omega) (by omega) dX9_step_218 (by decide) (fun h218_67 => ?_) (fun h218_67 => ?_)
              · exact ret (fun k => [((fun _ => 0), fun _ _ => 0), (fun _ => 0, fun _ => g63)].getD k (fun _ => 0, fun _ _ => 0)) _ _ _ _ _ _ ⟨(show StOk g_p g63 ∧ g63 5 = g_s 5 + 1 from ⟨⟨hsi64, (show 0 ≤ g63 5 ∧ g63 5 ≤ 1001 from by omega), (show g63 6 = 0 → g63 5 + rM g63 ≤ 1000 from fun q9 => by omega)⟩, by omega⟩), (show g63 = stepF g_p g_s from by unfold stepF; rw [← hac, (show uZ gs9 5 (gs9 5 + 1) = g4 from e_g4.symm), (show goF g_p g4 (g_s 4) = g63 from by unfold goF; rw [if_neg (show ¬ g_p (20 * (g_s 4) + 14).toNat = 0 by omega), if_neg (show ¬ (g_p (20 * (g_s 4) + 14).toNat = 2 ∧ g4 (g_p (20 * (g_s 4) + 15).toNat).toNat = 0) by omega)]; exact (show takeF g_p g4 (2 * (g_s 4) + 0) (20 * (g_s 4) + 16) = g63 from by unfold takeF; rw [if_neg (show ¬ g4 (8 + (2 * (g_s 4) + 0)).toNat = g_p (20 * (g_s 4) + 16 + 1).toNat by omega), if_pos (h_z50.2.1 (by omega)), e_g63, e_g41, e_g35, e_g28, e_g23, e_g18]; rfl)), (show pathF g63 = g63 from by unfold pathF; rw [if_neg (show ¬ g63 5 < 100 by omega)])])⟩ (bw_subP (isC := [1, 0]) hP rfl) (hD.sub [1, 0] (by decide) rfl) hS (Nat.le_of_ble_eq_true rfl) (Nat.le_of_ble_eq_true rfl) dX9_step_232
              · refine lv_aload_n hx hb dX9_step_221 rfl (lv_at hl 6 rfl) ?_
                refine lv_bipush (v := zI 39) hx hb dX9_step_222 (by decide) ?_
                refine lv_aload_n hx hb dX9_step_224 rfl (lv_at hl 6 rfl) ?_
                refine lv_iconst (v := zI 5) hx hb dX9_step_225 rfl ?_
                refine rz_ialdN F hK hP 0 0 rfl rfl (by omega) (by omega) dX9_step_226 5 rfl ?_
                refine r_iadd (v := zI (39 + (g63 5))) F dX9_step_227 (zI_add _ _) ?_
                refine lv_aload_n hx hb dX9_step_228 rfl (lv_at hl 6 rfl) ?_
                refine lv_iconst (v := zI 4) hx hb dX9_step_229 rfl ?_
                refine rz_ialdN F hK hP 0 0 rfl rfl (by omega) (by omega) dX9_step_230 4 rfl ?_
                refine rz_iastG F hK hP hD hS 0 0 rfl rfl (by omega) (by omega) dX9_step_231 (w1 := fun g69 => [(d, .inl (cI, 159, .inl (fun k => zI (g69 k)))), (a, .inl (cI, 200, .inl (fun k => zI (g_p k))))]) (fun _ => rfl) (fun g69 e_g69 H locs hP hD hS => ?_)
                obtain ⟨hsi70, hr_hsi70⟩ := SI.free hsi64 e_g69 (by omega)
                have ht71 : g69 4 = g63 4 := uZ_off e_g69 (by omega)
                have ht72 : g69 5 = g63 5 := uZ_off e_g69 (by omega)
                have ht73 : g69 6 = g63 6 := uZ_off e_g69 (by omega)
                exact ret (fun k => [((fun _ => 0), fun _ _ => 0), (fun _ => 0, fun _ => g69)].getD k (fun _ => 0, fun _ _ => 0)) _ _ _ _ _ _ ⟨(show StOk g_p g69 ∧ g69 5 = g_s 5 + 1 from ⟨⟨hsi70, (show 0 ≤ g69 5 ∧ g69 5 ≤ 1001 from by omega), (show g69 6 = 0 → g69 5 + rM g69 ≤ 1000 from fun q9 => by omega)⟩, by omega⟩), (show g69 = stepF g_p g_s from by unfold stepF; rw [← hac, (show uZ gs9 5 (gs9 5 + 1) = g4 from e_g4.symm), (show goF g_p g4 (g_s 4) = g63 from by unfold goF; rw [if_neg (show ¬ g_p (20 * (g_s 4) + 14).toNat = 0 by omega), if_neg (show ¬ (g_p (20 * (g_s 4) + 14).toNat = 2 ∧ g4 (g_p (20 * (g_s 4) + 15).toNat).toNat = 0) by omega)]; exact (show takeF g_p g4 (2 * (g_s 4) + 0) (20 * (g_s 4) + 16) = g63 from by unfold takeF; rw [if_neg (show ¬ g4 (8 + (2 * (g_s 4) + 0)).toNat = g_p (20 * (g_s 4) + 16 + 1).toNat by omega), if_pos (h_z50.2.1 (by omega)), e_g63, e_g41, e_g35, e_g28, e_g23, e_g18]; rfl)), (show pathF g63 = g69 from by unfold pathF; rw [if_pos (show g63 5 < 100 by omega), e_g69])])⟩ (bw_subP (isC := [1, 0]) hP rfl) (hD.sub [1, 0] (by decide) rfl) hS (Nat.le_of_ble_eq_true rfl) (Nat.le_of_ble_eq_true rfl) dX9_step_232
          · refine lv_aload_n hx hb dX9_step_136 rfl (lv_at hl 6 rfl) ?_
            refine lv_bipush (v := zI 6) hx hb dX9_step_137 (by decide) ?_
            refine lv_iconst (v := zI 2) hx hb dX9_step_139 rfl ?_
            refine rz_iastN F hK hP hD hS 1 0 rfl rfl (by omega) (by omega) dX9_step_140 6 rfl (w1 := fun g74 => [(a, .inl (cI, 200, .inl (fun k => zI (g_p k)))), (d, .inl (cI, 159, .inl (fun k => zI (g74 k))))]) (fun _ => rfl) (fun g74 e_g74 H locs hP hD hS => ?_)
            obtain ⟨hsi75, hr_hsi75⟩ := SI.en hsi5 e_g74 (by omega)
            have ht76 : g74 4 = g4 4 := uZ_off e_g74 (by omega)
            have ht77 : g74 5 = g4 5 := uZ_off e_g74 (by omega)
            have ht78 : g74 6 = 2 := uZ_at e_g74 rfl
            refine lv_goto (tgt := 213) hx hb dX9_step_141 (by decide) ?_
            refine lv_aload_n hx hb dX9_step_213 rfl (lv_at hl 6 rfl) ?_
            refine lv_iconst (v := zI 5) hx hb dX9_step_214 rfl ?_
            refine rz_ialdN F hK hP 1 0 rfl rfl (by omega) (by omega) dX9_step_215 5 rfl ?_
            refine lv_bipush (v := zI 100) hx hb dX9_step_216 (by decide) ?_
            refine rz_icmp_ge (tgt := 232) F (by omega) (by omega) dX9_step_218 (by decide) (fun h218_78 => ?_) (fun h218_78 => ?_)
            · exact ret (fun k => [((fun _ => 0), fun _ _ => 0), (fun _ => 0, fun _ => g74)].getD k (fun _ => 0, fun _ _ => 0)) _ _ _ _ _ _ ⟨(show StOk g_p g74 ∧ g74 5 = g_s 5 + 1 from ⟨⟨hsi75, (show 0 ≤ g74 5 ∧ g74 5 ≤ 1001 from by omega), (show g74 6 = 0 → g74 5 + rM g74 ≤ 1000 from fun q9 => by omega)⟩, by omega⟩), (show g74 = stepF g_p g_s from by unfold stepF; rw [← hac, (show uZ gs9 5 (gs9 5 + 1) = g4 from e_g4.symm), (show goF g_p g4 (g_s 4) = g74 from by unfold goF; rw [if_neg (show ¬ g_p (20 * (g_s 4) + 14).toNat = 0 by omega), if_neg (show ¬ (g_p (20 * (g_s 4) + 14).toNat = 2 ∧ g4 (g_p (20 * (g_s 4) + 15).toNat).toNat = 0) by omega)]; exact (show takeF g_p g4 (2 * (g_s 4) + 0) (20 * (g_s 4) + 16) = g74 from by unfold takeF; rw [if_pos (show g4 (8 + (2 * (g_s 4) + 0)).toNat = g_p (20 * (g_s 4) + 16 + 1).toNat by omega), e_g74])), (show pathF g74 = g74 from by unfold pathF; rw [if_neg (show ¬ g74 5 < 100 by omega)])])⟩ (bw_subP (isC := [0, 1]) hP rfl) (hD.sub [0, 1] (by decide) rfl) hS (Nat.le_of_ble_eq_true rfl) (Nat.le_of_ble_eq_true rfl) dX9_step_232
            · refine lv_aload_n hx hb dX9_step_221 rfl (lv_at hl 6 rfl) ?_
              refine lv_bipush (v := zI 39) hx hb dX9_step_222 (by decide) ?_
              refine lv_aload_n hx hb dX9_step_224 rfl (lv_at hl 6 rfl) ?_
              refine lv_iconst (v := zI 5) hx hb dX9_step_225 rfl ?_
              refine rz_ialdN F hK hP 1 0 rfl rfl (by omega) (by omega) dX9_step_226 5 rfl ?_
              refine r_iadd (v := zI (39 + (g74 5))) F dX9_step_227 (zI_add _ _) ?_
              refine lv_aload_n hx hb dX9_step_228 rfl (lv_at hl 6 rfl) ?_
              refine lv_iconst (v := zI 4) hx hb dX9_step_229 rfl ?_
              refine rz_ialdN F hK hP 1 0 rfl rfl (by omega) (by omega) dX9_step_230 4 rfl ?_
              refine rz_iastG F hK hP hD hS 1 0 rfl rfl (by omega) (by omega) dX9_step_231 (w1 := fun g80 => [(a, .inl (cI, 200, .inl (fun k => zI (g_p k)))), (d, .inl (cI, 159, .inl (fun k => zI (g80 k))))]) (fun _ => rfl) (fun g80 e_g80 H locs hP hD hS => ?_)
              obtain ⟨hsi81, hr_hsi81⟩ := SI.free hsi75 e_g80 (by omega)
              have ht82 : g80 4 = g74 4 := uZ_off e_g80 (by omega)
              have ht83 : g80 5 = g74 5 := uZ_off e_g80 (by omega)
              have ht84 : g80 6 = g74 6 := uZ_off e_g80 (by omega)
              exact ret (fun k => [((fun _ => 0), fun _ _ => 0), (fun _ => 0, fun _ => g80)].getD k (fun _ => 0, fun _ _ => 0)) _ _ _ _ _ _ ⟨(show StOk g_p g80 ∧ g80 5 = g_s 5 + 1 from ⟨⟨hsi81, (show 0 ≤ g80 5 ∧ g80 5 ≤ 1001 from by omega), (show g80 6 = 0 → g80 5 + rM g80 ≤ 1000 from fun q9 => by omega)⟩, by omega⟩), (show g80 = stepF g_p g_s from by unfold stepF; rw [← hac, (show uZ gs9 5 (gs9 5 + 1) = g4 from e_g4.symm), (show goF g_p g4 (g_s 4) = g74 from by unfold goF; rw [if_neg (show ¬ g_p (20 * (g_s 4) + 14).toNat = 0 by omega), if_neg (show ¬ (g_p (20 * (g_s 4) + 14).toNat = 2 ∧ g4 (g_p (20 * (g_s 4) + 15).toNat).toNat = 0) by omega)]; exact (show takeF g_p g4 (2 * (g_s 4) + 0) (20 * (g_s 4) + 16) = g74 from by unfold takeF; rw [if_pos (show g4 (8 + (2 * (g_s 4) + 0)).toNat = g_p (20 * (g_s 4) + 16 + 1).toNat by omega), e_g74])), (show pathF g74 = g80 from by unfold pathF; rw [if_pos (show g74 5 < 100 by omega), e_g80])])⟩ (bw_subP (isC := [0, 1]) hP rfl) (hD.sub [0, 1] (by decide) rfl) hS (Nat.le_of_ble_eq_true rfl) (Nat.le_of_ble_eq_true rfl) dX9_step_232
        · refine lv_aload_n hx hb dX9_step_70 rfl (lv_at hl 4 rfl) ?_
          refine lv_aload_n hx hb dX9_step_71 rfl (lv_at hl 3 rfl) ?_
          refine lv_iload_n hx hb dX9_step_72 rfl (lv_at hl 1 rfl) ?_
          refine lv_bipush (v := zI 15) hx hb dX9_step_73 (by decide) ?_
          refine r_iadd (v := zI ((20 * (g_s 4)) + 15)) F dX9_step_75 (zI_add _ _) ?_
          refine rz_iald F hK hP 0 0 rfl rfl (by omega) (by omega) dX9_step_76 ?_
          have hpl85 : 0 ≤ (g_p (((20 * (g_s 4)) + 15)).toNat) ∧ (g_p (((20 * (g_s 4)) + 15)).toNat) ≤ 3 := ProgR.at hp.1 (e := ((20 * (g_s 4)) + 15)) (g_s 4) 15 (by omega) (by omega) (by decide) rfl
          refine rz_iald F hK hP 1 0 rfl rfl (by omega) (by omega) dX9_step_77 ?_
          have hc86 := hsi5.1 ((g_p (((20 * (g_s 4)) + 15)).toNat)).toNat (by omega)
          refine rz_if_ne (tgt := 85) F (by omega) dX9_step_78 (by decide) (fun h78_86 => ?_) (fun h78_86 => ?_)
          · refine lv_iconst (v := zI 0) hx hb dX9_step_85 rfl ?_
            refine lv_istore (lv' := [(4, .int (zI 0)), (3, .int (zI (20 * (g_s 4)))), (2, .int (zI (g_s 4))), (0, .ref a), (1, .ref d)]) hx hb dX9_step_86 hl (by decide) rfl (fun ls hl => ?_)
            refine lv_iconst (v := zI 2) hx hb dX9_step_88 rfl ?_
            refine lv_iload_n hx hb dX9_step_89 rfl (lv_at hl 2 rfl) ?_
            refine r_imul (v := zI (2 * (g_s 4))) F dX9_step_90 (zI_mul _ _) ?_
            refine lv_iload hx hb dX9_step_91 (lv_at hl 0 rfl) ?_
            refine rz_if_eq (tgt := 100) F (by omega) dX9_step_93 (by decide) (fun h93_87 => ?_) (fun h93_87 => by omega)
            refine lv_iconst (v := zI 0) hx hb dX9_step_100 rfl ?_
            refine r_iadd (v := zI ((2 * (g_s 4)) + 0)) F dX9_step_101 (zI_add _ _) ?_
            refine lv_istore (lv' := [(5, .int (zI ((2 * (g_s 4)) + 0))), (4, .int (zI 0)), (3, .int (zI (20 * (g_s 4)))), (2, .int (zI (g_s 4))), (0, .ref a), (1, .ref d)]) hx hb dX9_step_102 hl (by decide) rfl (fun ls hl => ?_)
            refine lv_iload_n hx hb dX9_step_104 rfl (lv_at hl 2 rfl) ?_
            refine lv_iload hx hb dX9_step_105 (lv_at hl 1 rfl) ?_
            refine rz_if_eq (tgt := 115) F (by omega) dX9_step_107 (by decide) (fun h107_88 => ?_) (fun h107_88 => by omega)
            refine lv_bipush (v := zI 16) hx hb dX9_step_115 (by decide) ?_
            refine r_iadd (v := zI ((20 * (g_s 4)) + 16)) F dX9_step_117 (zI_add _ _) ?_
            refine lv_istore (lv' := [(6, .int (zI ((20 * (g_s 4)) + 16))), (5, .int (zI ((2 * (g_s 4)) + 0))), (4, .int (zI 0)), (3, .int (zI (20 * (g_s 4)))), (2, .int (zI (g_s 4))), (0, .ref a), (1, .ref d)]) hx hb dX9_step_118 hl (by decide) rfl (fun ls hl => ?_)
            refine lv_aload_n hx hb dX9_step_120 rfl (lv_at hl 6 rfl) ?_
            refine lv_bipush (v := zI 8) hx hb dX9_step_121 (by decide) ?_
            refine lv_iload hx hb dX9_step_123 (lv_at hl 1 rfl) ?_
            refine r_iadd (v := zI (8 + ((2 * (g_s 4)) + 0))) F dX9_step_125 (zI_add _ _) ?_
            refine rz_iald F hK hP 1 0 rfl rfl (by omega) (by omega) dX9_step_126 ?_
            refine lv_aload_n hx hb dX9_step_127 rfl (lv_at hl 5 rfl) ?_
            refine lv_iload hx hb dX9_step_128 (lv_at hl 0 rfl) ?_
            refine lv_iconst (v := zI 1) hx hb dX9_step_130 rfl ?_
            refine r_iadd (v := zI (((20 * (g_s 4)) + 16) + 1)) F dX9_step_131 (zI_add _ _) ?_
            refine rz_iald F hK hP 0 0 rfl rfl (by omega) (by omega) dX9_step_132 ?_
            have hc90 := SI.take hsi5 (i := (g_s 4)) (k := (8 + ((2 * (g_s 4)) + 0)).toNat) (l := ((((20 * (g_s 4)) + 16) + 1)).toNat) (by omega) (by omega) (by omega)
            have hc91 := hp.1.le9 ((((20 * (g_s 4)) + 16) + 1)).toNat (by omega)
            refine rz_icmp_ne (tgt := 144) F (by omega) (by omega) dX9_step_133 (by decide) (fun h133_91 => ?_) (fun h133_91 => ?_)
            · refine lv_aload_n hx hb dX9_step_144 rfl (lv_at hl 6 rfl) ?_
              refine lv_bipush (v := zI 8) hx hb dX9_step_145 (by decide) ?_
              refine lv_iload hx hb dX9_step_147 (lv_at hl 1 rfl) ?_
              refine r_iadd (v := zI (8 + ((2 * (g_s 4)) + 0))) F dX9_step_149 (zI_add _ _) ?_
              refine lv_dup2_11 hx hb dX9_step_150 rfl rfl ?_
              refine rz_iald F hK hP 1 0 rfl rfl (by omega) (by omega) dX9_step_151 ?_
              refine lv_iconst (v := zI 1) hx hb dX9_step_152 rfl ?_
              refine r_iadd (v := zI ((g4 ((8 + ((2 * (g_s 4)) + 0))).toNat) + 1)) F dX9_step_153 (zI_add _ _) ?_
              refine rz_iastG F hK hP hD hS 1 0 rfl rfl (by omega) (by omega) dX9_step_154 (w1 := fun g93 => [(a, .inl (cI, 200, .inl (fun k => zI (g_p k)))), (d, .inl (cI, 159, .inl (fun k => zI (g93 k))))]) (fun _ => rfl) (fun g93 e_g93 H locs hP hD hS => ?_)
              obtain ⟨hsi94, hr_hsi94⟩ := SI.tk0 hsi5 e_g93 (l := ((((20 * (g_s 4)) + 16) + 1)).toNat) (i := ((g_s 4)).toNat) (by omega) (by omega) (by omega) (by omega)
              have ht95 : g93 4 = g4 4 := uZ_off e_g93 (by omega)
              have ht96 : g93 5 = g4 5 := uZ_off e_g93 (by omega)
              have ht97 : g93 6 = g4 6 := uZ_off e_g93 (by omega)
              refine lv_aload_n hx hb dX9_step_155 rfl (lv_at hl 6 rfl) ?_
              refine lv_sipush (v := zI 139) hx hb dX9_step_156 (by decide) ?_
              refine lv_iload hx hb dX9_step_159 (lv_at hl 1 rfl) ?_
              refine r_iadd (v := zI (139 + ((2 * (g_s 4)) + 0))) F dX9_step_161 (zI_add _ _) ?_
              refine lv_dup2_11 hx hb dX9_step_162 rfl rfl ?_
              refine rz_iald F hK hP 1 0 rfl rfl (by omega) (by omega) dX9_step_163 ?_
              refine lv_iconst (v := zI 1) hx hb dX9_step_164 rfl ?_
              refine r_iadd (v := zI ((g93 ((139 + ((2 * (g_s 4)) + 0))).toNat) + 1)) F dX9_step_165 (zI_add _ _) ?_
              refine rz_iastG F hK hP hD hS 1 0 rfl rfl (by omega) (by omega) dX9_step_166 (w1 := fun g98 => [(a, .inl (cI, 200, .inl (fun k => zI (g_p k)))), (d, .inl (cI, 159, .inl (fun k => zI (g98 k))))]) (fun _ => rfl) (fun g98 e_g98 H locs hP hD hS => ?_)
              obtain ⟨hsi99, hr_hsi99⟩ := SI.free hsi94 e_g98 (by omega)
              have ht100 : g98 4 = g93 4 := uZ_off e_g98 (by omega)
              have ht101 : g98 5 = g93 5 := uZ_off e_g98 (by omega)
              have ht102 : g98 6 = g93 6 := uZ_off e_g98 (by omega)
              refine lv_aload_n hx hb dX9_step_167 rfl (lv_at hl 6 rfl) ?_
              refine lv_bipush (v := zI 7) hx hb dX9_step_168 (by decide) ?_
              refine lv_dup2_11 hx hb dX9_step_170 rfl rfl ?_
              refine rz_ialdN F hK hP 1 0 rfl rfl (by omega) (by omega) dX9_step_171 7 rfl ?_
              refine lv_iconst (v := zI 1) hx hb dX9_step_172 rfl ?_
              refine r_iadd (v := zI ((g98 7) + 1)) F dX9_step_173 (zI_add _ _) ?_
              refine rz_iastN F hK hP hD hS 1 0 rfl rfl (by omega) (by omega) dX9_step_174 7 rfl (w1 := fun g103 => [(a, .inl (cI, 200, .inl (fun k => zI (g_p k)))), (d, .inl (cI, 159, .inl (fun k => zI (g103 k))))]) (fun _ => rfl) (fun g103 e_g103 H locs hP hD hS => ?_)
              obtain ⟨hsi104, hr_hsi104⟩ := SI.free hsi99 e_g103 (by omega)
              have ht105 : g103 4 = g98 4 := uZ_off e_g103 (by omega)
              have ht106 : g103 5 = g98 5 := uZ_off e_g103 (by omega)
              have ht107 : g103 6 = g98 6 := uZ_off e_g103 (by omega)
              refine lv_aload_n hx hb dX9_step_175 rfl (lv_at hl 6 rfl) ?_
              refine lv_bipush (v := zI 38) hx hb dX9_step_176 (by decide) ?_
              refine lv_dup2_11 hx hb dX9_step_178 rfl rfl ?_
              refine rz_ialdN F hK hP 1 0 rfl rfl (by omega) (by omega) dX9_step_179 38 rfl ?_
              refine lv_iconst (v := zI 1) hx hb dX9_step_180 rfl ?_
              refine lv_iload hx hb dX9_step_181 (lv_at hl 1 rfl) ?_
              refine lv_ishl hx hb dX9_step_183 ?_
              refine lv_ior hx hb dX9_step_184 ?_
              refine rz_eq (z := (orW (g103 38) ((2 * (g_s 4)) + 0))) (Int32.ofInt_toInt _).symm ?_
              refine rz_iastN F hK hP hD hS 1 0 rfl rfl (by omega) (by omega) dX9_step_185 38 rfl (w1 := fun g110 => [(a, .inl (cI, 200, .inl (fun k => zI (g_p k)))), (d, .inl (cI, 159, .inl (fun k => zI (g110 k))))]) (fun _ => rfl) (fun g110 e_g110 H locs hP hD hS => ?_)
              obtain ⟨hsi111, hr_hsi111⟩ := SI.free hsi104 e_g110 (by omega)
              have ht112 : g110 4 = g103 4 := uZ_off e_g110 (by omega)
              have ht113 : g110 5 = g103 5 := uZ_off e_g110 (by omega)
              have ht114 : g110 6 = g103 6 := uZ_off e_g110 (by omega)
              refine lv_aload_n hx hb dX9_step_186 rfl (lv_at hl 6 rfl) ?_
              refine lv_iconst (v := zI 4) hx hb dX9_step_187 rfl ?_
              refine lv_aload_n hx hb dX9_step_188 rfl (lv_at hl 5 rfl) ?_
              refine lv_iload hx hb dX9_step_189 (lv_at hl 0 rfl) ?_
              refine rz_iald F hK hP 0 0 rfl rfl (by omega) (by omega) dX9_step_191 ?_
              have hpl115 : 0 ≤ (g_p (((20 * (g_s 4)) + 16)).toNat) ∧ (g_p (((20 * (g_s 4)) + 16)).toNat) ≤ 9 := ProgR.at hp.1 (e := ((20 * (g_s 4)) + 16)) (g_s 4) 16 (by omega) (by omega) (by decide) rfl
              refine rz_iastN F hK hP hD hS 1 0 rfl rfl (by omega) (by omega) dX9_step_192 4 rfl (w1 := fun g116 => [(a, .inl (cI, 200, .inl (fun k => zI (g_p k)))), (d, .inl (cI, 159, .inl (fun k => zI (g116 k))))]) (fun _ => rfl) (fun g116 e_g116 H locs hP hD hS => ?_)
              obtain ⟨hsi117, hr_hsi117⟩ := SI.ats hsi111 e_g116 (by omega)
              have ht118 : g116 4 = (g_p (((20 * (g_s 4)) + 16)).toNat) := uZ_at e_g116 rfl
              have ht119 : g116 5 = g110 5 := uZ_off e_g116 (by omega)
              have ht120 : g116 6 = g110 6 := uZ_off e_g116 (by omega)
              refine lv_aload_n hx hb dX9_step_193 rfl (lv_at hl 6 rfl) ?_
              refine lv_bipush (v := zI 6) hx hb dX9_step_194 (by decide) ?_
              refine lv_aload_n hx hb dX9_step_196 rfl (lv_at hl 5 rfl) ?_
              refine lv_aload_n hx hb dX9_step_197 rfl (lv_at hl 5 rfl) ?_
              refine lv_iload hx hb dX9_step_198 (lv_at hl 0 rfl) ?_
              refine rz_iald F hK hP 0 0 rfl rfl (by omega) (by omega) dX9_step_200 ?_
              have hpl121 : 0 ≤ (g_p (((20 * (g_s 4)) + 16)).toNat) ∧ (g_p (((20 * (g_s 4)) + 16)).toNat) ≤ 9 := ProgR.at hp.1 (e := ((20 * (g_s 4)) + 16)) (g_s 4) 16 (by omega) (by omega) (by decide) rfl
              refine r_callSi (As := [.ref a, .int (zI (g_p (((20 * (g_s 4)) + 16)).toNat))]) (rest := [.int (zI 6), .ref d]) (wr := [(d, .inl (cI, 159, .inl (fun k => zI (g116 k))))]) F hK hP hD hS hA hO hE (c_X9_isToldX hO a g_p (g_p (((20 * (g_s 4)) + 16)).toNat) (by omega) hp (by omega)) k_1424 ks_X9_isTold 2 rfl (by decide +kernel) ⟨Nat.le_of_ble_eq_true rfl, Nat.le_of_ble_eq_true rfl⟩ [0] [1] rfl rfl (by decide) (by decide) (by decide) hl.1 rfl (Nat.le_of_ble_eq_true rfl) dX9_step_201 ⟨Nat.le_of_ble_eq_true rfl, Nat.le_of_ble_eq_true rfl⟩ (w1 := fun u122 => [(d, .inl (cI, 159, .inl (fun k => zI (g116 k)))), (a, .inl (cI, 200, .inl (fun k => zI (g_p k))))]) (fun _ => rfl) (fun r123 u122 H locs hp124 hP hD hS => ?_)
              obtain ⟨z125, rfl, h_z125⟩ := hp124
              refine rz_ifb_eq (tgt := 211) F (by omega) dX9_step_204 (by decide) (fun h204_125 => ?_) (fun h204_125 => ?_)
              · refine lv_iconst (v := zI 3) hx hb dX9_step_211 rfl ?_
                refine rz_iastN F hK hP hD hS 0 0 rfl rfl (by omega) (by omega) dX9_step_212 6 rfl (w1 := fun g127 => [(d, .inl (cI, 159, .inl (fun k => zI (g127 k)))), (a, .inl (cI, 200, .inl (fun k => zI (g_p k))))]) (fun _ => rfl) (fun g127 e_g127 H locs hP hD hS => ?_)
                obtain ⟨hsi128, hr_hsi128⟩ := SI.en hsi117 e_g127 (by omega)
                have ht129 : g127 4 = g116 4 := uZ_off e_g127 (by omega)
                have ht130 : g127 5 = g116 5 := uZ_off e_g127 (by omega)
                have ht131 : g127 6 = 3 := uZ_at e_g127 rfl
                refine lv_aload_n hx hb dX9_step_213 rfl (lv_at hl 6 rfl) ?_
                refine lv_iconst (v := zI 5) hx hb dX9_step_214 rfl ?_
                refine rz_ialdN F hK hP 0 0 rfl rfl (by omega) (by omega) dX9_step_215 5 rfl ?_
                refine lv_bipush (v := zI 100) hx hb dX9_step_216 (by decide) ?_
                refine rz_icmp_ge (tgt := 232) F (by omega) (by omega) dX9_step_218 (by decide) (fun h218_131 => ?_) (fun h218_131 => ?_)
                · exact ret (fun k => [((fun _ => 0), fun _ _ => 0), (fun _ => 0, fun _ => g127)].getD k (fun _ => 0, fun _ _ => 0)) _ _ _ _ _ _ ⟨(show StOk g_p g127 ∧ g127 5 = g_s 5 + 1 from ⟨⟨hsi128, (show 0 ≤ g127 5 ∧ g127 5 ≤ 1001 from by omega), (show g127 6 = 0 → g127 5 + rM g127 ≤ 1000 from fun q9 => by omega)⟩, by omega⟩), (show g127 = stepF g_p g_s from by unfold stepF; rw [← hac, (show uZ gs9 5 (gs9 5 + 1) = g4 from e_g4.symm), (show goF g_p g4 (g_s 4) = g127 from by unfold goF; rw [if_neg (show ¬ g_p (20 * (g_s 4) + 14).toNat = 0 by omega), if_neg (show ¬ (g_p (20 * (g_s 4) + 14).toNat = 2 ∧ g4 (g_p (20 * (g_s 4) + 15).toNat).toNat = 0) by omega)]; exact (show takeF g_p g4 (2 * (g_s 4) + 0) (20 * (g_s 4) + 16) = g127 from by unfold takeF; rw [if_neg (show ¬ g4 (8 + (2 * (g_s 4) + 0)).toNat = g_p (20 * (g_s 4) + 16 + 1).toNat by omega), if_neg (h_z125.2.2 (by omega)), e_g127, e_g116, e_g110, e_g103, e_g98, e_g93]; rfl)), (show pathF g127 = g127 from by unfold pathF; rw [if_neg (show ¬ g127 5 < 100 by omega)])])⟩ (bw_subP (isC := [1, 0]) hP rfl) (hD.sub [1, 0] (by decide) rfl) hS (Nat.le_of_ble_eq_true rfl) (Nat.le_of_ble_eq_true rfl) dX9_step_232
                · refine lv_aload_n hx hb dX9_step_221 rfl (lv_at hl 6 rfl) ?_
                  refine lv_bipush (v := zI 39) hx hb dX9_step_222 (by decide) ?_
                  refine lv_aload_n hx hb dX9_step_224 rfl (lv_at hl 6 rfl) ?_
                  refine lv_iconst (v := zI 5) hx hb dX9_step_225 rfl ?_
                  refine rz_ialdN F hK hP 0 0 rfl rfl (by omega) (by omega) dX9_step_226 5 rfl ?_
                  refine r_iadd (v := zI (39 + (g127 5))) F dX9_step_227 (zI_add _ _) ?_
                  refine lv_aload_n hx hb dX9_step_228 rfl (lv_at hl 6 rfl) ?_
                  refine lv_iconst (v := zI 4) hx hb dX9_step_229 rfl ?_
                  refine rz_ialdN F hK hP 0 0 rfl rfl (by omega) (by omega) dX9_step_230 4 rfl ?_
                  refine rz_iastG F hK hP hD hS 0 0 rfl rfl (by omega) (by omega) dX9_step_231 (w1 := fun g133 => [(d, .inl (cI, 159, .inl (fun k => zI (g133 k)))), (a, .inl (cI, 200, .inl (fun k => zI (g_p k))))]) (fun _ => rfl) (fun g133 e_g133 H locs hP hD hS => ?_)
                  obtain ⟨hsi134, hr_hsi134⟩ := SI.free hsi128 e_g133 (by omega)
                  have ht135 : g133 4 = g127 4 := uZ_off e_g133 (by omega)
                  have ht136 : g133 5 = g127 5 := uZ_off e_g133 (by omega)
                  have ht137 : g133 6 = g127 6 := uZ_off e_g133 (by omega)
                  exact ret (fun k => [((fun _ => 0), fun _ _ => 0), (fun _ => 0, fun _ => g133)].getD k (fun _ => 0, fun _ _ => 0)) _ _ _ _ _ _ ⟨(show StOk g_p g133 ∧ g133 5 = g_s 5 + 1 from ⟨⟨hsi134, (show 0 ≤ g133 5 ∧ g133 5 ≤ 1001 from by omega), (show g133 6 = 0 → g133 5 + rM g133 ≤ 1000 from fun q9 => by omega)⟩, by omega⟩), (show g133 = stepF g_p g_s from by unfold stepF; rw [← hac, (show uZ gs9 5 (gs9 5 + 1) = g4 from e_g4.symm), (show goF g_p g4 (g_s 4) = g127 from by unfold goF; rw [if_neg (show ¬ g_p (20 * (g_s 4) + 14).toNat = 0 by omega), if_neg (show ¬ (g_p (20 * (g_s 4) + 14).toNat = 2 ∧ g4 (g_p (20 * (g_s 4) + 15).toNat).toNat = 0) by omega)]; exact (show takeF g_p g4 (2 * (g_s 4) + 0) (20 * (g_s 4) + 16) = g127 from by unfold takeF; rw [if_neg (show ¬ g4 (8 + (2 * (g_s 4) + 0)).toNat = g_p (20 * (g_s 4) + 16 + 1).toNat by omega), if_neg (h_z125.2.2 (by omega)), e_g127, e_g116, e_g110, e_g103, e_g98, e_g93]; rfl)), (show pathF g127 = g133 from by unfold pathF; rw [if_pos (show g127 5 < 100 by omega), e_g133])])⟩ (bw_subP (isC := [1, 0]) hP rfl) (hD.sub [1, 0] (by decide) rfl) hS (Nat.le_of_ble_eq_true rfl) (Nat.le_of_ble_eq_true rfl) dX9_step_232
              · refine lv_iconst (v := zI 0) hx hb dX9_step_207 rfl ?_
                refine lv_goto (tgt := 212) hx hb dX9_step_208 (by decide) ?_
                refine rz_iastN F hK hP hD hS 0 0 rfl rfl (by omega) (by omega) dX9_step_212 6 rfl (w1 := fun g138 => [(d, .inl (cI, 159, .inl (fun k => zI (g138 k)))), (a, .inl (cI, 200, .inl (fun k => zI (g_p k))))]) (fun _ => rfl) (fun g138 e_g138 H locs hP hD hS => ?_)
                obtain ⟨hsi139, hr_hsi139⟩ := SI.en hsi117 e_g138 (by omega)
                have ht140 : g138 4 = g116 4 := uZ_off e_g138 (by omega)
                have ht141 : g138 5 = g116 5 := uZ_off e_g138 (by omega)
                have ht142 : g138 6 = 0 := uZ_at e_g138 rfl
                refine lv_aload_n hx hb dX9_step_213 rfl (lv_at hl 6 rfl) ?_
                refine lv_iconst (v := zI 5) hx hb dX9_step_214 rfl ?_
                refine rz_ialdN F hK hP 0 0 rfl rfl (by omega) (by omega) dX9_step_215 5 rfl ?_
                refine lv_bipush (v := zI 100) hx hb dX9_step_216 (by decide) ?_
                refine rz_icmp_ge (tgt := 232) F (by omega) (by omega) dX9_step_218 (by decide) (fun h218_142 => ?_) (fun h218_142 => ?_)
                · exact ret (fun k => [((fun _ => 0), fun _ _ => 0), (fun _ => 0, fun _ => g138)].getD k (fun _ => 0, fun _ _ => 0)) _ _ _ _ _ _ ⟨(show StOk g_p g138 ∧ g138 5 = g_s 5 + 1 from ⟨⟨hsi139, (show 0 ≤ g138 5 ∧ g138 5 ≤ 1001 from by omega), (show g138 6 = 0 → g138 5 + rM g138 ≤ 1000 from fun q9 => by omega)⟩, by omega⟩), (show g138 = stepF g_p g_s from by unfold stepF; rw [← hac, (show uZ gs9 5 (gs9 5 + 1) = g4 from e_g4.symm), (show goF g_p g4 (g_s 4) = g138 from by unfold goF; rw [if_neg (show ¬ g_p (20 * (g_s 4) + 14).toNat = 0 by omega), if_neg (show ¬ (g_p (20 * (g_s 4) + 14).toNat = 2 ∧ g4 (g_p (20 * (g_s 4) + 15).toNat).toNat = 0) by omega)]; exact (show takeF g_p g4 (2 * (g_s 4) + 0) (20 * (g_s 4) + 16) = g138 from by unfold takeF; rw [if_neg (show ¬ g4 (8 + (2 * (g_s 4) + 0)).toNat = g_p (20 * (g_s 4) + 16 + 1).toNat by omega), if_pos (h_z125.2.1 (by omega)), e_g138, e_g116, e_g110, e_g103, e_g98, e_g93]; rfl)), (show pathF g138 = g138 from by unfold pathF; rw [if_neg (show ¬ g138 5 < 100 by omega)])])⟩ (bw_subP (isC := [1, 0]) hP rfl) (hD.sub [1, 0] (by decide) rfl) hS (Nat.le_of_ble_eq_true rfl) (Nat.le_of_ble_eq_true rfl) dX9_step_232
                · refine lv_aload_n hx hb dX9_step_221 rfl (lv_at hl 6 rfl) ?_
                  refine lv_bipush (v := zI 39) hx hb dX9_step_222 (by decide) ?_
                  refine lv_aload_n hx hb dX9_step_224 rfl (lv_at hl 6 rfl) ?_
                  refine lv_iconst (v := zI 5) hx hb dX9_step_225 rfl ?_
                  refine rz_ialdN F hK hP 0 0 rfl rfl (by omega) (by omega) dX9_step_226 5 rfl ?_
                  refine r_iadd (v := zI (39 + (g138 5))) F dX9_step_227 (zI_add _ _) ?_
                  refine lv_aload_n hx hb dX9_step_228 rfl (lv_at hl 6 rfl) ?_
                  refine lv_iconst (v := zI 4) hx hb dX9_step_229 rfl ?_
                  refine rz_ialdN F hK hP 0 0 rfl rfl (by omega) (by omega) dX9_step_230 4 rfl ?_
                  refine rz_iastG F hK hP hD hS 0 0 rfl rfl (by omega) (by omega) dX9_step_231 (w1 := fun g144 => [(d, .inl (cI, 159, .inl (fun k => zI (g144 k)))), (a, .inl (cI, 200, .inl (fun k => zI (g_p k))))]) (fun _ => rfl) (fun g144 e_g144 H locs hP hD hS => ?_)
                  obtain ⟨hsi145, hr_hsi145⟩ := SI.free hsi139 e_g144 (by omega)
                  have ht146 : g144 4 = g138 4 := uZ_off e_g144 (by omega)
                  have ht147 : g144 5 = g138 5 := uZ_off e_g144 (by omega)
                  have ht148 : g144 6 = g138 6 := uZ_off e_g144 (by omega)
                  exact ret (fun k => [((fun _ => 0), fun _ _ => 0), (fun _ => 0, fun _ => g144)].getD k (fun _ => 0, fun _ _ => 0)) _ _ _ _ _ _ ⟨(show StOk g_p g144 ∧ g144 5 = g_s 5 + 1 from ⟨⟨hsi145, (show 0 ≤ g144 5 ∧ g144 5 ≤ 1001 from by omega), (show g144 6 = 0 → g144 5 + rM g144 ≤ 1000 from fun q9 => by omega)⟩, by omega⟩), (show g144 = stepF g_p g_s from by unfold stepF; rw [← hac, (show uZ gs9 5 (gs9 5 + 1) = g4 from e_g4.symm), (show goF g_p g4 (g_s 4) = g138 from by unfold goF; rw [if_neg (show ¬ g_p (20 * (g_s 4) + 14).toNat = 0 by omega), if_neg (show ¬ (g_p (20 * (g_s 4) + 14).toNat = 2 ∧ g4 (g_p (20 * (g_s 4) + 15).toNat).toNat = 0) by omega)]; exact (show takeF g_p g4 (2 * (g_s 4) + 0) (20 * (g_s 4) + 16) = g138 from by unfold takeF; rw [if_neg (show ¬ g4 (8 + (2 * (g_s 4) + 0)).toNat = g_p (20 * (g_s 4) + 16 + 1).toNat by omega), if_pos (h_z125.2.1 (by omega)), e_g138, e_g116, e_g110, e_g103, e_g98, e_g93]; rfl)), (show pathF g138 = g144 from by unfold pathF; rw [if_pos (show g138 5 < 100 by omega), e_g144])])⟩ (bw_subP (isC := [1, 0]) hP rfl) (hD.sub [1, 0] (by decide) rfl) hS (Nat.le_of_ble_eq_true rfl) (Nat.le_of_ble_eq_true rfl) dX9_step_232
            · refine lv_aload_n hx hb dX9_step_136 rfl (lv_at hl 6 rfl) ?_
              refine lv_bipush (v := zI 6) hx hb dX9_step_137 (by decide) ?_
              refine lv_iconst (v := zI 2) hx hb dX9_step_139 rfl ?_
              refine rz_iastN F hK hP hD hS 1 0 rfl rfl (by omega) (by omega) dX9_step_140 6 rfl (w1 := fun g149 => [(a, .inl (cI, 200, .inl (fun k => zI (g_p k)))), (d, .inl (cI, 159, .inl (fun k => zI (g149 k))))]) (fun _ => rfl) (fun g149 e_g149 H locs hP hD hS => ?_)
              obtain ⟨hsi150, hr_hsi150⟩ := SI.en hsi5 e_g149 (by omega)
              have ht151 : g149 4 = g4 4 := uZ_off e_g149 (by omega)
              have ht152 : g149 5 = g4 5 := uZ_off e_g149 (by omega)
              have ht153 : g149 6 = 2 := uZ_at e_g149 rfl
              refine lv_goto (tgt := 213) hx hb dX9_step_141 (by decide) ?_
              refine lv_aload_n hx hb dX9_step_213 rfl (lv_at hl 6 rfl) ?_
              refine lv_iconst (v := zI 5) hx hb dX9_step_214 rfl ?_
              refine rz_ialdN F hK hP 1 0 rfl rfl (by omega) (by omega) dX9_step_215 5 rfl ?_
              refine lv_bipush (v := zI 100) hx hb dX9_step_216 (by decide) ?_
              refine rz_icmp_ge (tgt := 232) F (by omega) (by omega) dX9_step_218 (by decide) (fun h218_153 => ?_) (fun h218_153 => ?_)
              · exact ret (fun k => [((fun _ => 0), fun _ _ => 0), (fun _ => 0, fun _ => g149)].getD k (fun _ => 0, fun _ _ => 0)) _ _ _ _ _ _ ⟨(show StOk g_p g149 ∧ g149 5 = g_s 5 + 1 from ⟨⟨hsi150, (show 0 ≤ g149 5 ∧ g149 5 ≤ 1001 from by omega), (show g149 6 = 0 → g149 5 + rM g149 ≤ 1000 from fun q9 => by omega)⟩, by omega⟩), (show g149 = stepF g_p g_s from by unfold stepF; rw [← hac, (show uZ gs9 5 (gs9 5 + 1) = g4 from e_g4.symm), (show goF g_p g4 (g_s 4) = g149 from by unfold goF; rw [if_neg (show ¬ g_p (20 * (g_s 4) + 14).toNat = 0 by omega), if_neg (show ¬ (g_p (20 * (g_s 4) + 14).toNat = 2 ∧ g4 (g_p (20 * (g_s 4) + 15).toNat).toNat = 0) by omega)]; exact (show takeF g_p g4 (2 * (g_s 4) + 0) (20 * (g_s 4) + 16) = g149 from by unfold takeF; rw [if_pos (show g4 (8 + (2 * (g_s 4) + 0)).toNat = g_p (20 * (g_s 4) + 16 + 1).toNat by omega), e_g149])), (show pathF g149 = g149 from by unfold pathF; rw [if_neg (show ¬ g149 5 < 100 by omega)])])⟩ (bw_subP (isC := [0, 1]) hP rfl) (hD.sub [0, 1] (by decide) rfl) hS (Nat.le_of_ble_eq_true rfl) (Nat.le_of_ble_eq_true rfl) dX9_step_232
              · refine lv_aload_n hx hb dX9_step_221 rfl (lv_at hl 6 rfl) ?_
                refine lv_bipush (v := zI 39) hx hb dX9_step_222 (by decide) ?_
                refine lv_aload_n hx hb dX9_step_224 rfl (lv_at hl 6 rfl) ?_
                refine lv_iconst (v := zI 5) hx hb dX9_step_225 rfl ?_
                refine rz_ialdN F hK hP 1 0 rfl rfl (by omega) (by omega) dX9_step_226 5 rfl ?_
                refine r_iadd (v := zI (39 + (g149 5))) F dX9_step_227 (zI_add _ _) ?_
                refine lv_aload_n hx hb dX9_step_228 rfl (lv_at hl 6 rfl) ?_
                refine lv_iconst (v := zI 4) hx hb dX9_step_229 rfl ?_
                refine rz_ialdN F hK hP 1 0 rfl rfl (by omega) (by omega) dX9_step_230 4 rfl ?_
                refine rz_iastG F hK hP hD hS 1 0 rfl rfl (by omega) (by omega) dX9_step_231 (w1 := fun g155 => [(a, .inl (cI, 200, .inl (fun k => zI (g_p k)))), (d, .inl (cI, 159, .inl (fun k => zI (g155 k))))]) (fun _ => rfl) (fun g155 e_g155 H locs hP hD hS => ?_)
                obtain ⟨hsi156, hr_hsi156⟩ := SI.free hsi150 e_g155 (by omega)
                have ht157 : g155 4 = g149 4 := uZ_off e_g155 (by omega)
                have ht158 : g155 5 = g149 5 := uZ_off e_g155 (by omega)
                have ht159 : g155 6 = g149 6 := uZ_off e_g155 (by omega)
                exact ret (fun k => [((fun _ => 0), fun _ _ => 0), (fun _ => 0, fun _ => g155)].getD k (fun _ => 0, fun _ _ => 0)) _ _ _ _ _ _ ⟨(show StOk g_p g155 ∧ g155 5 = g_s 5 + 1 from ⟨⟨hsi156, (show 0 ≤ g155 5 ∧ g155 5 ≤ 1001 from by omega), (show g155 6 = 0 → g155 5 + rM g155 ≤ 1000 from fun q9 => by omega)⟩, by omega⟩), (show g155 = stepF g_p g_s from by unfold stepF; rw [← hac, (show uZ gs9 5 (gs9 5 + 1) = g4 from e_g4.symm), (show goF g_p g4 (g_s 4) = g149 from by unfold goF; rw [if_neg (show ¬ g_p (20 * (g_s 4) + 14).toNat = 0 by omega), if_neg (show ¬ (g_p (20 * (g_s 4) + 14).toNat = 2 ∧ g4 (g_p (20 * (g_s 4) + 15).toNat).toNat = 0) by omega)]; exact (show takeF g_p g4 (2 * (g_s 4) + 0) (20 * (g_s 4) + 16) = g149 from by unfold takeF; rw [if_pos (show g4 (8 + (2 * (g_s 4) + 0)).toNat = g_p (20 * (g_s 4) + 16 + 1).toNat by omega), e_g149])), (show pathF g149 = g155 from by unfold pathF; rw [if_pos (show g149 5 < 100 by omega), e_g155])])⟩ (bw_subP (isC := [0, 1]) hP rfl) (hD.sub [0, 1] (by decide) rfl) hS (Nat.le_of_ble_eq_true rfl) (Nat.le_of_ble_eq_true rfl) dX9_step_232
          · refine lv_iconst (v := zI 1) hx hb dX9_step_81 rfl ?_
            refine lv_goto (tgt := 86) hx hb dX9_step_82 (by decide) ?_
            refine lv_istore (lv' := [(4, .int (zI 1)), (3, .int (zI (20 * (g_s 4)))), (2, .int (zI (g_s 4))), (0, .ref a), (1, .ref d)]) hx hb dX9_step_86 hl (by decide) rfl (fun ls hl => ?_)
            refine lv_iconst (v := zI 2) hx hb dX9_step_88 rfl ?_
            refine lv_iload_n hx hb dX9_step_89 rfl (lv_at hl 2 rfl) ?_
            refine r_imul (v := zI (2 * (g_s 4))) F dX9_step_90 (zI_mul _ _) ?_
            refine lv_iload hx hb dX9_step_91 (lv_at hl 0 rfl) ?_
            refine rz_if_eq (tgt := 100) F (by omega) dX9_step_93 (by decide) (fun h93_159 => by omega) (fun h93_159 => ?_)
            refine lv_iconst (v := zI 1) hx hb dX9_step_96 rfl ?_
            refine lv_goto (tgt := 101) hx hb dX9_step_97 (by decide) ?_
            refine r_iadd (v := zI ((2 * (g_s 4)) + 1)) F dX9_step_101 (zI_add _ _) ?_
            refine lv_istore (lv' := [(5, .int (zI ((2 * (g_s 4)) + 1))), (4, .int (zI 1)), (3, .int (zI (20 * (g_s 4)))), (2, .int (zI (g_s 4))), (0, .ref a), (1, .ref d)]) hx hb dX9_step_102 hl (by decide) rfl (fun ls hl => ?_)
            refine lv_iload_n hx hb dX9_step_104 rfl (lv_at hl 2 rfl) ?_
            refine lv_iload hx hb dX9_step_105 (lv_at hl 1 rfl) ?_
            refine rz_if_eq (tgt := 115) F (by omega) dX9_step_107 (by decide) (fun h107_160 => by omega) (fun h107_160 => ?_)
            refine lv_bipush (v := zI 18) hx hb dX9_step_110 (by decide) ?_
            refine lv_goto (tgt := 117) hx hb dX9_step_112 (by decide) ?_
            refine r_iadd (v := zI ((20 * (g_s 4)) + 18)) F dX9_step_117 (zI_add _ _) ?_
            refine lv_istore (lv' := [(6, .int (zI ((20 * (g_s 4)) + 18))), (5, .int (zI ((2 * (g_s 4)) + 1))), (4, .int (zI 1)), (3, .int (zI (20 * (g_s 4)))), (2, .int (zI (g_s 4))), (0, .ref a), (1, .ref d)]) hx hb dX9_step_118 hl (by decide) rfl (fun ls hl => ?_)
            refine lv_aload_n hx hb dX9_step_120 rfl (lv_at hl 6 rfl) ?_
            refine lv_bipush (v := zI 8) hx hb dX9_step_121 (by decide) ?_
            refine lv_iload hx hb dX9_step_123 (lv_at hl 1 rfl) ?_
            refine r_iadd (v := zI (8 + ((2 * (g_s 4)) + 1))) F dX9_step_125 (zI_add _ _) ?_
            refine rz_iald F hK hP 1 0 rfl rfl (by omega) (by omega) dX9_step_126 ?_
            refine lv_aload_n hx hb dX9_step_127 rfl (lv_at hl 5 rfl) ?_
            refine lv_iload hx hb dX9_step_128 (lv_at hl 0 rfl) ?_
            refine lv_iconst (v := zI 1) hx hb dX9_step_130 rfl ?_
            refine r_iadd (v := zI (((20 * (g_s 4)) + 18) + 1)) F dX9_step_131 (zI_add _ _) ?_
            refine rz_iald F hK hP 0 0 rfl rfl (by omega) (by omega) dX9_step_132 ?_
            have hc162 := SI.take1 hsi5 (i := (g_s 4)) (k := (8 + ((2 * (g_s 4)) + 1)).toNat) (l := ((((20 * (g_s 4)) + 18) + 1)).toNat) (by omega) (by omega) (by omega)
            have hc163 := hp.1.le9 ((((20 * (g_s 4)) + 18) + 1)).toNat (by omega)
            refine rz_icmp_ne (tgt := 144) F (by omega) (by omega) dX9_step_133 (by decide) (fun h133_163 => ?_) (fun h133_163 => ?_)
            · refine lv_aload_n hx hb dX9_step_144 rfl (lv_at hl 6 rfl) ?_
              refine lv_bipush (v := zI 8) hx hb dX9_step_145 (by decide) ?_
              refine lv_iload hx hb dX9_step_147 (lv_at hl 1 rfl) ?_
              refine r_iadd (v := zI (8 + ((2 * (g_s 4)) + 1))) F dX9_step_149 (zI_add _ _) ?_
              refine lv_dup2_11 hx hb dX9_step_150 rfl rfl ?_
              refine rz_iald F hK hP 1 0 rfl rfl (by omega) (by omega) dX9_step_151 ?_
              refine lv_iconst (v := zI 1) hx hb dX9_step_152 rfl ?_
              refine r_iadd (v := zI ((g4 ((8 + ((2 * (g_s 4)) + 1))).toNat) + 1)) F dX9_step_153 (zI_add _ _) ?_
              refine rz_iastG F hK hP hD hS 1 0 rfl rfl (by omega) (by omega) dX9_step_154 (w1 := fun g165 => [(a, .inl (cI, 200, .inl (fun k => zI (g_p k)))), (d, .inl (cI, 159, .inl (fun k => zI (g165 k))))]) (fun _ => rfl) (fun g165 e_g165 H locs hP hD hS => ?_)
              obtain ⟨hsi166, hr_hsi166⟩ := SI.tk1 hsi5 e_g165 (l := ((((20 * (g_s 4)) + 18) + 1)).toNat) (i := ((g_s 4)).toNat) (by omega) (by omega) (by omega) (by omega)
              have ht167 : g165 4 = g4 4 := uZ_off e_g165 (by omega)
              have ht168 : g165 5 = g4 5 := uZ_off e_g165 (by omega)
              have ht169 : g165 6 = g4 6 := uZ_off e_g165 (by omega)
              refine lv_aload_n hx hb dX9_step_155 rfl (lv_at hl 6 rfl) ?_
              refine lv_sipush (v := zI 139) hx hb dX9_step_156 (by decide) ?_
              refine lv_iload hx hb dX9_step_159 (lv_at hl 1 rfl) ?_
              refine r_iadd (v := zI (139 + ((2 * (g_s 4)) + 1))) F dX9_step_161 (zI_add _ _) ?_
              refine lv_dup2_11 hx hb dX9_step_162 rfl rfl ?_
              refine rz_iald F hK hP 1 0 rfl rfl (by omega) (by omega) dX9_step_163 ?_
              refine lv_iconst (v := zI 1) hx hb dX9_step_164 rfl ?_
              refine r_iadd (v := zI ((g165 ((139 + ((2 * (g_s 4)) + 1))).toNat) + 1)) F dX9_step_165 (zI_add _ _) ?_
              refine rz_iastG F hK hP hD hS 1 0 rfl rfl (by omega) (by omega) dX9_step_166 (w1 := fun g170 => [(a, .inl (cI, 200, .inl (fun k => zI (g_p k)))), (d, .inl (cI, 159, .inl (fun k => zI (g170 k))))]) (fun _ => rfl) (fun g170 e_g170 H locs hP hD hS => ?_)
              obtain ⟨hsi171, hr_hsi171⟩ := SI.free hsi166 e_g170 (by omega)
              have ht172 : g170 4 = g165 4 := uZ_off e_g170 (by omega)
              have ht173 : g170 5 = g165 5 := uZ_off e_g170 (by omega)
              have ht174 : g170 6 = g165 6 := uZ_off e_g170 (by omega)
              refine lv_aload_n hx hb dX9_step_167 rfl (lv_at hl 6 rfl) ?_
              refine lv_bipush (v := zI 7) hx hb dX9_step_168 (by decide) ?_
              refine lv_dup2_11 hx hb dX9_step_170 rfl rfl ?_
              refine rz_ialdN F hK hP 1 0 rfl rfl (by omega) (by omega) dX9_step_171 7 rfl ?_
              refine lv_iconst (v := zI 1) hx hb dX9_step_172 rfl ?_
              refine r_iadd (v := zI ((g170 7) + 1)) F dX9_step_173 (zI_add _ _) ?_
              refine rz_iastN F hK hP hD hS 1 0 rfl rfl (by omega) (by omega) dX9_step_174 7 rfl (w1 := fun g175 => [(a, .inl (cI, 200, .inl (fun k => zI (g_p k)))), (d, .inl (cI, 159, .inl (fun k => zI (g175 k))))]) (fun _ => rfl) (fun g175 e_g175 H locs hP hD hS => ?_)
              obtain ⟨hsi176, hr_hsi176⟩ := SI.free hsi171 e_g175 (by omega)
              have ht177 : g175 4 = g170 4 := uZ_off e_g175 (by omega)
              have ht178 : g175 5 = g170 5 := uZ_off e_g175 (by omega)
              have ht179 : g175 6 = g170 6 := uZ_off e_g175 (by omega)
              refine lv_aload_n hx hb dX9_step_175 rfl (lv_at hl 6 rfl) ?_
              refine lv_bipush (v := zI 38) hx hb dX9_step_176 (by decide) ?_
              refine lv_dup2_11 hx hb dX9_step_178 rfl rfl ?_
              refine rz_ialdN F hK hP 1 0 rfl rfl (by omega) (by omega) dX9_step_179 38 rfl ?_
              refine lv_iconst (v := zI 1) hx hb dX9_step_180 rfl ?_
              refine lv_iload hx hb dX9_step_181 (lv_at hl 1 rfl) ?_
              refine lv_ishl hx hb dX9_step_183 ?_
              refine lv_ior hx hb dX9_step_184 ?_
              refine rz_eq (z := (orW (g175 38) ((2 * (g_s 4)) + 1))) (Int32.ofInt_toInt _).symm ?_
              refine rz_iastN F hK hP hD hS 1 0 rfl rfl (by omega) (by omega) dX9_step_185 38 rfl (w1 := fun g182 => [(a, .inl (cI, 200, .inl (fun k => zI (g_p k)))), (d, .inl (cI, 159, .inl (fun k => zI (g182 k))))]) (fun _ => rfl) (fun g182 e_g182 H locs hP hD hS => ?_)
              obtain ⟨hsi183, hr_hsi183⟩ := SI.free hsi176 e_g182 (by omega)
              have ht184 : g182 4 = g175 4 := uZ_off e_g182 (by omega)
              have ht185 : g182 5 = g175 5 := uZ_off e_g182 (by omega)
              have ht186 : g182 6 = g175 6 := uZ_off e_g182 (by omega)
              refine lv_aload_n hx hb dX9_step_186 rfl (lv_at hl 6 rfl) ?_
              refine lv_iconst (v := zI 4) hx hb dX9_step_187 rfl ?_
              refine lv_aload_n hx hb dX9_step_188 rfl (lv_at hl 5 rfl) ?_
              refine lv_iload hx hb dX9_step_189 (lv_at hl 0 rfl) ?_
              refine rz_iald F hK hP 0 0 rfl rfl (by omega) (by omega) dX9_step_191 ?_
              have hpl187 : 0 ≤ (g_p (((20 * (g_s 4)) + 18)).toNat) ∧ (g_p (((20 * (g_s 4)) + 18)).toNat) ≤ 9 := ProgR.at hp.1 (e := ((20 * (g_s 4)) + 18)) (g_s 4) 18 (by omega) (by omega) (by decide) rfl
              refine rz_iastN F hK hP hD hS 1 0 rfl rfl (by omega) (by omega) dX9_step_192 4 rfl (w1 := fun g188 => [(a, .inl (cI, 200, .inl (fun k => zI (g_p k)))), (d, .inl (cI, 159, .inl (fun k => zI (g188 k))))]) (fun _ => rfl) (fun g188 e_g188 H locs hP hD hS => ?_)
              obtain ⟨hsi189, hr_hsi189⟩ := SI.ats hsi183 e_g188 (by omega)
              have ht190 : g188 4 = (g_p (((20 * (g_s 4)) + 18)).toNat) := uZ_at e_g188 rfl
              have ht191 : g188 5 = g182 5 := uZ_off e_g188 (by omega)
              have ht192 : g188 6 = g182 6 := uZ_off e_g188 (by omega)
              refine lv_aload_n hx hb dX9_step_193 rfl (lv_at hl 6 rfl) ?_
              refine lv_bipush (v := zI 6) hx hb dX9_step_194 (by decide) ?_
              refine lv_aload_n hx hb dX9_step_196 rfl (lv_at hl 5 rfl) ?_
              refine lv_aload_n hx hb dX9_step_197 rfl (lv_at hl 5 rfl) ?_
              refine lv_iload hx hb dX9_step_198 (lv_at hl 0 rfl) ?_
              refine rz_iald F hK hP 0 0 rfl rfl (by omega) (by omega) dX9_step_200 ?_
              have hpl193 : 0 ≤ (g_p (((20 * (g_s 4)) + 18)).toNat) ∧ (g_p (((20 * (g_s 4)) + 18)).toNat) ≤ 9 := ProgR.at hp.1 (e := ((20 * (g_s 4)) + 18)) (g_s 4) 18 (by omega) (by omega) (by decide) rfl
              refine r_callSi (As := [.ref a, .int (zI (g_p (((20 * (g_s 4)) + 18)).toNat))]) (rest := [.int (zI 6), .ref d]) (wr := [(d, .inl (cI, 159, .inl (fun k => zI (g188 k))))]) F hK hP hD hS hA hO hE (c_X9_isToldX hO a g_p (g_p (((20 * (g_s 4)) + 18)).toNat) (by omega) hp (by omega)) k_1424 ks_X9_isTold 2 rfl (by decide +kernel) ⟨Nat.le_of_ble_eq_true rfl, Nat.le_of_ble_eq_true rfl⟩ [0] [1] rfl rfl (by decide) (by decide) (by decide) hl.1 rfl (Nat.le_of_ble_eq_true rfl) dX9_step_201 ⟨Nat.le_of_ble_eq_true rfl, Nat.le_of_ble_eq_true rfl⟩ (w1 := fun u194 => [(d, .inl (cI, 159, .inl (fun k => zI (g188 k)))), (a, .inl (cI, 200, .inl (fun k => zI (g_p k))))]) (fun _ => rfl) (fun r195 u194 H locs hp196 hP hD hS => ?_)
              obtain ⟨z197, rfl, h_z197⟩ := hp196
              refine rz_ifb_eq (tgt := 211) F (by omega) dX9_step_204 (by decide) (fun h204_197 => ?_) (fun h204_197 => ?_)
              · refine lv_iconst (v := zI 3) hx hb dX9_step_211 rfl ?_
                refine rz_iastN F hK hP hD hS 0 0 rfl rfl (by omega) (by omega) dX9_step_212 6 rfl (w1 := fun g199 => [(d, .inl (cI, 159, .inl (fun k => zI (g199 k)))), (a, .inl (cI, 200, .inl (fun k => zI (g_p k))))]) (fun _ => rfl) (fun g199 e_g199 H locs hP hD hS => ?_)
                obtain ⟨hsi200, hr_hsi200⟩ := SI.en hsi189 e_g199 (by omega)
                have ht201 : g199 4 = g188 4 := uZ_off e_g199 (by omega)
                have ht202 : g199 5 = g188 5 := uZ_off e_g199 (by omega)
                have ht203 : g199 6 = 3 := uZ_at e_g199 rfl
                refine lv_aload_n hx hb dX9_step_213 rfl (lv_at hl 6 rfl) ?_
                refine lv_iconst (v := zI 5) hx hb dX9_step_214 rfl ?_
                refine rz_ialdN F hK hP 0 0 rfl rfl (by omega) (by omega) dX9_step_215 5 rfl ?_
                refine lv_bipush (v := zI 100) hx hb dX9_step_216 (by decide) ?_
                refine rz_icmp_ge (tgt := 232) F (by omega) (by omega) dX9_step_218 (by decide) (fun h218_203 => ?_) (fun h218_203 => ?_)
                · exact ret (fun k => [((fun _ => 0), fun _ _ => 0), (fun _ => 0, fun _ => g199)].getD k (fun _ => 0, fun _ _ => 0)) _ _ _ _ _ _ ⟨(show StOk g_p g199 ∧ g199 5 = g_s 5 + 1 from ⟨⟨hsi200, (show 0 ≤ g199 5 ∧ g199 5 ≤ 1001 from by omega), (show g199 6 = 0 → g199 5 + rM g199 ≤ 1000 from fun q9 => by omega)⟩, by omega⟩), (show g199 = stepF g_p g_s from by unfold stepF; rw [← hac, (show uZ gs9 5 (gs9 5 + 1) = g4 from e_g4.symm), (show goF g_p g4 (g_s 4) = g199 from by unfold goF; rw [if_neg (show ¬ g_p (20 * (g_s 4) + 14).toNat = 0 by omega), if_pos (show g_p (20 * (g_s 4) + 14).toNat = 2 ∧ g4 (g_p (20 * (g_s 4) + 15).toNat).toNat = 0 by omega)]; exact (show takeF g_p g4 (2 * (g_s 4) + 1) (20 * (g_s 4) + 18) = g199 from by unfold takeF; rw [if_neg (show ¬ g4 (8 + (2 * (g_s 4) + 1)).toNat = g_p (20 * (g_s 4) + 18 + 1).toNat by omega), if_neg (h_z197.2.2 (by omega)), e_g199, e_g188, e_g182, e_g175, e_g170, e_g165]; rfl)), (show pathF g199 = g199 from by unfold pathF; rw [if_neg (show ¬ g199 5 < 100 by omega)])])⟩ (bw_subP (isC := [1, 0]) hP rfl) (hD.sub [1, 0] (by decide) rfl) hS (Nat.le_of_ble_eq_true rfl) (Nat.le_of_ble_eq_true rfl) dX9_step_232
                · refine lv_aload_n hx hb dX9_step_221 rfl (lv_at hl 6 rfl) ?_
                  refine lv_bipush (v := zI 39) hx hb dX9_step_222 (by decide) ?_
                  refine lv_aload_n hx hb dX9_step_224 rfl (lv_at hl 6 rfl) ?_
                  refine lv_iconst (v := zI 5) hx hb dX9_step_225 rfl ?_
                  refine rz_ialdN F hK hP 0 0 rfl rfl (by omega) (by omega) dX9_step_226 5 rfl ?_
                  refine r_iadd (v := zI (39 + (g199 5))) F dX9_step_227 (zI_add _ _) ?_
                  refine lv_aload_n hx hb dX9_step_228 rfl (lv_at hl 6 rfl) ?_
                  refine lv_iconst (v := zI 4) hx hb dX9_step_229 rfl ?_
                  refine rz_ialdN F hK hP 0 0 rfl rfl (by omega) (by omega) dX9_step_230 4 rfl ?_
                  refine rz_iastG F hK hP hD hS 0 0 rfl rfl (by omega) (by omega) dX9_step_231 (w1 := fun g205 => [(d, .inl (cI, 159, .inl (fun k => zI (g205 k)))), (a, .inl (cI, 200, .inl (fun k => zI (g_p k))))]) (fun _ => rfl) (fun g205 e_g205 H locs hP hD hS => ?_)
                  obtain ⟨hsi206, hr_hsi206⟩ := SI.free hsi200 e_g205 (by omega)
                  have ht207 : g205 4 = g199 4 := uZ_off e_g205 (by omega)
                  have ht208 : g205 5 = g199 5 := uZ_off e_g205 (by omega)
                  have ht209 : g205 6 = g199 6 := uZ_off e_g205 (by omega)
                  exact ret (fun k => [((fun _ => 0), fun _ _ => 0), (fun _ => 0, fun _ => g205)].getD k (fun _ => 0, fun _ _ => 0)) _ _ _ _ _ _ ⟨(show StOk g_p g205 ∧ g205 5 = g_s 5 + 1 from ⟨⟨hsi206, (show 0 ≤ g205 5 ∧ g205 5 ≤ 1001 from by omega), (show g205 6 = 0 → g205 5 + rM g205 ≤ 1000 from fun q9 => by omega)⟩, by omega⟩), (show g205 = stepF g_p g_s from by unfold stepF; rw [← hac, (show uZ gs9 5 (gs9 5 + 1) = g4 from e_g4.symm), (show goF g_p g4 (g_s 4) = g199 from by unfold goF; rw [if_neg (show ¬ g_p (20 * (g_s 4) + 14).toNat = 0 by omega), if_pos (show g_p (20 * (g_s 4) + 14).toNat = 2 ∧ g4 (g_p (20 * (g_s 4) + 15).toNat).toNat = 0 by omega)]; exact (show takeF g_p g4 (2 * (g_s 4) + 1) (20 * (g_s 4) + 18) = g199 from by unfold takeF; rw [if_neg (show ¬ g4 (8 + (2 * (g_s 4) + 1)).toNat = g_p (20 * (g_s 4) + 18 + 1).toNat by omega), if_neg (h_z197.2.2 (by omega)), e_g199, e_g188, e_g182, e_g175, e_g170, e_g165]; rfl)), (show pathF g199 = g205 from by unfold pathF; rw [if_pos (show g199 5 < 100 by omega), e_g205])])⟩ (bw_subP (isC := [1, 0]) hP rfl) (hD.sub [1, 0] (by decide) rfl) hS (Nat.le_of_ble_eq_true rfl) (Nat.le_of_ble_eq_true rfl) dX9_step_232
              · refine lv_iconst (v := zI 0) hx hb dX9_step_207 rfl ?_
                refine lv_goto (tgt := 212) hx hb dX9_step_208 (by decide) ?_
                refine rz_iastN F hK hP hD hS 0 0 rfl rfl (by omega) (by omega) dX9_step_212 6 rfl (w1 := fun g210 => [(d, .inl (cI, 159, .inl (fun k => zI (g210 k)))), (a, .inl (cI, 200, .inl (fun k => zI (g_p k))))]) (fun _ => rfl) (fun g210 e_g210 H locs hP hD hS => ?_)
                obtain ⟨hsi211, hr_hsi211⟩ := SI.en hsi189 e_g210 (by omega)
                have ht212 : g210 4 = g188 4 := uZ_off e_g210 (by omega)
                have ht213 : g210 5 = g188 5 := uZ_off e_g210 (by omega)
                have ht214 : g210 6 = 0 := uZ_at e_g210 rfl
                refine lv_aload_n hx hb dX9_step_213 rfl (lv_at hl 6 rfl) ?_
                refine lv_iconst (v := zI 5) hx hb dX9_step_214 rfl ?_
                refine rz_ialdN F hK hP 0 0 rfl rfl (by omega) (by omega) dX9_step_215 5 rfl ?_
                refine lv_bipush (v := zI 100) hx hb dX9_step_216 (by decide) ?_
                refine rz_icmp_ge (tgt := 232) F (by omega) (by omega) dX9_step_218 (by decide) (fun h218_214 => ?_) (fun h218_214 => ?_)
                · exact ret (fun k => [((fun _ => 0), fun _ _ => 0), (fun _ => 0, fun _ => g210)].getD k (fun _ => 0, fun _ _ => 0)) _ _ _ _ _ _ ⟨(show StOk g_p g210 ∧ g210 5 = g_s 5 + 1 from ⟨⟨hsi211, (show 0 ≤ g210 5 ∧ g210 5 ≤ 1001 from by omega), (show g210 6 = 0 → g210 5 + rM g210 ≤ 1000 from fun q9 => by omega)⟩, by omega⟩), (show g210 = stepF g_p g_s from by unfold stepF; rw [← hac, (show uZ gs9 5 (gs9 5 + 1) = g4 from e_g4.symm), (show goF g_p g4 (g_s 4) = g210 from by unfold goF; rw [if_neg (show ¬ g_p (20 * (g_s 4) + 14).toNat = 0 by omega), if_pos (show g_p (20 * (g_s 4) + 14).toNat = 2 ∧ g4 (g_p (20 * (g_s 4) + 15).toNat).toNat = 0 by omega)]; exact (show takeF g_p g4 (2 * (g_s 4) + 1) (20 * (g_s 4) + 18) = g210 from by unfold takeF; rw [if_neg (show ¬ g4 (8 + (2 * (g_s 4) + 1)).toNat = g_p (20 * (g_s 4) + 18 + 1).toNat by omega), if_pos (h_z197.2.1 (by omega)), e_g210, e_g188, e_g182, e_g175, e_g170, e_g165]; rfl)), (show pathF g210 = g210 from by unfold pathF; rw [if_neg (show ¬ g210 5 < 100 by omega)])])⟩ (bw_subP (isC := [1, 0]) hP rfl) (hD.sub [1, 0] (by decide) rfl) hS (Nat.le_of_ble_eq_true rfl) (Nat.le_of_ble_eq_true rfl) dX9_step_232
                · refine lv_aload_n hx hb dX9_step_221 rfl (lv_at hl 6 rfl) ?_
                  refine lv_bipush (v := zI 39) hx hb dX9_step_222 (by decide) ?_
                  refine lv_aload_n hx hb dX9_step_224 rfl (lv_at hl 6 rfl) ?_
                  refine lv_iconst (v := zI 5) hx hb dX9_step_225 rfl ?_
                  refine rz_ialdN F hK hP 0 0 rfl rfl (by omega) (by omega) dX9_step_226 5 rfl ?_
                  refine r_iadd (v := zI (39 + (g210 5))) F dX9_step_227 (zI_add _ _) ?_
                  refine lv_aload_n hx hb dX9_step_228 rfl (lv_at hl 6 rfl) ?_
                  refine lv_iconst (v := zI 4) hx hb dX9_step_229 rfl ?_
                  refine rz_ialdN F hK hP 0 0 rfl rfl (by omega) (by omega) dX9_step_230 4 rfl ?_
                  refine rz_iastG F hK hP hD hS 0 0 rfl rfl (by omega) (by omega) dX9_step_231 (w1 := fun g216 => [(d, .inl (cI, 159, .inl (fun k => zI (g216 k)))), (a, .inl (cI, 200, .inl (fun k => zI (g_p k))))]) (fun _ => rfl) (fun g216 e_g216 H locs hP hD hS => ?_)
                  obtain ⟨hsi217, hr_hsi217⟩ := SI.free hsi211 e_g216 (by omega)
                  have ht218 : g216 4 = g210 4 := uZ_off e_g216 (by omega)
                  have ht219 : g216 5 = g210 5 := uZ_off e_g216 (by omega)
                  have ht220 : g216 6 = g210 6 := uZ_off e_g216 (by omega)
                  exact ret (fun k => [((fun _ => 0), fun _ _ => 0), (fun _ => 0, fun _ => g216)].getD k (fun _ => 0, fun _ _ => 0)) _ _ _ _ _ _ ⟨(show StOk g_p g216 ∧ g216 5 = g_s 5 + 1 from ⟨⟨hsi217, (show 0 ≤ g216 5 ∧ g216 5 ≤ 1001 from by omega), (show g216 6 = 0 → g216 5 + rM g216 ≤ 1000 from fun q9 => by omega)⟩, by omega⟩), (show g216 = stepF g_p g_s from by unfold stepF; rw [← hac, (show uZ gs9 5 (gs9 5 + 1) = g4 from e_g4.symm), (show goF g_p g4 (g_s 4) = g210 from by unfold goF; rw [if_neg (show ¬ g_p (20 * (g_s 4) + 14).toNat = 0 by omega), if_pos (show g_p (20 * (g_s 4) + 14).toNat = 2 ∧ g4 (g_p (20 * (g_s 4) + 15).toNat).toNat = 0 by omega)]; exact (show takeF g_p g4 (2 * (g_s 4) + 1) (20 * (g_s 4) + 18) = g210 from by unfold takeF; rw [if_neg (show ¬ g4 (8 + (2 * (g_s 4) + 1)).toNat = g_p (20 * (g_s 4) + 18 + 1).toNat by omega), if_pos (h_z197.2.1 (by omega)), e_g210, e_g188, e_g182, e_g175, e_g170, e_g165]; rfl)), (show pathF g210 = g216 from by unfold pathF; rw [if_pos (show g210 5 < 100 by omega), e_g216])])⟩ (bw_subP (isC := [1, 0]) hP rfl) (hD.sub [1, 0] (by decide) rfl) hS (Nat.le_of_ble_eq_true rfl) (Nat.le_of_ble_eq_true rfl) dX9_step_232
            · refine lv_aload_n hx hb dX9_step_136 rfl (lv_at hl 6 rfl) ?_
              refine lv_bipush (v := zI 6) hx hb dX9_step_137 (by decide) ?_
              refine lv_iconst (v := zI 2) hx hb dX9_step_139 rfl ?_
              refine rz_iastN F hK hP hD hS 1 0 rfl rfl (by omega) (by omega) dX9_step_140 6 rfl (w1 := fun g221 => [(a, .inl (cI, 200, .inl (fun k => zI (g_p k)))), (d, .inl (cI, 159, .inl (fun k => zI (g221 k))))]) (fun _ => rfl) (fun g221 e_g221 H locs hP hD hS => ?_)
              obtain ⟨hsi222, hr_hsi222⟩ := SI.en hsi5 e_g221 (by omega)
              have ht223 : g221 4 = g4 4 := uZ_off e_g221 (by omega)
              have ht224 : g221 5 = g4 5 := uZ_off e_g221 (by omega)
              have ht225 : g221 6 = 2 := uZ_at e_g221 rfl
              refine lv_goto (tgt := 213) hx hb dX9_step_141 (by decide) ?_
              refine lv_aload_n hx hb dX9_step_213 rfl (lv_at hl 6 rfl) ?_
              refine lv_iconst (v := zI 5) hx hb dX9_step_214 rfl ?_
              refine rz_ialdN F hK hP 1 0 rfl rfl (by omega) (by omega) dX9_step_215 5 rfl ?_
              refine lv_bipush (v := zI 100) hx hb dX9_step_216 (by decide) ?_
              refine rz_icmp_ge (tgt := 232) F (by omega) (by omega) dX9_step_218 (by decide) (fun h218_225 => ?_) (fun h218_225 => ?_)
              · exact ret (fun k => [((fun _ => 0), fun _ _ => 0), (fun _ => 0, fun _ => g221)].getD k (fun _ => 0, fun _ _ => 0)) _ _ _ _ _ _ ⟨(show StOk g_p g221 ∧ g221 5 = g_s 5 + 1 from ⟨⟨hsi222, (show 0 ≤ g221 5 ∧ g221 5 ≤ 1001 from by omega), (show g221 6 = 0 → g221 5 + rM g221 ≤ 1000 from fun q9 => by omega)⟩, by omega⟩), (show g221 = stepF g_p g_s from by unfold stepF; rw [← hac, (show uZ gs9 5 (gs9 5 + 1) = g4 from e_g4.symm), (show goF g_p g4 (g_s 4) = g221 from by unfold goF; rw [if_neg (show ¬ g_p (20 * (g_s 4) + 14).toNat = 0 by omega), if_pos (show g_p (20 * (g_s 4) + 14).toNat = 2 ∧ g4 (g_p (20 * (g_s 4) + 15).toNat).toNat = 0 by omega)]; exact (show takeF g_p g4 (2 * (g_s 4) + 1) (20 * (g_s 4) + 18) = g221 from by unfold takeF; rw [if_pos (show g4 (8 + (2 * (g_s 4) + 1)).toNat = g_p (20 * (g_s 4) + 18 + 1).toNat by omega), e_g221])), (show pathF g221 = g221 from by unfold pathF; rw [if_neg (show ¬ g221 5 < 100 by omega)])])⟩ (bw_subP (isC := [0, 1]) hP rfl) (hD.sub [0, 1] (by decide) rfl) hS (Nat.le_of_ble_eq_true rfl) (Nat.le_of_ble_eq_true rfl) dX9_step_232
              · refine lv_aload_n hx hb dX9_step_221 rfl (lv_at hl 6 rfl) ?_
                refine lv_bipush (v := zI 39) hx hb dX9_step_222 (by decide) ?_
                refine lv_aload_n hx hb dX9_step_224 rfl (lv_at hl 6 rfl) ?_
                refine lv_iconst (v := zI 5) hx hb dX9_step_225 rfl ?_
                refine rz_ialdN F hK hP 1 0 rfl rfl (by omega) (by omega) dX9_step_226 5 rfl ?_
                refine r_iadd (v := zI (39 + (g221 5))) F dX9_step_227 (zI_add _ _) ?_
                refine lv_aload_n hx hb dX9_step_228 rfl (lv_at hl 6 rfl) ?_
                refine lv_iconst (v := zI 4) hx hb dX9_step_229 rfl ?_
                refine rz_ialdN F hK hP 1 0 rfl rfl (by omega) (by omega) dX9_step_230 4 rfl ?_
                refine rz_iastG F hK hP hD hS 1 0 rfl rfl (by omega) (by omega) dX9_step_231 (w1 := fun g227 => [(a, .inl (cI, 200, .inl (fun k => zI (g_p k)))), (d, .inl (cI, 159, .inl (fun k => zI (g227 k))))]) (fun _ => rfl) (fun g227 e_g227 H locs hP hD hS => ?_)
                obtain ⟨hsi228, hr_hsi228⟩ := SI.free hsi222 e_g227 (by omega)
                have ht229 : g227 4 = g221 4 := uZ_off e_g227 (by omega)
                have ht230 : g227 5 = g221 5 := uZ_off e_g227 (by omega)
                have ht231 : g227 6 = g221 6 := uZ_off e_g227 (by omega)
                exact ret (fun k => [((fun _ => 0), fun _ _ => 0), (fun _ => 0, fun _ => g227)].getD k (fun _ => 0, fun _ _ => 0)) _ _ _ _ _ _ ⟨(show StOk g_p g227 ∧ g227 5 = g_s 5 + 1 from ⟨⟨hsi228, (show 0 ≤ g227 5 ∧ g227 5 ≤ 1001 from by omega), (show g227 6 = 0 → g227 5 + rM g227 ≤ 1000 from fun q9 => by omega)⟩, by omega⟩), (show g227 = stepF g_p g_s from by unfold stepF; rw [← hac, (show uZ gs9 5 (gs9 5 + 1) = g4 from e_g4.symm), (show goF g_p g4 (g_s 4) = g221 from by unfold goF; rw [if_neg (show ¬ g_p (20 * (g_s 4) + 14).toNat = 0 by omega), if_pos (show g_p (20 * (g_s 4) + 14).toNat = 2 ∧ g4 (g_p (20 * (g_s 4) + 15).toNat).toNat = 0 by omega)]; exact (show takeF g_p g4 (2 * (g_s 4) + 1) (20 * (g_s 4) + 18) = g221 from by unfold takeF; rw [if_pos (show g4 (8 + (2 * (g_s 4) + 1)).toNat = g_p (20 * (g_s 4) + 18 + 1).toNat by omega), e_g221])), (show pathF g221 = g227 from by unfold pathF; rw [if_pos (show g221 5 < 100 by omega), e_g227])])⟩ (bw_subP (isC := [0, 1]) hP rfl) (hD.sub [0, 1] (by decide) rfl) hS (Nat.le_of_ble_eq_true rfl) (Nat.le_of_ble_eq_true rfl) dX9_step_232
      · refine lv_aload_n hx hb dX9_step_52 rfl (lv_at hl 4 rfl) ?_
        refine lv_bipush (v := zI 6) hx hb dX9_step_53 (by decide) ?_
        refine lv_iconst (v := zI 1) hx hb dX9_step_55 rfl ?_
        refine rz_iastN F hK hP hD hS 1 0 rfl rfl (by omega) (by omega) dX9_step_56 6 rfl (w1 := fun g232 => [(a, .inl (cI, 200, .inl (fun k => zI (g_p k)))), (d, .inl (cI, 159, .inl (fun k => zI (g232 k))))]) (fun _ => rfl) (fun g232 e_g232 H locs hP hD hS => ?_)
        obtain ⟨hsi233, hr_hsi233⟩ := SI.en hsi5 e_g232 (by omega)
        have ht234 : g232 4 = g4 4 := uZ_off e_g232 (by omega)
        have ht235 : g232 5 = g4 5 := uZ_off e_g232 (by omega)
        have ht236 : g232 6 = 1 := uZ_at e_g232 rfl
        refine lv_goto (tgt := 213) hx hb dX9_step_57 (by decide) ?_
        refine lv_aload_n hx hb dX9_step_213 rfl (lv_at hl 4 rfl) ?_
        refine lv_iconst (v := zI 5) hx hb dX9_step_214 rfl ?_
        refine rz_ialdN F hK hP 1 0 rfl rfl (by omega) (by omega) dX9_step_215 5 rfl ?_
        refine lv_bipush (v := zI 100) hx hb dX9_step_216 (by decide) ?_
        refine rz_icmp_ge (tgt := 232) F (by omega) (by omega) dX9_step_218 (by decide) (fun h218_236 => ?_) (fun h218_236 => ?_)
        · exact ret (fun k => [((fun _ => 0), fun _ _ => 0), (fun _ => 0, fun _ => g232)].getD k (fun _ => 0, fun _ _ => 0)) _ _ _ _ _ _ ⟨(show StOk g_p g232 ∧ g232 5 = g_s 5 + 1 from ⟨⟨hsi233, (show 0 ≤ g232 5 ∧ g232 5 ≤ 1001 from by omega), (show g232 6 = 0 → g232 5 + rM g232 ≤ 1000 from fun q9 => by omega)⟩, by omega⟩), (show g232 = stepF g_p g_s from by unfold stepF; rw [← hac, (show uZ gs9 5 (gs9 5 + 1) = g4 from e_g4.symm), (show goF g_p g4 (g_s 4) = g232 from by unfold goF; rw [if_pos (show g_p (20 * (g_s 4) + 14).toNat = 0 by omega), e_g232]), (show pathF g232 = g232 from by unfold pathF; rw [if_neg (show ¬ g232 5 < 100 by omega)])])⟩ (bw_subP (isC := [0, 1]) hP rfl) (hD.sub [0, 1] (by decide) rfl) hS (Nat.le_of_ble_eq_true rfl) (Nat.le_of_ble_eq_true rfl) dX9_step_232
        · refine lv_aload_n hx hb dX9_step_221 rfl (lv_at hl 4 rfl) ?_
          refine lv_bipush (v := zI 39) hx hb dX9_step_222 (by decide) ?_
          refine lv_aload_n hx hb dX9_step_224 rfl (lv_at hl 4 rfl) ?_
          refine lv_iconst (v := zI 5) hx hb dX9_step_225 rfl ?_
          refine rz_ialdN F hK hP 1 0 rfl rfl (by omega) (by omega) dX9_step_226 5 rfl ?_
          refine r_iadd (v := zI (39 + (g232 5))) F dX9_step_227 (zI_add _ _) ?_
          refine lv_aload_n hx hb dX9_step_228 rfl (lv_at hl 4 rfl) ?_
          refine lv_iconst (v := zI 4) hx hb dX9_step_229 rfl ?_
          refine rz_ialdN F hK hP 1 0 rfl rfl (by omega) (by omega) dX9_step_230 4 rfl ?_
          refine rz_iastG F hK hP hD hS 1 0 rfl rfl (by omega) (by omega) dX9_step_231 (w1 := fun g238 => [(a, .inl (cI, 200, .inl (fun k => zI (g_p k)))), (d, .inl (cI, 159, .inl (fun k => zI (g238 k))))]) (fun _ => rfl) (fun g238 e_g238 H locs hP hD hS => ?_)
          obtain ⟨hsi239, hr_hsi239⟩ := SI.free hsi233 e_g238 (by omega)
          have ht240 : g238 4 = g232 4 := uZ_off e_g238 (by omega)
          have ht241 : g238 5 = g232 5 := uZ_off e_g238 (by omega)
          have ht242 : g238 6 = g232 6 := uZ_off e_g238 (by omega)
          exact ret (fun k => [((fun _ => 0), fun _ _ => 0), (fun _ => 0, fun _ => g238)].getD k (fun _ => 0, fun _ _ => 0)) _ _ _ _ _ _ ⟨(show StOk g_p g238 ∧ g238 5 = g_s 5 + 1 from ⟨⟨hsi239, (show 0 ≤ g238 5 ∧ g238 5 ≤ 1001 from by omega), (show g238 6 = 0 → g238 5 + rM g238 ≤ 1000 from fun q9 => by omega)⟩, by omega⟩), (show g238 = stepF g_p g_s from by unfold stepF; rw [← hac, (show uZ gs9 5 (gs9 5 + 1) = g4 from e_g4.symm), (show goF g_p g4 (g_s 4) = g232 from by unfold goF; rw [if_pos (show g_p (20 * (g_s 4) + 14).toNat = 0 by omega), e_g232]), (show pathF g232 = g238 from by unfold pathF; rw [if_pos (show g232 5 < 100 by omega), e_g238])])⟩ (bw_subP (isC := [0, 1]) hP rfl) (hD.sub [0, 1] (by decide) rfl) hS (Nat.le_of_ble_eq_true rfl) (Nat.le_of_ble_eq_true rfl) dX9_step_232
    · refine lv_aload_n hx hb dX9_step_22 rfl (lv_at hl 3 rfl) ?_
      refine lv_aload_n hx hb dX9_step_23 rfl (lv_at hl 4 rfl) ?_
      refine lv_iload_n hx hb dX9_step_24 rfl (lv_at hl 2 rfl) ?_
      refine lv_iload hx hb dX9_step_25 (lv_at hl 0 rfl) ?_
      refine r_callZv (As := [.ref a, .ref d, .int (zI (g_s 4)), .int (zI v4)]) (rest := []) (wr := []) F hK hP hD hS hA hO hE (c_X9_actX hO a g_p d gs9 (g_s 4) v4 (by omega) (by omega) hp hsi9.1 (by omega) (by omega)) k_1457 ks_X9_act 4 rfl (by decide +kernel) ⟨Nat.le_of_ble_eq_true rfl, Nat.le_of_ble_eq_true rfl⟩ [0, 1] [] rfl rfl (by decide) (by decide) (by decide) hl.1 rfl (Nat.le_of_ble_eq_true rfl) dX9_step_27 ⟨Nat.le_of_ble_eq_true rfl, Nat.le_of_ble_eq_true rfl⟩ (w1 := fun u243 => [(a, .inl (cI, 200, .inl (fun k => zI (g_p k)))), (d, .inl (cI, 159, .inl (fun k => zI (((u243 1).2 0) k))))]) (fun _ => rfl) (fun  u243 H locs hp244 hP hD hS => ?_)
      refine lv_iinc (v := zI (v4 + 1)) (lv' := [(4, .int (zI (v4 + 1))), (3, .int (zI (20 * (g_s 4)))), (2, .int (zI (g_s 4))), (0, .ref a), (1, .ref d)]) hx hb dX9_step_30 hl (k := 0) rfl (zI_add _ _) (by decide) rfl (fun ls hl => ?_)
      refine lv_goto (tgt := 12) hx hb dX9_step_33 (by decide) ?_
      exact ih1 (v4 + 1) ((u243 1).2 0) _ _ (by omega) (by omega) ⟨hp244.1.1, by omega, by omega, by omega, by omega⟩ (actsF_step (by omega) hex9 hp244.2) hP hD hS ls (lv_sub hl [0, 1, 2, 3, 4] rfl)
abbrev rm_X9_runsX : Room := { frames := 3, cells := 0, slots := 0, locals := 72 }
set_option maxRecDepth 100000 in
set_option maxHeartbeats 8000000 in
theorem c_X9_runsX {l : Launch} {E : (Nat → Prop) → State → Prop} (hO : bw_Ok E) {G : va_G} {cI cB cJ cN cW : ClassId} (a : Nat) (g_p : Nat → Int) (d : Nat) (g_s : Nat → Int) (hp : ProgOk g_p) (hs : StOk g_p g_s) : bw_Cv (S := zV) l yX9_runs (bw_ws (Cond.code yX9_runs cX9_runs 2 none)) rm_X9_runsX E G (bw_kt cI cB cJ cN cW) [.ref a, .ref d] [(a, .inl (cI, 200, .inl (fun k => zI (g_p k)))), (d, .inl (cI, 159, .inl (fun k => zI (g_s k))))] (fun u => (StOk g_p ((u 1).2 0) ∧ ((u 1).2 0) = stepsF g_p (1002 - g_s 5).toNat g_s ∧ ((u 1).2 0) 6 ≠ 0)) (fun u => [(a, .inl (cI, 200, .inl (fun k => zI (g_p k)))), (d, .inl (cI, 159, .inl (fun k => zI (((u 1).2 0) k))))]) := by
  refine bw_Cv.of (cc := cX9_runs) (maxL := 2) (by decide) rfl (Nat.le_of_ble_eq_true rfl) ?_
  intro p e s m below meth c A Q hx hb hml hts hown hin hK hA hS hP hD hE ret ls hl
  have F : CallFix p m c cX9_runs 2 s ([.ref a, .ref d] : List Value).toArray bw_T RX9 := ⟨hx, hb, hml, hown, fun w h => hts w (List.mem_cons_of_mem _ h)⟩
  replace hl : lv_has ls 2 [(0, .ref a), (1, .ref d)] := hl
  have hs5 := hs.2.1
  refine W.widen (k := 0) (n := 0) (Nat.le_of_ble_eq_true rfl) (Nat.le_of_ble_eq_true rfl) ?_
  refine (?_ : ∀ (n9_1 : Nat) (gs9 : Nat → Int) (H : Heap) (locs : List Loc), (0 ≤ gs9 5 ∧ gs9 5 ≤ 1001 ∧ g_s 5 ≤ gs9 5) → (1002 - gs9 5 : Int).toNat < n9_1 → (StOk g_p gs9) → (stepsF g_p (1002 - gs9 5).toNat gs9 = stepsF g_p (1002 - g_s 5).toNat g_s) → va_P G vwCl [(a, .inl (cI, 200, .inl (fun k => zI (g_p k)))), (d, .inl (cI, 159, .inl (fun k => zI (gs9 k))))] H → va_D A [(a, .inl (cI, 200, .inl (fun k => zI (g_p k)))), (d, .inl (cI, 159, .inl (fun k => zI (gs9 k))))] → va_S A s.heap H locs → ∀ ls : Array Slot, lv_has ls 2 [(0, .ref a), (1, .ref d)] → W p l e rm_X9_runsX s m ([.ref a, .ref d] : List Value).toArray below meth c H locs 0 0 Q (F0 m 0 ls [])) ((1002 - g_s 5 : Int).toNat + 1) g_s _ _ (by omega) (by omega) hs rfl hP hD hS ls hl
  clear hP hD hS hl ls
  intro n9_1
  induction n9_1 with
  | zero =>
    intro gs9 H locs hI hM
    exact absurd hM (by omega)
  | succ n9_1 ih1 =>
    intro gs9 H locs hI1 hM1 hst9 hrx hP hD hS ls hl
    refine lv_aload_n hx hb dX9_runs_0 rfl (lv_at hl 1 rfl) ?_
    refine lv_bipush (v := zI 6) hx hb dX9_runs_1 (by decide) ?_
    refine rz_ialdN F hK hP 1 0 rfl rfl (by omega) (by omega) dX9_runs_3 6 rfl ?_
    have hc1 := hst9.1.2.2.1
    have hc2 := hst9.2.1
    refine rz_if_ne (tgt := 15) F (by omega) dX9_runs_4 (by decide) (fun h4_2 => ?_) (fun h4_2 => ?_)
    · exact ret (fun k => [((fun _ => 0), fun _ _ => 0), (fun _ => 0, fun _ => gs9)].getD k (fun _ => 0, fun _ _ => 0)) _ _ _ _ _ _ ⟨hst9, (by rw [← hrx]; exact (stepsF_end (show gs9 6 ≠ 0 by omega) _).symm), (show gs9 6 ≠ 0 by omega)⟩ (bw_subP (isC := [0, 1]) hP rfl) (hD.sub [0, 1] (by decide) rfl) hS (Nat.le_of_ble_eq_true rfl) (Nat.le_of_ble_eq_true rfl) dX9_runs_15
    · refine lv_aload_n hx hb dX9_runs_7 rfl (lv_at hl 0 rfl) ?_
      refine lv_aload_n hx hb dX9_runs_8 rfl (lv_at hl 1 rfl) ?_
      refine r_callZv (As := [.ref a, .ref d]) (rest := []) (wr := []) F hK hP hD hS hA hO hE (c_X9_stepX hO a g_p d gs9 hp hst9 (by omega)) k_1454 ks_X9_step 2 rfl (by decide +kernel) ⟨Nat.le_of_ble_eq_true rfl, Nat.le_of_ble_eq_true rfl⟩ [0, 1] [] rfl rfl (by decide) (by decide) (by decide) hl.1 rfl (Nat.le_of_ble_eq_true rfl) dX9_runs_9 ⟨Nat.le_of_ble_eq_true rfl, Nat.le_of_ble_eq_true rfl⟩ (w1 := fun u4 => [(a, .inl (cI, 200, .inl (fun k => zI (g_p k)))), (d, .inl (cI, 159, .inl (fun k => zI (((u4 1).2 0) k))))]) (fun _ => rfl) (fun  u4 H locs hp5 hP hD hS => ?_)
      have hc6 := hp5.1.1.2.1
      have hc7 := hp5.1.2
      refine lv_goto (tgt := 0) hx hb dX9_runs_12 (by decide) ?_
      exact ih1 ((u4 1).2 0) _ _ (by omega) (by omega) (hp5.1.1) (by rw [← hrx, show (1002 - gs9 5).toNat = (1002 - ((u4 1).2 0) 5).toNat + 1 by omega, stepsF_go (show gs9 6 = 0 by omega), ← hp5.2]) hP hD hS ls (lv_sub hl [0, 1] rfl)
