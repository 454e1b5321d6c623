theorem dX6_act_0 : decode cX6_act 0 = .ok (.aload_n 1, 1) := bo_43 (by decide +kernel)
theorem dX6_act_1 : decode cX6_act 1 = .ok (.getfield 88, 3) := bo_180 0 88 (by decide +kernel)
theorem k_157 : Cond.fieldLink RX6 88 "BurntWays$Net" "actKinds" "[I" ∈ bw_T := bw_m 157 (by decide +kernel) rfl
theorem dX6_act_4 : decode cX6_act 4 = .ok (.iload_n 2, 1) := bo_28 (by decide +kernel)
theorem dX6_act_5 : decode cX6_act 5 = .ok (.iaload, 1) := bo_46 (by decide +kernel)
theorem dX6_act_6 : decode cX6_act 6 = .ok (.istore_n 3, 1) := bo_62 (by decide +kernel)
theorem dX6_act_7 : decode cX6_act 7 = .ok (.aload_n 1, 1) := bo_43 (by decide +kernel)
theorem dX6_act_8 : decode cX6_act 8 = .ok (.getfield 91, 3) := bo_180 0 91 (by decide +kernel)
theorem k_160 : Cond.fieldLink RX6 91 "BurntWays$Net" "actTargets" "[I" ∈ bw_T := bw_m 160 (by decide +kernel) rfl
theorem dX6_act_11 : decode cX6_act 11 = .ok (.iload_n 2, 1) := bo_28 (by decide +kernel)
theorem dX6_act_12 : decode cX6_act 12 = .ok (.iaload, 1) := bo_46 (by decide +kernel)
theorem dX6_act_13 : decode cX6_act 13 = .ok (.istore 4, 2) := bo_54 (by decide +kernel)
theorem dX6_act_15 : decode cX6_act 15 = .ok (.iload_n 3, 1) := bo_29 (by decide +kernel)
theorem dX6_act_16 : decode cX6_act 16 = .ok (.iconst 2, 1) := bo_5 (by decide +kernel)
theorem dX6_act_17 : decode cX6_act 17 = .ok (.if_icmp .ne 19, 3) := bo_160 0 19 (by decide +kernel)
theorem dX6_act_36 : decode cX6_act 36 = .ok (.iload_n 3, 1) := bo_29 (by decide +kernel)
theorem dX6_act_37 : decode cX6_act 37 = .ok (.ifCond .ne 29, 3) := bo_154 0 29 (by decide +kernel)
theorem dX6_act_66 : decode cX6_act 66 = .ok (.iload_n 3, 1) := bo_29 (by decide +kernel)
theorem dX6_act_67 : decode cX6_act 67 = .ok (.iconst 1, 1) := bo_4 (by decide +kernel)
theorem dX6_act_68 : decode cX6_act 68 = .ok (.if_icmp .ne 27, 3) := bo_160 0 27 (by decide +kernel)
theorem dX6_act_95 : decode cX6_act 95 = .ok (.iload_n 3, 1) := bo_29 (by decide +kernel)
theorem dX6_act_96 : decode cX6_act 96 = .ok (.iconst 3, 1) := bo_6 (by decide +kernel)
theorem dX6_act_97 : decode cX6_act 97 = .ok (.if_icmp .ne 50, 3) := bo_160 0 50 (by decide +kernel)
theorem dX6_act_147 : decode cX6_act 147 = .ok (.return_, 1) := bo_177 (by decide +kernel)
theorem dX6_act_100 : decode cX6_act 100 = .ok (.aload_n 0, 1) := bo_42 (by decide +kernel)
theorem dX6_act_101 : decode cX6_act 101 = .ok (.getfield 37, 3) := bo_180 0 37 (by decide +kernel)
theorem k_338 : Cond.fieldLink RX6 37 "BurntWays$Walk" "given" "J" ∈ bw_T := bw_m 338 (by decide +kernel) rfl
theorem in_X6 : ∀ w ∈ wsX60, w ∈ bw_T := bw_ms _ [341, 343, 345, 347, 349, 351, 353, 355, 357, 359] (by decide +kernel) (by decide +kernel)
theorem dX6_act_104 : decode cX6_act 104 = .ok (.iload_n 2, 1) := bo_28 (by decide +kernel)
theorem dX6_act_105 : decode cX6_act 105 = .ok (.lshr, 1) := bo_123 (by decide +kernel)
theorem dX6_act_106 : decode cX6_act 106 = .ok (.lconst 1, 1) := bo_10 (by decide +kernel)
theorem dX6_act_107 : decode cX6_act 107 = .ok (.land, 1) := bo_127 (by decide +kernel)
theorem dX6_act_108 : decode cX6_act 108 = .ok (.lconst 0, 1) := bo_9 (by decide +kernel)
theorem dX6_act_109 : decode cX6_act 109 = .ok (.lcmp, 1) := bo_148 (by decide +kernel)
theorem dX6_act_110 : decode cX6_act 110 = .ok (.ifCond .ne 37, 3) := bo_154 0 37 (by decide +kernel)
theorem dX6_act_113 : decode cX6_act 113 = .ok (.aload_n 0, 1) := bo_42 (by decide +kernel)
theorem dX6_act_114 : decode cX6_act 114 = .ok (.dup, 1) := bo_89 (by decide +kernel)
theorem dX6_act_115 : decode cX6_act 115 = .ok (.getfield 37, 3) := bo_180 0 37 (by decide +kernel)
theorem dX6_act_118 : decode cX6_act 118 = .ok (.lconst 1, 1) := bo_10 (by decide +kernel)
theorem dX6_act_119 : decode cX6_act 119 = .ok (.iload_n 2, 1) := bo_28 (by decide +kernel)
theorem dX6_act_120 : decode cX6_act 120 = .ok (.lshl, 1) := bo_121 (by decide +kernel)
theorem dX6_act_121 : decode cX6_act 121 = .ok (.lor, 1) := bo_129 (by decide +kernel)
theorem dX6_act_122 : decode cX6_act 122 = .ok (.putfield 37, 3) := bo_181 0 37 (by decide +kernel)
theorem dX6_act_125 : decode cX6_act 125 = .ok (.aload_n 0, 1) := bo_42 (by decide +kernel)
theorem dX6_act_126 : decode cX6_act 126 = .ok (.getfield 31, 3) := bo_180 0 31 (by decide +kernel)
theorem k_334 : Cond.fieldLink RX6 31 "BurntWays$Walk" "taken" "[I" ∈ bw_T := bw_m 334 (by decide +kernel) rfl
theorem dX6_act_129 : decode cX6_act 129 = .ok (.iconst 2, 1) := bo_5 (by decide +kernel)
theorem dX6_act_130 : decode cX6_act 130 = .ok (.iload 4, 2) := bo_21 (by decide +kernel)
theorem dX6_act_132 : decode cX6_act 132 = .ok (.imul, 1) := bo_104 (by decide +kernel)
theorem dX6_act_133 : decode cX6_act 133 = .ok (.iconst 0, 1) := bo_3 (by decide +kernel)
theorem dX6_act_134 : decode cX6_act 134 = .ok (.iastore, 1) := bo_79 (by decide +kernel)
theorem dX6_act_135 : decode cX6_act 135 = .ok (.aload_n 0, 1) := bo_42 (by decide +kernel)
theorem dX6_act_136 : decode cX6_act 136 = .ok (.getfield 31, 3) := bo_180 0 31 (by decide +kernel)
theorem dX6_act_139 : decode cX6_act 139 = .ok (.iconst 2, 1) := bo_5 (by decide +kernel)
theorem dX6_act_140 : decode cX6_act 140 = .ok (.iload 4, 2) := bo_21 (by decide +kernel)
theorem dX6_act_142 : decode cX6_act 142 = .ok (.imul, 1) := bo_104 (by decide +kernel)
theorem dX6_act_143 : decode cX6_act 143 = .ok (.iconst 1, 1) := bo_4 (by decide +kernel)
theorem dX6_act_144 : decode cX6_act 144 = .ok (.iadd, 1) := bo_96 (by decide +kernel)
theorem dX6_act_145 : decode cX6_act 145 = .ok (.iconst 0, 1) := bo_3 (by decide +kernel)
theorem dX6_act_146 : decode cX6_act 146 = .ok (.iastore, 1) := bo_79 (by decide +kernel)
theorem dX6_act_71 : decode cX6_act 71 = .ok (.aload_n 0, 1) := bo_42 (by decide +kernel)
theorem dX6_act_72 : decode cX6_act 72 = .ok (.getfield 27, 3) := bo_180 0 27 (by decide +kernel)
theorem k_332 : Cond.fieldLink RX6 27 "BurntWays$Walk" "counters" "[I" ∈ bw_T := bw_m 332 (by decide +kernel) rfl
theorem dX6_act_75 : decode cX6_act 75 = .ok (.iload 4, 2) := bo_21 (by decide +kernel)
theorem dX6_act_77 : decode cX6_act 77 = .ok (.iaload, 1) := bo_46 (by decide +kernel)
theorem dX6_act_78 : decode cX6_act 78 = .ok (.ifCond .le 17, 3) := bo_158 0 17 (by decide +kernel)
theorem dX6_act_81 : decode cX6_act 81 = .ok (.aload_n 0, 1) := bo_42 (by decide +kernel)
theorem dX6_act_82 : decode cX6_act 82 = .ok (.getfield 27, 3) := bo_180 0 27 (by decide +kernel)
theorem dX6_act_85 : decode cX6_act 85 = .ok (.iload 4, 2) := bo_21 (by decide +kernel)
theorem dX6_act_87 : decode cX6_act 87 = .ok (.dup2, 1) := bo_92 (by decide +kernel)
theorem dX6_act_88 : decode cX6_act 88 = .ok (.iaload, 1) := bo_46 (by decide +kernel)
theorem dX6_act_89 : decode cX6_act 89 = .ok (.iconst 1, 1) := bo_4 (by decide +kernel)
theorem dX6_act_90 : decode cX6_act 90 = .ok (.isub, 1) := bo_100 (by decide +kernel)
theorem dX6_act_91 : decode cX6_act 91 = .ok (.iastore, 1) := bo_79 (by decide +kernel)
theorem dX6_act_92 : decode cX6_act 92 = .ok (.goto 55, 3) := bo_167 0 55 (by decide +kernel)
theorem dX6_act_40 : decode cX6_act 40 = .ok (.aload_n 0, 1) := bo_42 (by decide +kernel)
theorem dX6_act_41 : decode cX6_act 41 = .ok (.getfield 27, 3) := bo_180 0 27 (by decide +kernel)
theorem dX6_act_44 : decode cX6_act 44 = .ok (.iload 4, 2) := bo_21 (by decide +kernel)
theorem dX6_act_46 : decode cX6_act 46 = .ok (.iaload, 1) := bo_46 (by decide +kernel)
theorem dX6_act_47 : decode cX6_act 47 = .ok (.bipush 99, 2) := bo_16 99 (by decide +kernel)
theorem dX6_act_49 : decode cX6_act 49 = .ok (.if_icmp .ge 17, 3) := bo_162 0 17 (by decide +kernel)
theorem dX6_act_52 : decode cX6_act 52 = .ok (.aload_n 0, 1) := bo_42 (by decide +kernel)
theorem dX6_act_53 : decode cX6_act 53 = .ok (.getfield 27, 3) := bo_180 0 27 (by decide +kernel)
theorem dX6_act_56 : decode cX6_act 56 = .ok (.iload 4, 2) := bo_21 (by decide +kernel)
theorem dX6_act_58 : decode cX6_act 58 = .ok (.dup2, 1) := bo_92 (by decide +kernel)
theorem dX6_act_59 : decode cX6_act 59 = .ok (.iaload, 1) := bo_46 (by decide +kernel)
theorem dX6_act_60 : decode cX6_act 60 = .ok (.iconst 1, 1) := bo_4 (by decide +kernel)
theorem dX6_act_61 : decode cX6_act 61 = .ok (.iadd, 1) := bo_96 (by decide +kernel)
theorem dX6_act_62 : decode cX6_act 62 = .ok (.iastore, 1) := bo_79 (by decide +kernel)
theorem dX6_act_63 : decode cX6_act 63 = .ok (.goto 84, 3) := bo_167 0 84 (by decide +kernel)
theorem dX6_act_20 : decode cX6_act 20 = .ok (.aload_n 0, 1) := bo_42 (by decide +kernel)
theorem dX6_act_21 : decode cX6_act 21 = .ok (.getfield 27, 3) := bo_180 0 27 (by decide +kernel)
theorem dX6_act_24 : decode cX6_act 24 = .ok (.iload 4, 2) := bo_21 (by decide +kernel)
theorem dX6_act_26 : decode cX6_act 26 = .ok (.aload_n 1, 1) := bo_43 (by decide +kernel)
theorem dX6_act_27 : decode cX6_act 27 = .ok (.getfield 94, 3) := bo_180 0 94 (by decide +kernel)
theorem k_163 : Cond.fieldLink RX6 94 "BurntWays$Net" "actValues" "[I" ∈ bw_T := bw_m 163 (by decide +kernel) rfl
theorem dX6_act_30 : decode cX6_act 30 = .ok (.iload_n 2, 1) := bo_28 (by decide +kernel)
theorem dX6_act_31 : decode cX6_act 31 = .ok (.iaload, 1) := bo_46 (by decide +kernel)
theorem dX6_act_32 : decode cX6_act 32 = .ok (.iastore, 1) := bo_79 (by decide +kernel)
theorem dX6_act_33 : decode cX6_act 33 = .ok (.goto 114, 3) := bo_167 0 114 (by decide +kernel)
abbrev rm_X6_act : Room := { frames := 0, cells := 0, slots := 0, locals := 0 }
set_option maxRecDepth 100000 in
set_option maxHeartbeats 8000000 in
theorem c_X6_act {l : Launch} {E : (Nat → Prop) → State → Prop} (hO : bw_Ok E) {G : va_G} {cI cB cJ cN cW : ClassId} (b : Nat) (q : Nat → Nat) (i : Nat → Int) (g : Nat → Nat → Int) (hW : WalkOk i g) (o : Nat) (qo : Nat → Nat) (no : Int) (go : Nat → Nat → Int) (hM : NetOk no go) (x : Int) (hx9 : 0 ≤ x ∧ x < 40) : bw_Cv (S := zU) l yX6_act (bw_ws (Cond.code yX6_act cX6_act 5 none)) rm_X6_act E G (bw_kt cI cB cJ cN cW) [.ref b, .ref o, .int (zI x)] [(b, .inr (6, [.int (zI (i 0)), .int (zI (i 1)), .int (zI (i 2)), .int (zI (i 3)), .int (zI (i 4)), .ref (q 0), .ref (q 1), .ref (q 2), .long (zL (i 5)), .ref (q 3)])), ((q 0), .inl (cI, 4, .inl (fun k => zI ((g 0) k)))), ((q 1), .inl (cI, 20, .inl (fun k => zI ((g 1) k)))), ((q 2), .inl (cI, 20, .inl (fun k => zI ((g 2) k)))), ((q 3), .inl (cI, 100, .inl (fun k => zI ((g 3) k)))), (o, .inr (2, [.int (zI no), .ref (qo 0), .ref (qo 1), .ref (qo 2), .ref (qo 3), .ref (qo 4), .ref (qo 5), .ref (qo 6), .ref (qo 7)])), ((qo 0), .inl (cI, 10, .inl (fun k => zI ((go 0) k)))), ((qo 1), .inl (cI, 10, .inl (fun k => zI ((go 1) k)))), ((qo 2), .inl (cI, 10, .inl (fun k => zI ((go 2) k)))), ((qo 3), .inl (cI, 40, .inl (fun k => zI ((go 3) k)))), ((qo 4), .inl (cI, 40, .inl (fun k => zI ((go 4) k)))), ((qo 5), .inl (cI, 40, .inl (fun k => zI ((go 5) k)))), ((qo 6), .inl (cI, 20, .inl (fun k => zI ((go 6) k)))), ((qo 7), .inl (cI, 20, .inl (fun k => zI ((go 7) k))))] (fun u => WalkOk u.1 u.2 ∧ (u.1 0 = i 0 ∧ u.1 1 = i 1 ∧ u.1 2 = i 2)) (fun u => [(b, .inr (6, [.int (zI (u.1 0)), .int (zI (u.1 1)), .int (zI (u.1 2)), .int (zI (u.1 3)), .int (zI (u.1 4)), .ref (q 0), .ref (q 1), .ref (q 2), .long (zL (u.1 5)), .ref (q 3)])), ((q 0), .inl (cI, 4, .inl (fun k => zI ((u.2 0) k)))), ((q 1), .inl (cI, 20, .inl (fun k => zI ((u.2 1) k)))), ((q 2), .inl (cI, 20, .inl (fun k => zI ((u.2 2) k)))), ((q 3), .inl (cI, 100, .inl (fun k => zI ((u.2 3) k)))), (o, .inr (2, [.int (zI no), .ref (qo 0), .ref (qo 1), .ref (qo 2), .ref (qo 3), .ref (qo 4), .ref (qo 5), .ref (qo 6), .ref (qo 7)])), ((qo 0), .inl (cI, 10, .inl (fun k => zI ((go 0) k)))), ((qo 1), .inl (cI, 10, .inl (fun k => zI ((go 1) k)))), ((qo 2), .inl (cI, 10, .inl (fun k => zI ((go 2) k)))), ((qo 3), .inl (cI, 40, .inl (fun k => zI ((go 3) k)))), ((qo 4), .inl (cI, 40, .inl (fun k => zI ((go 4) k)))), ((qo 5), .inl (cI, 40, .inl (fun k => zI ((go 5) k)))), ((qo 6), .inl (cI, 20, .inl (fun k => zI ((go 6) k)))), ((qo 7), .inl (cI, 20, .inl (fun k => zI ((go 7) k))))]) := by
  refine bw_Cv.of (cc := cX6_act) (maxL := 5) (by decide) rfl (Nat.le_of_ble_eq_true rfl) ?_
  intro p e s m below meth c A Q hx hb hml hts hown hin hK hA hS hP hD hE ret ls hl
  have F : CallFix p m c cX6_act 5 s ([.ref b, .ref o, .int (zI x)] : List Value).toArray bw_T RX6 := ⟨hx, hb, hml, hown, fun w h => hts w (List.mem_cons_of_mem _ h)⟩
  replace hl : lv_has ls 5 [(0, .ref b), (1, .ref o), (2, .int (zI x))] := hl
  have hW1 := hW.1
  have hM0 := hM.1
  refine lv_aload_n hx hb dX6_act_0 rfl (lv_at hl 1 rfl) ?_
  refine r_get F hK hP 5 4 rfl rfl in_X2 (by decide) k_157 rfl dX6_act_1 ?_
  refine lv_iload_n hx hb dX6_act_4 rfl (lv_at hl 2 rfl) ?_
  refine rz_iald F hK hP 9 0 rfl rfl (by omega) (by omega) dX6_act_5 ?_
  have h_l5_0 := hM.2.2.2.2.1 (x).toNat (by omega)
  refine lv_istore_n (lv' := [(3, .int (zI ((go 3) (x).toNat))), (0, .ref b), (1, .ref o), (2, .int (zI x))]) hx hb dX6_act_6 rfl hl (by decide) rfl (fun ls hl => ?_)
  refine lv_aload_n hx hb dX6_act_7 rfl (lv_at hl 2 rfl) ?_
  refine r_get F hK hP 5 5 rfl rfl in_X2 (by decide) k_160 rfl dX6_act_8 ?_
  refine lv_iload_n hx hb dX6_act_11 rfl (lv_at hl 3 rfl) ?_
  refine rz_iald F hK hP 10 0 rfl rfl (by omega) (by omega) dX6_act_12 ?_
  have h_l12_1 := hM.2.2.2.2.2.1 (x).toNat (by omega)
  refine lv_istore (lv' := [(4, .int (zI ((go 4) (x).toNat))), (3, .int (zI ((go 3) (x).toNat))), (0, .ref b), (1, .ref o), (2, .int (zI x))]) hx hb dX6_act_13 hl (by decide) rfl (fun ls hl => ?_)
  refine lv_iload_n hx hb dX6_act_15 rfl (lv_at hl 1 rfl) ?_
  refine lv_iconst (v := zI 2) hx hb dX6_act_16 rfl ?_
  refine rz_icmp_ne (tgt := 36) F (by omega) (by omega) dX6_act_17 (by decide) (fun h17_2 => ?_) (fun h17_2 => ?_)
  · refine lv_iload_n hx hb dX6_act_36 rfl (lv_at hl 1 rfl) ?_
    refine rz_if_ne (tgt := 66) F (by omega) dX6_act_37 (by decide) (fun h37_3 => ?_) (fun h37_3 => ?_)
    · refine lv_iload_n hx hb dX6_act_66 rfl (lv_at hl 1 rfl) ?_
      refine lv_iconst (v := zI 1) hx hb dX6_act_67 rfl ?_
      refine rz_icmp_ne (tgt := 95) F (by omega) (by omega) dX6_act_68 (by decide) (fun h68_4 => ?_) (fun h68_4 => ?_)
      · refine lv_iload_n hx hb dX6_act_95 rfl (lv_at hl 1 rfl) ?_
        refine lv_iconst (v := zI 3) hx hb dX6_act_96 rfl ?_
        refine rz_icmp_ne (tgt := 147) F (by omega) (by omega) dX6_act_97 (by decide) (fun h97_5 => ?_) (fun h97_5 => ?_)
        · exact ret (i, g) _ _ _ _ _ _ ⟨hW, by dsimp only; omega⟩ (bw_subP (isC := [0, 1, 2, 3, 4, 5, 6, 7, 8, 9, 10, 11, 12, 13]) hP rfl) (hD.sub [0, 1, 2, 3, 4, 5, 6, 7, 8, 9, 10, 11, 12, 13] (by decide) rfl) hS (Nat.le_of_ble_eq_true rfl) (Nat.le_of_ble_eq_true rfl) dX6_act_147
        · refine lv_aload_n hx hb dX6_act_100 rfl (lv_at hl 2 rfl) ?_
          refine r_get F hK hP 0 8 rfl rfl in_X6 (by decide) k_338 rfl dX6_act_101 ?_
          refine lv_iload_n hx hb dX6_act_104 rfl (lv_at hl 4 rfl) ?_
          refine lv_lshr hx hb dX6_act_105 rfl ?_
          refine rz_topl (fun zl7 => ?_)
          refine lv_lconst (v := (zL 1)) hx hb dX6_act_106 rfl ?_
          refine lv_land hx hb dX6_act_107 ?_
          refine rz_topl (fun zl8 => ?_)
          refine lv_lconst (v := (zL 0)) hx hb dX6_act_108 rfl ?_
          refine rz_lcmp F dX6_act_109 (fun z9 h_z9 => ?_)
          refine rz_if_ne (tgt := 147) F (by omega) dX6_act_110 (by decide) (fun h110_9 => ?_) (fun h110_9 => ?_)
          · exact ret (i, g) _ _ _ _ _ _ ⟨hW, by dsimp only; omega⟩ (bw_subP (isC := [0, 1, 2, 3, 4, 5, 6, 7, 8, 9, 10, 11, 12, 13]) hP rfl) (hD.sub [0, 1, 2, 3, 4, 5, 6, 7, 8, 9, 10, 11, 12, 13] (by decide) rfl) hS (Nat.le_of_ble_eq_true rfl) (Nat.le_of_ble_eq_true rfl) dX6_act_147
          · refine lv_aload_n hx hb dX6_act_113 rfl (lv_at hl 2 rfl) ?_
            refine lv_dup hx hb dX6_act_114 rfl ?_
            refine r_get F hK hP 0 8 rfl rfl in_X6 (by decide) k_338 rfl dX6_act_115 ?_
            refine lv_lconst (v := (zL 1)) hx hb dX6_act_118 rfl ?_
            refine lv_iload_n hx hb dX6_act_119 rfl (lv_at hl 4 rfl) ?_
            refine lv_lshl hx hb dX6_act_120 rfl ?_
            refine rz_topl (fun zl11 => ?_)
            refine lv_lor hx hb dX6_act_121 ?_
            refine rz_topl (fun zl12 => ?_)
            refine r_put F hK hP hD hS 0 8 rfl rfl in_X6 tyX6 tyX6_ok nmX6 (by decide) k_338 rfl rfl rfl (Nat.le_of_ble_eq_true rfl) dX6_act_122 (w1 := [(b, .inr (6, [.int (zI (i 0)), .int (zI (i 1)), .int (zI (i 2)), .int (zI (i 3)), .int (zI (i 4)), .ref (q 0), .ref (q 1), .ref (q 2), .long (zL zl12), .ref (q 3)])), ((q 0), .inl (cI, 4, .inl (fun k => zI ((g 0) k)))), ((q 1), .inl (cI, 20, .inl (fun k => zI ((g 1) k)))), ((q 2), .inl (cI, 20, .inl (fun k => zI ((g 2) k)))), ((q 3), .inl (cI, 100, .inl (fun k => zI ((g 3) k)))), (o, .inr (2, [.int (zI no), .ref (qo 0), .ref (qo 1), .ref (qo 2), .ref (qo 3), .ref (qo 4), .ref (qo 5), .ref (qo 6), .ref (qo 7)])), ((qo 0), .inl (cI, 10, .inl (fun k => zI ((go 0) k)))), ((qo 1), .inl (cI, 10, .inl (fun k => zI ((go 1) k)))), ((qo 2), .inl (cI, 10, .inl (fun k => zI ((go 2) k)))), ((qo 3), .inl (cI, 40, .inl (fun k => zI ((go 3) k)))), ((qo 4), .inl (cI, 40, .inl (fun k => zI ((go 4) k)))), ((qo 5), .inl (cI, 40, .inl (fun k => zI ((go 5) k)))), ((qo 6), .inl (cI, 20, .inl (fun k => zI ((go 6) k)))), ((qo 7), .inl (cI, 20, .inl (fun k => zI ((go 7) k))))]) rfl (fun H locs hP hD hS => ?_)
            refine lv_aload_n hx hb dX6_act_125 rfl (lv_at hl 2 rfl) ?_
            refine r_get F hK hP 0 6 rfl rfl in_X6 (by decide) k_334 rfl dX6_act_126 ?_
            refine lv_iconst (v := zI 2) hx hb dX6_act_129 rfl ?_
            refine lv_iload hx hb dX6_act_130 (lv_at hl 0 rfl) ?_
            refine r_imul (v := zI (2 * ((go 4) (x).toNat))) F dX6_act_132 (zI_mul _ _) ?_
            refine lv_iconst (v := zI 0) hx hb dX6_act_133 rfl ?_
            refine rz_iastG F hK hP hD hS 2 0 rfl rfl (by omega) (by omega) dX6_act_134 (w1 := fun g13 => [(b, .inr (6, [.int (zI (i 0)), .int (zI (i 1)), .int (zI (i 2)), .int (zI (i 3)), .int (zI (i 4)), .ref (q 0), .ref (q 1), .ref (q 2), .long (zL zl12), .ref (q 3)])), ((q 0), .inl (cI, 4, .inl (fun k => zI ((g 0) k)))), ((q 1), .inl (cI, 20, .inl (fun k => zI (g13 k)))), ((q 2), .inl (cI, 20, .inl (fun k => zI ((g 2) k)))), ((q 3), .inl (cI, 100, .inl (fun k => zI ((g 3) k)))), (o, .inr (2, [.int (zI no), .ref (qo 0), .ref (qo 1), .ref (qo 2), .ref (qo 3), .ref (qo 4), .ref (qo 5), .ref (qo 6), .ref (qo 7)])), ((qo 0), .inl (cI, 10, .inl (fun k => zI ((go 0) k)))), ((qo 1), .inl (cI, 10, .inl (fun k => zI ((go 1) k)))), ((qo 2), .inl (cI, 10, .inl (fun k => zI ((go 2) k)))), ((qo 3), .inl (cI, 40, .inl (fun k => zI ((go 3) k)))), ((qo 4), .inl (cI, 40, .inl (fun k => zI ((go 4) k)))), ((qo 5), .inl (cI, 40, .inl (fun k => zI ((go 5) k)))), ((qo 6), .inl (cI, 20, .inl (fun k => zI ((go 6) k)))), ((qo 7), .inl (cI, 20, .inl (fun k => zI ((go 7) k))))]) (fun _ => rfl) (fun g13 e_g13 H locs hP hD hS => ?_)
            have h_g13 : ∀ k, k < 20 → 0 ≤ g13 k ∧ g13 k ≤ 9 := by rw [e_g13]; exact uZ_all (P := fun _ y9 => 0 ≤ y9 ∧ y9 ≤ 9) hW.2 (fun _ => by omega)
            refine lv_aload_n hx hb dX6_act_135 rfl (lv_at hl 2 rfl) ?_
            refine r_get F hK hP 0 6 rfl rfl in_X6 (by decide) k_334 rfl dX6_act_136 ?_
            refine lv_iconst (v := zI 2) hx hb dX6_act_139 rfl ?_
            refine lv_iload hx hb dX6_act_140 (lv_at hl 0 rfl) ?_
            refine r_imul (v := zI (2 * ((go 4) (x).toNat))) F dX6_act_142 (zI_mul _ _) ?_
            refine lv_iconst (v := zI 1) hx hb dX6_act_143 rfl ?_
            refine r_iadd (v := zI ((2 * ((go 4) (x).toNat)) + 1)) F dX6_act_144 (zI_add _ _) ?_
            refine lv_iconst (v := zI 0) hx hb dX6_act_145 rfl ?_
            refine rz_iastG F hK hP hD hS 2 0 rfl rfl (by omega) (by omega) dX6_act_146 (w1 := fun g14 => [(b, .inr (6, [.int (zI (i 0)), .int (zI (i 1)), .int (zI (i 2)), .int (zI (i 3)), .int (zI (i 4)), .ref (q 0), .ref (q 1), .ref (q 2), .long (zL zl12), .ref (q 3)])), ((q 0), .inl (cI, 4, .inl (fun k => zI ((g 0) k)))), ((q 1), .inl (cI, 20, .inl (fun k => zI (g14 k)))), ((q 2), .inl (cI, 20, .inl (fun k => zI ((g 2) k)))), ((q 3), .inl (cI, 100, .inl (fun k => zI ((g 3) k)))), (o, .inr (2, [.int (zI no), .ref (qo 0), .ref (qo 1), .ref (qo 2), .ref (qo 3), .ref (qo 4), .ref (qo 5), .ref (qo 6), .ref (qo 7)])), ((qo 0), .inl (cI, 10, .inl (fun k => zI ((go 0) k)))), ((qo 1), .inl (cI, 10, .inl (fun k => zI ((go 1) k)))), ((qo 2), .inl (cI, 10, .inl (fun k => zI ((go 2) k)))), ((qo 3), .inl (cI, 40, .inl (fun k => zI ((go 3) k)))), ((qo 4), .inl (cI, 40, .inl (fun k => zI ((go 4) k)))), ((qo 5), .inl (cI, 40, .inl (fun k => zI ((go 5) k)))), ((qo 6), .inl (cI, 20, .inl (fun k => zI ((go 6) k)))), ((qo 7), .inl (cI, 20, .inl (fun k => zI ((go 7) k))))]) (fun _ => rfl) (fun g14 e_g14 H locs hP hD hS => ?_)
            have h_g14 : ∀ k, k < 20 → 0 ≤ g14 k ∧ g14 k ≤ 9 := by rw [e_g14]; exact uZ_all (P := fun _ y9 => 0 ≤ y9 ∧ y9 ≤ 9) h_g13 (fun _ => by omega)
            obtain ⟨i15, e_i15⟩ : ∃ i15 : Nat → Int, i15 = fun k => [(i 0), (i 1), (i 2), (i 3), (i 4), zl12].getD k 0 := ⟨_, rfl⟩
            have e_i15_0 : i15 0 = (i 0) := congrFun e_i15 0
            have e_i15_1 : i15 1 = (i 1) := congrFun e_i15 1
            have e_i15_2 : i15 2 = (i 2) := congrFun e_i15 2
            have e_i15_3 : i15 3 = (i 3) := congrFun e_i15 3
            have e_i15_4 : i15 4 = (i 4) := congrFun e_i15 4
            have e_i15_5 : i15 5 = zl12 := congrFun e_i15 5
            obtain ⟨gg16, e_gg16⟩ : ∃ gg16 : Nat → Nat → Int, gg16 = fun k => [(g 0), g14, (g 2), (g 3)].getD k (fun _ => 0) := ⟨_, rfl⟩
            have hO17 : WalkOk i15 gg16 := ⟨by omega, by rw [e_gg16]; exact h_g14⟩
            have hf18 := hO17.1
            have hP : va_P G vwCl [(b, .inr (6, [.int (zI (i15 0)), .int (zI (i15 1)), .int (zI (i15 2)), .int (zI (i15 3)), .int (zI (i15 4)), .ref (q 0), .ref (q 1), .ref (q 2), .long (zL (i15 5)), .ref (q 3)])), ((q 0), .inl (cI, 4, .inl (fun k => zI ((gg16 0) k)))), ((q 1), .inl (cI, 20, .inl (fun k => zI ((gg16 1) k)))), ((q 2), .inl (cI, 20, .inl (fun k => zI ((gg16 2) k)))), ((q 3), .inl (cI, 100, .inl (fun k => zI ((gg16 3) k)))), (o, .inr (2, [.int (zI no), .ref (qo 0), .ref (qo 1), .ref (qo 2), .ref (qo 3), .ref (qo 4), .ref (qo 5), .ref (qo 6), .ref (qo 7)])), ((qo 0), .inl (cI, 10, .inl (fun k => zI ((go 0) k)))), ((qo 1), .inl (cI, 10, .inl (fun k => zI ((go 1) k)))), ((qo 2), .inl (cI, 10, .inl (fun k => zI ((go 2) k)))), ((qo 3), .inl (cI, 40, .inl (fun k => zI ((go 3) k)))), ((qo 4), .inl (cI, 40, .inl (fun k => zI ((go 4) k)))), ((qo 5), .inl (cI, 40, .inl (fun k => zI ((go 5) k)))), ((qo 6), .inl (cI, 20, .inl (fun k => zI ((go 6) k)))), ((qo 7), .inl (cI, 20, .inl (fun k => zI ((go 7) k))))] H := by subst e_i15 e_gg16; exact hP
            have hD : va_D A [(b, .inr (6, [.int (zI (i15 0)), .int (zI (i15 1)), .int (zI (i15 2)), .int (zI (i15 3)), .int (zI (i15 4)), .ref (q 0), .ref (q 1), .ref (q 2), .long (zL (i15 5)), .ref (q 3)])), ((q 0), .inl (cI, 4, .inl (fun k => zI ((gg16 0) k)))), ((q 1), .inl (cI, 20, .inl (fun k => zI ((gg16 1) k)))), ((q 2), .inl (cI, 20, .inl (fun k => zI ((gg16 2) k)))), ((q 3), .inl (cI, 100, .inl (fun k => zI ((gg16 3) k)))), (o, .inr (2, [.int (zI no), .ref (qo 0), .ref (qo 1), .ref (qo 2), .ref (qo 3), .ref (qo 4), .ref (qo 5), .ref (qo 6), .ref (qo 7)])), ((qo 0), .inl (cI, 10, .inl (fun k => zI ((go 0) k)))), ((qo 1), .inl (cI, 10, .inl (fun k => zI ((go 1) k)))), ((qo 2), .inl (cI, 10, .inl (fun k => zI ((go 2) k)))), ((qo 3), .inl (cI, 40, .inl (fun k => zI ((go 3) k)))), ((qo 4), .inl (cI, 40, .inl (fun k => zI ((go 4) k)))), ((qo 5), .inl (cI, 40, .inl (fun k => zI ((go 5) k)))), ((qo 6), .inl (cI, 20, .inl (fun k => zI ((go 6) k)))), ((qo 7), .inl (cI, 20, .inl (fun k => zI ((go 7) k))))] := by subst e_i15 e_gg16; exact hD
            exact ret (i15, gg16) _ _ _ _ _ _ ⟨hO17, by dsimp only; omega⟩ (bw_subP (isC := [0, 1, 2, 3, 4, 5, 6, 7, 8, 9, 10, 11, 12, 13]) hP rfl) (hD.sub [0, 1, 2, 3, 4, 5, 6, 7, 8, 9, 10, 11, 12, 13] (by decide) rfl) hS (Nat.le_of_ble_eq_true rfl) (Nat.le_of_ble_eq_true rfl) dX6_act_147
      · refine lv_aload_n hx hb dX6_act_71 rfl (lv_at hl 2 rfl) ?_
        refine r_get F hK hP 0 5 rfl rfl in_X6 (by decide) k_332 rfl dX6_act_72 ?_
        refine lv_iload hx hb dX6_act_75 (lv_at hl 0 rfl) ?_
        refine rz_iald F hK hP 1 0 rfl rfl (by omega) (by omega) dX6_act_77 ?_
        refine rz_top (fun z19 h_z19 => ?_)
        refine rz_if_le (tgt := 95) F (by omega) dX6_act_78 (by decide) (fun h78_19 => ?_) (fun h78_19 => ?_)
        · refine lv_iload_n hx hb dX6_act_95 rfl (lv_at hl 1 rfl) ?_
          refine lv_iconst (v := zI 3) hx hb dX6_act_96 rfl ?_
          refine rz_icmp_ne (tgt := 147) F (by omega) (by omega) dX6_act_97 (by decide) (fun h97_20 => ?_) (fun h97_20 => ?_)
          · exact ret (i, g) _ _ _ _ _ _ ⟨hW, by dsimp only; omega⟩ (bw_subP (isC := [0, 1, 2, 3, 4, 5, 6, 7, 8, 9, 10, 11, 12, 13]) hP rfl) (hD.sub [0, 1, 2, 3, 4, 5, 6, 7, 8, 9, 10, 11, 12, 13] (by decide) rfl) hS (Nat.le_of_ble_eq_true rfl) (Nat.le_of_ble_eq_true rfl) dX6_act_147
          · refine lv_aload_n hx hb dX6_act_100 rfl (lv_at hl 2 rfl) ?_
            refine r_get F hK hP 0 8 rfl rfl in_X6 (by decide) k_338 rfl dX6_act_101 ?_
            refine lv_iload_n hx hb dX6_act_104 rfl (lv_at hl 4 rfl) ?_
            refine lv_lshr hx hb dX6_act_105 rfl ?_
            refine rz_topl (fun zl22 => ?_)
            refine lv_lconst (v := (zL 1)) hx hb dX6_act_106 rfl ?_
            refine lv_land hx hb dX6_act_107 ?_
            refine rz_topl (fun zl23 => ?_)
            refine lv_lconst (v := (zL 0)) hx hb dX6_act_108 rfl ?_
            refine rz_lcmp F dX6_act_109 (fun z24 h_z24 => ?_)
            refine rz_if_ne (tgt := 147) F (by omega) dX6_act_110 (by decide) (fun h110_24 => ?_) (fun h110_24 => ?_)
            · exact ret (i, g) _ _ _ _ _ _ ⟨hW, by dsimp only; omega⟩ (bw_subP (isC := [0, 1, 2, 3, 4, 5, 6, 7, 8, 9, 10, 11, 12, 13]) hP rfl) (hD.sub [0, 1, 2, 3, 4, 5, 6, 7, 8, 9, 10, 11, 12, 13] (by decide) rfl) hS (Nat.le_of_ble_eq_true rfl) (Nat.le_of_ble_eq_true rfl) dX6_act_147
            · refine lv_aload_n hx hb dX6_act_113 rfl (lv_at hl 2 rfl) ?_
              refine lv_dup hx hb dX6_act_114 rfl ?_
              refine r_get F hK hP 0 8 rfl rfl in_X6 (by decide) k_338 rfl dX6_act_115 ?_
              refine lv_lconst (v := (zL 1)) hx hb dX6_act_118 rfl ?_
              refine lv_iload_n hx hb dX6_act_119 rfl (lv_at hl 4 rfl) ?_
              refine lv_lshl hx hb dX6_act_120 rfl ?_
              refine rz_topl (fun zl26 => ?_)
              refine lv_lor hx hb dX6_act_121 ?_
              refine rz_topl (fun zl27 => ?_)
              refine r_put F hK hP hD hS 0 8 rfl rfl in_X6 tyX6 tyX6_ok nmX6 (by decide) k_338 rfl rfl rfl (Nat.le_of_ble_eq_true rfl) dX6_act_122 (w1 := [(b, .inr (6, [.int (zI (i 0)), .int (zI (i 1)), .int (zI (i 2)), .int (zI (i 3)), .int (zI (i 4)), .ref (q 0), .ref (q 1), .ref (q 2), .long (zL zl27), .ref (q 3)])), ((q 0), .inl (cI, 4, .inl (fun k => zI ((g 0) k)))), ((q 1), .inl (cI, 20, .inl (fun k => zI ((g 1) k)))), ((q 2), .inl (cI, 20, .inl (fun k => zI ((g 2) k)))), ((q 3), .inl (cI, 100, .inl (fun k => zI ((g 3) k)))), (o, .inr (2, [.int (zI no), .ref (qo 0), .ref (qo 1), .ref (qo 2), .ref (qo 3), .ref (qo 4), .ref (qo 5), .ref (qo 6), .ref (qo 7)])), ((qo 0), .inl (cI, 10, .inl (fun k => zI ((go 0) k)))), ((qo 1), .inl (cI, 10, .inl (fun k => zI ((go 1) k)))), ((qo 2), .inl (cI, 10, .inl (fun k => zI ((go 2) k)))), ((qo 3), .inl (cI, 40, .inl (fun k => zI ((go 3) k)))), ((qo 4), .inl (cI, 40, .inl (fun k => zI ((go 4) k)))), ((qo 5), .inl (cI, 40, .inl (fun k => zI ((go 5) k)))), ((qo 6), .inl (cI, 20, .inl (fun k => zI ((go 6) k)))), ((qo 7), .inl (cI, 20, .inl (fun k => zI ((go 7) k))))]) rfl (fun H locs hP hD hS => ?_)
              refine lv_aload_n hx hb dX6_act_125 rfl (lv_at hl 2 rfl) ?_
              refine r_get F hK hP 0 6 rfl rfl in_X6 (by decide) k_334 rfl dX6_act_126 ?_
              refine lv_iconst (v := zI 2) hx hb dX6_act_129 rfl ?_
              refine lv_iload hx hb dX6_act_130 (lv_at hl 0 rfl) ?_
              refine r_imul (v := zI (2 * ((go 4) (x).toNat))) F dX6_act_132 (zI_mul _ _) ?_
              refine lv_iconst (v := zI 0) hx hb dX6_act_133 rfl ?_
              refine rz_iastG F hK hP hD hS 2 0 rfl rfl (by omega) (by omega) dX6_act_134 (w1 := fun g28 => [(b, .inr (6, [.int (zI (i 0)), .int (zI (i 1)), .int (zI (i 2)), .int (zI (i 3)), .int (zI (i 4)), .ref (q 0), .ref (q 1), .ref (q 2), .long (zL zl27), .ref (q 3)])), ((q 0), .inl (cI, 4, .inl (fun k => zI ((g 0) k)))), ((q 1), .inl (cI, 20, .inl (fun k => zI (g28 k)))), ((q 2), .inl (cI, 20, .inl (fun k => zI ((g 2) k)))), ((q 3), .inl (cI, 100, .inl (fun k => zI ((g 3) k)))), (o, .inr (2, [.int (zI no), .ref (qo 0), .ref (qo 1), .ref (qo 2), .ref (qo 3), .ref (qo 4), .ref (qo 5), .ref (qo 6), .ref (qo 7)])), ((qo 0), .inl (cI, 10, .inl (fun k => zI ((go 0) k)))), ((qo 1), .inl (cI, 10, .inl (fun k => zI ((go 1) k)))), ((qo 2), .inl (cI, 10, .inl (fun k => zI ((go 2) k)))), ((qo 3), .inl (cI, 40, .inl (fun k => zI ((go 3) k)))), ((qo 4), .inl (cI, 40, .inl (fun k => zI ((go 4) k)))), ((qo 5), .inl (cI, 40, .inl (fun k => zI ((go 5) k)))), ((qo 6), .inl (cI, 20, .inl (fun k => zI ((go 6) k)))), ((qo 7), .inl (cI, 20, .inl (fun k => zI ((go 7) k))))]) (fun _ => rfl) (fun g28 e_g28 H locs hP hD hS => ?_)
              have h_g28 : ∀ k, k < 20 → 0 ≤ g28 k ∧ g28 k ≤ 9 := by rw [e_g28]; exact uZ_all (P := fun _ y9 => 0 ≤ y9 ∧ y9 ≤ 9) hW.2 (fun _ => by omega)
              refine lv_aload_n hx hb dX6_act_135 rfl (lv_at hl 2 rfl) ?_
              refine r_get F hK hP 0 6 rfl rfl in_X6 (by decide) k_334 rfl dX6_act_136 ?_
              refine lv_iconst (v := zI 2) hx hb dX6_act_139 rfl ?_
              refine lv_iload hx hb dX6_act_140 (lv_at hl 0 rfl) ?_
              refine r_imul (v := zI (2 * ((go 4) (x).toNat))) F dX6_act_142 (zI_mul _ _) ?_
              refine lv_iconst (v := zI 1) hx hb dX6_act_143 rfl ?_
              refine r_iadd (v := zI ((2 * ((go 4) (x).toNat)) + 1)) F dX6_act_144 (zI_add _ _) ?_
              refine lv_iconst (v := zI 0) hx hb dX6_act_145 rfl ?_
              refine rz_iastG F hK hP hD hS 2 0 rfl rfl (by omega) (by omega) dX6_act_146 (w1 := fun g29 => [(b, .inr (6, [.int (zI (i 0)), .int (zI (i 1)), .int (zI (i 2)), .int (zI (i 3)), .int (zI (i 4)), .ref (q 0), .ref (q 1), .ref (q 2), .long (zL zl27), .ref (q 3)])), ((q 0), .inl (cI, 4, .inl (fun k => zI ((g 0) k)))), ((q 1), .inl (cI, 20, .inl (fun k => zI (g29 k)))), ((q 2), .inl (cI, 20, .inl (fun k => zI ((g 2) k)))), ((q 3), .inl (cI, 100, .inl (fun k => zI ((g 3) k)))), (o, .inr (2, [.int (zI no), .ref (qo 0), .ref (qo 1), .ref (qo 2), .ref (qo 3), .ref (qo 4), .ref (qo 5), .ref (qo 6), .ref (qo 7)])), ((qo 0), .inl (cI, 10, .inl (fun k => zI ((go 0) k)))), ((qo 1), .inl (cI, 10, .inl (fun k => zI ((go 1) k)))), ((qo 2), .inl (cI, 10, .inl (fun k => zI ((go 2) k)))), ((qo 3), .inl (cI, 40, .inl (fun k => zI ((go 3) k)))), ((qo 4), .inl (cI, 40, .inl (fun k => zI ((go 4) k)))), ((qo 5), .inl (cI, 40, .inl (fun k => zI ((go 5) k)))), ((qo 6), .inl (cI, 20, .inl (fun k => zI ((go 6) k)))), ((qo 7), .inl (cI, 20, .inl (fun k => zI ((go 7) k))))]) (fun _ => rfl) (fun g29 e_g29 H locs hP hD hS => ?_)
              have h_g29 : ∀ k, k < 20 → 0 ≤ g29 k ∧ g29 k ≤ 9 := by rw [e_g29]; exact uZ_all (P := fun _ y9 => 0 ≤ y9 ∧ y9 ≤ 9) h_g28 (fun _ => by omega)
              obtain ⟨i30, e_i30⟩ : ∃ i30 : Nat → Int, i30 = fun k => [(i 0), (i 1), (i 2), (i 3), (i 4), zl27].getD k 0 := ⟨_, rfl⟩
              have e_i30_0 : i30 0 = (i 0) := congrFun e_i30 0
              have e_i30_1 : i30 1 = (i 1) := congrFun e_i30 1
              have e_i30_2 : i30 2 = (i 2) := congrFun e_i30 2
              have e_i30_3 : i30 3 = (i 3) := congrFun e_i30 3
              have e_i30_4 : i30 4 = (i 4) := congrFun e_i30 4
              have e_i30_5 : i30 5 = zl27 := congrFun e_i30 5
              obtain ⟨gg31, e_gg31⟩ : ∃ gg31 : Nat → Nat → Int, gg31 = fun k => [(g 0), g29, (g 2), (g 3)].getD k (fun _ => 0) := ⟨_, rfl⟩
              have hO32 : WalkOk i30 gg31 := ⟨by omega, by rw [e_gg31]; exact h_g29⟩
              have hf33 := hO32.1
              have hP : va_P G vwCl [(b, .inr (6, [.int (zI (i30 0)), .int (zI (i30 1)), .int (zI (i30 2)), .int (zI (i30 3)), .int (zI (i30 4)), .ref (q 0), .ref (q 1), .ref (q 2), .long (zL (i30 5)), .ref (q 3)])), ((q 0), .inl (cI, 4, .inl (fun k => zI ((gg31 0) k)))), ((q 1), .inl (cI, 20, .inl (fun k => zI ((gg31 1) k)))), ((q 2), .inl (cI, 20, .inl (fun k => zI ((gg31 2) k)))), ((q 3), .inl (cI, 100, .inl (fun k => zI ((gg31 3) k)))), (o, .inr (2, [.int (zI no), .ref (qo 0), .ref (qo 1), .ref (qo 2), .ref (qo 3), .ref (qo 4), .ref (qo 5), .ref (qo 6), .ref (qo 7)])), ((qo 0), .inl (cI, 10, .inl (fun k => zI ((go 0) k)))), ((qo 1), .inl (cI, 10, .inl (fun k => zI ((go 1) k)))), ((qo 2), .inl (cI, 10, .inl (fun k => zI ((go 2) k)))), ((qo 3), .inl (cI, 40, .inl (fun k => zI ((go 3) k)))), ((qo 4), .inl (cI, 40, .inl (fun k => zI ((go 4) k)))), ((qo 5), .inl (cI, 40, .inl (fun k => zI ((go 5) k)))), ((qo 6), .inl (cI, 20, .inl (fun k => zI ((go 6) k)))), ((qo 7), .inl (cI, 20, .inl (fun k => zI ((go 7) k))))] H := by subst e_i30 e_gg31; exact hP
              have hD : va_D A [(b, .inr (6, [.int (zI (i30 0)), .int (zI (i30 1)), .int (zI (i30 2)), .int (zI (i30 3)), .int (zI (i30 4)), .ref (q 0), .ref (q 1), .ref (q 2), .long (zL (i30 5)), .ref (q 3)])), ((q 0), .inl (cI, 4, .inl (fun k => zI ((gg31 0) k)))), ((q 1), .inl (cI, 20, .inl (fun k => zI ((gg31 1) k)))), ((q 2), .inl (cI, 20, .inl (fun k => zI ((gg31 2) k)))), ((q 3), .inl (cI, 100, .inl (fun k => zI ((gg31 3) k)))), (o, .inr (2, [.int (zI no), .ref (qo 0), .ref (qo 1), .ref (qo 2), .ref (qo 3), .ref (qo 4), .ref (qo 5), .ref (qo 6), .ref (qo 7)])), ((qo 0), .inl (cI, 10, .inl (fun k => zI ((go 0) k)))), ((qo 1), .inl (cI, 10, .inl (fun k => zI ((go 1) k)))), ((qo 2), .inl (cI, 10, .inl (fun k => zI ((go 2) k)))), ((qo 3), .inl (cI, 40, .inl (fun k => zI ((go 3) k)))), ((qo 4), .inl (cI, 40, .inl (fun k => zI ((go 4) k)))), ((qo 5), .inl (cI, 40, .inl (fun k => zI ((go 5) k)))), ((qo 6), .inl (cI, 20, .inl (fun k => zI ((go 6) k)))), ((qo 7), .inl (cI, 20, .inl (fun k => zI ((go 7) k))))] := by subst e_i30 e_gg31; exact hD
              exact ret (i30, gg31) _ _ _ _ _ _ ⟨hO32, by dsimp only; omega⟩ (bw_subP (isC := [0, 1, 2, 3, 4, 5, 6, 7, 8, 9, 10, 11, 12, 13]) hP rfl) (hD.sub [0, 1, 2, 3, 4, 5, 6, 7, 8, 9, 10, 11, 12, 13] (by decide) rfl) hS (Nat.le_of_ble_eq_true rfl) (Nat.le_of_ble_eq_true rfl) dX6_act_147
        · refine lv_aload_n hx hb dX6_act_81 rfl (lv_at hl 2 rfl) ?_
          refine r_get F hK hP 0 5 rfl rfl in_X6 (by decide) k_332 rfl dX6_act_82 ?_
          refine lv_iload hx hb dX6_act_85 (lv_at hl 0 rfl) ?_
          refine lv_dup2_11 hx hb dX6_act_87 rfl rfl ?_
          refine rz_iald F hK hP 1 0 rfl rfl (by omega) (by omega) dX6_act_88 ?_
          refine rz_top (fun z34 h_z34 => ?_)
          refine lv_iconst (v := zI 1) hx hb dX6_act_89 rfl ?_
          refine r_isub (v := zI (z34 - 1)) F dX6_act_90 (zI_sub _ _) ?_
          refine rz_iastG F hK hP hD hS 1 0 rfl rfl (by omega) (by omega) dX6_act_91 (w1 := fun g35 => [(b, .inr (6, [.int (zI (i 0)), .int (zI (i 1)), .int (zI (i 2)), .int (zI (i 3)), .int (zI (i 4)), .ref (q 0), .ref (q 1), .ref (q 2), .long (zL (i 5)), .ref (q 3)])), ((q 0), .inl (cI, 4, .inl (fun k => zI (g35 k)))), ((q 1), .inl (cI, 20, .inl (fun k => zI ((g 1) k)))), ((q 2), .inl (cI, 20, .inl (fun k => zI ((g 2) k)))), ((q 3), .inl (cI, 100, .inl (fun k => zI ((g 3) k)))), (o, .inr (2, [.int (zI no), .ref (qo 0), .ref (qo 1), .ref (qo 2), .ref (qo 3), .ref (qo 4), .ref (qo 5), .ref (qo 6), .ref (qo 7)])), ((qo 0), .inl (cI, 10, .inl (fun k => zI ((go 0) k)))), ((qo 1), .inl (cI, 10, .inl (fun k => zI ((go 1) k)))), ((qo 2), .inl (cI, 10, .inl (fun k => zI ((go 2) k)))), ((qo 3), .inl (cI, 40, .inl (fun k => zI ((go 3) k)))), ((qo 4), .inl (cI, 40, .inl (fun k => zI ((go 4) k)))), ((qo 5), .inl (cI, 40, .inl (fun k => zI ((go 5) k)))), ((qo 6), .inl (cI, 20, .inl (fun k => zI ((go 6) k)))), ((qo 7), .inl (cI, 20, .inl (fun k => zI ((go 7) k))))]) (fun _ => rfl) (fun g35 e_g35 H locs hP hD hS => ?_)
          refine lv_goto (tgt := 147) hx hb dX6_act_92 (by decide) ?_
          obtain ⟨i36, e_i36⟩ : ∃ i36 : Nat → Int, i36 = fun k => [(i 0), (i 1), (i 2), (i 3), (i 4), (i 5)].getD k 0 := ⟨_, rfl⟩
          have e_i36_0 : i36 0 = (i 0) := congrFun e_i36 0
          have e_i36_1 : i36 1 = (i 1) := congrFun e_i36 1
          have e_i36_2 : i36 2 = (i 2) := congrFun e_i36 2
          have e_i36_3 : i36 3 = (i 3) := congrFun e_i36 3
          have e_i36_4 : i36 4 = (i 4) := congrFun e_i36 4
          have e_i36_5 : i36 5 = (i 5) := congrFun e_i36 5
          obtain ⟨gg37, e_gg37⟩ : ∃ gg37 : Nat → Nat → Int, gg37 = fun k => [g35, (g 1), (g 2), (g 3)].getD k (fun _ => 0) := ⟨_, rfl⟩
          have hO38 : WalkOk i36 gg37 := ⟨by omega, by rw [e_gg37]; exact hW.2⟩
          have hf39 := hO38.1
          have hP : va_P G vwCl [(b, .inr (6, [.int (zI (i36 0)), .int (zI (i36 1)), .int (zI (i36 2)), .int (zI (i36 3)), .int (zI (i36 4)), .ref (q 0), .ref (q 1), .ref (q 2), .long (zL (i36 5)), .ref (q 3)])), ((q 0), .inl (cI, 4, .inl (fun k => zI ((gg37 0) k)))), ((q 1), .inl (cI, 20, .inl (fun k => zI ((gg37 1) k)))), ((q 2), .inl (cI, 20, .inl (fun k => zI ((gg37 2) k)))), ((q 3), .inl (cI, 100, .inl (fun k => zI ((gg37 3) k)))), (o, .inr (2, [.int (zI no), .ref (qo 0), .ref (qo 1), .ref (qo 2), .ref (qo 3), .ref (qo 4), .ref (qo 5), .ref (qo 6), .ref (qo 7)])), ((qo 0), .inl (cI, 10, .inl (fun k => zI ((go 0) k)))), ((qo 1), .inl (cI, 10, .inl (fun k => zI ((go 1) k)))), ((qo 2), .inl (cI, 10, .inl (fun k => zI ((go 2) k)))), ((qo 3), .inl (cI, 40, .inl (fun k => zI ((go 3) k)))), ((qo 4), .inl (cI, 40, .inl (fun k => zI ((go 4) k)))), ((qo 5), .inl (cI, 40, .inl (fun k => zI ((go 5) k)))), ((qo 6), .inl (cI, 20, .inl (fun k => zI ((go 6) k)))), ((qo 7), .inl (cI, 20, .inl (fun k => zI ((go 7) k))))] H := by subst e_i36 e_gg37; exact hP
          have hD : va_D A [(b, .inr (6, [.int (zI (i36 0)), .int (zI (i36 1)), .int (zI (i36 2)), .int (zI (i36 3)), .int (zI (i36 4)), .ref (q 0), .ref (q 1), .ref (q 2), .long (zL (i36 5)), .ref (q 3)])), ((q 0), .inl (cI, 4, .inl (fun k => zI ((gg37 0) k)))), ((q 1), .inl (cI, 20, .inl (fun k => zI ((gg37 1) k)))), ((q 2), .inl (cI, 20, .inl (fun k => zI ((gg37 2) k)))), ((q 3), .inl (cI, 100, .inl (fun k => zI ((gg37 3) k)))), (o, .inr (2, [.int (zI no), .ref (qo 0), .ref (qo 1), .ref (qo 2), .ref (qo 3), .ref (qo 4), .ref (qo 5), .ref (qo 6), .ref (qo 7)])), ((qo 0), .inl (cI, 10, .inl (fun k => zI ((go 0) k)))), ((qo 1), .inl (cI, 10, .inl (fun k => zI ((go 1) k)))), ((qo 2), .inl (cI, 10, .inl (fun k => zI ((go 2) k)))), ((qo 3), .inl (cI, 40, .inl (fun k => zI ((go 3) k)))), ((qo 4), .inl (cI, 40, .inl (fun k => zI ((go 4) k)))), ((qo 5), .inl (cI, 40, .inl (fun k => zI ((go 5) k)))), ((qo 6), .inl (cI, 20, .inl (fun k => zI ((go 6) k)))), ((qo 7), .inl (cI, 20, .inl (fun k => zI ((go 7) k))))] := by subst e_i36 e_gg37; exact hD
          exact ret (i36, gg37) _ _ _ _ _ _ ⟨hO38, by dsimp only; omega⟩ (bw_subP (isC := [0, 1, 2, 3, 4, 5, 6, 7, 8, 9, 10, 11, 12, 13]) hP rfl) (hD.sub [0, 1, 2, 3, 4, 5, 6, 7, 8, 9, 10, 11, 12, 13] (by decide) rfl) hS (Nat.le_of_ble_eq_true rfl) (Nat.le_of_ble_eq_true rfl) dX6_act_147
    · refine lv_aload_n hx hb dX6_act_40 rfl (lv_at hl 2 rfl) ?_
      refine r_get F hK hP 0 5 rfl rfl in_X6 (by decide) k_332 rfl dX6_act_41 ?_
      refine lv_iload hx hb dX6_act_44 (lv_at hl 0 rfl) ?_
      refine rz_iald F hK hP 1 0 rfl rfl (by omega) (by omega) dX6_act_46 ?_
      refine rz_top (fun z40 h_z40 => ?_)
      refine lv_bipush (v := zI 99) hx hb dX6_act_47 (by decide) ?_
      refine rz_icmp_ge (tgt := 66) F (by omega) (by omega) dX6_act_49 (by decide) (fun h49_40 => ?_) (fun h49_40 => ?_)
      · refine lv_iload_n hx hb dX6_act_66 rfl (lv_at hl 1 rfl) ?_
        refine lv_iconst (v := zI 1) hx hb dX6_act_67 rfl ?_
        refine rz_icmp_ne (tgt := 95) F (by omega) (by omega) dX6_act_68 (by decide) (fun h68_41 => ?_) (fun h68_41 => ?_)
        · refine lv_iload_n hx hb dX6_act_95 rfl (lv_at hl 1 rfl) ?_
          refine lv_iconst (v := zI 3) hx hb dX6_act_96 rfl ?_
          refine rz_icmp_ne (tgt := 147) F (by omega) (by omega) dX6_act_97 (by decide) (fun h97_42 => ?_) (fun h97_42 => ?_)
          · exact ret (i, g) _ _ _ _ _ _ ⟨hW, by dsimp only; omega⟩ (bw_subP (isC := [0, 1, 2, 3, 4, 5, 6, 7, 8, 9, 10, 11, 12, 13]) hP rfl) (hD.sub [0, 1, 2, 3, 4, 5, 6, 7, 8, 9, 10, 11, 12, 13] (by decide) rfl) hS (Nat.le_of_ble_eq_true rfl) (Nat.le_of_ble_eq_true rfl) dX6_act_147
          · refine lv_aload_n hx hb dX6_act_100 rfl (lv_at hl 2 rfl) ?_
            refine r_get F hK hP 0 8 rfl rfl in_X6 (by decide) k_338 rfl dX6_act_101 ?_
            refine lv_iload_n hx hb dX6_act_104 rfl (lv_at hl 4 rfl) ?_
            refine lv_lshr hx hb dX6_act_105 rfl ?_
            refine rz_topl (fun zl44 => ?_)
            refine lv_lconst (v := (zL 1)) hx hb dX6_act_106 rfl ?_
            refine lv_land hx hb dX6_act_107 ?_
            refine rz_topl (fun zl45 => ?_)
            refine lv_lconst (v := (zL 0)) hx hb dX6_act_108 rfl ?_
            refine rz_lcmp F dX6_act_109 (fun z46 h_z46 => ?_)
            refine rz_if_ne (tgt := 147) F (by omega) dX6_act_110 (by decide) (fun h110_46 => ?_) (fun h110_46 => ?_)
            · exact ret (i, g) _ _ _ _ _ _ ⟨hW, by dsimp only; omega⟩ (bw_subP (isC := [0, 1, 2, 3, 4, 5, 6, 7, 8, 9, 10, 11, 12, 13]) hP rfl) (hD.sub [0, 1, 2, 3, 4, 5, 6, 7, 8, 9, 10, 11, 12, 13] (by decide) rfl) hS (Nat.le_of_ble_eq_true rfl) (Nat.le_of_ble_eq_true rfl) dX6_act_147
            · refine lv_aload_n hx hb dX6_act_113 rfl (lv_at hl 2 rfl) ?_
              refine lv_dup hx hb dX6_act_114 rfl ?_
              refine r_get F hK hP 0 8 rfl rfl in_X6 (by decide) k_338 rfl dX6_act_115 ?_
              refine lv_lconst (v := (zL 1)) hx hb dX6_act_118 rfl ?_
              refine lv_iload_n hx hb dX6_act_119 rfl (lv_at hl 4 rfl) ?_
              refine lv_lshl hx hb dX6_act_120 rfl ?_
              refine rz_topl (fun zl48 => ?_)
              refine lv_lor hx hb dX6_act_121 ?_
              refine rz_topl (fun zl49 => ?_)
              refine r_put F hK hP hD hS 0 8 rfl rfl in_X6 tyX6 tyX6_ok nmX6 (by decide) k_338 rfl rfl rfl (Nat.le_of_ble_eq_true rfl) dX6_act_122 (w1 := [(b, .inr (6, [.int (zI (i 0)), .int (zI (i 1)), .int (zI (i 2)), .int (zI (i 3)), .int (zI (i 4)), .ref (q 0), .ref (q 1), .ref (q 2), .long (zL zl49), .ref (q 3)])), ((q 0), .inl (cI, 4, .inl (fun k => zI ((g 0) k)))), ((q 1), .inl (cI, 20, .inl (fun k => zI ((g 1) k)))), ((q 2), .inl (cI, 20, .inl (fun k => zI ((g 2) k)))), ((q 3), .inl (cI, 100, .inl (fun k => zI ((g 3) k)))), (o, .inr (2, [.int (zI no), .ref (qo 0), .ref (qo 1), .ref (qo 2), .ref (qo 3), .ref (qo 4), .ref (qo 5), .ref (qo 6), .ref (qo 7)])), ((qo 0), .inl (cI, 10, .inl (fun k => zI ((go 0) k)))), ((qo 1), .inl (cI, 10, .inl (fun k => zI ((go 1) k)))), ((qo 2), .inl (cI, 10, .inl (fun k => zI ((go 2) k)))), ((qo 3), .inl (cI, 40, .inl (fun k => zI ((go 3) k)))), ((qo 4), .inl (cI, 40, .inl (fun k => zI ((go 4) k)))), ((qo 5), .inl (cI, 40, .inl (fun k => zI ((go 5) k)))), ((qo 6), .inl (cI, 20, .inl (fun k => zI ((go 6) k)))), ((qo 7), .inl (cI, 20, .inl (fun k => zI ((go 7) k))))]) rfl (fun H locs hP hD hS => ?_)
              refine lv_aload_n hx hb dX6_act_125 rfl (lv_at hl 2 rfl) ?_
              refine r_get F hK hP 0 6 rfl rfl in_X6 (by decide) k_334 rfl dX6_act_126 ?_
              refine lv_iconst (v := zI 2) hx hb dX6_act_129 rfl ?_
              refine lv_iload hx hb dX6_act_130 (lv_at hl 0 rfl) ?_
              refine r_imul (v := zI (2 * ((go 4) (x).toNat))) F dX6_act_132 (zI_mul _ _) ?_
              refine lv_iconst (v := zI 0) hx hb dX6_act_133 rfl ?_
              refine rz_iastG F hK hP hD hS 2 0 rfl rfl (by omega) (by omega) dX6_act_134 (w1 := fun g50 => [(b, .inr (6, [.int (zI (i 0)), .int (zI (i 1)), .int (zI (i 2)), .int (zI (i 3)), .int (zI (i 4)), .ref (q 0), .ref (q 1), .ref (q 2), .long (zL zl49), .ref (q 3)])), ((q 0), .inl (cI, 4, .inl (fun k => zI ((g 0) k)))), ((q 1), .inl (cI, 20, .inl (fun k => zI (g50 k)))), ((q 2), .inl (cI, 20, .inl (fun k => zI ((g 2) k)))), ((q 3), .inl (cI, 100, .inl (fun k => zI ((g 3) k)))), (o, .inr (2, [.int (zI no), .ref (qo 0), .ref (qo 1), .ref (qo 2), .ref (qo 3), .ref (qo 4), .ref (qo 5), .ref (qo 6), .ref (qo 7)])), ((qo 0), .inl (cI, 10, .inl (fun k => zI ((go 0) k)))), ((qo 1), .inl (cI, 10, .inl (fun k => zI ((go 1) k)))), ((qo 2), .inl (cI, 10, .inl (fun k => zI ((go 2) k)))), ((qo 3), .inl (cI, 40, .inl (fun k => zI ((go 3) k)))), ((qo 4), .inl (cI, 40, .inl (fun k => zI ((go 4) k)))), ((qo 5), .inl (cI, 40, .inl (fun k => zI ((go 5) k)))), ((qo 6), .inl (cI, 20, .inl (fun k => zI ((go 6) k)))), ((qo 7), .inl (cI, 20, .inl (fun k => zI ((go 7) k))))]) (fun _ => rfl) (fun g50 e_g50 H locs hP hD hS => ?_)
              have h_g50 : ∀ k, k < 20 → 0 ≤ g50 k ∧ g50 k ≤ 9 := by rw [e_g50]; exact uZ_all (P := fun _ y9 => 0 ≤ y9 ∧ y9 ≤ 9) hW.2 (fun _ => by omega)
              refine lv_aload_n hx hb dX6_act_135 rfl (lv_at hl 2 rfl) ?_
              refine r_get F hK hP 0 6 rfl rfl in_X6 (by decide) k_334 rfl dX6_act_136 ?_
              refine lv_iconst (v := zI 2) hx hb dX6_act_139 rfl ?_
              refine lv_iload hx hb dX6_act_140 (lv_at hl 0 rfl) ?_
              refine r_imul (v := zI (2 * ((go 4) (x).toNat))) F dX6_act_142 (zI_mul _ _) ?_
              refine lv_iconst (v := zI 1) hx hb dX6_act_143 rfl ?_
              refine r_iadd (v := zI ((2 * ((go 4) (x).toNat)) + 1)) F dX6_act_144 (zI_add _ _) ?_
              refine lv_iconst (v := zI 0) hx hb dX6_act_145 rfl ?_
              refine rz_iastG F hK hP hD hS 2 0 rfl rfl (by omega) (by omega) dX6_act_146 (w1 := fun g51 => [(b, .inr (6, [.int (zI (i 0)), .int (zI (i 1)), .int (zI (i 2)), .int (zI (i 3)), .int (zI (i 4)), .ref (q 0), .ref (q 1), .ref (q 2), .long (zL zl49), .ref (q 3)])), ((q 0), .inl (cI, 4, .inl (fun k => zI ((g 0) k)))), ((q 1), .inl (cI, 20, .inl (fun k => zI (g51 k)))), ((q 2), .inl (cI, 20, .inl (fun k => zI ((g 2) k)))), ((q 3), .inl (cI, 100, .inl (fun k => zI ((g 3) k)))), (o, .inr (2, [.int (zI no), .ref (qo 0), .ref (qo 1), .ref (qo 2), .ref (qo 3), .ref (qo 4), .ref (qo 5), .ref (qo 6), .ref (qo 7)])), ((qo 0), .inl (cI, 10, .inl (fun k => zI ((go 0) k)))), ((qo 1), .inl (cI, 10, .inl (fun k => zI ((go 1) k)))), ((qo 2), .inl (cI, 10, .inl (fun k => zI ((go 2) k)))), ((qo 3), .inl (cI, 40, .inl (fun k => zI ((go 3) k)))), ((qo 4), .inl (cI, 40, .inl (fun k => zI ((go 4) k)))), ((qo 5), .inl (cI, 40, .inl (fun k => zI ((go 5) k)))), ((qo 6), .inl (cI, 20, .inl (fun k => zI ((go 6) k)))), ((qo 7), .inl (cI, 20, .inl (fun k => zI ((go 7) k))))]) (fun _ => rfl) (fun g51 e_g51 H locs hP hD hS => ?_)
              have h_g51 : ∀ k, k < 20 → 0 ≤ g51 k ∧ g51 k ≤ 9 := by rw [e_g51]; exact uZ_all (P := fun _ y9 => 0 ≤ y9 ∧ y9 ≤ 9) h_g50 (fun _ => by omega)
              obtain ⟨i52, e_i52⟩ : ∃ i52 : Nat → Int, i52 = fun k => [(i 0), (i 1), (i 2), (i 3), (i 4), zl49].getD k 0 := ⟨_, rfl⟩
              have e_i52_0 : i52 0 = (i 0) := congrFun e_i52 0
              have e_i52_1 : i52 1 = (i 1) := congrFun e_i52 1
              have e_i52_2 : i52 2 = (i 2) := congrFun e_i52 2
              have e_i52_3 : i52 3 = (i 3) := congrFun e_i52 3
              have e_i52_4 : i52 4 = (i 4) := congrFun e_i52 4
              have e_i52_5 : i52 5 = zl49 := congrFun e_i52 5
              obtain ⟨gg53, e_gg53⟩ : ∃ gg53 : Nat → Nat → Int, gg53 = fun k => [(g 0), g51, (g 2), (g 3)].getD k (fun _ => 0) := ⟨_, rfl⟩
              have hO54 : WalkOk i52 gg53 := ⟨by omega, by rw [e_gg53]; exact h_g51⟩
              have hf55 := hO54.1
              have hP : va_P G vwCl [(b, .inr (6, [.int (zI (i52 0)), .int (zI (i52 1)), .int (zI (i52 2)), .int (zI (i52 3)), .int (zI (i52 4)), .ref (q 0), .ref (q 1), .ref (q 2), .long (zL (i52 5)), .ref (q 3)])), ((q 0), .inl (cI, 4, .inl (fun k => zI ((gg53 0) k)))), ((q 1), .inl (cI, 20, .inl (fun k => zI ((gg53 1) k)))), ((q 2), .inl (cI, 20, .inl (fun k => zI ((gg53 2) k)))), ((q 3), .inl (cI, 100, .inl (fun k => zI ((gg53 3) k)))), (o, .inr (2, [.int (zI no), .ref (qo 0), .ref (qo 1), .ref (qo 2), .ref (qo 3), .ref (qo 4), .ref (qo 5), .ref (qo 6), .ref (qo 7)])), ((qo 0), .inl (cI, 10, .inl (fun k => zI ((go 0) k)))), ((qo 1), .inl (cI, 10, .inl (fun k => zI ((go 1) k)))), ((qo 2), .inl (cI, 10, .inl (fun k => zI ((go 2) k)))), ((qo 3), .inl (cI, 40, .inl (fun k => zI ((go 3) k)))), ((qo 4), .inl (cI, 40, .inl (fun k => zI ((go 4) k)))), ((qo 5), .inl (cI, 40, .inl (fun k => zI ((go 5) k)))), ((qo 6), .inl (cI, 20, .inl (fun k => zI ((go 6) k)))), ((qo 7), .inl (cI, 20, .inl (fun k => zI ((go 7) k))))] H := by subst e_i52 e_gg53; exact hP
              have hD : va_D A [(b, .inr (6, [.int (zI (i52 0)), .int (zI (i52 1)), .int (zI (i52 2)), .int (zI (i52 3)), .int (zI (i52 4)), .ref (q 0), .ref (q 1), .ref (q 2), .long (zL (i52 5)), .ref (q 3)])), ((q 0), .inl (cI, 4, .inl (fun k => zI ((gg53 0) k)))), ((q 1), .inl (cI, 20, .inl (fun k => zI ((gg53 1) k)))), ((q 2), .inl (cI, 20, .inl (fun k => zI ((gg53 2) k)))), ((q 3), .inl (cI, 100, .inl (fun k => zI ((gg53 3) k)))), (o, .inr (2, [.int (zI no), .ref (qo 0), .ref (qo 1), .ref (qo 2), .ref (qo 3), .ref (qo 4), .ref (qo 5), .ref (qo 6), .ref (qo 7)])), ((qo 0), .inl (cI, 10, .inl (fun k => zI ((go 0) k)))), ((qo 1), .inl (cI, 10, .inl (fun k => zI ((go 1) k)))), ((qo 2), .inl (cI, 10, .inl (fun k => zI ((go 2) k)))), ((qo 3), .inl (cI, 40, .inl (fun k => zI ((go 3) k)))), ((qo 4), .inl (cI, 40, .inl (fun k => zI ((go 4) k)))), ((qo 5), .inl (cI, 40, .inl (fun k => zI ((go 5) k)))), ((qo 6), .inl (cI, 20, .inl (fun k => zI ((go 6) k)))), ((qo 7), .inl (cI, 20, .inl (fun k => zI ((go 7) k))))] := by subst e_i52 e_gg53; exact hD
              exact ret (i52, gg53) _ _ _ _ _ _ ⟨hO54, by dsimp only; omega⟩ (bw_subP (isC := [0, 1, 2, 3, 4, 5, 6, 7, 8, 9, 10, 11, 12, 13]) hP rfl) (hD.sub [0, 1, 2, 3, 4, 5, 6, 7, 8, 9, 10, 11, 12, 13] (by decide) rfl) hS (Nat.le_of_ble_eq_true rfl) (Nat.le_of_ble_eq_true rfl) dX6_act_147
        · refine lv_aload_n hx hb dX6_act_71 rfl (lv_at hl 2 rfl) ?_
          refine r_get F hK hP 0 5 rfl rfl in_X6 (by decide) k_332 rfl dX6_act_72 ?_
          refine lv_iload hx hb dX6_act_75 (lv_at hl 0 rfl) ?_
          refine rz_iald F hK hP 1 0 rfl rfl (by omega) (by omega) dX6_act_77 ?_
          refine rz_top (fun z56 h_z56 => ?_)
          refine rz_if_le (tgt := 95) F (by omega) dX6_act_78 (by decide) (fun h78_56 => ?_) (fun h78_56 => ?_)
          · refine lv_iload_n hx hb dX6_act_95 rfl (lv_at hl 1 rfl) ?_
            refine lv_iconst (v := zI 3) hx hb dX6_act_96 rfl ?_
            refine rz_icmp_ne (tgt := 147) F (by omega) (by omega) dX6_act_97 (by decide) (fun h97_57 => ?_) (fun h97_57 => ?_)
            · exact ret (i, g) _ _ _ _ _ _ ⟨hW, by dsimp only; omega⟩ (bw_subP (isC := [0, 1, 2, 3, 4, 5, 6, 7, 8, 9, 10, 11, 12, 13]) hP rfl) (hD.sub [0, 1, 2, 3, 4, 5, 6, 7, 8, 9, 10, 11, 12, 13] (by decide) rfl) hS (Nat.le_of_ble_eq_true rfl) (Nat.le_of_ble_eq_true rfl) dX6_act_147
            · refine lv_aload_n hx hb dX6_act_100 rfl (lv_at hl 2 rfl) ?_
              refine r_get F hK hP 0 8 rfl rfl in_X6 (by decide) k_338 rfl dX6_act_101 ?_
              refine lv_iload_n hx hb dX6_act_104 rfl (lv_at hl 4 rfl) ?_
              refine lv_lshr hx hb dX6_act_105 rfl ?_
              refine rz_topl (fun zl59 => ?_)
              refine lv_lconst (v := (zL 1)) hx hb dX6_act_106 rfl ?_
              refine lv_land hx hb dX6_act_107 ?_
              refine rz_topl (fun zl60 => ?_)
              refine lv_lconst (v := (zL 0)) hx hb dX6_act_108 rfl ?_
              refine rz_lcmp F dX6_act_109 (fun z61 h_z61 => ?_)
              refine rz_if_ne (tgt := 147) F (by omega) dX6_act_110 (by decide) (fun h110_61 => ?_) (fun h110_61 => ?_)
              · exact ret (i, g) _ _ _ _ _ _ ⟨hW, by dsimp only; omega⟩ (bw_subP (isC := [0, 1, 2, 3, 4, 5, 6, 7, 8, 9, 10, 11, 12, 13]) hP rfl) (hD.sub [0, 1, 2, 3, 4, 5, 6, 7, 8, 9, 10, 11, 12, 13] (by decide) rfl) hS (Nat.le_of_ble_eq_true rfl) (Nat.le_of_ble_eq_true rfl) dX6_act_147
              · refine lv_aload_n hx hb dX6_act_113 rfl (lv_at hl 2 rfl) ?_
                refine lv_dup hx hb dX6_act_114 rfl ?_
                refine r_get F hK hP 0 8 rfl rfl in_X6 (by decide) k_338 rfl dX6_act_115 ?_
                refine lv_lconst (v := (zL 1)) hx hb dX6_act_118 rfl ?_
                refine lv_iload_n hx hb dX6_act_119 rfl (lv_at hl 4 rfl) ?_
                refine lv_lshl hx hb dX6_act_120 rfl ?_
                refine rz_topl (fun zl63 => ?_)
                refine lv_lor hx hb dX6_act_121 ?_
                refine rz_topl (fun zl64 => ?_)
                refine r_put F hK hP hD hS 0 8 rfl rfl in_X6 tyX6 tyX6_ok nmX6 (by decide) k_338 rfl rfl rfl (Nat.le_of_ble_eq_true rfl) dX6_act_122 (w1 := [(b, .inr (6, [.int (zI (i 0)), .int (zI (i 1)), .int (zI (i 2)), .int (zI (i 3)), .int (zI (i 4)), .ref (q 0), .ref (q 1), .ref (q 2), .long (zL zl64), .ref (q 3)])), ((q 0), .inl (cI, 4, .inl (fun k => zI ((g 0) k)))), ((q 1), .inl (cI, 20, .inl (fun k => zI ((g 1) k)))), ((q 2), .inl (cI, 20, .inl (fun k => zI ((g 2) k)))), ((q 3), .inl (cI, 100, .inl (fun k => zI ((g 3) k)))), (o, .inr (2, [.int (zI no), .ref (qo 0), .ref (qo 1), .ref (qo 2), .ref (qo 3), .ref (qo 4), .ref (qo 5), .ref (qo 6), .ref (qo 7)])), ((qo 0), .inl (cI, 10, .inl (fun k => zI ((go 0) k)))), ((qo 1), .inl (cI, 10, .inl (fun k => zI ((go 1) k)))), ((qo 2), .inl (cI, 10, .inl (fun k => zI ((go 2) k)))), ((qo 3), .inl (cI, 40, .inl (fun k => zI ((go 3) k)))), ((qo 4), .inl (cI, 40, .inl (fun k => zI ((go 4) k)))), ((qo 5), .inl (cI, 40, .inl (fun k => zI ((go 5) k)))), ((qo 6), .inl (cI, 20, .inl (fun k => zI ((go 6) k)))), ((qo 7), .inl (cI, 20, .inl (fun k => zI ((go 7) k))))]) rfl (fun H locs hP hD hS => ?_)
                refine lv_aload_n hx hb dX6_act_125 rfl (lv_at hl 2 rfl) ?_
                refine r_get F hK hP 0 6 rfl rfl in_X6 (by decide) k_334 rfl dX6_act_126 ?_
                refine lv_iconst (v := zI 2) hx hb dX6_act_129 rfl ?_
                refine lv_iload hx hb dX6_act_130 (lv_at hl 0 rfl) ?_
                refine r_imul (v := zI (2 * ((go 4) (x).toNat))) F dX6_act_132 (zI_mul _ _) ?_
                refine lv_iconst (v := zI 0) hx hb dX6_act_133 rfl ?_
                refine rz_iastG F hK hP hD hS 2 0 rfl rfl (by omega) (by omega) dX6_act_134 (w1 := fun g65 => [(b, .inr (6, [.int (zI (i 0)), .int (zI (i 1)), .int (zI (i 2)), .int (zI (i 3)), .int (zI (i 4)), .ref (q 0), .ref (q 1), .ref (q 2), .long (zL zl64), .ref (q 3)])), ((q 0), .inl (cI, 4, .inl (fun k => zI ((g 0) k)))), ((q 1), .inl (cI, 20, .inl (fun k => zI (g65 k)))), ((q 2), .inl (cI, 20, .inl (fun k => zI ((g 2) k)))), ((q 3), .inl (cI, 100, .inl (fun k => zI ((g 3) k)))), (o, .inr (2, [.int (zI no), .ref (qo 0), .ref (qo 1), .ref (qo 2), .ref (qo 3), .ref (qo 4), .ref (qo 5), .ref (qo 6), .ref (qo 7)])), ((qo 0), .inl (cI, 10, .inl (fun k => zI ((go 0) k)))), ((qo 1), .inl (cI, 10, .inl (fun k => zI ((go 1) k)))), ((qo 2), .inl (cI, 10, .inl (fun k => zI ((go 2) k)))), ((qo 3), .inl (cI, 40, .inl (fun k => zI ((go 3) k)))), ((qo 4), .inl (cI, 40, .inl (fun k => zI ((go 4) k)))), ((qo 5), .inl (cI, 40, .inl (fun k => zI ((go 5) k)))), ((qo 6), .inl (cI, 20, .inl (fun k => zI ((go 6) k)))), ((qo 7), .inl (cI, 20, .inl (fun k => zI ((go 7) k))))]) (fun _ => rfl) (fun g65 e_g65 H locs hP hD hS => ?_)
                have h_g65 : ∀ k, k < 20 → 0 ≤ g65 k ∧ g65 k ≤ 9 := by rw [e_g65]; exact uZ_all (P := fun _ y9 => 0 ≤ y9 ∧ y9 ≤ 9) hW.2 (fun _ => by omega)
                refine lv_aload_n hx hb dX6_act_135 rfl (lv_at hl 2 rfl) ?_
                refine r_get F hK hP 0 6 rfl rfl in_X6 (by decide) k_334 rfl dX6_act_136 ?_
                refine lv_iconst (v := zI 2) hx hb dX6_act_139 rfl ?_
                refine lv_iload hx hb dX6_act_140 (lv_at hl 0 rfl) ?_
                refine r_imul (v := zI (2 * ((go 4) (x).toNat))) F dX6_act_142 (zI_mul _ _) ?_
                refine lv_iconst (v := zI 1) hx hb dX6_act_143 rfl ?_
                refine r_iadd (v := zI ((2 * ((go 4) (x).toNat)) + 1)) F dX6_act_144 (zI_add _ _) ?_
                refine lv_iconst (v := zI 0) hx hb dX6_act_145 rfl ?_
                refine rz_iastG F hK hP hD hS 2 0 rfl rfl (by omega) (by omega) dX6_act_146 (w1 := fun g66 => [(b, .inr (6, [.int (zI (i 0)), .int (zI (i 1)), .int (zI (i 2)), .int (zI (i 3)), .int (zI (i 4)), .ref (q 0), .ref (q 1), .ref (q 2), .long (zL zl64), .ref (q 3)])), ((q 0), .inl (cI, 4, .inl (fun k => zI ((g 0) k)))), ((q 1), .inl (cI, 20, .inl (fun k => zI (g66 k)))), ((q 2), .inl (cI, 20, .inl (fun k => zI ((g 2) k)))), ((q 3), .inl (cI, 100, .inl (fun k => zI ((g 3) k)))), (o, .inr (2, [.int (zI no), .ref (qo 0), .ref (qo 1), .ref (qo 2), .ref (qo 3), .ref (qo 4), .ref (qo 5), .ref (qo 6), .ref (qo 7)])), ((qo 0), .inl (cI, 10, .inl (fun k => zI ((go 0) k)))), ((qo 1), .inl (cI, 10, .inl (fun k => zI ((go 1) k)))), ((qo 2), .inl (cI, 10, .inl (fun k => zI ((go 2) k)))), ((qo 3), .inl (cI, 40, .inl (fun k => zI ((go 3) k)))), ((qo 4), .inl (cI, 40, .inl (fun k => zI ((go 4) k)))), ((qo 5), .inl (cI, 40, .inl (fun k => zI ((go 5) k)))), ((qo 6), .inl (cI, 20, .inl (fun k => zI ((go 6) k)))), ((qo 7), .inl (cI, 20, .inl (fun k => zI ((go 7) k))))]) (fun _ => rfl) (fun g66 e_g66 H locs hP hD hS => ?_)
                have h_g66 : ∀ k, k < 20 → 0 ≤ g66 k ∧ g66 k ≤ 9 := by rw [e_g66]; exact uZ_all (P := fun _ y9 => 0 ≤ y9 ∧ y9 ≤ 9) h_g65 (fun _ => by omega)
                obtain ⟨i67, e_i67⟩ : ∃ i67 : Nat → Int, i67 = fun k => [(i 0), (i 1), (i 2), (i 3), (i 4), zl64].getD k 0 := ⟨_, rfl⟩
                have e_i67_0 : i67 0 = (i 0) := congrFun e_i67 0
                have e_i67_1 : i67 1 = (i 1) := congrFun e_i67 1
                have e_i67_2 : i67 2 = (i 2) := congrFun e_i67 2
                have e_i67_3 : i67 3 = (i 3) := congrFun e_i67 3
                have e_i67_4 : i67 4 = (i 4) := congrFun e_i67 4
                have e_i67_5 : i67 5 = zl64 := congrFun e_i67 5
                obtain ⟨gg68, e_gg68⟩ : ∃ gg68 : Nat → Nat → Int, gg68 = fun k => [(g 0), g66, (g 2), (g 3)].getD k (fun _ => 0) := ⟨_, rfl⟩
                have hO69 : WalkOk i67 gg68 := ⟨by omega, by rw [e_gg68]; exact h_g66⟩
                have hf70 := hO69.1
                have hP : va_P G vwCl [(b, .inr (6, [.int (zI (i67 0)), .int (zI (i67 1)), .int (zI (i67 2)), .int (zI (i67 3)), .int (zI (i67 4)), .ref (q 0), .ref (q 1), .ref (q 2), .long (zL (i67 5)), .ref (q 3)])), ((q 0), .inl (cI, 4, .inl (fun k => zI ((gg68 0) k)))), ((q 1), .inl (cI, 20, .inl (fun k => zI ((gg68 1) k)))), ((q 2), .inl (cI, 20, .inl (fun k => zI ((gg68 2) k)))), ((q 3), .inl (cI, 100, .inl (fun k => zI ((gg68 3) k)))), (o, .inr (2, [.int (zI no), .ref (qo 0), .ref (qo 1), .ref (qo 2), .ref (qo 3), .ref (qo 4), .ref (qo 5), .ref (qo 6), .ref (qo 7)])), ((qo 0), .inl (cI, 10, .inl (fun k => zI ((go 0) k)))), ((qo 1), .inl (cI, 10, .inl (fun k => zI ((go 1) k)))), ((qo 2), .inl (cI, 10, .inl (fun k => zI ((go 2) k)))), ((qo 3), .inl (cI, 40, .inl (fun k => zI ((go 3) k)))), ((qo 4), .inl (cI, 40, .inl (fun k => zI ((go 4) k)))), ((qo 5), .inl (cI, 40, .inl (fun k => zI ((go 5) k)))), ((qo 6), .inl (cI, 20, .inl (fun k => zI ((go 6) k)))), ((qo 7), .inl (cI, 20, .inl (fun k => zI ((go 7) k))))] H := by subst e_i67 e_gg68; exact hP
                have hD : va_D A [(b, .inr (6, [.int (zI (i67 0)), .int (zI (i67 1)), .int (zI (i67 2)), .int (zI (i67 3)), .int (zI (i67 4)), .ref (q 0), .ref (q 1), .ref (q 2), .long (zL (i67 5)), .ref (q 3)])), ((q 0), .inl (cI, 4, .inl (fun k => zI ((gg68 0) k)))), ((q 1), .inl (cI, 20, .inl (fun k => zI ((gg68 1) k)))), ((q 2), .inl (cI, 20, .inl (fun k => zI ((gg68 2) k)))), ((q 3), .inl (cI, 100, .inl (fun k => zI ((gg68 3) k)))), (o, .inr (2, [.int (zI no), .ref (qo 0), .ref (qo 1), .ref (qo 2), .ref (qo 3), .ref (qo 4), .ref (qo 5), .ref (qo 6), .ref (qo 7)])), ((qo 0), .inl (cI, 10, .inl (fun k => zI ((go 0) k)))), ((qo 1), .inl (cI, 10, .inl (fun k => zI ((go 1) k)))), ((qo 2), .inl (cI, 10, .inl (fun k => zI ((go 2) k)))), ((qo 3), .inl (cI, 40, .inl (fun k => zI ((go 3) k)))), ((qo 4), .inl (cI, 40, .inl (fun k => zI ((go 4) k)))), ((qo 5), .inl (cI, 40, .inl (fun k => zI ((go 5) k)))), ((qo 6), .inl (cI, 20, .inl (fun k => zI ((go 6) k)))), ((qo 7), .inl (cI, 20, .inl (fun k => zI ((go 7) k))))] := by subst e_i67 e_gg68; exact hD
                exact ret (i67, gg68) _ _ _ _ _ _ ⟨hO69, by dsimp only; omega⟩ (bw_subP (isC := [0, 1, 2, 3, 4, 5, 6, 7, 8, 9, 10, 11, 12, 13]) hP rfl) (hD.sub [0, 1, 2, 3, 4, 5, 6, 7, 8, 9, 10, 11, 12, 13] (by decide) rfl) hS (Nat.le_of_ble_eq_true rfl) (Nat.le_of_ble_eq_true rfl) dX6_act_147
          · refine lv_aload_n hx hb dX6_act_81 rfl (lv_at hl 2 rfl) ?_
            refine r_get F hK hP 0 5 rfl rfl in_X6 (by decide) k_332 rfl dX6_act_82 ?_
            refine lv_iload hx hb dX6_act_85 (lv_at hl 0 rfl) ?_
            refine lv_dup2_11 hx hb dX6_act_87 rfl rfl ?_
            refine rz_iald F hK hP 1 0 rfl rfl (by omega) (by omega) dX6_act_88 ?_
            refine rz_top (fun z71 h_z71 => ?_)
            refine lv_iconst (v := zI 1) hx hb dX6_act_89 rfl ?_
            refine r_isub (v := zI (z71 - 1)) F dX6_act_90 (zI_sub _ _) ?_
            refine rz_iastG F hK hP hD hS 1 0 rfl rfl (by omega) (by omega) dX6_act_91 (w1 := fun g72 => [(b, .inr (6, [.int (zI (i 0)), .int (zI (i 1)), .int (zI (i 2)), .int (zI (i 3)), .int (zI (i 4)), .ref (q 0), .ref (q 1), .ref (q 2), .long (zL (i 5)), .ref (q 3)])), ((q 0), .inl (cI, 4, .inl (fun k => zI (g72 k)))), ((q 1), .inl (cI, 20, .inl (fun k => zI ((g 1) k)))), ((q 2), .inl (cI, 20, .inl (fun k => zI ((g 2) k)))), ((q 3), .inl (cI, 100, .inl (fun k => zI ((g 3) k)))), (o, .inr (2, [.int (zI no), .ref (qo 0), .ref (qo 1), .ref (qo 2), .ref (qo 3), .ref (qo 4), .ref (qo 5), .ref (qo 6), .ref (qo 7)])), ((qo 0), .inl (cI, 10, .inl (fun k => zI ((go 0) k)))), ((qo 1), .inl (cI, 10, .inl (fun k => zI ((go 1) k)))), ((qo 2), .inl (cI, 10, .inl (fun k => zI ((go 2) k)))), ((qo 3), .inl (cI, 40, .inl (fun k => zI ((go 3) k)))), ((qo 4), .inl (cI, 40, .inl (fun k => zI ((go 4) k)))), ((qo 5), .inl (cI, 40, .inl (fun k => zI ((go 5) k)))), ((qo 6), .inl (cI, 20, .inl (fun k => zI ((go 6) k)))), ((qo 7), .inl (cI, 20, .inl (fun k => zI ((go 7) k))))]) (fun _ => rfl) (fun g72 e_g72 H locs hP hD hS => ?_)
            refine lv_goto (tgt := 147) hx hb dX6_act_92 (by decide) ?_
            obtain ⟨i73, e_i73⟩ : ∃ i73 : Nat → Int, i73 = fun k => [(i 0), (i 1), (i 2), (i 3), (i 4), (i 5)].getD k 0 := ⟨_, rfl⟩
            have e_i73_0 : i73 0 = (i 0) := congrFun e_i73 0
            have e_i73_1 : i73 1 = (i 1) := congrFun e_i73 1
            have e_i73_2 : i73 2 = (i 2) := congrFun e_i73 2
            have e_i73_3 : i73 3 = (i 3) := congrFun e_i73 3
            have e_i73_4 : i73 4 = (i 4) := congrFun e_i73 4
            have e_i73_5 : i73 5 = (i 5) := congrFun e_i73 5
            obtain ⟨gg74, e_gg74⟩ : ∃ gg74 : Nat → Nat → Int, gg74 = fun k => [g72, (g 1), (g 2), (g 3)].getD k (fun _ => 0) := ⟨_, rfl⟩
            have hO75 : WalkOk i73 gg74 := ⟨by omega, by rw [e_gg74]; exact hW.2⟩
            have hf76 := hO75.1
            have hP : va_P G vwCl [(b, .inr (6, [.int (zI (i73 0)), .int (zI (i73 1)), .int (zI (i73 2)), .int (zI (i73 3)), .int (zI (i73 4)), .ref (q 0), .ref (q 1), .ref (q 2), .long (zL (i73 5)), .ref (q 3)])), ((q 0), .inl (cI, 4, .inl (fun k => zI ((gg74 0) k)))), ((q 1), .inl (cI, 20, .inl (fun k => zI ((gg74 1) k)))), ((q 2), .inl (cI, 20, .inl (fun k => zI ((gg74 2) k)))), ((q 3), .inl (cI, 100, .inl (fun k => zI ((gg74 3) k)))), (o, .inr (2, [.int (zI no), .ref (qo 0), .ref (qo 1), .ref (qo 2), .ref (qo 3), .ref (qo 4), .ref (qo 5), .ref (qo 6), .ref (qo 7)])), ((qo 0), .inl (cI, 10, .inl (fun k => zI ((go 0) k)))), ((qo 1), .inl (cI, 10, .inl (fun k => zI ((go 1) k)))), ((qo 2), .inl (cI, 10, .inl (fun k => zI ((go 2) k)))), ((qo 3), .inl (cI, 40, .inl (fun k => zI ((go 3) k)))), ((qo 4), .inl (cI, 40, .inl (fun k => zI ((go 4) k)))), ((qo 5), .inl (cI, 40, .inl (fun k => zI ((go 5) k)))), ((qo 6), .inl (cI, 20, .inl (fun k => zI ((go 6) k)))), ((qo 7), .inl (cI, 20, .inl (fun k => zI ((go 7) k))))] H := by subst e_i73 e_gg74; exact hP
            have hD : va_D A [(b, .inr (6, [.int (zI (i73 0)), .int (zI (i73 1)), .int (zI (i73 2)), .int (zI (i73 3)), .int (zI (i73 4)), .ref (q 0), .ref (q 1), .ref (q 2), .long (zL (i73 5)), .ref (q 3)])), ((q 0), .inl (cI, 4, .inl (fun k => zI ((gg74 0) k)))), ((q 1), .inl (cI, 20, .inl (fun k => zI ((gg74 1) k)))), ((q 2), .inl (cI, 20, .inl (fun k => zI ((gg74 2) k)))), ((q 3), .inl (cI, 100, .inl (fun k => zI ((gg74 3) k)))), (o, .inr (2, [.int (zI no), .ref (qo 0), .ref (qo 1), .ref (qo 2), .ref (qo 3), .ref (qo 4), .ref (qo 5), .ref (qo 6), .ref (qo 7)])), ((qo 0), .inl (cI, 10, .inl (fun k => zI ((go 0) k)))), ((qo 1), .inl (cI, 10, .inl (fun k => zI ((go 1) k)))), ((qo 2), .inl (cI, 10, .inl (fun k => zI ((go 2) k)))), ((qo 3), .inl (cI, 40, .inl (fun k => zI ((go 3) k)))), ((qo 4), .inl (cI, 40, .inl (fun k => zI ((go 4) k)))), ((qo 5), .inl (cI, 40, .inl (fun k => zI ((go 5) k)))), ((qo 6), .inl (cI, 20, .inl (fun k => zI ((go 6) k)))), ((qo 7), .inl (cI, 20, .inl (fun k => zI ((go 7) k))))] := by subst e_i73 e_gg74; exact hD
            exact ret (i73, gg74) _ _ _ _ _ _ ⟨hO75, by dsimp only; omega⟩ (bw_subP (isC := [0, 1, 2, 3, 4, 5, 6, 7, 8, 9, 10, 11, 12, 13]) hP rfl) (hD.sub [0, 1, 2, 3, 4, 5, 6, 7, 8, 9, 10, 11, 12, 13] (by decide) rfl) hS (Nat.le_of_ble_eq_true rfl) (Nat.le_of_ble_eq_true rfl) dX6_act_147
      · refine lv_aload_n hx hb dX6_act_52 rfl (lv_at hl 2 rfl) ?_
        refine r_get F hK hP 0 5 rfl rfl in_X6 (by decide) k_332 rfl dX6_act_53 ?_
        refine lv_iload hx hb dX6_act_56 (lv_at hl 0 rfl) ?_
        refine lv_dup2_11 hx hb dX6_act_58 rfl rfl ?_
        refine rz_iald F hK hP 1 0 rfl rfl (by omega) (by omega) dX6_act_59 ?_
        refine rz_top (fun z77 h_z77 => ?_)
        refine lv_iconst (v := zI 1) hx hb dX6_act_60 rfl ?_
        refine r_iadd (v := zI (z77 + 1)) F dX6_act_61 (zI_add _ _) ?_
        refine rz_iastG F hK hP hD hS 1 0 rfl rfl (by omega) (by omega) dX6_act_62 (w1 := fun g78 => [(b, .inr (6, [.int (zI (i 0)), .int (zI (i 1)), .int (zI (i 2)), .int (zI (i 3)), .int (zI (i 4)), .ref (q 0), .ref (q 1), .ref (q 2), .long (zL (i 5)), .ref (q 3)])), ((q 0), .inl (cI, 4, .inl (fun k => zI (g78 k)))), ((q 1), .inl (cI, 20, .inl (fun k => zI ((g 1) k)))), ((q 2), .inl (cI, 20, .inl (fun k => zI ((g 2) k)))), ((q 3), .inl (cI, 100, .inl (fun k => zI ((g 3) k)))), (o, .inr (2, [.int (zI no), .ref (qo 0), .ref (qo 1), .ref (qo 2), .ref (qo 3), .ref (qo 4), .ref (qo 5), .ref (qo 6), .ref (qo 7)])), ((qo 0), .inl (cI, 10, .inl (fun k => zI ((go 0) k)))), ((qo 1), .inl (cI, 10, .inl (fun k => zI ((go 1) k)))), ((qo 2), .inl (cI, 10, .inl (fun k => zI ((go 2) k)))), ((qo 3), .inl (cI, 40, .inl (fun k => zI ((go 3) k)))), ((qo 4), .inl (cI, 40, .inl (fun k => zI ((go 4) k)))), ((qo 5), .inl (cI, 40, .inl (fun k => zI ((go 5) k)))), ((qo 6), .inl (cI, 20, .inl (fun k => zI ((go 6) k)))), ((qo 7), .inl (cI, 20, .inl (fun k => zI ((go 7) k))))]) (fun _ => rfl) (fun g78 e_g78 H locs hP hD hS => ?_)
        refine lv_goto (tgt := 147) hx hb dX6_act_63 (by decide) ?_
        obtain ⟨i79, e_i79⟩ : ∃ i79 : Nat → Int, i79 = fun k => [(i 0), (i 1), (i 2), (i 3), (i 4), (i 5)].getD k 0 := ⟨_, rfl⟩
        have e_i79_0 : i79 0 = (i 0) := congrFun e_i79 0
        have e_i79_1 : i79 1 = (i 1) := congrFun e_i79 1
        have e_i79_2 : i79 2 = (i 2) := congrFun e_i79 2
        have e_i79_3 : i79 3 = (i 3) := congrFun e_i79 3
        have e_i79_4 : i79 4 = (i 4) := congrFun e_i79 4
        have e_i79_5 : i79 5 = (i 5) := congrFun e_i79 5
        obtain ⟨gg80, e_gg80⟩ : ∃ gg80 : Nat → Nat → Int, gg80 = fun k => [g78, (g 1), (g 2), (g 3)].getD k (fun _ => 0) := ⟨_, rfl⟩
        have hO81 : WalkOk i79 gg80 := ⟨by omega, by rw [e_gg80]; exact hW.2⟩
        have hf82 := hO81.1
        have hP : va_P G vwCl [(b, .inr (6, [.int (zI (i79 0)), .int (zI (i79 1)), .int (zI (i79 2)), .int (zI (i79 3)), .int (zI (i79 4)), .ref (q 0), .ref (q 1), .ref (q 2), .long (zL (i79 5)), .ref (q 3)])), ((q 0), .inl (cI, 4, .inl (fun k => zI ((gg80 0) k)))), ((q 1), .inl (cI, 20, .inl (fun k => zI ((gg80 1) k)))), ((q 2), .inl (cI, 20, .inl (fun k => zI ((gg80 2) k)))), ((q 3), .inl (cI, 100, .inl (fun k => zI ((gg80 3) k)))), (o, .inr (2, [.int (zI no), .ref (qo 0), .ref (qo 1), .ref (qo 2), .ref (qo 3), .ref (qo 4), .ref (qo 5), .ref (qo 6), .ref (qo 7)])), ((qo 0), .inl (cI, 10, .inl (fun k => zI ((go 0) k)))), ((qo 1), .inl (cI, 10, .inl (fun k => zI ((go 1) k)))), ((qo 2), .inl (cI, 10, .inl (fun k => zI ((go 2) k)))), ((qo 3), .inl (cI, 40, .inl (fun k => zI ((go 3) k)))), ((qo 4), .inl (cI, 40, .inl (fun k => zI ((go 4) k)))), ((qo 5), .inl (cI, 40, .inl (fun k => zI ((go 5) k)))), ((qo 6), .inl (cI, 20, .inl (fun k => zI ((go 6) k)))), ((qo 7), .inl (cI, 20, .inl (fun k => zI ((go 7) k))))] H := by subst e_i79 e_gg80; exact hP
        have hD : va_D A [(b, .inr (6, [.int (zI (i79 0)), .int (zI (i79 1)), .int (zI (i79 2)), .int (zI (i79 3)), .int (zI (i79 4)), .ref (q 0), .ref (q 1), .ref (q 2), .long (zL (i79 5)), .ref (q 3)])), ((q 0), .inl (cI, 4, .inl (fun k => zI ((gg80 0) k)))), ((q 1), .inl (cI, 20, .inl (fun k => zI ((gg80 1) k)))), ((q 2), .inl (cI, 20, .inl (fun k => zI ((gg80 2) k)))), ((q 3), .inl (cI, 100, .inl (fun k => zI ((gg80 3) k)))), (o, .inr (2, [.int (zI no), .ref (qo 0), .ref (qo 1), .ref (qo 2), .ref (qo 3), .ref (qo 4), .ref (qo 5), .ref (qo 6), .ref (qo 7)])), ((qo 0), .inl (cI, 10, .inl (fun k => zI ((go 0) k)))), ((qo 1), .inl (cI, 10, .inl (fun k => zI ((go 1) k)))), ((qo 2), .inl (cI, 10, .inl (fun k => zI ((go 2) k)))), ((qo 3), .inl (cI, 40, .inl (fun k => zI ((go 3) k)))), ((qo 4), .inl (cI, 40, .inl (fun k => zI ((go 4) k)))), ((qo 5), .inl (cI, 40, .inl (fun k => zI ((go 5) k)))), ((qo 6), .inl (cI, 20, .inl (fun k => zI ((go 6) k)))), ((qo 7), .inl (cI, 20, .inl (fun k => zI ((go 7) k))))] := by subst e_i79 e_gg80; exact hD
        exact ret (i79, gg80) _ _ _ _ _ _ ⟨hO81, by dsimp only; omega⟩ (bw_subP (isC := [0, 1, 2, 3, 4, 5, 6, 7, 8, 9, 10, 11, 12, 13]) hP rfl) (hD.sub [0, 1, 2, 3, 4, 5, 6, 7, 8, 9, 10, 11, 12, 13] (by decide) rfl) hS (Nat.le_of_ble_eq_true rfl) (Nat.le_of_ble_eq_true rfl) dX6_act_147
  · refine lv_aload_n hx hb dX6_act_20 rfl (lv_at hl 2 rfl) ?_
    refine r_get F hK hP 0 5 rfl rfl in_X6 (by decide) k_332 rfl dX6_act_21 ?_
    refine lv_iload hx hb dX6_act_24 (lv_at hl 0 rfl) ?_
    refine lv_aload_n hx hb dX6_act_26 rfl (lv_at hl 3 rfl) ?_
    refine r_get F hK hP 5 6 rfl rfl in_X2 (by decide) k_163 rfl dX6_act_27 ?_
    refine lv_iload_n hx hb dX6_act_30 rfl (lv_at hl 4 rfl) ?_
    refine rz_iald F hK hP 11 0 rfl rfl (by omega) (by omega) dX6_act_31 ?_
    have h_l31_82 := hM.2.2.2.2.2.2.1 (x).toNat (by omega)
    refine rz_iastG F hK hP hD hS 1 0 rfl rfl (by omega) (by omega) dX6_act_32 (w1 := fun g84 => [(b, .inr (6, [.int (zI (i 0)), .int (zI (i 1)), .int (zI (i 2)), .int (zI (i 3)), .int (zI (i 4)), .ref (q 0), .ref (q 1), .ref (q 2), .long (zL (i 5)), .ref (q 3)])), ((q 0), .inl (cI, 4, .inl (fun k => zI (g84 k)))), ((q 1), .inl (cI, 20, .inl (fun k => zI ((g 1) k)))), ((q 2), .inl (cI, 20, .inl (fun k => zI ((g 2) k)))), ((q 3), .inl (cI, 100, .inl (fun k => zI ((g 3) k)))), (o, .inr (2, [.int (zI no), .ref (qo 0), .ref (qo 1), .ref (qo 2), .ref (qo 3), .ref (qo 4), .ref (qo 5), .ref (qo 6), .ref (qo 7)])), ((qo 0), .inl (cI, 10, .inl (fun k => zI ((go 0) k)))), ((qo 1), .inl (cI, 10, .inl (fun k => zI ((go 1) k)))), ((qo 2), .inl (cI, 10, .inl (fun k => zI ((go 2) k)))), ((qo 3), .inl (cI, 40, .inl (fun k => zI ((go 3) k)))), ((qo 4), .inl (cI, 40, .inl (fun k => zI ((go 4) k)))), ((qo 5), .inl (cI, 40, .inl (fun k => zI ((go 5) k)))), ((qo 6), .inl (cI, 20, .inl (fun k => zI ((go 6) k)))), ((qo 7), .inl (cI, 20, .inl (fun k => zI ((go 7) k))))]) (fun _ => rfl) (fun g84 e_g84 H locs hP hD hS => ?_)
    refine lv_goto (tgt := 147) hx hb dX6_act_33 (by decide) ?_
    obtain ⟨i85, e_i85⟩ : ∃ i85 : Nat → Int, i85 = fun k => [(i 0), (i 1), (i 2), (i 3), (i 4), (i 5)].getD k 0 := ⟨_, rfl⟩
    have e_i85_0 : i85 0 = (i 0) := congrFun e_i85 0
    have e_i85_1 : i85 1 = (i 1) := congrFun e_i85 1
    have e_i85_2 : i85 2 = (i 2) := congrFun e_i85 2
    have e_i85_3 : i85 3 = (i 3) := congrFun e_i85 3
    have e_i85_4 : i85 4 = (i 4) := congrFun e_i85 4
    have e_i85_5 : i85 5 = (i 5) := congrFun e_i85 5
    obtain ⟨gg86, e_gg86⟩ : ∃ gg86 : Nat → Nat → Int, gg86 = fun k => [g84, (g 1), (g 2), (g 3)].getD k (fun _ => 0) := ⟨_, rfl⟩
    have hO87 : WalkOk i85 gg86 := ⟨by omega, by rw [e_gg86]; exact hW.2⟩
    have hf88 := hO87.1
    have hP : va_P G vwCl [(b, .inr (6, [.int (zI (i85 0)), .int (zI (i85 1)), .int (zI (i85 2)), .int (zI (i85 3)), .int (zI (i85 4)), .ref (q 0), .ref (q 1), .ref (q 2), .long (zL (i85 5)), .ref (q 3)])), ((q 0), .inl (cI, 4, .inl (fun k => zI ((gg86 0) k)))), ((q 1), .inl (cI, 20, .inl (fun k => zI ((gg86 1) k)))), ((q 2), .inl (cI, 20, .inl (fun k => zI ((gg86 2) k)))), ((q 3), .inl (cI, 100, .inl (fun k => zI ((gg86 3) k)))), (o, .inr (2, [.int (zI no), .ref (qo 0), .ref (qo 1), .ref (qo 2), .ref (qo 3), .ref (qo 4), .ref (qo 5), .ref (qo 6), .ref (qo 7)])), ((qo 0), .inl (cI, 10, .inl (fun k => zI ((go 0) k)))), ((qo 1), .inl (cI, 10, .inl (fun k => zI ((go 1) k)))), ((qo 2), .inl (cI, 10, .inl (fun k => zI ((go 2) k)))), ((qo 3), .inl (cI, 40, .inl (fun k => zI ((go 3) k)))), ((qo 4), .inl (cI, 40, .inl (fun k => zI ((go 4) k)))), ((qo 5), .inl (cI, 40, .inl (fun k => zI ((go 5) k)))), ((qo 6), .inl (cI, 20, .inl (fun k => zI ((go 6) k)))), ((qo 7), .inl (cI, 20, .inl (fun k => zI ((go 7) k))))] H := by subst e_i85 e_gg86; exact hP
    have hD : va_D A [(b, .inr (6, [.int (zI (i85 0)), .int (zI (i85 1)), .int (zI (i85 2)), .int (zI (i85 3)), .int (zI (i85 4)), .ref (q 0), .ref (q 1), .ref (q 2), .long (zL (i85 5)), .ref (q 3)])), ((q 0), .inl (cI, 4, .inl (fun k => zI ((gg86 0) k)))), ((q 1), .inl (cI, 20, .inl (fun k => zI ((gg86 1) k)))), ((q 2), .inl (cI, 20, .inl (fun k => zI ((gg86 2) k)))), ((q 3), .inl (cI, 100, .inl (fun k => zI ((gg86 3) k)))), (o, .inr (2, [.int (zI no), .ref (qo 0), .ref (qo 1), .ref (qo 2), .ref (qo 3), .ref (qo 4), .ref (qo 5), .ref (qo 6), .ref (qo 7)])), ((qo 0), .inl (cI, 10, .inl (fun k => zI ((go 0) k)))), ((qo 1), .inl (cI, 10, .inl (fun k => zI ((go 1) k)))), ((qo 2), .inl (cI, 10, .inl (fun k => zI ((go 2) k)))), ((qo 3), .inl (cI, 40, .inl (fun k => zI ((go 3) k)))), ((qo 4), .inl (cI, 40, .inl (fun k => zI ((go 4) k)))), ((qo 5), .inl (cI, 40, .inl (fun k => zI ((go 5) k)))), ((qo 6), .inl (cI, 20, .inl (fun k => zI ((go 6) k)))), ((qo 7), .inl (cI, 20, .inl (fun k => zI ((go 7) k))))] := by subst e_i85 e_gg86; exact hD
    exact ret (i85, gg86) _ _ _ _ _ _ ⟨hO87, by dsimp only; omega⟩ (bw_subP (isC := [0, 1, 2, 3, 4, 5, 6, 7, 8, 9, 10, 11, 12, 13]) hP rfl) (hD.sub [0, 1, 2, 3, 4, 5, 6, 7, 8, 9, 10, 11, 12, 13] (by decide) rfl) hS (Nat.le_of_ble_eq_true rfl) (Nat.le_of_ble_eq_true rfl) dX6_act_147
theorem dX6_take_0 : decode cX6_take 0 = .ok (.aload_n 0, 1) := bo_42 (by decide +kernel)
theorem dX6_take_1 : decode cX6_take 1 = .ok (.getfield 31, 3) := bo_180 0 31 (by decide +kernel)
theorem dX6_take_4 : decode cX6_take 4 = .ok (.iload_n 2, 1) := bo_28 (by decide +kernel)
theorem dX6_take_5 : decode cX6_take 5 = .ok (.iaload, 1) := bo_46 (by decide +kernel)
theorem dX6_take_6 : decode cX6_take 6 = .ok (.aload_n 1, 1) := bo_43 (by decide +kernel)
theorem dX6_take_7 : decode cX6_take 7 = .ok (.getfield 97, 3) := bo_180 0 97 (by decide +kernel)
theorem k_171 : Cond.fieldLink RX6 97 "BurntWays$Net" "laid" "[I" ∈ bw_T := bw_m 171 (by decide +kernel) rfl
theorem dX6_take_10 : decode cX6_take 10 = .ok (.iload_n 2, 1) := bo_28 (by decide +kernel)
theorem dX6_take_11 : decode cX6_take 11 = .ok (.iaload, 1) := bo_46 (by decide +kernel)
theorem dX6_take_12 : decode cX6_take 12 = .ok (.if_icmp .lt 9, 3) := bo_161 0 9 (by decide +kernel)
theorem dX6_take_21 : decode cX6_take 21 = .ok (.aload_n 0, 1) := bo_42 (by decide +kernel)
theorem dX6_take_22 : decode cX6_take 22 = .ok (.getfield 31, 3) := bo_180 0 31 (by decide +kernel)
theorem dX6_take_25 : decode cX6_take 25 = .ok (.iload_n 2, 1) := bo_28 (by decide +kernel)
theorem dX6_take_26 : decode cX6_take 26 = .ok (.dup2, 1) := bo_92 (by decide +kernel)
theorem dX6_take_27 : decode cX6_take 27 = .ok (.iaload, 1) := bo_46 (by decide +kernel)
theorem dX6_take_28 : decode cX6_take 28 = .ok (.iconst 1, 1) := bo_4 (by decide +kernel)
theorem dX6_take_29 : decode cX6_take 29 = .ok (.iadd, 1) := bo_96 (by decide +kernel)
theorem dX6_take_30 : decode cX6_take 30 = .ok (.iastore, 1) := bo_79 (by decide +kernel)
theorem dX6_take_31 : decode cX6_take 31 = .ok (.aload_n 0, 1) := bo_42 (by decide +kernel)
theorem dX6_take_32 : decode cX6_take 32 = .ok (.getfield 34, 3) := bo_180 0 34 (by decide +kernel)
theorem k_336 : Cond.fieldLink RX6 34 "BurntWays$Walk" "everTaken" "[I" ∈ bw_T := bw_m 336 (by decide +kernel) rfl
theorem dX6_take_35 : decode cX6_take 35 = .ok (.iload_n 2, 1) := bo_28 (by decide +kernel)
theorem dX6_take_36 : decode cX6_take 36 = .ok (.dup2, 1) := bo_92 (by decide +kernel)
theorem dX6_take_37 : decode cX6_take 37 = .ok (.iaload, 1) := bo_46 (by decide +kernel)
theorem dX6_take_38 : decode cX6_take 38 = .ok (.iconst 1, 1) := bo_4 (by decide +kernel)
theorem dX6_take_39 : decode cX6_take 39 = .ok (.iadd, 1) := bo_96 (by decide +kernel)
theorem dX6_take_40 : decode cX6_take 40 = .ok (.iastore, 1) := bo_79 (by decide +kernel)
theorem dX6_take_41 : decode cX6_take 41 = .ok (.aload_n 0, 1) := bo_42 (by decide +kernel)
theorem dX6_take_42 : decode cX6_take 42 = .ok (.dup, 1) := bo_89 (by decide +kernel)
theorem dX6_take_43 : decode cX6_take 43 = .ok (.getfield 21, 3) := bo_180 0 21 (by decide +kernel)
theorem k_328 : Cond.fieldLink RX6 21 "BurntWays$Walk" "takenInAll" "I" ∈ bw_T := bw_m 328 (by decide +kernel) rfl
theorem dX6_take_46 : decode cX6_take 46 = .ok (.iconst 1, 1) := bo_4 (by decide +kernel)
theorem dX6_take_47 : decode cX6_take 47 = .ok (.iadd, 1) := bo_96 (by decide +kernel)
theorem dX6_take_48 : decode cX6_take 48 = .ok (.putfield 21, 3) := bo_181 0 21 (by decide +kernel)
theorem dX6_take_51 : decode cX6_take 51 = .ok (.aload_n 0, 1) := bo_42 (by decide +kernel)
theorem dX6_take_52 : decode cX6_take 52 = .ok (.aload_n 1, 1) := bo_43 (by decide +kernel)
theorem dX6_take_53 : decode cX6_take 53 = .ok (.getfield 100, 3) := bo_180 0 100 (by decide +kernel)
theorem k_167 : Cond.fieldLink RX6 100 "BurntWays$Net" "leads" "[I" ∈ bw_T := bw_m 167 (by decide +kernel) rfl
theorem dX6_take_56 : decode cX6_take 56 = .ok (.iload_n 2, 1) := bo_28 (by decide +kernel)
theorem dX6_take_57 : decode cX6_take 57 = .ok (.iaload, 1) := bo_46 (by decide +kernel)
theorem dX6_take_58 : decode cX6_take 58 = .ok (.putfield 9, 3) := bo_181 0 9 (by decide +kernel)
theorem k_320 : Cond.fieldLink RX6 9 "BurntWays$Walk" "at" "I" ∈ bw_T := bw_m 320 (by decide +kernel) rfl
theorem dX6_take_61 : decode cX6_take 61 = .ok (.aload_n 0, 1) := bo_42 (by decide +kernel)
theorem dX6_take_62 : decode cX6_take 62 = .ok (.dup, 1) := bo_89 (by decide +kernel)
theorem dX6_take_63 : decode cX6_take 63 = .ok (.getfield 24, 3) := bo_180 0 24 (by decide +kernel)
theorem k_330 : Cond.fieldLink RX6 24 "BurntWays$Walk" "seenLines" "I" ∈ bw_T := bw_m 330 (by decide +kernel) rfl
theorem dX6_take_66 : decode cX6_take 66 = .ok (.iconst 1, 1) := bo_4 (by decide +kernel)
theorem dX6_take_67 : decode cX6_take 67 = .ok (.aload_n 0, 1) := bo_42 (by decide +kernel)
theorem dX6_take_68 : decode cX6_take 68 = .ok (.getfield 9, 3) := bo_180 0 9 (by decide +kernel)
theorem dX6_take_71 : decode cX6_take 71 = .ok (.ishl, 1) := bo_120 (by decide +kernel)
theorem dX6_take_72 : decode cX6_take 72 = .ok (.ior, 1) := bo_128 (by decide +kernel)
theorem dX6_take_73 : decode cX6_take 73 = .ok (.putfield 24, 3) := bo_181 0 24 (by decide +kernel)
theorem dX6_take_76 : decode cX6_take 76 = .ok (.aload_n 1, 1) := bo_43 (by decide +kernel)
theorem dX6_take_77 : decode cX6_take 77 = .ok (.getfield 50, 3) := bo_180 0 50 (by decide +kernel)
theorem k_148 : Cond.fieldLink RX6 50 "BurntWays$Net" "goals" "[I" ∈ bw_T := bw_m 148 (by decide +kernel) rfl
theorem dX6_take_80 : decode cX6_take 80 = .ok (.aload_n 0, 1) := bo_42 (by decide +kernel)
theorem dX6_take_81 : decode cX6_take 81 = .ok (.getfield 9, 3) := bo_180 0 9 (by decide +kernel)
theorem dX6_take_84 : decode cX6_take 84 = .ok (.iaload, 1) := bo_46 (by decide +kernel)
theorem dX6_take_85 : decode cX6_take 85 = .ok (.iconst (-1), 1) := bo_2 (by decide +kernel)
theorem dX6_take_86 : decode cX6_take 86 = .ok (.if_icmp .ne 8, 3) := bo_160 0 8 (by decide +kernel)
theorem dX6_take_94 : decode cX6_take 94 = .ok (.return_, 1) := bo_177 (by decide +kernel)
theorem dX6_take_89 : decode cX6_take 89 = .ok (.aload_n 0, 1) := bo_42 (by decide +kernel)
theorem dX6_take_90 : decode cX6_take 90 = .ok (.iconst 3, 1) := bo_6 (by decide +kernel)
theorem dX6_take_91 : decode cX6_take 91 = .ok (.putfield 18, 3) := bo_181 0 18 (by decide +kernel)
theorem k_325 : Cond.fieldLink RX6 18 "BurntWays$Walk" "ended" "I" ∈ bw_T := bw_m 325 (by decide +kernel) rfl
theorem dX6_take_15 : decode cX6_take 15 = .ok (.aload_n 0, 1) := bo_42 (by decide +kernel)
theorem dX6_take_16 : decode cX6_take 16 = .ok (.iconst 2, 1) := bo_5 (by decide +kernel)
theorem dX6_take_17 : decode cX6_take 17 = .ok (.putfield 18, 3) := bo_181 0 18 (by decide +kernel)
theorem dX6_take_20 : decode cX6_take 20 = .ok (.return_, 1) := bo_177 (by decide +kernel)
abbrev rm_X6_take : Room := { frames := 0, cells := 0, slots := 0, locals := 0 }
set_option maxRecDepth 100000 in
set_option maxHeartbeats 8000000 in
theorem c_X6_take {l : Launch} {E : (Nat → Prop) → State → Prop} (hO : bw_Ok E) {G : va_G} {cI cB cJ cN cW : ClassId} (b : Nat) (q : Nat → Nat) (i : Nat → Int) (g : Nat → Nat → Int) (hW : WalkOk i g) (o : Nat) (qo : Nat → Nat) (no : Int) (go : Nat → Nat → Int) (hM : NetOk no go) (x : Int) (hx9 : 0 ≤ x ∧ x < 20) : bw_Cv (S := zU) l yX6_take (bw_ws (Cond.code yX6_take cX6_take 3 none)) rm_X6_take E G (bw_kt cI cB cJ cN cW) [.ref b, .ref o, .int (zI x)] [(b, .inr (6, [.int (zI (i 0)), .int (zI (i 1)), .int (zI (i 2)), .int (zI (i 3)), .int (zI (i 4)), .ref (q 0), .ref (q 1), .ref (q 2), .long (zL (i 5)), .ref (q 3)])), ((q 0), .inl (cI, 4, .inl (fun k => zI ((g 0) k)))), ((q 1), .inl (cI, 20, .inl (fun k => zI ((g 1) k)))), ((q 2), .inl (cI, 20, .inl (fun k => zI ((g 2) k)))), ((q 3), .inl (cI, 100, .inl (fun k => zI ((g 3) k)))), (o, .inr (2, [.int (zI no), .ref (qo 0), .ref (qo 1), .ref (qo 2), .ref (qo 3), .ref (qo 4), .ref (qo 5), .ref (qo 6), .ref (qo 7)])), ((qo 0), .inl (cI, 10, .inl (fun k => zI ((go 0) k)))), ((qo 1), .inl (cI, 10, .inl (fun k => zI ((go 1) k)))), ((qo 2), .inl (cI, 10, .inl (fun k => zI ((go 2) k)))), ((qo 3), .inl (cI, 40, .inl (fun k => zI ((go 3) k)))), ((qo 4), .inl (cI, 40, .inl (fun k => zI ((go 4) k)))), ((qo 5), .inl (cI, 40, .inl (fun k => zI ((go 5) k)))), ((qo 6), .inl (cI, 20, .inl (fun k => zI ((go 6) k)))), ((qo 7), .inl (cI, 20, .inl (fun k => zI ((go 7) k))))] (fun u => WalkOk u.1 u.2 ∧ (u.1 1 = i 1)) (fun u => [(b, .inr (6, [.int (zI (u.1 0)), .int (zI (u.1 1)), .int (zI (u.1 2)), .int (zI (u.1 3)), .int (zI (u.1 4)), .ref (q 0), .ref (q 1), .ref (q 2), .long (zL (u.1 5)), .ref (q 3)])), ((q 0), .inl (cI, 4, .inl (fun k => zI ((u.2 0) k)))), ((q 1), .inl (cI, 20, .inl (fun k => zI ((u.2 1) k)))), ((q 2), .inl (cI, 20, .inl (fun k => zI ((u.2 2) k)))), ((q 3), .inl (cI, 100, .inl (fun k => zI ((u.2 3) k)))), (o, .inr (2, [.int (zI no), .ref (qo 0), .ref (qo 1), .ref (qo 2), .ref (qo 3), .ref (qo 4), .ref (qo 5), .ref (qo 6), .ref (qo 7)])), ((qo 0), .inl (cI, 10, .inl (fun k => zI ((go 0) k)))), ((qo 1), .inl (cI, 10, .inl (fun k => zI ((go 1) k)))), ((qo 2), .inl (cI, 10, .inl (fun k => zI ((go 2) k)))), ((qo 3), .inl (cI, 40, .inl (fun k => zI ((go 3) k)))), ((qo 4), .inl (cI, 40, .inl (fun k => zI ((go 4) k)))), ((qo 5), .inl (cI, 40, .inl (fun k => zI ((go 5) k)))), ((qo 6), .inl (cI, 20, .inl (fun k => zI ((go 6) k)))), ((qo 7), .inl (cI, 20, .inl (fun k => zI ((go 7) k))))]) := by
  refine bw_Cv.of (cc := cX6_take) (maxL := 3) (by decide) rfl (Nat.le_of_ble_eq_true rfl) ?_
  intro p e s m below meth c A Q hx hb hml hts hown hin hK hA hS hP hD hE ret ls hl
  have F : CallFix p m c cX6_take 3 s ([.ref b, .ref o, .int (zI x)] : List Value).toArray bw_T RX6 := ⟨hx, hb, hml, hown, fun w h => hts w (List.mem_cons_of_mem _ h)⟩
  replace hl : lv_has ls 3 [(0, .ref b), (1, .ref o), (2, .int (zI x))] := hl
  have hW1 := hW.1
  have hM0 := hM.1
  refine lv_aload_n hx hb dX6_take_0 rfl (lv_at hl 0 rfl) ?_
  refine r_get F hK hP 0 6 rfl rfl in_X6 (by decide) k_334 rfl dX6_take_1 ?_
  refine lv_iload_n hx hb dX6_take_4 rfl (lv_at hl 2 rfl) ?_
  refine rz_iald F hK hP 2 0 rfl rfl (by omega) (by omega) dX6_take_5 ?_
  have h_l5_0 := hW.2 (x).toNat (by omega)
  refine lv_aload_n hx hb dX6_take_6 rfl (lv_at hl 1 rfl) ?_
  refine r_get F hK hP 5 8 rfl rfl in_X2 (by decide) k_171 rfl dX6_take_7 ?_
  refine lv_iload_n hx hb dX6_take_10 rfl (lv_at hl 2 rfl) ?_
  refine rz_iald F hK hP 13 0 rfl rfl (by omega) (by omega) dX6_take_11 ?_
  have h_l11_1 := hM.2.2.2.2.2.2.2.2 (x).toNat (by omega)
  refine rz_icmp_lt (tgt := 21) F (by omega) (by omega) dX6_take_12 (by decide) (fun h12_2 => ?_) (fun h12_2 => ?_)
  · refine lv_aload_n hx hb dX6_take_21 rfl (lv_at hl 0 rfl) ?_
    refine r_get F hK hP 0 6 rfl rfl in_X6 (by decide) k_334 rfl dX6_take_22 ?_
    refine lv_iload_n hx hb dX6_take_25 rfl (lv_at hl 2 rfl) ?_
    refine lv_dup2_11 hx hb dX6_take_26 rfl rfl ?_
    refine rz_iald F hK hP 2 0 rfl rfl (by omega) (by omega) dX6_take_27 ?_
    have h_l27_3 := hW.2 (x).toNat (by omega)
    refine lv_iconst (v := zI 1) hx hb dX6_take_28 rfl ?_
    refine r_iadd (v := zI (((g 1) (x).toNat) + 1)) F dX6_take_29 (zI_add _ _) ?_
    refine rz_iastG F hK hP hD hS 2 0 rfl rfl (by omega) (by omega) dX6_take_30 (w1 := fun g5 => [(b, .inr (6, [.int (zI (i 0)), .int (zI (i 1)), .int (zI (i 2)), .int (zI (i 3)), .int (zI (i 4)), .ref (q 0), .ref (q 1), .ref (q 2), .long (zL (i 5)), .ref (q 3)])), ((q 0), .inl (cI, 4, .inl (fun k => zI ((g 0) k)))), ((q 1), .inl (cI, 20, .inl (fun k => zI (g5 k)))), ((q 2), .inl (cI, 20, .inl (fun k => zI ((g 2) k)))), ((q 3), .inl (cI, 100, .inl (fun k => zI ((g 3) k)))), (o, .inr (2, [.int (zI no), .ref (qo 0), .ref (qo 1), .ref (qo 2), .ref (qo 3), .ref (qo 4), .ref (qo 5), .ref (qo 6), .ref (qo 7)])), ((qo 0), .inl (cI, 10, .inl (fun k => zI ((go 0) k)))), ((qo 1), .inl (cI, 10, .inl (fun k => zI ((go 1) k)))), ((qo 2), .inl (cI, 10, .inl (fun k => zI ((go 2) k)))), ((qo 3), .inl (cI, 40, .inl (fun k => zI ((go 3) k)))), ((qo 4), .inl (cI, 40, .inl (fun k => zI ((go 4) k)))), ((qo 5), .inl (cI, 40, .inl (fun k => zI ((go 5) k)))), ((qo 6), .inl (cI, 20, .inl (fun k => zI ((go 6) k)))), ((qo 7), .inl (cI, 20, .inl (fun k => zI ((go 7) k))))]) (fun _ => rfl) (fun g5 e_g5 H locs hP hD hS => ?_)
    have h_g5 : ∀ k, k < 20 → 0 ≤ g5 k ∧ g5 k ≤ 9 := by rw [e_g5]; exact uZ_all (P := fun _ y9 => 0 ≤ y9 ∧ y9 ≤ 9) hW.2 (fun _ => by omega)
    refine lv_aload_n hx hb dX6_take_31 rfl (lv_at hl 0 rfl) ?_
    refine r_get F hK hP 0 7 rfl rfl in_X6 (by decide) k_336 rfl dX6_take_32 ?_
    refine lv_iload_n hx hb dX6_take_35 rfl (lv_at hl 2 rfl) ?_
    refine lv_dup2_11 hx hb dX6_take_36 rfl rfl ?_
    refine rz_iald F hK hP 3 0 rfl rfl (by omega) (by omega) dX6_take_37 ?_
    refine rz_top (fun z6 h_z6 => ?_)
    refine lv_iconst (v := zI 1) hx hb dX6_take_38 rfl ?_
    refine r_iadd (v := zI (z6 + 1)) F dX6_take_39 (zI_add _ _) ?_
    refine rz_iastG F hK hP hD hS 3 0 rfl rfl (by omega) (by omega) dX6_take_40 (w1 := fun g7 => [(b, .inr (6, [.int (zI (i 0)), .int (zI (i 1)), .int (zI (i 2)), .int (zI (i 3)), .int (zI (i 4)), .ref (q 0), .ref (q 1), .ref (q 2), .long (zL (i 5)), .ref (q 3)])), ((q 0), .inl (cI, 4, .inl (fun k => zI ((g 0) k)))), ((q 1), .inl (cI, 20, .inl (fun k => zI (g5 k)))), ((q 2), .inl (cI, 20, .inl (fun k => zI (g7 k)))), ((q 3), .inl (cI, 100, .inl (fun k => zI ((g 3) k)))), (o, .inr (2, [.int (zI no), .ref (qo 0), .ref (qo 1), .ref (qo 2), .ref (qo 3), .ref (qo 4), .ref (qo 5), .ref (qo 6), .ref (qo 7)])), ((qo 0), .inl (cI, 10, .inl (fun k => zI ((go 0) k)))), ((qo 1), .inl (cI, 10, .inl (fun k => zI ((go 1) k)))), ((qo 2), .inl (cI, 10, .inl (fun k => zI ((go 2) k)))), ((qo 3), .inl (cI, 40, .inl (fun k => zI ((go 3) k)))), ((qo 4), .inl (cI, 40, .inl (fun k => zI ((go 4) k)))), ((qo 5), .inl (cI, 40, .inl (fun k => zI ((go 5) k)))), ((qo 6), .inl (cI, 20, .inl (fun k => zI ((go 6) k)))), ((qo 7), .inl (cI, 20, .inl (fun k => zI ((go 7) k))))]) (fun _ => rfl) (fun g7 e_g7 H locs hP hD hS => ?_)
    refine lv_aload_n hx hb dX6_take_41 rfl (lv_at hl 0 rfl) ?_
    refine lv_dup hx hb dX6_take_42 rfl ?_
    refine r_get F hK hP 0 3 rfl rfl in_X6 (by decide) k_328 rfl dX6_take_43 ?_
    refine lv_iconst (v := zI 1) hx hb dX6_take_46 rfl ?_
    refine r_iadd (v := zI ((i 3) + 1)) F dX6_take_47 (zI_add _ _) ?_
    refine r_put F hK hP hD hS 0 3 rfl rfl in_X6 tyX6 tyX6_ok nmX6 (by decide) k_328 rfl rfl rfl (Nat.le_of_ble_eq_true rfl) dX6_take_48 (w1 := [(b, .inr (6, [.int (zI (i 0)), .int (zI (i 1)), .int (zI (i 2)), .int (zI ((i 3) + 1)), .int (zI (i 4)), .ref (q 0), .ref (q 1), .ref (q 2), .long (zL (i 5)), .ref (q 3)])), ((q 0), .inl (cI, 4, .inl (fun k => zI ((g 0) k)))), ((q 1), .inl (cI, 20, .inl (fun k => zI (g5 k)))), ((q 2), .inl (cI, 20, .inl (fun k => zI (g7 k)))), ((q 3), .inl (cI, 100, .inl (fun k => zI ((g 3) k)))), (o, .inr (2, [.int (zI no), .ref (qo 0), .ref (qo 1), .ref (qo 2), .ref (qo 3), .ref (qo 4), .ref (qo 5), .ref (qo 6), .ref (qo 7)])), ((qo 0), .inl (cI, 10, .inl (fun k => zI ((go 0) k)))), ((qo 1), .inl (cI, 10, .inl (fun k => zI ((go 1) k)))), ((qo 2), .inl (cI, 10, .inl (fun k => zI ((go 2) k)))), ((qo 3), .inl (cI, 40, .inl (fun k => zI ((go 3) k)))), ((qo 4), .inl (cI, 40, .inl (fun k => zI ((go 4) k)))), ((qo 5), .inl (cI, 40, .inl (fun k => zI ((go 5) k)))), ((qo 6), .inl (cI, 20, .inl (fun k => zI ((go 6) k)))), ((qo 7), .inl (cI, 20, .inl (fun k => zI ((go 7) k))))]) rfl (fun H locs hP hD hS => ?_)
    refine lv_aload_n hx hb dX6_take_51 rfl (lv_at hl 0 rfl) ?_
    refine lv_aload_n hx hb dX6_take_52 rfl (lv_at hl 1 rfl) ?_
    refine r_get F hK hP 5 7 rfl rfl in_X2 (by decide) k_167 rfl dX6_take_53 ?_
    refine lv_iload_n hx hb dX6_take_56 rfl (lv_at hl 2 rfl) ?_
    refine rz_iald F hK hP 12 0 rfl rfl (by omega) (by omega) dX6_take_57 ?_
    have h_l57_7 := hM.2.2.2.2.2.2.2.1 (x).toNat (by omega)
    refine r_put F hK hP hD hS 0 0 rfl rfl in_X6 tyX6 tyX6_ok nmX6 (by decide) k_320 rfl rfl rfl (Nat.le_of_ble_eq_true rfl) dX6_take_58 (w1 := [(b, .inr (6, [.int (zI ((go 6) (x).toNat)), .int (zI (i 1)), .int (zI (i 2)), .int (zI ((i 3) + 1)), .int (zI (i 4)), .ref (q 0), .ref (q 1), .ref (q 2), .long (zL (i 5)), .ref (q 3)])), ((q 0), .inl (cI, 4, .inl (fun k => zI ((g 0) k)))), ((q 1), .inl (cI, 20, .inl (fun k => zI (g5 k)))), ((q 2), .inl (cI, 20, .inl (fun k => zI (g7 k)))), ((q 3), .inl (cI, 100, .inl (fun k => zI ((g 3) k)))), (o, .inr (2, [.int (zI no), .ref (qo 0), .ref (qo 1), .ref (qo 2), .ref (qo 3), .ref (qo 4), .ref (qo 5), .ref (qo 6), .ref (qo 7)])), ((qo 0), .inl (cI, 10, .inl (fun k => zI ((go 0) k)))), ((qo 1), .inl (cI, 10, .inl (fun k => zI ((go 1) k)))), ((qo 2), .inl (cI, 10, .inl (fun k => zI ((go 2) k)))), ((qo 3), .inl (cI, 40, .inl (fun k => zI ((go 3) k)))), ((qo 4), .inl (cI, 40, .inl (fun k => zI ((go 4) k)))), ((qo 5), .inl (cI, 40, .inl (fun k => zI ((go 5) k)))), ((qo 6), .inl (cI, 20, .inl (fun k => zI ((go 6) k)))), ((qo 7), .inl (cI, 20, .inl (fun k => zI ((go 7) k))))]) rfl (fun H locs hP hD hS => ?_)
    refine lv_aload_n hx hb dX6_take_61 rfl (lv_at hl 0 rfl) ?_
    refine lv_dup hx hb dX6_take_62 rfl ?_
    refine r_get F hK hP 0 4 rfl rfl in_X6 (by decide) k_330 rfl dX6_take_63 ?_
    refine lv_iconst (v := zI 1) hx hb dX6_take_66 rfl ?_
    refine lv_aload_n hx hb dX6_take_67 rfl (lv_at hl 0 rfl) ?_
    refine r_get F hK hP 0 0 rfl rfl in_X6 (by decide) k_320 rfl dX6_take_68 ?_
    refine lv_ishl hx hb dX6_take_71 ?_
    refine rz_top (fun z9 h_z9 => ?_)
    refine lv_ior hx hb dX6_take_72 ?_
    refine rz_top (fun z10 h_z10 => ?_)
    refine r_put F hK hP hD hS 0 4 rfl rfl in_X6 tyX6 tyX6_ok nmX6 (by decide) k_330 rfl rfl rfl (Nat.le_of_ble_eq_true rfl) dX6_take_73 (w1 := [(b, .inr (6, [.int (zI ((go 6) (x).toNat)), .int (zI (i 1)), .int (zI (i 2)), .int (zI ((i 3) + 1)), .int (zI z10), .ref (q 0), .ref (q 1), .ref (q 2), .long (zL (i 5)), .ref (q 3)])), ((q 0), .inl (cI, 4, .inl (fun k => zI ((g 0) k)))), ((q 1), .inl (cI, 20, .inl (fun k => zI (g5 k)))), ((q 2), .inl (cI, 20, .inl (fun k => zI (g7 k)))), ((q 3), .inl (cI, 100, .inl (fun k => zI ((g 3) k)))), (o, .inr (2, [.int (zI no), .ref (qo 0), .ref (qo 1), .ref (qo 2), .ref (qo 3), .ref (qo 4), .ref (qo 5), .ref (qo 6), .ref (qo 7)])), ((qo 0), .inl (cI, 10, .inl (fun k => zI ((go 0) k)))), ((qo 1), .inl (cI, 10, .inl (fun k => zI ((go 1) k)))), ((qo 2), .inl (cI, 10, .inl (fun k => zI ((go 2) k)))), ((qo 3), .inl (cI, 40, .inl (fun k => zI ((go 3) k)))), ((qo 4), .inl (cI, 40, .inl (fun k => zI ((go 4) k)))), ((qo 5), .inl (cI, 40, .inl (fun k => zI ((go 5) k)))), ((qo 6), .inl (cI, 20, .inl (fun k => zI ((go 6) k)))), ((qo 7), .inl (cI, 20, .inl (fun k => zI ((go 7) k))))]) rfl (fun H locs hP hD hS => ?_)
    refine lv_aload_n hx hb dX6_take_76 rfl (lv_at hl 1 rfl) ?_
    refine r_get F hK hP 5 1 rfl rfl in_X2 (by decide) k_148 rfl dX6_take_77 ?_
    refine lv_aload_n hx hb dX6_take_80 rfl (lv_at hl 0 rfl) ?_
    refine r_get F hK hP 0 0 rfl rfl in_X6 (by decide) k_320 rfl dX6_take_81 ?_
    refine rz_iald F hK hP 6 0 rfl rfl (by omega) (by omega) dX6_take_84 ?_
    have h_l84_10 := hM.2.1 (((go 6) (x).toNat)).toNat (by omega)
    refine lv_iconst (v := zI (-1)) hx hb dX6_take_85 rfl ?_
    refine rz_icmp_ne (tgt := 94) F (by omega) (by omega) dX6_take_86 (by decide) (fun h86_11 => ?_) (fun h86_11 => ?_)
    · obtain ⟨i13, e_i13⟩ : ∃ i13 : Nat → Int, i13 = fun k => [((go 6) (x).toNat), (i 1), (i 2), ((i 3) + 1), z10, (i 5)].getD k 0 := ⟨_, rfl⟩
      have e_i13_0 : i13 0 = ((go 6) (x).toNat) := congrFun e_i13 0
      have e_i13_1 : i13 1 = (i 1) := congrFun e_i13 1
      have e_i13_2 : i13 2 = (i 2) := congrFun e_i13 2
      have e_i13_3 : i13 3 = ((i 3) + 1) := congrFun e_i13 3
      have e_i13_4 : i13 4 = z10 := congrFun e_i13 4
      have e_i13_5 : i13 5 = (i 5) := congrFun e_i13 5
      obtain ⟨gg14, e_gg14⟩ : ∃ gg14 : Nat → Nat → Int, gg14 = fun k => [(g 0), g5, g7, (g 3)].getD k (fun _ => 0) := ⟨_, rfl⟩
      have hO15 : WalkOk i13 gg14 := ⟨by omega, by rw [e_gg14]; exact h_g5⟩
      have hf16 := hO15.1
      have hP : va_P G vwCl [(b, .inr (6, [.int (zI (i13 0)), .int (zI (i13 1)), .int (zI (i13 2)), .int (zI (i13 3)), .int (zI (i13 4)), .ref (q 0), .ref (q 1), .ref (q 2), .long (zL (i13 5)), .ref (q 3)])), ((q 0), .inl (cI, 4, .inl (fun k => zI ((gg14 0) k)))), ((q 1), .inl (cI, 20, .inl (fun k => zI ((gg14 1) k)))), ((q 2), .inl (cI, 20, .inl (fun k => zI ((gg14 2) k)))), ((q 3), .inl (cI, 100, .inl (fun k => zI ((gg14 3) k)))), (o, .inr (2, [.int (zI no), .ref (qo 0), .ref (qo 1), .ref (qo 2), .ref (qo 3), .ref (qo 4), .ref (qo 5), .ref (qo 6), .ref (qo 7)])), ((qo 0), .inl (cI, 10, .inl (fun k => zI ((go 0) k)))), ((qo 1), .inl (cI, 10, .inl (fun k => zI ((go 1) k)))), ((qo 2), .inl (cI, 10, .inl (fun k => zI ((go 2) k)))), ((qo 3), .inl (cI, 40, .inl (fun k => zI ((go 3) k)))), ((qo 4), .inl (cI, 40, .inl (fun k => zI ((go 4) k)))), ((qo 5), .inl (cI, 40, .inl (fun k => zI ((go 5) k)))), ((qo 6), .inl (cI, 20, .inl (fun k => zI ((go 6) k)))), ((qo 7), .inl (cI, 20, .inl (fun k => zI ((go 7) k))))] H := by subst e_i13 e_gg14; exact hP
      have hD : va_D A [(b, .inr (6, [.int (zI (i13 0)), .int (zI (i13 1)), .int (zI (i13 2)), .int (zI (i13 3)), .int (zI (i13 4)), .ref (q 0), .ref (q 1), .ref (q 2), .long (zL (i13 5)), .ref (q 3)])), ((q 0), .inl (cI, 4, .inl (fun k => zI ((gg14 0) k)))), ((q 1), .inl (cI, 20, .inl (fun k => zI ((gg14 1) k)))), ((q 2), .inl (cI, 20, .inl (fun k => zI ((gg14 2) k)))), ((q 3), .inl (cI, 100, .inl (fun k => zI ((gg14 3) k)))), (o, .inr (2, [.int (zI no), .ref (qo 0), .ref (qo 1), .ref (qo 2), .ref (qo 3), .ref (qo 4), .ref (qo 5), .ref (qo 6), .ref (qo 7)])), ((qo 0), .inl (cI, 10, .inl (fun k => zI ((go 0) k)))), ((qo 1), .inl (cI, 10, .inl (fun k => zI ((go 1) k)))), ((qo 2), .inl (cI, 10, .inl (fun k => zI ((go 2) k)))), ((qo 3), .inl (cI, 40, .inl (fun k => zI ((go 3) k)))), ((qo 4), .inl (cI, 40, .inl (fun k => zI ((go 4) k)))), ((qo 5), .inl (cI, 40, .inl (fun k => zI ((go 5) k)))), ((qo 6), .inl (cI, 20, .inl (fun k => zI ((go 6) k)))), ((qo 7), .inl (cI, 20, .inl (fun k => zI ((go 7) k))))] := by subst e_i13 e_gg14; exact hD
      exact ret (i13, gg14) _ _ _ _ _ _ ⟨hO15, by dsimp only; omega⟩ (bw_subP (isC := [0, 1, 2, 3, 4, 5, 6, 7, 8, 9, 10, 11, 12, 13]) hP rfl) (hD.sub [0, 1, 2, 3, 4, 5, 6, 7, 8, 9, 10, 11, 12, 13] (by decide) rfl) hS (Nat.le_of_ble_eq_true rfl) (Nat.le_of_ble_eq_true rfl) dX6_take_94
    · refine lv_aload_n hx hb dX6_take_89 rfl (lv_at hl 0 rfl) ?_
      refine lv_iconst (v := zI 3) hx hb dX6_take_90 rfl ?_
      refine r_put F hK hP hD hS 0 2 rfl rfl in_X6 tyX6 tyX6_ok nmX6 (by decide) k_325 rfl rfl rfl (Nat.le_of_ble_eq_true rfl) dX6_take_91 (w1 := [(b, .inr (6, [.int (zI ((go 6) (x).toNat)), .int (zI (i 1)), .int (zI 3), .int (zI ((i 3) + 1)), .int (zI z10), .ref (q 0), .ref (q 1), .ref (q 2), .long (zL (i 5)), .ref (q 3)])), ((q 0), .inl (cI, 4, .inl (fun k => zI ((g 0) k)))), ((q 1), .inl (cI, 20, .inl (fun k => zI (g5 k)))), ((q 2), .inl (cI, 20, .inl (fun k => zI (g7 k)))), ((q 3), .inl (cI, 100, .inl (fun k => zI ((g 3) k)))), (o, .inr (2, [.int (zI no), .ref (qo 0), .ref (qo 1), .ref (qo 2), .ref (qo 3), .ref (qo 4), .ref (qo 5), .ref (qo 6), .ref (qo 7)])), ((qo 0), .inl (cI, 10, .inl (fun k => zI ((go 0) k)))), ((qo 1), .inl (cI, 10, .inl (fun k => zI ((go 1) k)))), ((qo 2), .inl (cI, 10, .inl (fun k => zI ((go 2) k)))), ((qo 3), .inl (cI, 40, .inl (fun k => zI ((go 3) k)))), ((qo 4), .inl (cI, 40, .inl (fun k => zI ((go 4) k)))), ((qo 5), .inl (cI, 40, .inl (fun k => zI ((go 5) k)))), ((qo 6), .inl (cI, 20, .inl (fun k => zI ((go 6) k)))), ((qo 7), .inl (cI, 20, .inl (fun k => zI ((go 7) k))))]) rfl (fun H locs hP hD hS => ?_)
      obtain ⟨i17, e_i17⟩ : ∃ i17 : Nat → Int, i17 = fun k => [((go 6) (x).toNat), (i 1), 3, ((i 3) + 1), z10, (i 5)].getD k 0 := ⟨_, rfl⟩
      have e_i17_0 : i17 0 = ((go 6) (x).toNat) := congrFun e_i17 0
      have e_i17_1 : i17 1 = (i 1) := congrFun e_i17 1
      have e_i17_2 : i17 2 = 3 := congrFun e_i17 2
      have e_i17_3 : i17 3 = ((i 3) + 1) := congrFun e_i17 3
      have e_i17_4 : i17 4 = z10 := congrFun e_i17 4
      have e_i17_5 : i17 5 = (i 5) := congrFun e_i17 5
      obtain ⟨gg18, e_gg18⟩ : ∃ gg18 : Nat → Nat → Int, gg18 = fun k => [(g 0), g5, g7, (g 3)].getD k (fun _ => 0) := ⟨_, rfl⟩
      have hO19 : WalkOk i17 gg18 := ⟨by omega, by rw [e_gg18]; exact h_g5⟩
      have hf20 := hO19.1
      have hP : va_P G vwCl [(b, .inr (6, [.int (zI (i17 0)), .int (zI (i17 1)), .int (zI (i17 2)), .int (zI (i17 3)), .int (zI (i17 4)), .ref (q 0), .ref (q 1), .ref (q 2), .long (zL (i17 5)), .ref (q 3)])), ((q 0), .inl (cI, 4, .inl (fun k => zI ((gg18 0) k)))), ((q 1), .inl (cI, 20, .inl (fun k => zI ((gg18 1) k)))), ((q 2), .inl (cI, 20, .inl (fun k => zI ((gg18 2) k)))), ((q 3), .inl (cI, 100, .inl (fun k => zI ((gg18 3) k)))), (o, .inr (2, [.int (zI no), .ref (qo 0), .ref (qo 1), .ref (qo 2), .ref (qo 3), .ref (qo 4), .ref (qo 5), .ref (qo 6), .ref (qo 7)])), ((qo 0), .inl (cI, 10, .inl (fun k => zI ((go 0) k)))), ((qo 1), .inl (cI, 10, .inl (fun k => zI ((go 1) k)))), ((qo 2), .inl (cI, 10, .inl (fun k => zI ((go 2) k)))), ((qo 3), .inl (cI, 40, .inl (fun k => zI ((go 3) k)))), ((qo 4), .inl (cI, 40, .inl (fun k => zI ((go 4) k)))), ((qo 5), .inl (cI, 40, .inl (fun k => zI ((go 5) k)))), ((qo 6), .inl (cI, 20, .inl (fun k => zI ((go 6) k)))), ((qo 7), .inl (cI, 20, .inl (fun k => zI ((go 7) k))))] H := by subst e_i17 e_gg18; exact hP
      have hD : va_D A [(b, .inr (6, [.int (zI (i17 0)), .int (zI (i17 1)), .int (zI (i17 2)), .int (zI (i17 3)), .int (zI (i17 4)), .ref (q 0), .ref (q 1), .ref (q 2), .long (zL (i17 5)), .ref (q 3)])), ((q 0), .inl (cI, 4, .inl (fun k => zI ((gg18 0) k)))), ((q 1), .inl (cI, 20, .inl (fun k => zI ((gg18 1) k)))), ((q 2), .inl (cI, 20, .inl (fun k => zI ((gg18 2) k)))), ((q 3), .inl (cI, 100, .inl (fun k => zI ((gg18 3) k)))), (o, .inr (2, [.int (zI no), .ref (qo 0), .ref (qo 1), .ref (qo 2), .ref (qo 3), .ref (qo 4), .ref (qo 5), .ref (qo 6), .ref (qo 7)])), ((qo 0), .inl (cI, 10, .inl (fun k => zI ((go 0) k)))), ((qo 1), .inl (cI, 10, .inl (fun k => zI ((go 1) k)))), ((qo 2), .inl (cI, 10, .inl (fun k => zI ((go 2) k)))), ((qo 3), .inl (cI, 40, .inl (fun k => zI ((go 3) k)))), ((qo 4), .inl (cI, 40, .inl (fun k => zI ((go 4) k)))), ((qo 5), .inl (cI, 40, .inl (fun k => zI ((go 5) k)))), ((qo 6), .inl (cI, 20, .inl (fun k => zI ((go 6) k)))), ((qo 7), .inl (cI, 20, .inl (fun k => zI ((go 7) k))))] := by subst e_i17 e_gg18; exact hD
      exact ret (i17, gg18) _ _ _ _ _ _ ⟨hO19, by dsimp only; omega⟩ (bw_subP (isC := [0, 1, 2, 3, 4, 5, 6, 7, 8, 9, 10, 11, 12, 13]) hP rfl) (hD.sub [0, 1, 2, 3, 4, 5, 6, 7, 8, 9, 10, 11, 12, 13] (by decide) rfl) hS (Nat.le_of_ble_eq_true rfl) (Nat.le_of_ble_eq_true rfl) dX6_take_94
  · refine lv_aload_n hx hb dX6_take_15 rfl (lv_at hl 0 rfl) ?_
    refine lv_iconst (v := zI 2) hx hb dX6_take_16 rfl ?_
    refine r_put F hK hP hD hS 0 2 rfl rfl in_X6 tyX6 tyX6_ok nmX6 (by decide) k_325 rfl rfl rfl (Nat.le_of_ble_eq_true rfl) dX6_take_17 (w1 := [(b, .inr (6, [.int (zI (i 0)), .int (zI (i 1)), .int (zI 2), .int (zI (i 3)), .int (zI (i 4)), .ref (q 0), .ref (q 1), .ref (q 2), .long (zL (i 5)), .ref (q 3)])), ((q 0), .inl (cI, 4, .inl (fun k => zI ((g 0) k)))), ((q 1), .inl (cI, 20, .inl (fun k => zI ((g 1) k)))), ((q 2), .inl (cI, 20, .inl (fun k => zI ((g 2) k)))), ((q 3), .inl (cI, 100, .inl (fun k => zI ((g 3) k)))), (o, .inr (2, [.int (zI no), .ref (qo 0), .ref (qo 1), .ref (qo 2), .ref (qo 3), .ref (qo 4), .ref (qo 5), .ref (qo 6), .ref (qo 7)])), ((qo 0), .inl (cI, 10, .inl (fun k => zI ((go 0) k)))), ((qo 1), .inl (cI, 10, .inl (fun k => zI ((go 1) k)))), ((qo 2), .inl (cI, 10, .inl (fun k => zI ((go 2) k)))), ((qo 3), .inl (cI, 40, .inl (fun k => zI ((go 3) k)))), ((qo 4), .inl (cI, 40, .inl (fun k => zI ((go 4) k)))), ((qo 5), .inl (cI, 40, .inl (fun k => zI ((go 5) k)))), ((qo 6), .inl (cI, 20, .inl (fun k => zI ((go 6) k)))), ((qo 7), .inl (cI, 20, .inl (fun k => zI ((go 7) k))))]) rfl (fun H locs hP hD hS => ?_)
    obtain ⟨i21, e_i21⟩ : ∃ i21 : Nat → Int, i21 = fun k => [(i 0), (i 1), 2, (i 3), (i 4), (i 5)].getD k 0 := ⟨_, rfl⟩
    have e_i21_0 : i21 0 = (i 0) := congrFun e_i21 0
    have e_i21_1 : i21 1 = (i 1) := congrFun e_i21 1
    have e_i21_2 : i21 2 = 2 := congrFun e_i21 2
    have e_i21_3 : i21 3 = (i 3) := congrFun e_i21 3
    have e_i21_4 : i21 4 = (i 4) := congrFun e_i21 4
    have e_i21_5 : i21 5 = (i 5) := congrFun e_i21 5
    obtain ⟨gg22, e_gg22⟩ : ∃ gg22 : Nat → Nat → Int, gg22 = fun k => [(g 0), (g 1), (g 2), (g 3)].getD k (fun _ => 0) := ⟨_, rfl⟩
    have hO23 : WalkOk i21 gg22 := ⟨by omega, by rw [e_gg22]; exact hW.2⟩
    have hf24 := hO23.1
    have hP : va_P G vwCl [(b, .inr (6, [.int (zI (i21 0)), .int (zI (i21 1)), .int (zI (i21 2)), .int (zI (i21 3)), .int (zI (i21 4)), .ref (q 0), .ref (q 1), .ref (q 2), .long (zL (i21 5)), .ref (q 3)])), ((q 0), .inl (cI, 4, .inl (fun k => zI ((gg22 0) k)))), ((q 1), .inl (cI, 20, .inl (fun k => zI ((gg22 1) k)))), ((q 2), .inl (cI, 20, .inl (fun k => zI ((gg22 2) k)))), ((q 3), .inl (cI, 100, .inl (fun k => zI ((gg22 3) k)))), (o, .inr (2, [.int (zI no), .ref (qo 0), .ref (qo 1), .ref (qo 2), .ref (qo 3), .ref (qo 4), .ref (qo 5), .ref (qo 6), .ref (qo 7)])), ((qo 0), .inl (cI, 10, .inl (fun k => zI ((go 0) k)))), ((qo 1), .inl (cI, 10, .inl (fun k => zI ((go 1) k)))), ((qo 2), .inl (cI, 10, .inl (fun k => zI ((go 2) k)))), ((qo 3), .inl (cI, 40, .inl (fun k => zI ((go 3) k)))), ((qo 4), .inl (cI, 40, .inl (fun k => zI ((go 4) k)))), ((qo 5), .inl (cI, 40, .inl (fun k => zI ((go 5) k)))), ((qo 6), .inl (cI, 20, .inl (fun k => zI ((go 6) k)))), ((qo 7), .inl (cI, 20, .inl (fun k => zI ((go 7) k))))] H := by subst e_i21 e_gg22; exact hP
    have hD : va_D A [(b, .inr (6, [.int (zI (i21 0)), .int (zI (i21 1)), .int (zI (i21 2)), .int (zI (i21 3)), .int (zI (i21 4)), .ref (q 0), .ref (q 1), .ref (q 2), .long (zL (i21 5)), .ref (q 3)])), ((q 0), .inl (cI, 4, .inl (fun k => zI ((gg22 0) k)))), ((q 1), .inl (cI, 20, .inl (fun k => zI ((gg22 1) k)))), ((q 2), .inl (cI, 20, .inl (fun k => zI ((gg22 2) k)))), ((q 3), .inl (cI, 100, .inl (fun k => zI ((gg22 3) k)))), (o, .inr (2, [.int (zI no), .ref (qo 0), .ref (qo 1), .ref (qo 2), .ref (qo 3), .ref (qo 4), .ref (qo 5), .ref (qo 6), .ref (qo 7)])), ((qo 0), .inl (cI, 10, .inl (fun k => zI ((go 0) k)))), ((qo 1), .inl (cI, 10, .inl (fun k => zI ((go 1) k)))), ((qo 2), .inl (cI, 10, .inl (fun k => zI ((go 2) k)))), ((qo 3), .inl (cI, 40, .inl (fun k => zI ((go 3) k)))), ((qo 4), .inl (cI, 40, .inl (fun k => zI ((go 4) k)))), ((qo 5), .inl (cI, 40, .inl (fun k => zI ((go 5) k)))), ((qo 6), .inl (cI, 20, .inl (fun k => zI ((go 6) k)))), ((qo 7), .inl (cI, 20, .inl (fun k => zI ((go 7) k))))] := by subst e_i21 e_gg22; exact hD
    exact ret (i21, gg22) _ _ _ _ _ _ ⟨hO23, by dsimp only; omega⟩ (bw_subP (isC := [0, 1, 2, 3, 4, 5, 6, 7, 8, 9, 10, 11, 12, 13]) hP rfl) (hD.sub [0, 1, 2, 3, 4, 5, 6, 7, 8, 9, 10, 11, 12, 13] (by decide) rfl) hS (Nat.le_of_ble_eq_true rfl) (Nat.le_of_ble_eq_true rfl) dX6_take_20
theorem dX6_step_0 : decode cX6_step 0 = .ok (.aload_n 1, 1) := bo_43 (by decide +kernel)
theorem dX6_step_1 : decode cX6_step 1 = .ok (.getfield 75, 3) := bo_180 0 75 (by decide +kernel)
theorem k_154 : Cond.fieldLink RX6 75 "BurntWays$Net" "actCounts" "[I" ∈ bw_T := bw_m 154 (by decide +kernel) rfl
theorem dX6_step_4 : decode cX6_step 4 = .ok (.aload_n 0, 1) := bo_42 (by decide +kernel)
theorem dX6_step_5 : decode cX6_step 5 = .ok (.getfield 9, 3) := bo_180 0 9 (by decide +kernel)
theorem dX6_step_8 : decode cX6_step 8 = .ok (.iaload, 1) := bo_46 (by decide +kernel)
theorem dX6_step_9 : decode cX6_step 9 = .ok (.istore_n 2, 1) := bo_61 (by decide +kernel)
theorem dX6_step_10 : decode cX6_step 10 = .ok (.iconst 0, 1) := bo_3 (by decide +kernel)
theorem dX6_step_11 : decode cX6_step 11 = .ok (.istore_n 3, 1) := bo_62 (by decide +kernel)
theorem dX6_step_12 : decode cX6_step 12 = .ok (.iload_n 3, 1) := bo_29 (by decide +kernel)
theorem dX6_step_13 : decode cX6_step 13 = .ok (.iload_n 2, 1) := bo_28 (by decide +kernel)
theorem dX6_step_14 : decode cX6_step 14 = .ok (.if_icmp .ge 22, 3) := bo_162 0 22 (by decide +kernel)
theorem dX6_step_36 : decode cX6_step 36 = .ok (.aload_n 0, 1) := bo_42 (by decide +kernel)
theorem dX6_step_37 : decode cX6_step 37 = .ok (.dup, 1) := bo_89 (by decide +kernel)
theorem dX6_step_38 : decode cX6_step 38 = .ok (.getfield 15, 3) := bo_180 0 15 (by decide +kernel)
theorem k_322 : Cond.fieldLink RX6 15 "BurntWays$Walk" "stepCount" "I" ∈ bw_T := bw_m 322 (by decide +kernel) rfl
theorem dX6_step_41 : decode cX6_step 41 = .ok (.iconst 1, 1) := bo_4 (by decide +kernel)
theorem dX6_step_42 : decode cX6_step 42 = .ok (.iadd, 1) := bo_96 (by decide +kernel)
theorem dX6_step_43 : decode cX6_step 43 = .ok (.putfield 15, 3) := bo_181 0 15 (by decide +kernel)
theorem dX6_step_46 : decode cX6_step 46 = .ok (.aload_n 1, 1) := bo_43 (by decide +kernel)
theorem dX6_step_47 : decode cX6_step 47 = .ok (.getfield 50, 3) := bo_180 0 50 (by decide +kernel)
theorem dX6_step_50 : decode cX6_step 50 = .ok (.aload_n 0, 1) := bo_42 (by decide +kernel)
theorem dX6_step_51 : decode cX6_step 51 = .ok (.getfield 9, 3) := bo_180 0 9 (by decide +kernel)
theorem dX6_step_54 : decode cX6_step 54 = .ok (.iaload, 1) := bo_46 (by decide +kernel)
theorem dX6_step_55 : decode cX6_step 55 = .ok (.istore_n 3, 1) := bo_62 (by decide +kernel)
theorem dX6_step_56 : decode cX6_step 56 = .ok (.iload_n 3, 1) := bo_29 (by decide +kernel)
theorem dX6_step_57 : decode cX6_step 57 = .ok (.ifCond .ne 11, 3) := bo_154 0 11 (by decide +kernel)
theorem dX6_step_68 : decode cX6_step 68 = .ok (.iload_n 3, 1) := bo_29 (by decide +kernel)
theorem dX6_step_69 : decode cX6_step 69 = .ok (.iconst 2, 1) := bo_5 (by decide +kernel)
theorem dX6_step_70 : decode cX6_step 70 = .ok (.if_icmp .ne 24, 3) := bo_160 0 24 (by decide +kernel)
theorem dX6_step_94 : decode cX6_step 94 = .ok (.iconst 0, 1) := bo_3 (by decide +kernel)
theorem dX6_step_95 : decode cX6_step 95 = .ok (.istore 4, 2) := bo_54 (by decide +kernel)
theorem dX6_step_97 : decode cX6_step 97 = .ok (.aload_n 0, 1) := bo_42 (by decide +kernel)
theorem dX6_step_98 : decode cX6_step 98 = .ok (.aload_n 1, 1) := bo_43 (by decide +kernel)
theorem dX6_step_99 : decode cX6_step 99 = .ok (.iload 4, 2) := bo_21 (by decide +kernel)
theorem dX6_step_101 : decode cX6_step 101 = .ok (.ifCond .eq 14, 3) := bo_153 0 14 (by decide +kernel)
theorem dX6_step_115 : decode cX6_step 115 = .ok (.iconst 2, 1) := bo_5 (by decide +kernel)
theorem dX6_step_116 : decode cX6_step 116 = .ok (.aload_n 0, 1) := bo_42 (by decide +kernel)
theorem dX6_step_117 : decode cX6_step 117 = .ok (.getfield 9, 3) := bo_180 0 9 (by decide +kernel)
theorem dX6_step_120 : decode cX6_step 120 = .ok (.imul, 1) := bo_104 (by decide +kernel)
theorem dX6_step_121 : decode cX6_step 121 = .ok (.invokevirtual 85, 3) := bo_182 0 85 (by decide +kernel)
theorem k_706 : Cond.methodLink RX6 85 yX6_take ∈ bw_T := bw_m 706 (by decide +kernel) rfl
theorem kv_X6_take : bw_KV RX6 yX6_take (Cond.code yX6_take cX6_take 3 none) := ⟨bw_m 708 (by decide +kernel) rfl, bw_m 25 (by decide +kernel) rfl, bw_m 102 (by decide +kernel) rfl, bw_m 709 (by decide +kernel) rfl⟩
theorem dX6_step_124 : decode cX6_step 124 = .ok (.aload_n 0, 1) := bo_42 (by decide +kernel)
theorem dX6_step_125 : decode cX6_step 125 = .ok (.getfield 15, 3) := bo_180 0 15 (by decide +kernel)
theorem dX6_step_128 : decode cX6_step 128 = .ok (.bipush 99, 2) := bo_16 99 (by decide +kernel)
theorem dX6_step_130 : decode cX6_step 130 = .ok (.if_icmp .gt 16, 3) := bo_163 0 16 (by decide +kernel)
theorem dX6_step_146 : decode cX6_step 146 = .ok (.return_, 1) := bo_177 (by decide +kernel)
theorem dX6_step_133 : decode cX6_step 133 = .ok (.aload_n 0, 1) := bo_42 (by decide +kernel)
theorem dX6_step_134 : decode cX6_step 134 = .ok (.getfield 41, 3) := bo_180 0 41 (by decide +kernel)
theorem k_339 : Cond.fieldLink RX6 41 "BurntWays$Walk" "linesBehind" "[I" ∈ bw_T := bw_m 339 (by decide +kernel) rfl
theorem dX6_step_137 : decode cX6_step 137 = .ok (.aload_n 0, 1) := bo_42 (by decide +kernel)
theorem dX6_step_138 : decode cX6_step 138 = .ok (.getfield 15, 3) := bo_180 0 15 (by decide +kernel)
theorem dX6_step_141 : decode cX6_step 141 = .ok (.aload_n 0, 1) := bo_42 (by decide +kernel)
theorem dX6_step_142 : decode cX6_step 142 = .ok (.getfield 9, 3) := bo_180 0 9 (by decide +kernel)
theorem dX6_step_145 : decode cX6_step 145 = .ok (.iastore, 1) := bo_79 (by decide +kernel)
theorem dX6_step_73 : decode cX6_step 73 = .ok (.aload_n 0, 1) := bo_42 (by decide +kernel)
theorem dX6_step_74 : decode cX6_step 74 = .ok (.getfield 27, 3) := bo_180 0 27 (by decide +kernel)
theorem dX6_step_77 : decode cX6_step 77 = .ok (.aload_n 1, 1) := bo_43 (by decide +kernel)
theorem dX6_step_78 : decode cX6_step 78 = .ok (.getfield 82, 3) := bo_180 0 82 (by decide +kernel)
theorem k_151 : Cond.fieldLink RX6 82 "BurntWays$Net" "asked" "[I" ∈ bw_T := bw_m 151 (by decide +kernel) rfl
theorem dX6_step_81 : decode cX6_step 81 = .ok (.aload_n 0, 1) := bo_42 (by decide +kernel)
theorem dX6_step_82 : decode cX6_step 82 = .ok (.getfield 9, 3) := bo_180 0 9 (by decide +kernel)
theorem dX6_step_85 : decode cX6_step 85 = .ok (.iaload, 1) := bo_46 (by decide +kernel)
theorem dX6_step_86 : decode cX6_step 86 = .ok (.iaload, 1) := bo_46 (by decide +kernel)
theorem dX6_step_87 : decode cX6_step 87 = .ok (.ifCond .ne 7, 3) := bo_154 0 7 (by decide +kernel)
theorem dX6_step_90 : decode cX6_step 90 = .ok (.iconst 1, 1) := bo_4 (by decide +kernel)
theorem dX6_step_91 : decode cX6_step 91 = .ok (.goto 4, 3) := bo_167 0 4 (by decide +kernel)
theorem dX6_step_104 : decode cX6_step 104 = .ok (.iconst 2, 1) := bo_5 (by decide +kernel)
theorem dX6_step_105 : decode cX6_step 105 = .ok (.aload_n 0, 1) := bo_42 (by decide +kernel)
theorem dX6_step_106 : decode cX6_step 106 = .ok (.getfield 9, 3) := bo_180 0 9 (by decide +kernel)
theorem dX6_step_109 : decode cX6_step 109 = .ok (.imul, 1) := bo_104 (by decide +kernel)
theorem dX6_step_110 : decode cX6_step 110 = .ok (.iconst 1, 1) := bo_4 (by decide +kernel)
theorem dX6_step_111 : decode cX6_step 111 = .ok (.iadd, 1) := bo_96 (by decide +kernel)
theorem dX6_step_112 : decode cX6_step 112 = .ok (.goto 9, 3) := bo_167 0 9 (by decide +kernel)
theorem dX6_step_60 : decode cX6_step 60 = .ok (.aload_n 0, 1) := bo_42 (by decide +kernel)
theorem dX6_step_61 : decode cX6_step 61 = .ok (.iconst 1, 1) := bo_4 (by decide +kernel)
theorem dX6_step_62 : decode cX6_step 62 = .ok (.putfield 18, 3) := bo_181 0 18 (by decide +kernel)
theorem dX6_step_65 : decode cX6_step 65 = .ok (.goto 59, 3) := bo_167 0 59 (by decide +kernel)
theorem dX6_step_17 : decode cX6_step 17 = .ok (.aload_n 0, 1) := bo_42 (by decide +kernel)
theorem dX6_step_18 : decode cX6_step 18 = .ok (.aload_n 1, 1) := bo_43 (by decide +kernel)
theorem dX6_step_19 : decode cX6_step 19 = .ok (.aload_n 0, 1) := bo_42 (by decide +kernel)
theorem dX6_step_20 : decode cX6_step 20 = .ok (.getfield 9, 3) := bo_180 0 9 (by decide +kernel)
theorem dX6_step_23 : decode cX6_step 23 = .ok (.iconst 4, 1) := bo_7 (by decide +kernel)
theorem dX6_step_24 : decode cX6_step 24 = .ok (.imul, 1) := bo_104 (by decide +kernel)
theorem dX6_step_25 : decode cX6_step 25 = .ok (.iload_n 3, 1) := bo_29 (by decide +kernel)
theorem dX6_step_26 : decode cX6_step 26 = .ok (.iadd, 1) := bo_96 (by decide +kernel)
theorem dX6_step_27 : decode cX6_step 27 = .ok (.invokevirtual 78, 3) := bo_182 0 78 (by decide +kernel)
theorem k_702 : Cond.methodLink RX6 78 yX6_act ∈ bw_T := bw_m 702 (by decide +kernel) rfl
theorem kv_X6_act : bw_KV RX6 yX6_act (Cond.code yX6_act cX6_act 5 none) := ⟨bw_m 704 (by decide +kernel) rfl, bw_m 24 (by decide +kernel) rfl, bw_m 102 (by decide +kernel) rfl, bw_m 705 (by decide +kernel) rfl⟩
theorem dX6_step_30 : decode cX6_step 30 = .ok (.iinc 3 1, 3) := bo_132 3 1 (by decide +kernel)
theorem dX6_step_33 : decode cX6_step 33 = .ok (.goto (-21), 3) := bo_167 255 235 (by decide +kernel)
abbrev rm_X6_step : Room := { frames := 1, cells := 0, slots := 0, locals := 24 }
set_option maxRecDepth 100000 in
set_option maxHeartbeats 8000000 in
theorem c_X6_step {l : Launch} {E : (Nat → Prop) → State → Prop} (hO : bw_Ok E) {G : va_G} {cI cB cJ cN cW : ClassId} (b : Nat) (q : Nat → Nat) (i : Nat → Int) (g : Nat → Nat → Int) (hW : WalkOk i g) (o : Nat) (qo : Nat → Nat) (no : Int) (go : Nat → Nat → Int) (hM : NetOk no go) (hK : i 1 ≤ 2000000000) : bw_Cv (S := zU) l yX6_step (bw_ws (Cond.code yX6_step cX6_step 5 none)) rm_X6_step E G (bw_kt cI cB cJ cN cW) [.ref b, .ref o] [(b, .inr (6, [.int (zI (i 0)), .int (zI (i 1)), .int (zI (i 2)), .int (zI (i 3)), .int (zI (i 4)), .ref (q 0), .ref (q 1), .ref (q 2), .long (zL (i 5)), .ref (q 3)])), ((q 0), .inl (cI, 4, .inl (fun k => zI ((g 0) k)))), ((q 1), .inl (cI, 20, .inl (fun k => zI ((g 1) k)))), ((q 2), .inl (cI, 20, .inl (fun k => zI ((g 2) k)))), ((q 3), .inl (cI, 100, .inl (fun k => zI ((g 3) k)))), (o, .inr (2, [.int (zI no), .ref (qo 0), .ref (qo 1), .ref (qo 2), .ref (qo 3), .ref (qo 4), .ref (qo 5), .ref (qo 6), .ref (qo 7)])), ((qo 0), .inl (cI, 10, .inl (fun k => zI ((go 0) k)))), ((qo 1), .inl (cI, 10, .inl (fun k => zI ((go 1) k)))), ((qo 2), .inl (cI, 10, .inl (fun k => zI ((go 2) k)))), ((qo 3), .inl (cI, 40, .inl (fun k => zI ((go 3) k)))), ((qo 4), .inl (cI, 40, .inl (fun k => zI ((go 4) k)))), ((qo 5), .inl (cI, 40, .inl (fun k => zI ((go 5) k)))), ((qo 6), .inl (cI, 20, .inl (fun k => zI ((go 6) k)))), ((qo 7), .inl (cI, 20, .inl (fun k => zI ((go 7) k))))] (fun u => WalkOk u.1 u.2 ∧ (u.1 1 = i 1 + 1)) (fun u => [(b, .inr (6, [.int (zI (u.1 0)), .int (zI (u.1 1)), .int (zI (u.1 2)), .int (zI (u.1 3)), .int (zI (u.1 4)), .ref (q 0), .ref (q 1), .ref (q 2), .long (zL (u.1 5)), .ref (q 3)])), ((q 0), .inl (cI, 4, .inl (fun k => zI ((u.2 0) k)))), ((q 1), .inl (cI, 20, .inl (fun k => zI ((u.2 1) k)))), ((q 2), .inl (cI, 20, .inl (fun k => zI ((u.2 2) k)))), ((q 3), .inl (cI, 100, .inl (fun k => zI ((u.2 3) k)))), (o, .inr (2, [.int (zI no), .ref (qo 0), .ref (qo 1), .ref (qo 2), .ref (qo 3), .ref (qo 4), .ref (qo 5), .ref (qo 6), .ref (qo 7)])), ((qo 0), .inl (cI, 10, .inl (fun k => zI ((go 0) k)))), ((qo 1), .inl (cI, 10, .inl (fun k => zI ((go 1) k)))), ((qo 2), .inl (cI, 10, .inl (fun k => zI ((go 2) k)))), ((qo 3), .inl (cI, 40, .inl (fun k => zI ((go 3) k)))), ((qo 4), .inl (cI, 40, .inl (fun k => zI ((go 4) k)))), ((qo 5), .inl (cI, 40, .inl (fun k => zI ((go 5) k)))), ((qo 6), .inl (cI, 20, .inl (fun k => zI ((go 6) k)))), ((qo 7), .inl (cI, 20, .inl (fun k => zI ((go 7) k))))]) := by
  refine bw_Cv.of (cc := cX6_step) (maxL := 5) (by decide) rfl (Nat.le_of_ble_eq_true rfl) ?_
  intro p e s m below meth c A Q hx hb hml hts hown hin hK hA hS hP hD hE ret ls hl
  have F : CallFix p m c cX6_step 5 s ([.ref b, .ref o] : List Value).toArray bw_T RX6 := ⟨hx, hb, hml, hown, fun w h => hts w (List.mem_cons_of_mem _ h)⟩
  replace hl : lv_has ls 5 [(0, .ref b), (1, .ref o)] := hl
  have hW1 := hW.1
  have hM0 := hM.1
  refine lv_aload_n hx hb dX6_step_0 rfl (lv_at hl 1 rfl) ?_
  refine r_get F hK hP 5 3 rfl rfl in_X2 (by decide) k_154 rfl dX6_step_1 ?_
  refine lv_aload_n hx hb dX6_step_4 rfl (lv_at hl 0 rfl) ?_
  refine r_get F hK hP 0 0 rfl rfl in_X6 (by decide) k_320 rfl dX6_step_5 ?_
  refine rz_iald F hK hP 8 0 rfl rfl (by omega) (by omega) dX6_step_8 ?_
  have h_l8_0 := hM.2.2.2.1 ((i 0)).toNat (by omega)
  refine lv_istore_n (lv' := [(2, .int (zI ((go 2) ((i 0)).toNat))), (0, .ref b), (1, .ref o)]) hx hb dX6_step_9 rfl hl (by decide) rfl (fun ls hl => ?_)
  refine lv_iconst (v := zI 0) hx hb dX6_step_10 rfl ?_
  refine lv_istore_n (lv' := [(3, .int (zI 0)), (2, .int (zI ((go 2) ((i 0)).toNat))), (0, .ref b), (1, .ref o)]) hx hb dX6_step_11 rfl hl (by decide) rfl (fun ls hl => ?_)
  refine W.widen (k := 0) (n := 0) (Nat.le_of_ble_eq_true rfl) (Nat.le_of_ble_eq_true rfl) ?_
  refine (?_ : ∀ (n9_1 : Nat) (v3 : Int) (ii : Nat → Int) (gg : Nat → Nat → Int) (H : Heap) (locs : List Loc), (0 ≤ v3 ∧ v3 ≤ 4 ∧ ii 0 = i 0 ∧ ii 1 = i 1 ∧ ii 2 = i 2) → (4 - v3 : Int).toNat < n9_1 → (WalkOk ii gg) → va_P G vwCl [(b, .inr (6, [.int (zI (ii 0)), .int (zI (ii 1)), .int (zI (ii 2)), .int (zI (ii 3)), .int (zI (ii 4)), .ref (q 0), .ref (q 1), .ref (q 2), .long (zL (ii 5)), .ref (q 3)])), ((q 0), .inl (cI, 4, .inl (fun k => zI ((gg 0) k)))), ((q 1), .inl (cI, 20, .inl (fun k => zI ((gg 1) k)))), ((q 2), .inl (cI, 20, .inl (fun k => zI ((gg 2) k)))), ((q 3), .inl (cI, 100, .inl (fun k => zI ((gg 3) k)))), (o, .inr (2, [.int (zI no), .ref (qo 0), .ref (qo 1), .ref (qo 2), .ref (qo 3), .ref (qo 4), .ref (qo 5), .ref (qo 6), .ref (qo 7)])), ((qo 0), .inl (cI, 10, .inl (fun k => zI ((go 0) k)))), ((qo 1), .inl (cI, 10, .inl (fun k => zI ((go 1) k)))), ((qo 2), .inl (cI, 10, .inl (fun k => zI ((go 2) k)))), ((qo 3), .inl (cI, 40, .inl (fun k => zI ((go 3) k)))), ((qo 4), .inl (cI, 40, .inl (fun k => zI ((go 4) k)))), ((qo 5), .inl (cI, 40, .inl (fun k => zI ((go 5) k)))), ((qo 6), .inl (cI, 20, .inl (fun k => zI ((go 6) k)))), ((qo 7), .inl (cI, 20, .inl (fun k => zI ((go 7) k))))] H → va_D A [(b, .inr (6, [.int (zI (ii 0)), .int (zI (ii 1)), .int (zI (ii 2)), .int (zI (ii 3)), .int (zI (ii 4)), .ref (q 0), .ref (q 1), .ref (q 2), .long (zL (ii 5)), .ref (q 3)])), ((q 0), .inl (cI, 4, .inl (fun k => zI ((gg 0) k)))), ((q 1), .inl (cI, 20, .inl (fun k => zI ((gg 1) k)))), ((q 2), .inl (cI, 20, .inl (fun k => zI ((gg 2) k)))), ((q 3), .inl (cI, 100, .inl (fun k => zI ((gg 3) k)))), (o, .inr (2, [.int (zI no), .ref (qo 0), .ref (qo 1), .ref (qo 2), .ref (qo 3), .ref (qo 4), .ref (qo 5), .ref (qo 6), .ref (qo 7)])), ((qo 0), .inl (cI, 10, .inl (fun k => zI ((go 0) k)))), ((qo 1), .inl (cI, 10, .inl (fun k => zI ((go 1) k)))), ((qo 2), .inl (cI, 10, .inl (fun k => zI ((go 2) k)))), ((qo 3), .inl (cI, 40, .inl (fun k => zI ((go 3) k)))), ((qo 4), .inl (cI, 40, .inl (fun k => zI ((go 4) k)))), ((qo 5), .inl (cI, 40, .inl (fun k => zI ((go 5) k)))), ((qo 6), .inl (cI, 20, .inl (fun k => zI ((go 6) k)))), ((qo 7), .inl (cI, 20, .inl (fun k => zI ((go 7) k))))] → va_S A s.heap H locs → ∀ ls : Array Slot, lv_has ls 5 [(3, .int (zI v3)), (2, .int (zI ((go 2) ((i 0)).toNat))), (0, .ref b), (1, .ref o)] → W p l e rm_X6_step s m ([.ref b, .ref o] : List Value).toArray below meth c H locs 0 0 Q (F0 m 12 ls [])) ((4 - 0 : Int).toNat + 1) 0 i g _ _ (by omega) (by omega) hW hP hD hS ls hl
  clear hP hD hS hl ls
  intro n9_1
  induction n9_1 with
  | zero =>
    intro v3 ii gg H locs hI hM
    exact absurd hM (by omega)
  | succ n9_1 ih1 =>
    intro v3 ii gg H locs hI1 hM1 hG hP hD hS ls hl
    have hf2 := hG.1
    refine lv_iload_n hx hb dX6_step_12 rfl (lv_at hl 0 rfl) ?_
    refine lv_iload_n hx hb dX6_step_13 rfl (lv_at hl 1 rfl) ?_
    refine rz_icmp_ge (tgt := 36) F (by omega) (by omega) dX6_step_14 (by decide) (fun h14_2 => ?_) (fun h14_2 => ?_)
    · refine lv_aload_n hx hb dX6_step_36 rfl (lv_at hl 2 rfl) ?_
      refine lv_dup hx hb dX6_step_37 rfl ?_
      refine r_get F hK hP 0 1 rfl rfl in_X6 (by decide) k_322 rfl dX6_step_38 ?_
      refine lv_iconst (v := zI 1) hx hb dX6_step_41 rfl ?_
      refine r_iadd (v := zI ((ii 1) + 1)) F dX6_step_42 (zI_add _ _) ?_
      refine r_put F hK hP hD hS 0 1 rfl rfl in_X6 tyX6 tyX6_ok nmX6 (by decide) k_322 rfl rfl rfl (Nat.le_of_ble_eq_true rfl) dX6_step_43 (w1 := [(b, .inr (6, [.int (zI (ii 0)), .int (zI ((ii 1) + 1)), .int (zI (ii 2)), .int (zI (ii 3)), .int (zI (ii 4)), .ref (q 0), .ref (q 1), .ref (q 2), .long (zL (ii 5)), .ref (q 3)])), ((q 0), .inl (cI, 4, .inl (fun k => zI ((gg 0) k)))), ((q 1), .inl (cI, 20, .inl (fun k => zI ((gg 1) k)))), ((q 2), .inl (cI, 20, .inl (fun k => zI ((gg 2) k)))), ((q 3), .inl (cI, 100, .inl (fun k => zI ((gg 3) k)))), (o, .inr (2, [.int (zI no), .ref (qo 0), .ref (qo 1), .ref (qo 2), .ref (qo 3), .ref (qo 4), .ref (qo 5), .ref (qo 6), .ref (qo 7)])), ((qo 0), .inl (cI, 10, .inl (fun k => zI ((go 0) k)))), ((qo 1), .inl (cI, 10, .inl (fun k => zI ((go 1) k)))), ((qo 2), .inl (cI, 10, .inl (fun k => zI ((go 2) k)))), ((qo 3), .inl (cI, 40, .inl (fun k => zI ((go 3) k)))), ((qo 4), .inl (cI, 40, .inl (fun k => zI ((go 4) k)))), ((qo 5), .inl (cI, 40, .inl (fun k => zI ((go 5) k)))), ((qo 6), .inl (cI, 20, .inl (fun k => zI ((go 6) k)))), ((qo 7), .inl (cI, 20, .inl (fun k => zI ((go 7) k))))]) rfl (fun H locs hP hD hS => ?_)
      refine lv_aload_n hx hb dX6_step_46 rfl (lv_at hl 3 rfl) ?_
      refine r_get F hK hP 5 1 rfl rfl in_X2 (by decide) k_148 rfl dX6_step_47 ?_
      refine lv_aload_n hx hb dX6_step_50 rfl (lv_at hl 2 rfl) ?_
      refine r_get F hK hP 0 0 rfl rfl in_X6 (by decide) k_320 rfl dX6_step_51 ?_
      refine rz_iald F hK hP 6 0 rfl rfl (by omega) (by omega) dX6_step_54 ?_
      have h_l54_3 := hM.2.1 ((ii 0)).toNat (by omega)
      refine lv_istore_n (lv' := [(3, .int (zI ((go 0) ((ii 0)).toNat))), (2, .int (zI ((go 2) ((i 0)).toNat))), (0, .ref b), (1, .ref o)]) hx hb dX6_step_55 rfl hl (by decide) rfl (fun ls hl => ?_)
      refine lv_iload_n hx hb dX6_step_56 rfl (lv_at hl 0 rfl) ?_
      refine rz_if_ne (tgt := 68) F (by omega) dX6_step_57 (by decide) (fun h57_4 => ?_) (fun h57_4 => ?_)
      · refine lv_iload_n hx hb dX6_step_68 rfl (lv_at hl 0 rfl) ?_
        refine lv_iconst (v := zI 2) hx hb dX6_step_69 rfl ?_
        refine rz_icmp_ne (tgt := 94) F (by omega) (by omega) dX6_step_70 (by decide) (fun h70_5 => ?_) (fun h70_5 => ?_)
        · refine lv_iconst (v := zI 0) hx hb dX6_step_94 rfl ?_
          refine lv_istore (lv' := [(4, .int (zI 0)), (3, .int (zI ((go 0) ((ii 0)).toNat))), (2, .int (zI ((go 2) ((i 0)).toNat))), (0, .ref b), (1, .ref o)]) hx hb dX6_step_95 hl (by decide) rfl (fun ls hl => ?_)
          refine lv_aload_n hx hb dX6_step_97 rfl (lv_at hl 3 rfl) ?_
          refine lv_aload_n hx hb dX6_step_98 rfl (lv_at hl 4 rfl) ?_
          refine lv_iload hx hb dX6_step_99 (lv_at hl 0 rfl) ?_
          refine rz_if_eq (tgt := 115) F (by omega) dX6_step_101 (by decide) (fun h101_6 => ?_) (fun h101_6 => by omega)
          refine lv_iconst (v := zI 2) hx hb dX6_step_115 rfl ?_
          refine lv_aload_n hx hb dX6_step_116 rfl (lv_at hl 3 rfl) ?_
          refine r_get F hK hP 0 0 rfl rfl in_X6 (by decide) k_320 rfl dX6_step_117 ?_
          refine r_imul (v := zI (2 * (ii 0))) F dX6_step_120 (zI_mul _ _) ?_
          obtain ⟨i8, e_i8⟩ : ∃ i8 : Nat → Int, i8 = fun k => [(ii 0), ((ii 1) + 1), (ii 2), (ii 3), (ii 4), (ii 5)].getD k 0 := ⟨_, rfl⟩
          have e_i8_0 : i8 0 = (ii 0) := congrFun e_i8 0
          have e_i8_1 : i8 1 = ((ii 1) + 1) := congrFun e_i8 1
          have e_i8_2 : i8 2 = (ii 2) := congrFun e_i8 2
          have e_i8_3 : i8 3 = (ii 3) := congrFun e_i8 3
          have e_i8_4 : i8 4 = (ii 4) := congrFun e_i8 4
          have e_i8_5 : i8 5 = (ii 5) := congrFun e_i8 5
          obtain ⟨gg9, e_gg9⟩ : ∃ gg9 : Nat → Nat → Int, gg9 = fun k => [(gg 0), (gg 1), (gg 2), (gg 3)].getD k (fun _ => 0) := ⟨_, rfl⟩
          have hO10 : WalkOk i8 gg9 := ⟨by omega, by rw [e_gg9]; exact hG.2⟩
          have hf11 := hO10.1
          have hP : va_P G vwCl [(b, .inr (6, [.int (zI (i8 0)), .int (zI (i8 1)), .int (zI (i8 2)), .int (zI (i8 3)), .int (zI (i8 4)), .ref (q 0), .ref (q 1), .ref (q 2), .long (zL (i8 5)), .ref (q 3)])), ((q 0), .inl (cI, 4, .inl (fun k => zI ((gg9 0) k)))), ((q 1), .inl (cI, 20, .inl (fun k => zI ((gg9 1) k)))), ((q 2), .inl (cI, 20, .inl (fun k => zI ((gg9 2) k)))), ((q 3), .inl (cI, 100, .inl (fun k => zI ((gg9 3) k)))), (o, .inr (2, [.int (zI no), .ref (qo 0), .ref (qo 1), .ref (qo 2), .ref (qo 3), .ref (qo 4), .ref (qo 5), .ref (qo 6), .ref (qo 7)])), ((qo 0), .inl (cI, 10, .inl (fun k => zI ((go 0) k)))), ((qo 1), .inl (cI, 10, .inl (fun k => zI ((go 1) k)))), ((qo 2), .inl (cI, 10, .inl (fun k => zI ((go 2) k)))), ((qo 3), .inl (cI, 40, .inl (fun k => zI ((go 3) k)))), ((qo 4), .inl (cI, 40, .inl (fun k => zI ((go 4) k)))), ((qo 5), .inl (cI, 40, .inl (fun k => zI ((go 5) k)))), ((qo 6), .inl (cI, 20, .inl (fun k => zI ((go 6) k)))), ((qo 7), .inl (cI, 20, .inl (fun k => zI ((go 7) k))))] H := by subst e_i8 e_gg9; exact hP
          have hD : va_D A [(b, .inr (6, [.int (zI (i8 0)), .int (zI (i8 1)), .int (zI (i8 2)), .int (zI (i8 3)), .int (zI (i8 4)), .ref (q 0), .ref (q 1), .ref (q 2), .long (zL (i8 5)), .ref (q 3)])), ((q 0), .inl (cI, 4, .inl (fun k => zI ((gg9 0) k)))), ((q 1), .inl (cI, 20, .inl (fun k => zI ((gg9 1) k)))), ((q 2), .inl (cI, 20, .inl (fun k => zI ((gg9 2) k)))), ((q 3), .inl (cI, 100, .inl (fun k => zI ((gg9 3) k)))), (o, .inr (2, [.int (zI no), .ref (qo 0), .ref (qo 1), .ref (qo 2), .ref (qo 3), .ref (qo 4), .ref (qo 5), .ref (qo 6), .ref (qo 7)])), ((qo 0), .inl (cI, 10, .inl (fun k => zI ((go 0) k)))), ((qo 1), .inl (cI, 10, .inl (fun k => zI ((go 1) k)))), ((qo 2), .inl (cI, 10, .inl (fun k => zI ((go 2) k)))), ((qo 3), .inl (cI, 40, .inl (fun k => zI ((go 3) k)))), ((qo 4), .inl (cI, 40, .inl (fun k => zI ((go 4) k)))), ((qo 5), .inl (cI, 40, .inl (fun k => zI ((go 5) k)))), ((qo 6), .inl (cI, 20, .inl (fun k => zI ((go 6) k)))), ((qo 7), .inl (cI, 20, .inl (fun k => zI ((go 7) k))))] := by subst e_i8 e_gg9; exact hD
          refine r_callVv (As := [.ref o, .int (zI (2 * (ii 0)))]) (rest := []) (wr := []) F hK hP hD hS hA hO hE (c_X6_take hO b q i8 gg9 hO10 o qo no go hM (2 * (ii 0)) (by omega)) k_706 kv_X6_take 2 rfl (by decide +kernel) ⟨Nat.le_of_ble_eq_true rfl, Nat.le_of_ble_eq_true rfl⟩ [0, 1, 2, 3, 4, 5, 6, 7, 8, 9, 10, 11, 12, 13] [] rfl rfl (by decide) (by decide) (by decide) 0 6 rfl rfl rfl hl.1 rfl (Nat.le_of_ble_eq_true rfl) dX6_step_121 ⟨Nat.le_of_ble_eq_true rfl, Nat.le_of_ble_eq_true rfl⟩ (w1 := fun u12 => [(b, .inr (6, [.int (zI (u12.1 0)), .int (zI (u12.1 1)), .int (zI (u12.1 2)), .int (zI (u12.1 3)), .int (zI (u12.1 4)), .ref (q 0), .ref (q 1), .ref (q 2), .long (zL (u12.1 5)), .ref (q 3)])), ((q 0), .inl (cI, 4, .inl (fun k => zI ((u12.2 0) k)))), ((q 1), .inl (cI, 20, .inl (fun k => zI ((u12.2 1) k)))), ((q 2), .inl (cI, 20, .inl (fun k => zI ((u12.2 2) k)))), ((q 3), .inl (cI, 100, .inl (fun k => zI ((u12.2 3) k)))), (o, .inr (2, [.int (zI no), .ref (qo 0), .ref (qo 1), .ref (qo 2), .ref (qo 3), .ref (qo 4), .ref (qo 5), .ref (qo 6), .ref (qo 7)])), ((qo 0), .inl (cI, 10, .inl (fun k => zI ((go 0) k)))), ((qo 1), .inl (cI, 10, .inl (fun k => zI ((go 1) k)))), ((qo 2), .inl (cI, 10, .inl (fun k => zI ((go 2) k)))), ((qo 3), .inl (cI, 40, .inl (fun k => zI ((go 3) k)))), ((qo 4), .inl (cI, 40, .inl (fun k => zI ((go 4) k)))), ((qo 5), .inl (cI, 40, .inl (fun k => zI ((go 5) k)))), ((qo 6), .inl (cI, 20, .inl (fun k => zI ((go 6) k)))), ((qo 7), .inl (cI, 20, .inl (fun k => zI ((go 7) k))))]) (fun _ => rfl) (fun  u12 H locs hp13 hP hD hS => ?_)
          have hx14 := hp13.2
          have hf15 := hp13.1.1
          refine lv_aload_n hx hb dX6_step_124 rfl (lv_at hl 3 rfl) ?_
          refine r_get F hK hP 0 1 rfl rfl in_X6 (by decide) k_322 rfl dX6_step_125 ?_
          refine lv_bipush (v := zI 99) hx hb dX6_step_128 (by decide) ?_
          refine rz_icmp_gt (tgt := 146) F (by omega) (by omega) dX6_step_130 (by decide) (fun h130_15 => ?_) (fun h130_15 => ?_)
          · exact ret (u12.1, u12.2) _ _ _ _ _ _ ⟨hp13.1, by dsimp only; omega⟩ (bw_subP (isC := [0, 1, 2, 3, 4, 5, 6, 7, 8, 9, 10, 11, 12, 13]) hP rfl) (hD.sub [0, 1, 2, 3, 4, 5, 6, 7, 8, 9, 10, 11, 12, 13] (by decide) rfl) hS (Nat.le_of_ble_eq_true rfl) (Nat.le_of_ble_eq_true rfl) dX6_step_146
          · refine lv_aload_n hx hb dX6_step_133 rfl (lv_at hl 3 rfl) ?_
            refine r_get F hK hP 0 9 rfl rfl in_X6 (by decide) k_339 rfl dX6_step_134 ?_
            refine lv_aload_n hx hb dX6_step_137 rfl (lv_at hl 3 rfl) ?_
            refine r_get F hK hP 0 1 rfl rfl in_X6 (by decide) k_322 rfl dX6_step_138 ?_
            refine lv_aload_n hx hb dX6_step_141 rfl (lv_at hl 3 rfl) ?_
            refine r_get F hK hP 0 0 rfl rfl in_X6 (by decide) k_320 rfl dX6_step_142 ?_
            refine rz_iastG F hK hP hD hS 4 0 rfl rfl (by omega) (by omega) dX6_step_145 (w1 := fun g17 => [(b, .inr (6, [.int (zI (u12.1 0)), .int (zI (u12.1 1)), .int (zI (u12.1 2)), .int (zI (u12.1 3)), .int (zI (u12.1 4)), .ref (q 0), .ref (q 1), .ref (q 2), .long (zL (u12.1 5)), .ref (q 3)])), ((q 0), .inl (cI, 4, .inl (fun k => zI ((u12.2 0) k)))), ((q 1), .inl (cI, 20, .inl (fun k => zI ((u12.2 1) k)))), ((q 2), .inl (cI, 20, .inl (fun k => zI ((u12.2 2) k)))), ((q 3), .inl (cI, 100, .inl (fun k => zI (g17 k)))), (o, .inr (2, [.int (zI no), .ref (qo 0), .ref (qo 1), .ref (qo 2), .ref (qo 3), .ref (qo 4), .ref (qo 5), .ref (qo 6), .ref (qo 7)])), ((qo 0), .inl (cI, 10, .inl (fun k => zI ((go 0) k)))), ((qo 1), .inl (cI, 10, .inl (fun k => zI ((go 1) k)))), ((qo 2), .inl (cI, 10, .inl (fun k => zI ((go 2) k)))), ((qo 3), .inl (cI, 40, .inl (fun k => zI ((go 3) k)))), ((qo 4), .inl (cI, 40, .inl (fun k => zI ((go 4) k)))), ((qo 5), .inl (cI, 40, .inl (fun k => zI ((go 5) k)))), ((qo 6), .inl (cI, 20, .inl (fun k => zI ((go 6) k)))), ((qo 7), .inl (cI, 20, .inl (fun k => zI ((go 7) k))))]) (fun _ => rfl) (fun g17 e_g17 H locs hP hD hS => ?_)
            obtain ⟨i18, e_i18⟩ : ∃ i18 : Nat → Int, i18 = fun k => [(u12.1 0), (u12.1 1), (u12.1 2), (u12.1 3), (u12.1 4), (u12.1 5)].getD k 0 := ⟨_, rfl⟩
            have e_i18_0 : i18 0 = (u12.1 0) := congrFun e_i18 0
            have e_i18_1 : i18 1 = (u12.1 1) := congrFun e_i18 1
            have e_i18_2 : i18 2 = (u12.1 2) := congrFun e_i18 2
            have e_i18_3 : i18 3 = (u12.1 3) := congrFun e_i18 3
            have e_i18_4 : i18 4 = (u12.1 4) := congrFun e_i18 4
            have e_i18_5 : i18 5 = (u12.1 5) := congrFun e_i18 5
            obtain ⟨gg19, e_gg19⟩ : ∃ gg19 : Nat → Nat → Int, gg19 = fun k => [(u12.2 0), (u12.2 1), (u12.2 2), g17].getD k (fun _ => 0) := ⟨_, rfl⟩
            have hO20 : WalkOk i18 gg19 := ⟨by omega, by rw [e_gg19]; exact hp13.1.2⟩
            have hf21 := hO20.1
            have hP : va_P G vwCl [(b, .inr (6, [.int (zI (i18 0)), .int (zI (i18 1)), .int (zI (i18 2)), .int (zI (i18 3)), .int (zI (i18 4)), .ref (q 0), .ref (q 1), .ref (q 2), .long (zL (i18 5)), .ref (q 3)])), ((q 0), .inl (cI, 4, .inl (fun k => zI ((gg19 0) k)))), ((q 1), .inl (cI, 20, .inl (fun k => zI ((gg19 1) k)))), ((q 2), .inl (cI, 20, .inl (fun k => zI ((gg19 2) k)))), ((q 3), .inl (cI, 100, .inl (fun k => zI ((gg19 3) k)))), (o, .inr (2, [.int (zI no), .ref (qo 0), .ref (qo 1), .ref (qo 2), .ref (qo 3), .ref (qo 4), .ref (qo 5), .ref (qo 6), .ref (qo 7)])), ((qo 0), .inl (cI, 10, .inl (fun k => zI ((go 0) k)))), ((qo 1), .inl (cI, 10, .inl (fun k => zI ((go 1) k)))), ((qo 2), .inl (cI, 10, .inl (fun k => zI ((go 2) k)))), ((qo 3), .inl (cI, 40, .inl (fun k => zI ((go 3) k)))), ((qo 4), .inl (cI, 40, .inl (fun k => zI ((go 4) k)))), ((qo 5), .inl (cI, 40, .inl (fun k => zI ((go 5) k)))), ((qo 6), .inl (cI, 20, .inl (fun k => zI ((go 6) k)))), ((qo 7), .inl (cI, 20, .inl (fun k => zI ((go 7) k))))] H := by subst e_i18 e_gg19; exact hP
            have hD : va_D A [(b, .inr (6, [.int (zI (i18 0)), .int (zI (i18 1)), .int (zI (i18 2)), .int (zI (i18 3)), .int (zI (i18 4)), .ref (q 0), .ref (q 1), .ref (q 2), .long (zL (i18 5)), .ref (q 3)])), ((q 0), .inl (cI, 4, .inl (fun k => zI ((gg19 0) k)))), ((q 1), .inl (cI, 20, .inl (fun k => zI ((gg19 1) k)))), ((q 2), .inl (cI, 20, .inl (fun k => zI ((gg19 2) k)))), ((q 3), .inl (cI, 100, .inl (fun k => zI ((gg19 3) k)))), (o, .inr (2, [.int (zI no), .ref (qo 0), .ref (qo 1), .ref (qo 2), .ref (qo 3), .ref (qo 4), .ref (qo 5), .ref (qo 6), .ref (qo 7)])), ((qo 0), .inl (cI, 10, .inl (fun k => zI ((go 0) k)))), ((qo 1), .inl (cI, 10, .inl (fun k => zI ((go 1) k)))), ((qo 2), .inl (cI, 10, .inl (fun k => zI ((go 2) k)))), ((qo 3), .inl (cI, 40, .inl (fun k => zI ((go 3) k)))), ((qo 4), .inl (cI, 40, .inl (fun k => zI ((go 4) k)))), ((qo 5), .inl (cI, 40, .inl (fun k => zI ((go 5) k)))), ((qo 6), .inl (cI, 20, .inl (fun k => zI ((go 6) k)))), ((qo 7), .inl (cI, 20, .inl (fun k => zI ((go 7) k))))] := by subst e_i18 e_gg19; exact hD
            exact ret (i18, gg19) _ _ _ _ _ _ ⟨hO20, by dsimp only; omega⟩ (bw_subP (isC := [0, 1, 2, 3, 4, 5, 6, 7, 8, 9, 10, 11, 12, 13]) hP rfl) (hD.sub [0, 1, 2, 3, 4, 5, 6, 7, 8, 9, 10, 11, 12, 13] (by decide) rfl) hS (Nat.le_of_ble_eq_true rfl) (Nat.le_of_ble_eq_true rfl) dX6_step_146
        · refine lv_aload_n hx hb dX6_step_73 rfl (lv_at hl 2 rfl) ?_
          refine r_get F hK hP 0 5 rfl rfl in_X6 (by decide) k_332 rfl dX6_step_74 ?_
          refine lv_aload_n hx hb dX6_step_77 rfl (lv_at hl 3 rfl) ?_
          refine r_get F hK hP 5 2 rfl rfl in_X2 (by decide) k_151 rfl dX6_step_78 ?_
          refine lv_aload_n hx hb dX6_step_81 rfl (lv_at hl 2 rfl) ?_
          refine r_get F hK hP 0 0 rfl rfl in_X6 (by decide) k_320 rfl dX6_step_82 ?_
          refine rz_iald F hK hP 7 0 rfl rfl (by omega) (by omega) dX6_step_85 ?_
          have h_l85_21 := hM.2.2.1 ((ii 0)).toNat (by omega)
          refine rz_iald F hK hP 1 0 rfl rfl (by omega) (by omega) dX6_step_86 ?_
          refine rz_top (fun z23 h_z23 => ?_)
          refine rz_if_ne (tgt := 94) F (by omega) dX6_step_87 (by decide) (fun h87_23 => ?_) (fun h87_23 => ?_)
          · refine lv_iconst (v := zI 0) hx hb dX6_step_94 rfl ?_
            refine lv_istore (lv' := [(4, .int (zI 0)), (3, .int (zI ((go 0) ((ii 0)).toNat))), (2, .int (zI ((go 2) ((i 0)).toNat))), (0, .ref b), (1, .ref o)]) hx hb dX6_step_95 hl (by decide) rfl (fun ls hl => ?_)
            refine lv_aload_n hx hb dX6_step_97 rfl (lv_at hl 3 rfl) ?_
            refine lv_aload_n hx hb dX6_step_98 rfl (lv_at hl 4 rfl) ?_
            refine lv_iload hx hb dX6_step_99 (lv_at hl 0 rfl) ?_
            refine rz_if_eq (tgt := 115) F (by omega) dX6_step_101 (by decide) (fun h101_24 => ?_) (fun h101_24 => by omega)
            refine lv_iconst (v := zI 2) hx hb dX6_step_115 rfl ?_
            refine lv_aload_n hx hb dX6_step_116 rfl (lv_at hl 3 rfl) ?_
            refine r_get F hK hP 0 0 rfl rfl in_X6 (by decide) k_320 rfl dX6_step_117 ?_
            refine r_imul (v := zI (2 * (ii 0))) F dX6_step_120 (zI_mul _ _) ?_
            obtain ⟨i26, e_i26⟩ : ∃ i26 : Nat → Int, i26 = fun k => [(ii 0), ((ii 1) + 1), (ii 2), (ii 3), (ii 4), (ii 5)].getD k 0 := ⟨_, rfl⟩
            have e_i26_0 : i26 0 = (ii 0) := congrFun e_i26 0
            have e_i26_1 : i26 1 = ((ii 1) + 1) := congrFun e_i26 1
            have e_i26_2 : i26 2 = (ii 2) := congrFun e_i26 2
            have e_i26_3 : i26 3 = (ii 3) := congrFun e_i26 3
            have e_i26_4 : i26 4 = (ii 4) := congrFun e_i26 4
            have e_i26_5 : i26 5 = (ii 5) := congrFun e_i26 5
            obtain ⟨gg27, e_gg27⟩ : ∃ gg27 : Nat → Nat → Int, gg27 = fun k => [(gg 0), (gg 1), (gg 2), (gg 3)].getD k (fun _ => 0) := ⟨_, rfl⟩
            have hO28 : WalkOk i26 gg27 := ⟨by omega, by rw [e_gg27]; exact hG.2⟩
            have hf29 := hO28.1
            have hP : va_P G vwCl [(b, .inr (6, [.int (zI (i26 0)), .int (zI (i26 1)), .int (zI (i26 2)), .int (zI (i26 3)), .int (zI (i26 4)), .ref (q 0), .ref (q 1), .ref (q 2), .long (zL (i26 5)), .ref (q 3)])), ((q 0), .inl (cI, 4, .inl (fun k => zI ((gg27 0) k)))), ((q 1), .inl (cI, 20, .inl (fun k => zI ((gg27 1) k)))), ((q 2), .inl (cI, 20, .inl (fun k => zI ((gg27 2) k)))), ((q 3), .inl (cI, 100, .inl (fun k => zI ((gg27 3) k)))), (o, .inr (2, [.int (zI no), .ref (qo 0), .ref (qo 1), .ref (qo 2), .ref (qo 3), .ref (qo 4), .ref (qo 5), .ref (qo 6), .ref (qo 7)])), ((qo 0), .inl (cI, 10, .inl (fun k => zI ((go 0) k)))), ((qo 1), .inl (cI, 10, .inl (fun k => zI ((go 1) k)))), ((qo 2), .inl (cI, 10, .inl (fun k => zI ((go 2) k)))), ((qo 3), .inl (cI, 40, .inl (fun k => zI ((go 3) k)))), ((qo 4), .inl (cI, 40, .inl (fun k => zI ((go 4) k)))), ((qo 5), .inl (cI, 40, .inl (fun k => zI ((go 5) k)))), ((qo 6), .inl (cI, 20, .inl (fun k => zI ((go 6) k)))), ((qo 7), .inl (cI, 20, .inl (fun k => zI ((go 7) k))))] H := by subst e_i26 e_gg27; exact hP
            have hD : va_D A [(b, .inr (6, [.int (zI (i26 0)), .int (zI (i26 1)), .int (zI (i26 2)), .int (zI (i26 3)), .int (zI (i26 4)), .ref (q 0), .ref (q 1), .ref (q 2), .long (zL (i26 5)), .ref (q 3)])), ((q 0), .inl (cI, 4, .inl (fun k => zI ((gg27 0) k)))), ((q 1), .inl (cI, 20, .inl (fun k => zI ((gg27 1) k)))), ((q 2), .inl (cI, 20, .inl (fun k => zI ((gg27 2) k)))), ((q 3), .inl (cI, 100, .inl (fun k => zI ((gg27 3) k)))), (o, .inr (2, [.int (zI no), .ref (qo 0), .ref (qo 1), .ref (qo 2), .ref (qo 3), .ref (qo 4), .ref (qo 5), .ref (qo 6), .ref (qo 7)])), ((qo 0), .inl (cI, 10, .inl (fun k => zI ((go 0) k)))), ((qo 1), .inl (cI, 10, .inl (fun k => zI ((go 1) k)))), ((qo 2), .inl (cI, 10, .inl (fun k => zI ((go 2) k)))), ((qo 3), .inl (cI, 40, .inl (fun k => zI ((go 3) k)))), ((qo 4), .inl (cI, 40, .inl (fun k => zI ((go 4) k)))), ((qo 5), .inl (cI, 40, .inl (fun k => zI ((go 5) k)))), ((qo 6), .inl (cI, 20, .inl (fun k => zI ((go 6) k)))), ((qo 7), .inl (cI, 20, .inl (fun k => zI ((go 7) k))))] := by subst e_i26 e_gg27; exact hD
            refine r_callVv (As := [.ref o, .int (zI (2 * (ii 0)))]) (rest := []) (wr := []) F hK hP hD hS hA hO hE (c_X6_take hO b q i26 gg27 hO28 o qo no go hM (2 * (ii 0)) (by omega)) k_706 kv_X6_take 2 rfl (by decide +kernel) ⟨Nat.le_of_ble_eq_true rfl, Nat.le_of_ble_eq_true rfl⟩ [0, 1, 2, 3, 4, 5, 6, 7, 8, 9, 10, 11, 12, 13] [] rfl rfl (by decide) (by decide) (by decide) 0 6 rfl rfl rfl hl.1 rfl (Nat.le_of_ble_eq_true rfl) dX6_step_121 ⟨Nat.le_of_ble_eq_true rfl, Nat.le_of_ble_eq_true rfl⟩ (w1 := fun u30 => [(b, .inr (6, [.int (zI (u30.1 0)), .int (zI (u30.1 1)), .int (zI (u30.1 2)), .int (zI (u30.1 3)), .int (zI (u30.1 4)), .ref (q 0), .ref (q 1), .ref (q 2), .long (zL (u30.1 5)), .ref (q 3)])), ((q 0), .inl (cI, 4, .inl (fun k => zI ((u30.2 0) k)))), ((q 1), .inl (cI, 20, .inl (fun k => zI ((u30.2 1) k)))), ((q 2), .inl (cI, 20, .inl (fun k => zI ((u30.2 2) k)))), ((q 3), .inl (cI, 100, .inl (fun k => zI ((u30.2 3) k)))), (o, .inr (2, [.int (zI no), .ref (qo 0), .ref (qo 1), .ref (qo 2), .ref (qo 3), .ref (qo 4), .ref (qo 5), .ref (qo 6), .ref (qo 7)])), ((qo 0), .inl (cI, 10, .inl (fun k => zI ((go 0) k)))), ((qo 1), .inl (cI, 10, .inl (fun k => zI ((go 1) k)))), ((qo 2), .inl (cI, 10, .inl (fun k => zI ((go 2) k)))), ((qo 3), .inl (cI, 40, .inl (fun k => zI ((go 3) k)))), ((qo 4), .inl (cI, 40, .inl (fun k => zI ((go 4) k)))), ((qo 5), .inl (cI, 40, .inl (fun k => zI ((go 5) k)))), ((qo 6), .inl (cI, 20, .inl (fun k => zI ((go 6) k)))), ((qo 7), .inl (cI, 20, .inl (fun k => zI ((go 7) k))))]) (fun _ => rfl) (fun  u30 H locs hp31 hP hD hS => ?_)
            have hx32 := hp31.2
            have hf33 := hp31.1.1
            refine lv_aload_n hx hb dX6_step_124 rfl (lv_at hl 3 rfl) ?_
            refine r_get F hK hP 0 1 rfl rfl in_X6 (by decide) k_322 rfl dX6_step_125 ?_
            refine lv_bipush (v := zI 99) hx hb dX6_step_128 (by decide) ?_
            refine rz_icmp_gt (tgt := 146) F (by omega) (by omega) dX6_step_130 (by decide) (fun h130_33 => ?_) (fun h130_33 => ?_)
            · exact ret (u30.1, u30.2) _ _ _ _ _ _ ⟨hp31.1, by dsimp only; omega⟩ (bw_subP (isC := [0, 1, 2, 3, 4, 5, 6, 7, 8, 9, 10, 11, 12, 13]) hP rfl) (hD.sub [0, 1, 2, 3, 4, 5, 6, 7, 8, 9, 10, 11, 12, 13] (by decide) rfl) hS (Nat.le_of_ble_eq_true rfl) (Nat.le_of_ble_eq_true rfl) dX6_step_146
            · refine lv_aload_n hx hb dX6_step_133 rfl (lv_at hl 3 rfl) ?_
              refine r_get F hK hP 0 9 rfl rfl in_X6 (by decide) k_339 rfl dX6_step_134 ?_
              refine lv_aload_n hx hb dX6_step_137 rfl (lv_at hl 3 rfl) ?_
              refine r_get F hK hP 0 1 rfl rfl in_X6 (by decide) k_322 rfl dX6_step_138 ?_
              refine lv_aload_n hx hb dX6_step_141 rfl (lv_at hl 3 rfl) ?_
              refine r_get F hK hP 0 0 rfl rfl in_X6 (by decide) k_320 rfl dX6_step_142 ?_
              refine rz_iastG F hK hP hD hS 4 0 rfl rfl (by omega) (by omega) dX6_step_145 (w1 := fun g35 => [(b, .inr (6, [.int (zI (u30.1 0)), .int (zI (u30.1 1)), .int (zI (u30.1 2)), .int (zI (u30.1 3)), .int (zI (u30.1 4)), .ref (q 0), .ref (q 1), .ref (q 2), .long (zL (u30.1 5)), .ref (q 3)])), ((q 0), .inl (cI, 4, .inl (fun k => zI ((u30.2 0) k)))), ((q 1), .inl (cI, 20, .inl (fun k => zI ((u30.2 1) k)))), ((q 2), .inl (cI, 20, .inl (fun k => zI ((u30.2 2) k)))), ((q 3), .inl (cI, 100, .inl (fun k => zI (g35 k)))), (o, .inr (2, [.int (zI no), .ref (qo 0), .ref (qo 1), .ref (qo 2), .ref (qo 3), .ref (qo 4), .ref (qo 5), .ref (qo 6), .ref (qo 7)])), ((qo 0), .inl (cI, 10, .inl (fun k => zI ((go 0) k)))), ((qo 1), .inl (cI, 10, .inl (fun k => zI ((go 1) k)))), ((qo 2), .inl (cI, 10, .inl (fun k => zI ((go 2) k)))), ((qo 3), .inl (cI, 40, .inl (fun k => zI ((go 3) k)))), ((qo 4), .inl (cI, 40, .inl (fun k => zI ((go 4) k)))), ((qo 5), .inl (cI, 40, .inl (fun k => zI ((go 5) k)))), ((qo 6), .inl (cI, 20, .inl (fun k => zI ((go 6) k)))), ((qo 7), .inl (cI, 20, .inl (fun k => zI ((go 7) k))))]) (fun _ => rfl) (fun g35 e_g35 H locs hP hD hS => ?_)
              obtain ⟨i36, e_i36⟩ : ∃ i36 : Nat → Int, i36 = fun k => [(u30.1 0), (u30.1 1), (u30.1 2), (u30.1 3), (u30.1 4), (u30.1 5)].getD k 0 := ⟨_, rfl⟩
              have e_i36_0 : i36 0 = (u30.1 0) := congrFun e_i36 0
              have e_i36_1 : i36 1 = (u30.1 1) := congrFun e_i36 1
              have e_i36_2 : i36 2 = (u30.1 2) := congrFun e_i36 2
              have e_i36_3 : i36 3 = (u30.1 3) := congrFun e_i36 3
              have e_i36_4 : i36 4 = (u30.1 4) := congrFun e_i36 4
              have e_i36_5 : i36 5 = (u30.1 5) := congrFun e_i36 5
              obtain ⟨gg37, e_gg37⟩ : ∃ gg37 : Nat → Nat → Int, gg37 = fun k => [(u30.2 0), (u30.2 1), (u30.2 2), g35].getD k (fun _ => 0) := ⟨_, rfl⟩
              have hO38 : WalkOk i36 gg37 := ⟨by omega, by rw [e_gg37]; exact hp31.1.2⟩
              have hf39 := hO38.1
              have hP : va_P G vwCl [(b, .inr (6, [.int (zI (i36 0)), .int (zI (i36 1)), .int (zI (i36 2)), .int (zI (i36 3)), .int (zI (i36 4)), .ref (q 0), .ref (q 1), .ref (q 2), .long (zL (i36 5)), .ref (q 3)])), ((q 0), .inl (cI, 4, .inl (fun k => zI ((gg37 0) k)))), ((q 1), .inl (cI, 20, .inl (fun k => zI ((gg37 1) k)))), ((q 2), .inl (cI, 20, .inl (fun k => zI ((gg37 2) k)))), ((q 3), .inl (cI, 100, .inl (fun k => zI ((gg37 3) k)))), (o, .inr (2, [.int (zI no), .ref (qo 0), .ref (qo 1), .ref (qo 2), .ref (qo 3), .ref (qo 4), .ref (qo 5), .ref (qo 6), .ref (qo 7)])), ((qo 0), .inl (cI, 10, .inl (fun k => zI ((go 0) k)))), ((qo 1), .inl (cI, 10, .inl (fun k => zI ((go 1) k)))), ((qo 2), .inl (cI, 10, .inl (fun k => zI ((go 2) k)))), ((qo 3), .inl (cI, 40, .inl (fun k => zI ((go 3) k)))), ((qo 4), .inl (cI, 40, .inl (fun k => zI ((go 4) k)))), ((qo 5), .inl (cI, 40, .inl (fun k => zI ((go 5) k)))), ((qo 6), .inl (cI, 20, .inl (fun k => zI ((go 6) k)))), ((qo 7), .inl (cI, 20, .inl (fun k => zI ((go 7) k))))] H := by subst e_i36 e_gg37; exact hP
              have hD : va_D A [(b, .inr (6, [.int (zI (i36 0)), .int (zI (i36 1)), .int (zI (i36 2)), .int (zI (i36 3)), .int (zI (i36 4)), .ref (q 0), .ref (q 1), .ref (q 2), .long (zL (i36 5)), .ref (q 3)])), ((q 0), .inl (cI, 4, .inl (fun k => zI ((gg37 0) k)))), ((q 1), .inl (cI, 20, .inl (fun k => zI ((gg37 1) k)))), ((q 2), .inl (cI, 20, .inl (fun k => zI ((gg37 2) k)))), ((q 3), .inl (cI, 100, .inl (fun k => zI ((gg37 3) k)))), (o, .inr (2, [.int (zI no), .ref (qo 0), .ref (qo 1), .ref (qo 2), .ref (qo 3), .ref (qo 4), .ref (qo 5), .ref (qo 6), .ref (qo 7)])), ((qo 0), .inl (cI, 10, .inl (fun k => zI ((go 0) k)))), ((qo 1), .inl (cI, 10, .inl (fun k => zI ((go 1) k)))), ((qo 2), .inl (cI, 10, .inl (fun k => zI ((go 2) k)))), ((qo 3), .inl (cI, 40, .inl (fun k => zI ((go 3) k)))), ((qo 4), .inl (cI, 40, .inl (fun k => zI ((go 4) k)))), ((qo 5), .inl (cI, 40, .inl (fun k => zI ((go 5) k)))), ((qo 6), .inl (cI, 20, .inl (fun k => zI ((go 6) k)))), ((qo 7), .inl (cI, 20, .inl (fun k => zI ((go 7) k))))] := by subst e_i36 e_gg37; exact hD
              exact ret (i36, gg37) _ _ _ _ _ _ ⟨hO38, by dsimp only; omega⟩ (bw_subP (isC := [0, 1, 2, 3, 4, 5, 6, 7, 8, 9, 10, 11, 12, 13]) hP rfl) (hD.sub [0, 1, 2, 3, 4, 5, 6, 7, 8, 9, 10, 11, 12, 13] (by decide) rfl) hS (Nat.le_of_ble_eq_true rfl) (Nat.le_of_ble_eq_true rfl) dX6_step_146
          · refine lv_iconst (v := zI 1) hx hb dX6_step_90 rfl ?_
            refine lv_goto (tgt := 95) hx hb dX6_step_91 (by decide) ?_
            refine lv_istore (lv' := [(4, .int (zI 1)), (3, .int (zI ((go 0) ((ii 0)).toNat))), (2, .int (zI ((go 2) ((i 0)).toNat))), (0, .ref b), (1, .ref o)]) hx hb dX6_step_95 hl (by decide) rfl (fun ls hl => ?_)
            refine lv_aload_n hx hb dX6_step_97 rfl (lv_at hl 3 rfl) ?_
            refine lv_aload_n hx hb dX6_step_98 rfl (lv_at hl 4 rfl) ?_
            refine lv_iload hx hb dX6_step_99 (lv_at hl 0 rfl) ?_
            refine rz_if_eq (tgt := 115) F (by omega) dX6_step_101 (by decide) (fun h101_39 => by omega) (fun h101_39 => ?_)
            refine lv_iconst (v := zI 2) hx hb dX6_step_104 rfl ?_
            refine lv_aload_n hx hb dX6_step_105 rfl (lv_at hl 3 rfl) ?_
            refine r_get F hK hP 0 0 rfl rfl in_X6 (by decide) k_320 rfl dX6_step_106 ?_
            refine r_imul (v := zI (2 * (ii 0))) F dX6_step_109 (zI_mul _ _) ?_
            refine lv_iconst (v := zI 1) hx hb dX6_step_110 rfl ?_
            refine r_iadd (v := zI ((2 * (ii 0)) + 1)) F dX6_step_111 (zI_add _ _) ?_
            refine lv_goto (tgt := 121) hx hb dX6_step_112 (by decide) ?_
            obtain ⟨i41, e_i41⟩ : ∃ i41 : Nat → Int, i41 = fun k => [(ii 0), ((ii 1) + 1), (ii 2), (ii 3), (ii 4), (ii 5)].getD k 0 := ⟨_, rfl⟩
            have e_i41_0 : i41 0 = (ii 0) := congrFun e_i41 0
            have e_i41_1 : i41 1 = ((ii 1) + 1) := congrFun e_i41 1
            have e_i41_2 : i41 2 = (ii 2) := congrFun e_i41 2
            have e_i41_3 : i41 3 = (ii 3) := congrFun e_i41 3
            have e_i41_4 : i41 4 = (ii 4) := congrFun e_i41 4
            have e_i41_5 : i41 5 = (ii 5) := congrFun e_i41 5
            obtain ⟨gg42, e_gg42⟩ : ∃ gg42 : Nat → Nat → Int, gg42 = fun k => [(gg 0), (gg 1), (gg 2), (gg 3)].getD k (fun _ => 0) := ⟨_, rfl⟩
            have hO43 : WalkOk i41 gg42 := ⟨by omega, by rw [e_gg42]; exact hG.2⟩
            have hf44 := hO43.1
            have hP : va_P G vwCl [(b, .inr (6, [.int (zI (i41 0)), .int (zI (i41 1)), .int (zI (i41 2)), .int (zI (i41 3)), .int (zI (i41 4)), .ref (q 0), .ref (q 1), .ref (q 2), .long (zL (i41 5)), .ref (q 3)])), ((q 0), .inl (cI, 4, .inl (fun k => zI ((gg42 0) k)))), ((q 1), .inl (cI, 20, .inl (fun k => zI ((gg42 1) k)))), ((q 2), .inl (cI, 20, .inl (fun k => zI ((gg42 2) k)))), ((q 3), .inl (cI, 100, .inl (fun k => zI ((gg42 3) k)))), (o, .inr (2, [.int (zI no), .ref (qo 0), .ref (qo 1), .ref (qo 2), .ref (qo 3), .ref (qo 4), .ref (qo 5), .ref (qo 6), .ref (qo 7)])), ((qo 0), .inl (cI, 10, .inl (fun k => zI ((go 0) k)))), ((qo 1), .inl (cI, 10, .inl (fun k => zI ((go 1) k)))), ((qo 2), .inl (cI, 10, .inl (fun k => zI ((go 2) k)))), ((qo 3), .inl (cI, 40, .inl (fun k => zI ((go 3) k)))), ((qo 4), .inl (cI, 40, .inl (fun k => zI ((go 4) k)))), ((qo 5), .inl (cI, 40, .inl (fun k => zI ((go 5) k)))), ((qo 6), .inl (cI, 20, .inl (fun k => zI ((go 6) k)))), ((qo 7), .inl (cI, 20, .inl (fun k => zI ((go 7) k))))] H := by subst e_i41 e_gg42; exact hP
            have hD : va_D A [(b, .inr (6, [.int (zI (i41 0)), .int (zI (i41 1)), .int (zI (i41 2)), .int (zI (i41 3)), .int (zI (i41 4)), .ref (q 0), .ref (q 1), .ref (q 2), .long (zL (i41 5)), .ref (q 3)])), ((q 0), .inl (cI, 4, .inl (fun k => zI ((gg42 0) k)))), ((q 1), .inl (cI, 20, .inl (fun k => zI ((gg42 1) k)))), ((q 2), .inl (cI, 20, .inl (fun k => zI ((gg42 2) k)))), ((q 3), .inl (cI, 100, .inl (fun k => zI ((gg42 3) k)))), (o, .inr (2, [.int (zI no), .ref (qo 0), .ref (qo 1), .ref (qo 2), .ref (qo 3), .ref (qo 4), .ref (qo 5), .ref (qo 6), .ref (qo 7)])), ((qo 0), .inl (cI, 10, .inl (fun k => zI ((go 0) k)))), ((qo 1), .inl (cI, 10, .inl (fun k => zI ((go 1) k)))), ((qo 2), .inl (cI, 10, .inl (fun k => zI ((go 2) k)))), ((qo 3), .inl (cI, 40, .inl (fun k => zI ((go 3) k)))), ((qo 4), .inl (cI, 40, .inl (fun k => zI ((go 4) k)))), ((qo 5), .inl (cI, 40, .inl (fun k => zI ((go 5) k)))), ((qo 6), .inl (cI, 20, .inl (fun k => zI ((go 6) k)))), ((qo 7), .inl (cI, 20, .inl (fun k => zI ((go 7) k))))] := by subst e_i41 e_gg42; exact hD
            refine r_callVv (As := [.ref o, .int (zI ((2 * (ii 0)) + 1))]) (rest := []) (wr := []) F hK hP hD hS hA hO hE (c_X6_take hO b q i41 gg42 hO43 o qo no go hM ((2 * (ii 0)) + 1) (by omega)) k_706 kv_X6_take 2 rfl (by decide +kernel) ⟨Nat.le_of_ble_eq_true rfl, Nat.le_of_ble_eq_true rfl⟩ [0, 1, 2, 3, 4, 5, 6, 7, 8, 9, 10, 11, 12, 13] [] rfl rfl (by decide) (by decide) (by decide) 0 6 rfl rfl rfl hl.1 rfl (Nat.le_of_ble_eq_true rfl) dX6_step_121 ⟨Nat.le_of_ble_eq_true rfl, Nat.le_of_ble_eq_true rfl⟩ (w1 := fun u45 => [(b, .inr (6, [.int (zI (u45.1 0)), .int (zI (u45.1 1)), .int (zI (u45.1 2)), .int (zI (u45.1 3)), .int (zI (u45.1 4)), .ref (q 0), .ref (q 1), .ref (q 2), .long (zL (u45.1 5)), .ref (q 3)])), ((q 0), .inl (cI, 4, .inl (fun k => zI ((u45.2 0) k)))), ((q 1), .inl (cI, 20, .inl (fun k => zI ((u45.2 1) k)))), ((q 2), .inl (cI, 20, .inl (fun k => zI ((u45.2 2) k)))), ((q 3), .inl (cI, 100, .inl (fun k => zI ((u45.2 3) k)))), (o, .inr (2, [.int (zI no), .ref (qo 0), .ref (qo 1), .ref (qo 2), .ref (qo 3), .ref (qo 4), .ref (qo 5), .ref (qo 6), .ref (qo 7)])), ((qo 0), .inl (cI, 10, .inl (fun k => zI ((go 0) k)))), ((qo 1), .inl (cI, 10, .inl (fun k => zI ((go 1) k)))), ((qo 2), .inl (cI, 10, .inl (fun k => zI ((go 2) k)))), ((qo 3), .inl (cI, 40, .inl (fun k => zI ((go 3) k)))), ((qo 4), .inl (cI, 40, .inl (fun k => zI ((go 4) k)))), ((qo 5), .inl (cI, 40, .inl (fun k => zI ((go 5) k)))), ((qo 6), .inl (cI, 20, .inl (fun k => zI ((go 6) k)))), ((qo 7), .inl (cI, 20, .inl (fun k => zI ((go 7) k))))]) (fun _ => rfl) (fun  u45 H locs hp46 hP hD hS => ?_)
            have hx47 := hp46.2
            have hf48 := hp46.1.1
            refine lv_aload_n hx hb dX6_step_124 rfl (lv_at hl 3 rfl) ?_
            refine r_get F hK hP 0 1 rfl rfl in_X6 (by decide) k_322 rfl dX6_step_125 ?_
            refine lv_bipush (v := zI 99) hx hb dX6_step_128 (by decide) ?_
            refine rz_icmp_gt (tgt := 146) F (by omega) (by omega) dX6_step_130 (by decide) (fun h130_48 => ?_) (fun h130_48 => ?_)
            · exact ret (u45.1, u45.2) _ _ _ _ _ _ ⟨hp46.1, by dsimp only; omega⟩ (bw_subP (isC := [0, 1, 2, 3, 4, 5, 6, 7, 8, 9, 10, 11, 12, 13]) hP rfl) (hD.sub [0, 1, 2, 3, 4, 5, 6, 7, 8, 9, 10, 11, 12, 13] (by decide) rfl) hS (Nat.le_of_ble_eq_true rfl) (Nat.le_of_ble_eq_true rfl) dX6_step_146
            · refine lv_aload_n hx hb dX6_step_133 rfl (lv_at hl 3 rfl) ?_
              refine r_get F hK hP 0 9 rfl rfl in_X6 (by decide) k_339 rfl dX6_step_134 ?_
              refine lv_aload_n hx hb dX6_step_137 rfl (lv_at hl 3 rfl) ?_
              refine r_get F hK hP 0 1 rfl rfl in_X6 (by decide) k_322 rfl dX6_step_138 ?_
              refine lv_aload_n hx hb dX6_step_141 rfl (lv_at hl 3 rfl) ?_
              refine r_get F hK hP 0 0 rfl rfl in_X6 (by decide) k_320 rfl dX6_step_142 ?_
              refine rz_iastG F hK hP hD hS 4 0 rfl rfl (by omega) (by omega) dX6_step_145 (w1 := fun g50 => [(b, .inr (6, [.int (zI (u45.1 0)), .int (zI (u45.1 1)), .int (zI (u45.1 2)), .int (zI (u45.1 3)), .int (zI (u45.1 4)), .ref (q 0), .ref (q 1), .ref (q 2), .long (zL (u45.1 5)), .ref (q 3)])), ((q 0), .inl (cI, 4, .inl (fun k => zI ((u45.2 0) k)))), ((q 1), .inl (cI, 20, .inl (fun k => zI ((u45.2 1) k)))), ((q 2), .inl (cI, 20, .inl (fun k => zI ((u45.2 2) k)))), ((q 3), .inl (cI, 100, .inl (fun k => zI (g50 k)))), (o, .inr (2, [.int (zI no), .ref (qo 0), .ref (qo 1), .ref (qo 2), .ref (qo 3), .ref (qo 4), .ref (qo 5), .ref (qo 6), .ref (qo 7)])), ((qo 0), .inl (cI, 10, .inl (fun k => zI ((go 0) k)))), ((qo 1), .inl (cI, 10, .inl (fun k => zI ((go 1) k)))), ((qo 2), .inl (cI, 10, .inl (fun k => zI ((go 2) k)))), ((qo 3), .inl (cI, 40, .inl (fun k => zI ((go 3) k)))), ((qo 4), .inl (cI, 40, .inl (fun k => zI ((go 4) k)))), ((qo 5), .inl (cI, 40, .inl (fun k => zI ((go 5) k)))), ((qo 6), .inl (cI, 20, .inl (fun k => zI ((go 6) k)))), ((qo 7), .inl (cI, 20, .inl (fun k => zI ((go 7) k))))]) (fun _ => rfl) (fun g50 e_g50 H locs hP hD hS => ?_)
              obtain ⟨i51, e_i51⟩ : ∃ i51 : Nat → Int, i51 = fun k => [(u45.1 0), (u45.1 1), (u45.1 2), (u45.1 3), (u45.1 4), (u45.1 5)].getD k 0 := ⟨_, rfl⟩
              have e_i51_0 : i51 0 = (u45.1 0) := congrFun e_i51 0
              have e_i51_1 : i51 1 = (u45.1 1) := congrFun e_i51 1
              have e_i51_2 : i51 2 = (u45.1 2) := congrFun e_i51 2
              have e_i51_3 : i51 3 = (u45.1 3) := congrFun e_i51 3
              have e_i51_4 : i51 4 = (u45.1 4) := congrFun e_i51 4
              have e_i51_5 : i51 5 = (u45.1 5) := congrFun e_i51 5
              obtain ⟨gg52, e_gg52⟩ : ∃ gg52 : Nat → Nat → Int, gg52 = fun k => [(u45.2 0), (u45.2 1), (u45.2 2), g50].getD k (fun _ => 0) := ⟨_, rfl⟩
              have hO53 : WalkOk i51 gg52 := ⟨by omega, by rw [e_gg52]; exact hp46.1.2⟩
              have hf54 := hO53.1
              have hP : va_P G vwCl [(b, .inr (6, [.int (zI (i51 0)), .int (zI (i51 1)), .int (zI (i51 2)), .int (zI (i51 3)), .int (zI (i51 4)), .ref (q 0), .ref (q 1), .ref (q 2), .long (zL (i51 5)), .ref (q 3)])), ((q 0), .inl (cI, 4, .inl (fun k => zI ((gg52 0) k)))), ((q 1), .inl (cI, 20, .inl (fun k => zI ((gg52 1) k)))), ((q 2), .inl (cI, 20, .inl (fun k => zI ((gg52 2) k)))), ((q 3), .inl (cI, 100, .inl (fun k => zI ((gg52 3) k)))), (o, .inr (2, [.int (zI no), .ref (qo 0), .ref (qo 1), .ref (qo 2), .ref (qo 3), .ref (qo 4), .ref (qo 5), .ref (qo 6), .ref (qo 7)])), ((qo 0), .inl (cI, 10, .inl (fun k => zI ((go 0) k)))), ((qo 1), .inl (cI, 10, .inl (fun k => zI ((go 1) k)))), ((qo 2), .inl (cI, 10, .inl (fun k => zI ((go 2) k)))), ((qo 3), .inl (cI, 40, .inl (fun k => zI ((go 3) k)))), ((qo 4), .inl (cI, 40, .inl (fun k => zI ((go 4) k)))), ((qo 5), .inl (cI, 40, .inl (fun k => zI ((go 5) k)))), ((qo 6), .inl (cI, 20, .inl (fun k => zI ((go 6) k)))), ((qo 7), .inl (cI, 20, .inl (fun k => zI ((go 7) k))))] H := by subst e_i51 e_gg52; exact hP
              have hD : va_D A [(b, .inr (6, [.int (zI (i51 0)), .int (zI (i51 1)), .int (zI (i51 2)), .int (zI (i51 3)), .int (zI (i51 4)), .ref (q 0), .ref (q 1), .ref (q 2), .long (zL (i51 5)), .ref (q 3)])), ((q 0), .inl (cI, 4, .inl (fun k => zI ((gg52 0) k)))), ((q 1), .inl (cI, 20, .inl (fun k => zI ((gg52 1) k)))), ((q 2), .inl (cI, 20, .inl (fun k => zI ((gg52 2) k)))), ((q 3), .inl (cI, 100, .inl (fun k => zI ((gg52 3) k)))), (o, .inr (2, [.int (zI no), .ref (qo 0), .ref (qo 1), .ref (qo 2), .ref (qo 3), .ref (qo 4), .ref (qo 5), .ref (qo 6), .ref (qo 7)])), ((qo 0), .inl (cI, 10, .inl (fun k => zI ((go 0) k)))), ((qo 1), .inl (cI, 10, .inl (fun k => zI ((go 1) k)))), ((qo 2), .inl (cI, 10, .inl (fun k => zI ((go 2) k)))), ((qo 3), .inl (cI, 40, .inl (fun k => zI ((go 3) k)))), ((qo 4), .inl (cI, 40, .inl (fun k => zI ((go 4) k)))), ((qo 5), .inl (cI, 40, .inl (fun k => zI ((go 5) k)))), ((qo 6), .inl (cI, 20, .inl (fun k => zI ((go 6) k)))), ((qo 7), .inl (cI, 20, .inl (fun k => zI ((go 7) k))))] := by subst e_i51 e_gg52; exact hD
              exact ret (i51, gg52) _ _ _ _ _ _ ⟨hO53, by dsimp only; omega⟩ (bw_subP (isC := [0, 1, 2, 3, 4, 5, 6, 7, 8, 9, 10, 11, 12, 13]) hP rfl) (hD.sub [0, 1, 2, 3, 4, 5, 6, 7, 8, 9, 10, 11, 12, 13] (by decide) rfl) hS (Nat.le_of_ble_eq_true rfl) (Nat.le_of_ble_eq_true rfl) dX6_step_146
      · refine lv_aload_n hx hb dX6_step_60 rfl (lv_at hl 2 rfl) ?_
        refine lv_iconst (v := zI 1) hx hb dX6_step_61 rfl ?_
        refine r_put F hK hP hD hS 0 2 rfl rfl in_X6 tyX6 tyX6_ok nmX6 (by decide) k_325 rfl rfl rfl (Nat.le_of_ble_eq_true rfl) dX6_step_62 (w1 := [(b, .inr (6, [.int (zI (ii 0)), .int (zI ((ii 1) + 1)), .int (zI 1), .int (zI (ii 3)), .int (zI (ii 4)), .ref (q 0), .ref (q 1), .ref (q 2), .long (zL (ii 5)), .ref (q 3)])), ((q 0), .inl (cI, 4, .inl (fun k => zI ((gg 0) k)))), ((q 1), .inl (cI, 20, .inl (fun k => zI ((gg 1) k)))), ((q 2), .inl (cI, 20, .inl (fun k => zI ((gg 2) k)))), ((q 3), .inl (cI, 100, .inl (fun k => zI ((gg 3) k)))), (o, .inr (2, [.int (zI no), .ref (qo 0), .ref (qo 1), .ref (qo 2), .ref (qo 3), .ref (qo 4), .ref (qo 5), .ref (qo 6), .ref (qo 7)])), ((qo 0), .inl (cI, 10, .inl (fun k => zI ((go 0) k)))), ((qo 1), .inl (cI, 10, .inl (fun k => zI ((go 1) k)))), ((qo 2), .inl (cI, 10, .inl (fun k => zI ((go 2) k)))), ((qo 3), .inl (cI, 40, .inl (fun k => zI ((go 3) k)))), ((qo 4), .inl (cI, 40, .inl (fun k => zI ((go 4) k)))), ((qo 5), .inl (cI, 40, .inl (fun k => zI ((go 5) k)))), ((qo 6), .inl (cI, 20, .inl (fun k => zI ((go 6) k)))), ((qo 7), .inl (cI, 20, .inl (fun k => zI ((go 7) k))))]) rfl (fun H locs hP hD hS => ?_)
        refine lv_goto (tgt := 124) hx hb dX6_step_65 (by decide) ?_
        refine lv_aload_n hx hb dX6_step_124 rfl (lv_at hl 2 rfl) ?_
        refine r_get F hK hP 0 1 rfl rfl in_X6 (by decide) k_322 rfl dX6_step_125 ?_
        refine lv_bipush (v := zI 99) hx hb dX6_step_128 (by decide) ?_
        refine rz_icmp_gt (tgt := 146) F (by omega) (by omega) dX6_step_130 (by decide) (fun h130_54 => ?_) (fun h130_54 => ?_)
        · obtain ⟨i56, e_i56⟩ : ∃ i56 : Nat → Int, i56 = fun k => [(ii 0), ((ii 1) + 1), 1, (ii 3), (ii 4), (ii 5)].getD k 0 := ⟨_, rfl⟩
          have e_i56_0 : i56 0 = (ii 0) := congrFun e_i56 0
          have e_i56_1 : i56 1 = ((ii 1) + 1) := congrFun e_i56 1
          have e_i56_2 : i56 2 = 1 := congrFun e_i56 2
          have e_i56_3 : i56 3 = (ii 3) := congrFun e_i56 3
          have e_i56_4 : i56 4 = (ii 4) := congrFun e_i56 4
          have e_i56_5 : i56 5 = (ii 5) := congrFun e_i56 5
          obtain ⟨gg57, e_gg57⟩ : ∃ gg57 : Nat → Nat → Int, gg57 = fun k => [(gg 0), (gg 1), (gg 2), (gg 3)].getD k (fun _ => 0) := ⟨_, rfl⟩
          have hO58 : WalkOk i56 gg57 := ⟨by omega, by rw [e_gg57]; exact hG.2⟩
          have hf59 := hO58.1
          have hP : va_P G vwCl [(b, .inr (6, [.int (zI (i56 0)), .int (zI (i56 1)), .int (zI (i56 2)), .int (zI (i56 3)), .int (zI (i56 4)), .ref (q 0), .ref (q 1), .ref (q 2), .long (zL (i56 5)), .ref (q 3)])), ((q 0), .inl (cI, 4, .inl (fun k => zI ((gg57 0) k)))), ((q 1), .inl (cI, 20, .inl (fun k => zI ((gg57 1) k)))), ((q 2), .inl (cI, 20, .inl (fun k => zI ((gg57 2) k)))), ((q 3), .inl (cI, 100, .inl (fun k => zI ((gg57 3) k)))), (o, .inr (2, [.int (zI no), .ref (qo 0), .ref (qo 1), .ref (qo 2), .ref (qo 3), .ref (qo 4), .ref (qo 5), .ref (qo 6), .ref (qo 7)])), ((qo 0), .inl (cI, 10, .inl (fun k => zI ((go 0) k)))), ((qo 1), .inl (cI, 10, .inl (fun k => zI ((go 1) k)))), ((qo 2), .inl (cI, 10, .inl (fun k => zI ((go 2) k)))), ((qo 3), .inl (cI, 40, .inl (fun k => zI ((go 3) k)))), ((qo 4), .inl (cI, 40, .inl (fun k => zI ((go 4) k)))), ((qo 5), .inl (cI, 40, .inl (fun k => zI ((go 5) k)))), ((qo 6), .inl (cI, 20, .inl (fun k => zI ((go 6) k)))), ((qo 7), .inl (cI, 20, .inl (fun k => zI ((go 7) k))))] H := by subst e_i56 e_gg57; exact hP
          have hD : va_D A [(b, .inr (6, [.int (zI (i56 0)), .int (zI (i56 1)), .int (zI (i56 2)), .int (zI (i56 3)), .int (zI (i56 4)), .ref (q 0), .ref (q 1), .ref (q 2), .long (zL (i56 5)), .ref (q 3)])), ((q 0), .inl (cI, 4, .inl (fun k => zI ((gg57 0) k)))), ((q 1), .inl (cI, 20, .inl (fun k => zI ((gg57 1) k)))), ((q 2), .inl (cI, 20, .inl (fun k => zI ((gg57 2) k)))), ((q 3), .inl (cI, 100, .inl (fun k => zI ((gg57 3) k)))), (o, .inr (2, [.int (zI no), .ref (qo 0), .ref (qo 1), .ref (qo 2), .ref (qo 3), .ref (qo 4), .ref (qo 5), .ref (qo 6), .ref (qo 7)])), ((qo 0), .inl (cI, 10, .inl (fun k => zI ((go 0) k)))), ((qo 1), .inl (cI, 10, .inl (fun k => zI ((go 1) k)))), ((qo 2), .inl (cI, 10, .inl (fun k => zI ((go 2) k)))), ((qo 3), .inl (cI, 40, .inl (fun k => zI ((go 3) k)))), ((qo 4), .inl (cI, 40, .inl (fun k => zI ((go 4) k)))), ((qo 5), .inl (cI, 40, .inl (fun k => zI ((go 5) k)))), ((qo 6), .inl (cI, 20, .inl (fun k => zI ((go 6) k)))), ((qo 7), .inl (cI, 20, .inl (fun k => zI ((go 7) k))))] := by subst e_i56 e_gg57; exact hD
          exact ret (i56, gg57) _ _ _ _ _ _ ⟨hO58, by dsimp only; omega⟩ (bw_subP (isC := [0, 1, 2, 3, 4, 5, 6, 7, 8, 9, 10, 11, 12, 13]) hP rfl) (hD.sub [0, 1, 2, 3, 4, 5, 6, 7, 8, 9, 10, 11, 12, 13] (by decide) rfl) hS (Nat.le_of_ble_eq_true rfl) (Nat.le_of_ble_eq_true rfl) dX6_step_146
        · refine lv_aload_n hx hb dX6_step_133 rfl (lv_at hl 2 rfl) ?_
          refine r_get F hK hP 0 9 rfl rfl in_X6 (by decide) k_339 rfl dX6_step_134 ?_
          refine lv_aload_n hx hb dX6_step_137 rfl (lv_at hl 2 rfl) ?_
          refine r_get F hK hP 0 1 rfl rfl in_X6 (by decide) k_322 rfl dX6_step_138 ?_
          refine lv_aload_n hx hb dX6_step_141 rfl (lv_at hl 2 rfl) ?_
          refine r_get F hK hP 0 0 rfl rfl in_X6 (by decide) k_320 rfl dX6_step_142 ?_
          refine rz_iastG F hK hP hD hS 4 0 rfl rfl (by omega) (by omega) dX6_step_145 (w1 := fun g60 => [(b, .inr (6, [.int (zI (ii 0)), .int (zI ((ii 1) + 1)), .int (zI 1), .int (zI (ii 3)), .int (zI (ii 4)), .ref (q 0), .ref (q 1), .ref (q 2), .long (zL (ii 5)), .ref (q 3)])), ((q 0), .inl (cI, 4, .inl (fun k => zI ((gg 0) k)))), ((q 1), .inl (cI, 20, .inl (fun k => zI ((gg 1) k)))), ((q 2), .inl (cI, 20, .inl (fun k => zI ((gg 2) k)))), ((q 3), .inl (cI, 100, .inl (fun k => zI (g60 k)))), (o, .inr (2, [.int (zI no), .ref (qo 0), .ref (qo 1), .ref (qo 2), .ref (qo 3), .ref (qo 4), .ref (qo 5), .ref (qo 6), .ref (qo 7)])), ((qo 0), .inl (cI, 10, .inl (fun k => zI ((go 0) k)))), ((qo 1), .inl (cI, 10, .inl (fun k => zI ((go 1) k)))), ((qo 2), .inl (cI, 10, .inl (fun k => zI ((go 2) k)))), ((qo 3), .inl (cI, 40, .inl (fun k => zI ((go 3) k)))), ((qo 4), .inl (cI, 40, .inl (fun k => zI ((go 4) k)))), ((qo 5), .inl (cI, 40, .inl (fun k => zI ((go 5) k)))), ((qo 6), .inl (cI, 20, .inl (fun k => zI ((go 6) k)))), ((qo 7), .inl (cI, 20, .inl (fun k => zI ((go 7) k))))]) (fun _ => rfl) (fun g60 e_g60 H locs hP hD hS => ?_)
          obtain ⟨i61, e_i61⟩ : ∃ i61 : Nat → Int, i61 = fun k => [(ii 0), ((ii 1) + 1), 1, (ii 3), (ii 4), (ii 5)].getD k 0 := ⟨_, rfl⟩
          have e_i61_0 : i61 0 = (ii 0) := congrFun e_i61 0
          have e_i61_1 : i61 1 = ((ii 1) + 1) := congrFun e_i61 1
          have e_i61_2 : i61 2 = 1 := congrFun e_i61 2
          have e_i61_3 : i61 3 = (ii 3) := congrFun e_i61 3
          have e_i61_4 : i61 4 = (ii 4) := congrFun e_i61 4
          have e_i61_5 : i61 5 = (ii 5) := congrFun e_i61 5
          obtain ⟨gg62, e_gg62⟩ : ∃ gg62 : Nat → Nat → Int, gg62 = fun k => [(gg 0), (gg 1), (gg 2), g60].getD k (fun _ => 0) := ⟨_, rfl⟩
          have hO63 : WalkOk i61 gg62 := ⟨by omega, by rw [e_gg62]; exact hG.2⟩
          have hf64 := hO63.1
          have hP : va_P G vwCl [(b, .inr (6, [.int (zI (i61 0)), .int (zI (i61 1)), .int (zI (i61 2)), .int (zI (i61 3)), .int (zI (i61 4)), .ref (q 0), .ref (q 1), .ref (q 2), .long (zL (i61 5)), .ref (q 3)])), ((q 0), .inl (cI, 4, .inl (fun k => zI ((gg62 0) k)))), ((q 1), .inl (cI, 20, .inl (fun k => zI ((gg62 1) k)))), ((q 2), .inl (cI, 20, .inl (fun k => zI ((gg62 2) k)))), ((q 3), .inl (cI, 100, .inl (fun k => zI ((gg62 3) k)))), (o, .inr (2, [.int (zI no), .ref (qo 0), .ref (qo 1), .ref (qo 2), .ref (qo 3), .ref (qo 4), .ref (qo 5), .ref (qo 6), .ref (qo 7)])), ((qo 0), .inl (cI, 10, .inl (fun k => zI ((go 0) k)))), ((qo 1), .inl (cI, 10, .inl (fun k => zI ((go 1) k)))), ((qo 2), .inl (cI, 10, .inl (fun k => zI ((go 2) k)))), ((qo 3), .inl (cI, 40, .inl (fun k => zI ((go 3) k)))), ((qo 4), .inl (cI, 40, .inl (fun k => zI ((go 4) k)))), ((qo 5), .inl (cI, 40, .inl (fun k => zI ((go 5) k)))), ((qo 6), .inl (cI, 20, .inl (fun k => zI ((go 6) k)))), ((qo 7), .inl (cI, 20, .inl (fun k => zI ((go 7) k))))] H := by subst e_i61 e_gg62; exact hP
          have hD : va_D A [(b, .inr (6, [.int (zI (i61 0)), .int (zI (i61 1)), .int (zI (i61 2)), .int (zI (i61 3)), .int (zI (i61 4)), .ref (q 0), .ref (q 1), .ref (q 2), .long (zL (i61 5)), .ref (q 3)])), ((q 0), .inl (cI, 4, .inl (fun k => zI ((gg62 0) k)))), ((q 1), .inl (cI, 20, .inl (fun k => zI ((gg62 1) k)))), ((q 2), .inl (cI, 20, .inl (fun k => zI ((gg62 2) k)))), ((q 3), .inl (cI, 100, .inl (fun k => zI ((gg62 3) k)))), (o, .inr (2, [.int (zI no), .ref (qo 0), .ref (qo 1), .ref (qo 2), .ref (qo 3), .ref (qo 4), .ref (qo 5), .ref (qo 6), .ref (qo 7)])), ((qo 0), .inl (cI, 10, .inl (fun k => zI ((go 0) k)))), ((qo 1), .inl (cI, 10, .inl (fun k => zI ((go 1) k)))), ((qo 2), .inl (cI, 10, .inl (fun k => zI ((go 2) k)))), ((qo 3), .inl (cI, 40, .inl (fun k => zI ((go 3) k)))), ((qo 4), .inl (cI, 40, .inl (fun k => zI ((go 4) k)))), ((qo 5), .inl (cI, 40, .inl (fun k => zI ((go 5) k)))), ((qo 6), .inl (cI, 20, .inl (fun k => zI ((go 6) k)))), ((qo 7), .inl (cI, 20, .inl (fun k => zI ((go 7) k))))] := by subst e_i61 e_gg62; exact hD
          exact ret (i61, gg62) _ _ _ _ _ _ ⟨hO63, by dsimp only; omega⟩ (bw_subP (isC := [0, 1, 2, 3, 4, 5, 6, 7, 8, 9, 10, 11, 12, 13]) hP rfl) (hD.sub [0, 1, 2, 3, 4, 5, 6, 7, 8, 9, 10, 11, 12, 13] (by decide) rfl) hS (Nat.le_of_ble_eq_true rfl) (Nat.le_of_ble_eq_true rfl) dX6_step_146
    · refine lv_aload_n hx hb dX6_step_17 rfl (lv_at hl 2 rfl) ?_
      refine lv_aload_n hx hb dX6_step_18 rfl (lv_at hl 3 rfl) ?_
      refine lv_aload_n hx hb dX6_step_19 rfl (lv_at hl 2 rfl) ?_
      refine r_get F hK hP 0 0 rfl rfl in_X6 (by decide) k_320 rfl dX6_step_20 ?_
      refine lv_iconst (v := zI 4) hx hb dX6_step_23 rfl ?_
      refine r_imul (v := zI ((ii 0) * 4)) F dX6_step_24 (zI_mul _ _) ?_
      refine lv_iload_n hx hb dX6_step_25 rfl (lv_at hl 0 rfl) ?_
      refine r_iadd (v := zI (((ii 0) * 4) + v3)) F dX6_step_26 (zI_add _ _) ?_
      refine r_callVv (As := [.ref o, .int (zI (((ii 0) * 4) + v3))]) (rest := []) (wr := []) F hK hP hD hS hA hO hE (c_X6_act hO b q ii gg hG o qo no go hM (((ii 0) * 4) + v3) (by omega)) k_702 kv_X6_act 2 rfl (by decide +kernel) ⟨Nat.le_of_ble_eq_true rfl, Nat.le_of_ble_eq_true rfl⟩ [0, 1, 2, 3, 4, 5, 6, 7, 8, 9, 10, 11, 12, 13] [] rfl rfl (by decide) (by decide) (by decide) 0 6 rfl rfl rfl hl.1 rfl (Nat.le_of_ble_eq_true rfl) dX6_step_27 ⟨Nat.le_of_ble_eq_true rfl, Nat.le_of_ble_eq_true rfl⟩ (w1 := fun u65 => [(b, .inr (6, [.int (zI (u65.1 0)), .int (zI (u65.1 1)), .int (zI (u65.1 2)), .int (zI (u65.1 3)), .int (zI (u65.1 4)), .ref (q 0), .ref (q 1), .ref (q 2), .long (zL (u65.1 5)), .ref (q 3)])), ((q 0), .inl (cI, 4, .inl (fun k => zI ((u65.2 0) k)))), ((q 1), .inl (cI, 20, .inl (fun k => zI ((u65.2 1) k)))), ((q 2), .inl (cI, 20, .inl (fun k => zI ((u65.2 2) k)))), ((q 3), .inl (cI, 100, .inl (fun k => zI ((u65.2 3) k)))), (o, .inr (2, [.int (zI no), .ref (qo 0), .ref (qo 1), .ref (qo 2), .ref (qo 3), .ref (qo 4), .ref (qo 5), .ref (qo 6), .ref (qo 7)])), ((qo 0), .inl (cI, 10, .inl (fun k => zI ((go 0) k)))), ((qo 1), .inl (cI, 10, .inl (fun k => zI ((go 1) k)))), ((qo 2), .inl (cI, 10, .inl (fun k => zI ((go 2) k)))), ((qo 3), .inl (cI, 40, .inl (fun k => zI ((go 3) k)))), ((qo 4), .inl (cI, 40, .inl (fun k => zI ((go 4) k)))), ((qo 5), .inl (cI, 40, .inl (fun k => zI ((go 5) k)))), ((qo 6), .inl (cI, 20, .inl (fun k => zI ((go 6) k)))), ((qo 7), .inl (cI, 20, .inl (fun k => zI ((go 7) k))))]) (fun _ => rfl) (fun  u65 H locs hp66 hP hD hS => ?_)
      have hx67 := hp66.2
      have hf68 := hp66.1.1
      refine lv_iinc (v := zI (v3 + 1)) (lv' := [(3, .int (zI (v3 + 1))), (2, .int (zI ((go 2) ((i 0)).toNat))), (0, .ref b), (1, .ref o)]) hx hb dX6_step_30 hl (k := 0) rfl (zI_add _ _) (by decide) rfl (fun ls hl => ?_)
      refine lv_goto (tgt := 12) hx hb dX6_step_33 (by decide) ?_
      exact ih1 (v3 + 1) u65.1 u65.2 _ _ (by omega) (by omega) hp66.1 hP hD hS ls (lv_sub hl [0, 1, 2, 3] rfl)
theorem dX6_goOn_0 : decode cX6_goOn 0 = .ok (.aload_n 0, 1) := bo_42 (by decide +kernel)
theorem dX6_goOn_1 : decode cX6_goOn 1 = .ok (.getfield 15, 3) := bo_180 0 15 (by decide +kernel)
theorem dX6_goOn_4 : decode cX6_goOn 4 = .ok (.istore_n 3, 1) := bo_62 (by decide +kernel)
theorem dX6_goOn_5 : decode cX6_goOn 5 = .ok (.iconst 0, 1) := bo_3 (by decide +kernel)
theorem dX6_goOn_6 : decode cX6_goOn 6 = .ok (.istore 4, 2) := bo_54 (by decide +kernel)
theorem dX6_goOn_8 : decode cX6_goOn 8 = .ok (.iload 4, 2) := bo_21 (by decide +kernel)
theorem dX6_goOn_10 : decode cX6_goOn 10 = .ok (.iload_n 2, 1) := bo_28 (by decide +kernel)
theorem dX6_goOn_11 : decode cX6_goOn 11 = .ok (.if_icmp .ge 21, 3) := bo_162 0 21 (by decide +kernel)
theorem dX6_goOn_32 : decode cX6_goOn 32 = .ok (.aload_n 0, 1) := bo_42 (by decide +kernel)
theorem dX6_goOn_33 : decode cX6_goOn 33 = .ok (.getfield 15, 3) := bo_180 0 15 (by decide +kernel)
theorem dX6_goOn_36 : decode cX6_goOn 36 = .ok (.iload_n 3, 1) := bo_29 (by decide +kernel)
theorem dX6_goOn_37 : decode cX6_goOn 37 = .ok (.isub, 1) := bo_100 (by decide +kernel)
theorem dX6_goOn_38 : decode cX6_goOn 38 = .ok (.ireturn, 1) := bo_172 (by decide +kernel)
theorem dX6_goOn_14 : decode cX6_goOn 14 = .ok (.aload_n 0, 1) := bo_42 (by decide +kernel)
theorem dX6_goOn_15 : decode cX6_goOn 15 = .ok (.getfield 18, 3) := bo_180 0 18 (by decide +kernel)
theorem dX6_goOn_18 : decode cX6_goOn 18 = .ok (.ifCond .ne 14, 3) := bo_154 0 14 (by decide +kernel)
theorem dX6_goOn_21 : decode cX6_goOn 21 = .ok (.aload_n 0, 1) := bo_42 (by decide +kernel)
theorem dX6_goOn_22 : decode cX6_goOn 22 = .ok (.aload_n 1, 1) := bo_43 (by decide +kernel)
theorem dX6_goOn_23 : decode cX6_goOn 23 = .ok (.invokevirtual 71, 3) := bo_182 0 71 (by decide +kernel)
theorem k_698 : Cond.methodLink RX6 71 yX6_step ∈ bw_T := bw_m 698 (by decide +kernel) rfl
theorem kv_X6_step : bw_KV RX6 yX6_step (Cond.code yX6_step cX6_step 5 none) := ⟨bw_m 700 (by decide +kernel) rfl, bw_m 23 (by decide +kernel) rfl, bw_m 102 (by decide +kernel) rfl, bw_m 701 (by decide +kernel) rfl⟩
theorem dX6_goOn_26 : decode cX6_goOn 26 = .ok (.iinc 4 1, 3) := bo_132 4 1 (by decide +kernel)
theorem dX6_goOn_29 : decode cX6_goOn 29 = .ok (.goto (-21), 3) := bo_167 255 235 (by decide +kernel)
abbrev rm_X6_goOn : Room := { frames := 2, cells := 0, slots := 0, locals := 48 }
set_option maxRecDepth 100000 in
set_option maxHeartbeats 8000000 in
theorem c_X6_goOn {l : Launch} {E : (Nat → Prop) → State → Prop} (hO : bw_Ok E) {G : va_G} {cI cB cJ cN cW : ClassId} (b : Nat) (q : Nat → Nat) (i : Nat → Int) (g : Nat → Nat → Int) (hW : WalkOk i g) (o : Nat) (qo : Nat → Nat) (no : Int) (go : Nat → Nat → Int) (hM : NetOk no go) (x : Int) (hx9 : 0 ≤ x ∧ x ≤ 1000) (hK : i 1 ≤ 1999990000) : bw_Ci (S := zU) l yX6_goOn (bw_ws (Cond.code yX6_goOn cX6_goOn 5 (some .int))) rm_X6_goOn E G (bw_kt cI cB cJ cN cW) [.ref b, .ref o, .int (zI x)] [(b, .inr (6, [.int (zI (i 0)), .int (zI (i 1)), .int (zI (i 2)), .int (zI (i 3)), .int (zI (i 4)), .ref (q 0), .ref (q 1), .ref (q 2), .long (zL (i 5)), .ref (q 3)])), ((q 0), .inl (cI, 4, .inl (fun k => zI ((g 0) k)))), ((q 1), .inl (cI, 20, .inl (fun k => zI ((g 1) k)))), ((q 2), .inl (cI, 20, .inl (fun k => zI ((g 2) k)))), ((q 3), .inl (cI, 100, .inl (fun k => zI ((g 3) k)))), (o, .inr (2, [.int (zI no), .ref (qo 0), .ref (qo 1), .ref (qo 2), .ref (qo 3), .ref (qo 4), .ref (qo 5), .ref (qo 6), .ref (qo 7)])), ((qo 0), .inl (cI, 10, .inl (fun k => zI ((go 0) k)))), ((qo 1), .inl (cI, 10, .inl (fun k => zI ((go 1) k)))), ((qo 2), .inl (cI, 10, .inl (fun k => zI ((go 2) k)))), ((qo 3), .inl (cI, 40, .inl (fun k => zI ((go 3) k)))), ((qo 4), .inl (cI, 40, .inl (fun k => zI ((go 4) k)))), ((qo 5), .inl (cI, 40, .inl (fun k => zI ((go 5) k)))), ((qo 6), .inl (cI, 20, .inl (fun k => zI ((go 6) k)))), ((qo 7), .inl (cI, 20, .inl (fun k => zI ((go 7) k))))] (fun r u => ∃ z : Int, r = zI z ∧ WalkOk u.1 u.2 ∧ (i 1 ≤ u.1 1 ∧ u.1 1 ≤ i 1 + x)) (fun u => [(b, .inr (6, [.int (zI (u.1 0)), .int (zI (u.1 1)), .int (zI (u.1 2)), .int (zI (u.1 3)), .int (zI (u.1 4)), .ref (q 0), .ref (q 1), .ref (q 2), .long (zL (u.1 5)), .ref (q 3)])), ((q 0), .inl (cI, 4, .inl (fun k => zI ((u.2 0) k)))), ((q 1), .inl (cI, 20, .inl (fun k => zI ((u.2 1) k)))), ((q 2), .inl (cI, 20, .inl (fun k => zI ((u.2 2) k)))), ((q 3), .inl (cI, 100, .inl (fun k => zI ((u.2 3) k)))), (o, .inr (2, [.int (zI no), .ref (qo 0), .ref (qo 1), .ref (qo 2), .ref (qo 3), .ref (qo 4), .ref (qo 5), .ref (qo 6), .ref (qo 7)])), ((qo 0), .inl (cI, 10, .inl (fun k => zI ((go 0) k)))), ((qo 1), .inl (cI, 10, .inl (fun k => zI ((go 1) k)))), ((qo 2), .inl (cI, 10, .inl (fun k => zI ((go 2) k)))), ((qo 3), .inl (cI, 40, .inl (fun k => zI ((go 3) k)))), ((qo 4), .inl (cI, 40, .inl (fun k => zI ((go 4) k)))), ((qo 5), .inl (cI, 40, .inl (fun k => zI ((go 5) k)))), ((qo 6), .inl (cI, 20, .inl (fun k => zI ((go 6) k)))), ((qo 7), .inl (cI, 20, .inl (fun k => zI ((go 7) k))))]) := by
  refine bw_Ci.of (cc := cX6_goOn) (maxL := 5) (ty := .int) (by decide) rfl (Nat.le_of_ble_eq_true rfl) ?_
  intro p e s m below meth c A Q hx hb hml hts hown hin hK hA hS hP hD hE ret ls hl
  have F : CallFix p m c cX6_goOn 5 s ([.ref b, .ref o, .int (zI x)] : List Value).toArray bw_T RX6 := ⟨hx, hb, hml, hown, fun w h => hts w (List.mem_cons_of_mem _ h)⟩
  replace hl : lv_has ls 5 [(0, .ref b), (1, .ref o), (2, .int (zI x))] := hl
  have hW1 := hW.1
  have hM0 := hM.1
  refine lv_aload_n hx hb dX6_goOn_0 rfl (lv_at hl 0 rfl) ?_
  refine r_get F hK hP 0 1 rfl rfl in_X6 (by decide) k_322 rfl dX6_goOn_1 ?_
  refine lv_istore_n (lv' := [(3, .int (zI (i 1))), (0, .ref b), (1, .ref o), (2, .int (zI x))]) hx hb dX6_goOn_4 rfl hl (by decide) rfl (fun ls hl => ?_)
  refine lv_iconst (v := zI 0) hx hb dX6_goOn_5 rfl ?_
  refine lv_istore (lv' := [(4, .int (zI 0)), (3, .int (zI (i 1))), (0, .ref b), (1, .ref o), (2, .int (zI x))]) hx hb dX6_goOn_6 hl (by decide) rfl (fun ls hl => ?_)
  refine W.widen (k := 0) (n := 0) (Nat.le_of_ble_eq_true rfl) (Nat.le_of_ble_eq_true rfl) ?_
  refine (?_ : ∀ (n9_1 : Nat) (v4 : Int) (ii : Nat → Int) (gg : Nat → Nat → Int) (H : Heap) (locs : List Loc), (0 ≤ v4 ∧ v4 ≤ x ∧ i 1 ≤ ii 1 ∧ ii 1 ≤ i 1 + v4) → (x - v4 : Int).toNat < n9_1 → (WalkOk ii gg) → va_P G vwCl [(b, .inr (6, [.int (zI (ii 0)), .int (zI (ii 1)), .int (zI (ii 2)), .int (zI (ii 3)), .int (zI (ii 4)), .ref (q 0), .ref (q 1), .ref (q 2), .long (zL (ii 5)), .ref (q 3)])), ((q 0), .inl (cI, 4, .inl (fun k => zI ((gg 0) k)))), ((q 1), .inl (cI, 20, .inl (fun k => zI ((gg 1) k)))), ((q 2), .inl (cI, 20, .inl (fun k => zI ((gg 2) k)))), ((q 3), .inl (cI, 100, .inl (fun k => zI ((gg 3) k)))), (o, .inr (2, [.int (zI no), .ref (qo 0), .ref (qo 1), .ref (qo 2), .ref (qo 3), .ref (qo 4), .ref (qo 5), .ref (qo 6), .ref (qo 7)])), ((qo 0), .inl (cI, 10, .inl (fun k => zI ((go 0) k)))), ((qo 1), .inl (cI, 10, .inl (fun k => zI ((go 1) k)))), ((qo 2), .inl (cI, 10, .inl (fun k => zI ((go 2) k)))), ((qo 3), .inl (cI, 40, .inl (fun k => zI ((go 3) k)))), ((qo 4), .inl (cI, 40, .inl (fun k => zI ((go 4) k)))), ((qo 5), .inl (cI, 40, .inl (fun k => zI ((go 5) k)))), ((qo 6), .inl (cI, 20, .inl (fun k => zI ((go 6) k)))), ((qo 7), .inl (cI, 20, .inl (fun k => zI ((go 7) k))))] H → va_D A [(b, .inr (6, [.int (zI (ii 0)), .int (zI (ii 1)), .int (zI (ii 2)), .int (zI (ii 3)), .int (zI (ii 4)), .ref (q 0), .ref (q 1), .ref (q 2), .long (zL (ii 5)), .ref (q 3)])), ((q 0), .inl (cI, 4, .inl (fun k => zI ((gg 0) k)))), ((q 1), .inl (cI, 20, .inl (fun k => zI ((gg 1) k)))), ((q 2), .inl (cI, 20, .inl (fun k => zI ((gg 2) k)))), ((q 3), .inl (cI, 100, .inl (fun k => zI ((gg 3) k)))), (o, .inr (2, [.int (zI no), .ref (qo 0), .ref (qo 1), .ref (qo 2), .ref (qo 3), .ref (qo 4), .ref (qo 5), .ref (qo 6), .ref (qo 7)])), ((qo 0), .inl (cI, 10, .inl (fun k => zI ((go 0) k)))), ((qo 1), .inl (cI, 10, .inl (fun k => zI ((go 1) k)))), ((qo 2), .inl (cI, 10, .inl (fun k => zI ((go 2) k)))), ((qo 3), .inl (cI, 40, .inl (fun k => zI ((go 3) k)))), ((qo 4), .inl (cI, 40, .inl (fun k => zI ((go 4) k)))), ((qo 5), .inl (cI, 40, .inl (fun k => zI ((go 5) k)))), ((qo 6), .inl (cI, 20, .inl (fun k => zI ((go 6) k)))), ((qo 7), .inl (cI, 20, .inl (fun k => zI ((go 7) k))))] → va_S A s.heap H locs → ∀ ls : Array Slot, lv_has ls 5 [(4, .int (zI v4)), (3, .int (zI (i 1))), (0, .ref b), (1, .ref o), (2, .int (zI x))] → W p l e rm_X6_goOn s m ([.ref b, .ref o, .int (zI x)] : List Value).toArray below meth c H locs 0 0 Q (F0 m 8 ls [])) ((x - 0 : Int).toNat + 1) 0 i g _ _ (by omega) (by omega) hW hP hD hS ls hl
  clear hP hD hS hl ls
  intro n9_1
  induction n9_1 with
  | zero =>
    intro v4 ii gg H locs hI hM
    exact absurd hM (by omega)
  | succ n9_1 ih1 =>
    intro v4 ii gg H locs hI1 hM1 hG hP hD hS ls hl
    have hf1 := hG.1
    refine lv_iload hx hb dX6_goOn_8 (lv_at hl 0 rfl) ?_
    refine lv_iload_n hx hb dX6_goOn_10 rfl (lv_at hl 4 rfl) ?_
    refine rz_icmp_ge (tgt := 32) F (by omega) (by omega) dX6_goOn_11 (by decide) (fun h11_1 => ?_) (fun h11_1 => ?_)
    · refine lv_aload_n hx hb dX6_goOn_32 rfl (lv_at hl 2 rfl) ?_
      refine r_get F hK hP 0 1 rfl rfl in_X6 (by decide) k_322 rfl dX6_goOn_33 ?_
      refine lv_iload_n hx hb dX6_goOn_36 rfl (lv_at hl 1 rfl) ?_
      refine r_isub (v := zI ((ii 1) - (i 1))) F dX6_goOn_37 (zI_sub _ _) ?_
      exact ret (zI ((ii 1) - (i 1))) (ii, gg) _ _ _ _ _ _ rfl ⟨((ii 1) - (i 1)), rfl, hG, by dsimp only; omega⟩ (bw_subP (isC := [0, 1, 2, 3, 4, 5, 6, 7, 8, 9, 10, 11, 12, 13]) hP rfl) (hD.sub [0, 1, 2, 3, 4, 5, 6, 7, 8, 9, 10, 11, 12, 13] (by decide) rfl) hS (Nat.le_of_ble_eq_true rfl) (Nat.le_of_ble_eq_true rfl) dX6_goOn_38
    · refine lv_aload_n hx hb dX6_goOn_14 rfl (lv_at hl 2 rfl) ?_
      refine r_get F hK hP 0 2 rfl rfl in_X6 (by decide) k_325 rfl dX6_goOn_15 ?_
      refine rz_if_ne (tgt := 32) F (by omega) dX6_goOn_18 (by decide) (fun h18_2 => ?_) (fun h18_2 => ?_)
      · refine lv_aload_n hx hb dX6_goOn_32 rfl (lv_at hl 2 rfl) ?_
        refine r_get F hK hP 0 1 rfl rfl in_X6 (by decide) k_322 rfl dX6_goOn_33 ?_
        refine lv_iload_n hx hb dX6_goOn_36 rfl (lv_at hl 1 rfl) ?_
        refine r_isub (v := zI ((ii 1) - (i 1))) F dX6_goOn_37 (zI_sub _ _) ?_
        exact ret (zI ((ii 1) - (i 1))) (ii, gg) _ _ _ _ _ _ rfl ⟨((ii 1) - (i 1)), rfl, hG, by dsimp only; omega⟩ (bw_subP (isC := [0, 1, 2, 3, 4, 5, 6, 7, 8, 9, 10, 11, 12, 13]) hP rfl) (hD.sub [0, 1, 2, 3, 4, 5, 6, 7, 8, 9, 10, 11, 12, 13] (by decide) rfl) hS (Nat.le_of_ble_eq_true rfl) (Nat.le_of_ble_eq_true rfl) dX6_goOn_38
      · refine lv_aload_n hx hb dX6_goOn_21 rfl (lv_at hl 2 rfl) ?_
        refine lv_aload_n hx hb dX6_goOn_22 rfl (lv_at hl 3 rfl) ?_
        refine r_callVv (As := [.ref o]) (rest := []) (wr := []) F hK hP hD hS hA hO hE (c_X6_step hO b q ii gg hG o qo no go hM (by omega)) k_698 kv_X6_step 1 rfl (by decide +kernel) ⟨Nat.le_of_ble_eq_true rfl, Nat.le_of_ble_eq_true rfl⟩ [0, 1, 2, 3, 4, 5, 6, 7, 8, 9, 10, 11, 12, 13] [] rfl rfl (by decide) (by decide) (by decide) 0 6 rfl rfl rfl hl.1 rfl (Nat.le_of_ble_eq_true rfl) dX6_goOn_23 ⟨Nat.le_of_ble_eq_true rfl, Nat.le_of_ble_eq_true rfl⟩ (w1 := fun u4 => [(b, .inr (6, [.int (zI (u4.1 0)), .int (zI (u4.1 1)), .int (zI (u4.1 2)), .int (zI (u4.1 3)), .int (zI (u4.1 4)), .ref (q 0), .ref (q 1), .ref (q 2), .long (zL (u4.1 5)), .ref (q 3)])), ((q 0), .inl (cI, 4, .inl (fun k => zI ((u4.2 0) k)))), ((q 1), .inl (cI, 20, .inl (fun k => zI ((u4.2 1) k)))), ((q 2), .inl (cI, 20, .inl (fun k => zI ((u4.2 2) k)))), ((q 3), .inl (cI, 100, .inl (fun k => zI ((u4.2 3) k)))), (o, .inr (2, [.int (zI no), .ref (qo 0), .ref (qo 1), .ref (qo 2), .ref (qo 3), .ref (qo 4), .ref (qo 5), .ref (qo 6), .ref (qo 7)])), ((qo 0), .inl (cI, 10, .inl (fun k => zI ((go 0) k)))), ((qo 1), .inl (cI, 10, .inl (fun k => zI ((go 1) k)))), ((qo 2), .inl (cI, 10, .inl (fun k => zI ((go 2) k)))), ((qo 3), .inl (cI, 40, .inl (fun k => zI ((go 3) k)))), ((qo 4), .inl (cI, 40, .inl (fun k => zI ((go 4) k)))), ((qo 5), .inl (cI, 40, .inl (fun k => zI ((go 5) k)))), ((qo 6), .inl (cI, 20, .inl (fun k => zI ((go 6) k)))), ((qo 7), .inl (cI, 20, .inl (fun k => zI ((go 7) k))))]) (fun _ => rfl) (fun  u4 H locs hp5 hP hD hS => ?_)
        have hx6 := hp5.2
        have hf7 := hp5.1.1
        refine lv_iinc (v := zI (v4 + 1)) (lv' := [(4, .int (zI (v4 + 1))), (3, .int (zI (i 1))), (0, .ref b), (1, .ref o), (2, .int (zI x))]) hx hb dX6_goOn_26 hl (k := 0) rfl (zI_add _ _) (by decide) rfl (fun ls hl => ?_)
        refine lv_goto (tgt := 8) hx hb dX6_goOn_29 (by decide) ?_
        exact ih1 (v4 + 1) u4.1 u4.2 _ _ (by omega) (by omega) hp5.1 hP hD hS ls (lv_sub hl [0, 1, 2, 3, 4] rfl)
theorem dX6_begin_0 : decode cX6_begin 0 = .ok (.aload_n 0, 1) := bo_42 (by decide +kernel)
theorem dX6_begin_1 : decode cX6_begin 1 = .ok (.getfield 27, 3) := bo_180 0 27 (by decide +kernel)
theorem dX6_begin_4 : decode cX6_begin 4 = .ok (.iconst 0, 1) := bo_3 (by decide +kernel)
theorem dX6_begin_5 : decode cX6_begin 5 = .ok (.iload_n 2, 1) := bo_28 (by decide +kernel)
theorem dX6_begin_6 : decode cX6_begin 6 = .ok (.iastore, 1) := bo_79 (by decide +kernel)
theorem dX6_begin_7 : decode cX6_begin 7 = .ok (.aload_n 0, 1) := bo_42 (by decide +kernel)
theorem dX6_begin_8 : decode cX6_begin 8 = .ok (.getfield 27, 3) := bo_180 0 27 (by decide +kernel)
theorem dX6_begin_11 : decode cX6_begin 11 = .ok (.iconst 1, 1) := bo_4 (by decide +kernel)
theorem dX6_begin_12 : decode cX6_begin 12 = .ok (.iload_n 3, 1) := bo_29 (by decide +kernel)
theorem dX6_begin_13 : decode cX6_begin 13 = .ok (.iastore, 1) := bo_79 (by decide +kernel)
theorem dX6_begin_14 : decode cX6_begin 14 = .ok (.aload_n 0, 1) := bo_42 (by decide +kernel)
theorem dX6_begin_15 : decode cX6_begin 15 = .ok (.getfield 27, 3) := bo_180 0 27 (by decide +kernel)
theorem dX6_begin_18 : decode cX6_begin 18 = .ok (.iconst 2, 1) := bo_5 (by decide +kernel)
theorem dX6_begin_19 : decode cX6_begin 19 = .ok (.iload 4, 2) := bo_21 (by decide +kernel)
theorem dX6_begin_21 : decode cX6_begin 21 = .ok (.iastore, 1) := bo_79 (by decide +kernel)
theorem dX6_begin_22 : decode cX6_begin 22 = .ok (.aload_n 0, 1) := bo_42 (by decide +kernel)
theorem dX6_begin_23 : decode cX6_begin 23 = .ok (.getfield 27, 3) := bo_180 0 27 (by decide +kernel)
theorem dX6_begin_26 : decode cX6_begin 26 = .ok (.iconst 3, 1) := bo_6 (by decide +kernel)
theorem dX6_begin_27 : decode cX6_begin 27 = .ok (.iload 5, 2) := bo_21 (by decide +kernel)
theorem dX6_begin_29 : decode cX6_begin 29 = .ok (.iastore, 1) := bo_79 (by decide +kernel)
theorem dX6_begin_30 : decode cX6_begin 30 = .ok (.aload_n 0, 1) := bo_42 (by decide +kernel)
theorem dX6_begin_31 : decode cX6_begin 31 = .ok (.iconst 0, 1) := bo_3 (by decide +kernel)
theorem dX6_begin_32 : decode cX6_begin 32 = .ok (.putfield 9, 3) := bo_181 0 9 (by decide +kernel)
theorem dX6_begin_35 : decode cX6_begin 35 = .ok (.aload_n 0, 1) := bo_42 (by decide +kernel)
theorem dX6_begin_36 : decode cX6_begin 36 = .ok (.iconst 0, 1) := bo_3 (by decide +kernel)
theorem dX6_begin_37 : decode cX6_begin 37 = .ok (.putfield 15, 3) := bo_181 0 15 (by decide +kernel)
theorem dX6_begin_40 : decode cX6_begin 40 = .ok (.aload_n 0, 1) := bo_42 (by decide +kernel)
theorem dX6_begin_41 : decode cX6_begin 41 = .ok (.iconst 0, 1) := bo_3 (by decide +kernel)
theorem dX6_begin_42 : decode cX6_begin 42 = .ok (.putfield 21, 3) := bo_181 0 21 (by decide +kernel)
theorem dX6_begin_45 : decode cX6_begin 45 = .ok (.aload_n 0, 1) := bo_42 (by decide +kernel)
theorem dX6_begin_46 : decode cX6_begin 46 = .ok (.iconst 1, 1) := bo_4 (by decide +kernel)
theorem dX6_begin_47 : decode cX6_begin 47 = .ok (.putfield 24, 3) := bo_181 0 24 (by decide +kernel)
theorem dX6_begin_50 : decode cX6_begin 50 = .ok (.aload_n 0, 1) := bo_42 (by decide +kernel)
theorem dX6_begin_51 : decode cX6_begin 51 = .ok (.lconst 0, 1) := bo_9 (by decide +kernel)
theorem dX6_begin_52 : decode cX6_begin 52 = .ok (.putfield 37, 3) := bo_181 0 37 (by decide +kernel)
theorem dX6_begin_55 : decode cX6_begin 55 = .ok (.aload_n 0, 1) := bo_42 (by decide +kernel)
theorem dX6_begin_56 : decode cX6_begin 56 = .ok (.getfield 41, 3) := bo_180 0 41 (by decide +kernel)
theorem dX6_begin_59 : decode cX6_begin 59 = .ok (.iconst 0, 1) := bo_3 (by decide +kernel)
theorem dX6_begin_60 : decode cX6_begin 60 = .ok (.iconst 0, 1) := bo_3 (by decide +kernel)
theorem dX6_begin_61 : decode cX6_begin 61 = .ok (.iastore, 1) := bo_79 (by decide +kernel)
theorem dX6_begin_62 : decode cX6_begin 62 = .ok (.aload_n 0, 1) := bo_42 (by decide +kernel)
theorem dX6_begin_63 : decode cX6_begin 63 = .ok (.getfield 31, 3) := bo_180 0 31 (by decide +kernel)
theorem dX6_begin_66 : decode cX6_begin 66 = .ok (.iconst 0, 1) := bo_3 (by decide +kernel)
theorem dX6_begin_67 : decode cX6_begin 67 = .ok (.invokestatic 44, 3) := bo_184 0 44 (by decide +kernel)
theorem k_662 : Cond.methodLink RX6 44 yJ7_fill_53178 ∈ bw_T := bw_m 662 (by decide +kernel) rfl
theorem ks_J7_fill_53178 : bw_KS RJ7 yJ7_fill_53178 (Cond.code yJ7_fill_53178 cJ7_fill_53178 4 none) := ⟨bw_m 652 (by decide +kernel) rfl, bw_m 109 (by decide +kernel) rfl, bw_m 653 (by decide +kernel) rfl⟩
theorem dX6_begin_70 : decode cX6_begin 70 = .ok (.aload_n 0, 1) := bo_42 (by decide +kernel)
theorem dX6_begin_71 : decode cX6_begin 71 = .ok (.getfield 34, 3) := bo_180 0 34 (by decide +kernel)
theorem dX6_begin_74 : decode cX6_begin 74 = .ok (.iconst 0, 1) := bo_3 (by decide +kernel)
theorem dX6_begin_75 : decode cX6_begin 75 = .ok (.invokestatic 44, 3) := bo_184 0 44 (by decide +kernel)
theorem dX6_begin_78 : decode cX6_begin 78 = .ok (.aload_n 0, 1) := bo_42 (by decide +kernel)
theorem dX6_begin_79 : decode cX6_begin 79 = .ok (.aload_n 1, 1) := bo_43 (by decide +kernel)
theorem dX6_begin_80 : decode cX6_begin 80 = .ok (.getfield 50, 3) := bo_180 0 50 (by decide +kernel)
theorem dX6_begin_83 : decode cX6_begin 83 = .ok (.iconst 0, 1) := bo_3 (by decide +kernel)
theorem dX6_begin_84 : decode cX6_begin 84 = .ok (.iaload, 1) := bo_46 (by decide +kernel)
theorem dX6_begin_85 : decode cX6_begin 85 = .ok (.iconst (-1), 1) := bo_2 (by decide +kernel)
theorem dX6_begin_86 : decode cX6_begin 86 = .ok (.if_icmp .ne 7, 3) := bo_160 0 7 (by decide +kernel)
theorem dX6_begin_93 : decode cX6_begin 93 = .ok (.iconst 0, 1) := bo_3 (by decide +kernel)
theorem dX6_begin_94 : decode cX6_begin 94 = .ok (.putfield 18, 3) := bo_181 0 18 (by decide +kernel)
theorem dX6_begin_97 : decode cX6_begin 97 = .ok (.return_, 1) := bo_177 (by decide +kernel)
theorem dX6_begin_89 : decode cX6_begin 89 = .ok (.iconst 3, 1) := bo_6 (by decide +kernel)
theorem dX6_begin_90 : decode cX6_begin 90 = .ok (.goto 4, 3) := bo_167 0 4 (by decide +kernel)
abbrev rm_X6_begin : Room := { frames := 1, cells := 0, slots := 0, locals := 23 }
set_option maxRecDepth 100000 in
set_option maxHeartbeats 8000000 in
theorem c_X6_begin {l : Launch} {E : (Nat → Prop) → State → Prop} (hO : bw_Ok E) {G : va_G} {cI cB cJ cN cW : ClassId} (b : Nat) (q : Nat → Nat) (i : Nat → Int) (g : Nat → Nat → Int) (hW : WalkOk i g) (o : Nat) (qo : Nat → Nat) (no : Int) (go : Nat → Nat → Int) (hM : NetOk no go) (x0 : Int) (x1 : Int) (x2 : Int) (x3 : Int)  : bw_Cv (S := zU) l yX6_begin (bw_ws (Cond.code yX6_begin cX6_begin 6 none)) rm_X6_begin E G (bw_kt cI cB cJ cN cW) [.ref b, .ref o, .int (zI x0), .int (zI x1), .int (zI x2), .int (zI x3)] [(b, .inr (6, [.int (zI (i 0)), .int (zI (i 1)), .int (zI (i 2)), .int (zI (i 3)), .int (zI (i 4)), .ref (q 0), .ref (q 1), .ref (q 2), .long (zL (i 5)), .ref (q 3)])), ((q 0), .inl (cI, 4, .inl (fun k => zI ((g 0) k)))), ((q 1), .inl (cI, 20, .inl (fun k => zI ((g 1) k)))), ((q 2), .inl (cI, 20, .inl (fun k => zI ((g 2) k)))), ((q 3), .inl (cI, 100, .inl (fun k => zI ((g 3) k)))), (o, .inr (2, [.int (zI no), .ref (qo 0), .ref (qo 1), .ref (qo 2), .ref (qo 3), .ref (qo 4), .ref (qo 5), .ref (qo 6), .ref (qo 7)])), ((qo 0), .inl (cI, 10, .inl (fun k => zI ((go 0) k)))), ((qo 1), .inl (cI, 10, .inl (fun k => zI ((go 1) k)))), ((qo 2), .inl (cI, 10, .inl (fun k => zI ((go 2) k)))), ((qo 3), .inl (cI, 40, .inl (fun k => zI ((go 3) k)))), ((qo 4), .inl (cI, 40, .inl (fun k => zI ((go 4) k)))), ((qo 5), .inl (cI, 40, .inl (fun k => zI ((go 5) k)))), ((qo 6), .inl (cI, 20, .inl (fun k => zI ((go 6) k)))), ((qo 7), .inl (cI, 20, .inl (fun k => zI ((go 7) k))))] (fun u => WalkOk u.1 u.2 ∧ (u.1 1 = 0)) (fun u => [(b, .inr (6, [.int (zI (u.1 0)), .int (zI (u.1 1)), .int (zI (u.1 2)), .int (zI (u.1 3)), .int (zI (u.1 4)), .ref (q 0), .ref (q 1), .ref (q 2), .long (zL (u.1 5)), .ref (q 3)])), ((q 0), .inl (cI, 4, .inl (fun k => zI ((u.2 0) k)))), ((q 1), .inl (cI, 20, .inl (fun k => zI ((u.2 1) k)))), ((q 2), .inl (cI, 20, .inl (fun k => zI ((u.2 2) k)))), ((q 3), .inl (cI, 100, .inl (fun k => zI ((u.2 3) k)))), (o, .inr (2, [.int (zI no), .ref (qo 0), .ref (qo 1), .ref (qo 2), .ref (qo 3), .ref (qo 4), .ref (qo 5), .ref (qo 6), .ref (qo 7)])), ((qo 0), .inl (cI, 10, .inl (fun k => zI ((go 0) k)))), ((qo 1), .inl (cI, 10, .inl (fun k => zI ((go 1) k)))), ((qo 2), .inl (cI, 10, .inl (fun k => zI ((go 2) k)))), ((qo 3), .inl (cI, 40, .inl (fun k => zI ((go 3) k)))), ((qo 4), .inl (cI, 40, .inl (fun k => zI ((go 4) k)))), ((qo 5), .inl (cI, 40, .inl (fun k => zI ((go 5) k)))), ((qo 6), .inl (cI, 20, .inl (fun k => zI ((go 6) k)))), ((qo 7), .inl (cI, 20, .inl (fun k => zI ((go 7) k))))]) := by
  refine bw_Cv.of (cc := cX6_begin) (maxL := 6) (by decide) rfl (Nat.le_of_ble_eq_true rfl) ?_
  intro p e s m below meth c A Q hx hb hml hts hown hin hK hA hS hP hD hE ret ls hl
  have F : CallFix p m c cX6_begin 6 s ([.ref b, .ref o, .int (zI x0), .int (zI x1), .int (zI x2), .int (zI x3)] : List Value).toArray bw_T RX6 := ⟨hx, hb, hml, hown, fun w h => hts w (List.mem_cons_of_mem _ h)⟩
  replace hl : lv_has ls 6 [(0, .ref b), (1, .ref o), (2, .int (zI x0)), (3, .int (zI x1)), (4, .int (zI x2)), (5, .int (zI x3))] := hl
  have hW1 := hW.1
  have hM0 := hM.1
  refine lv_aload_n hx hb dX6_begin_0 rfl (lv_at hl 0 rfl) ?_
  refine r_get F hK hP 0 5 rfl rfl in_X6 (by decide) k_332 rfl dX6_begin_1 ?_
  refine lv_iconst (v := zI 0) hx hb dX6_begin_4 rfl ?_
  refine lv_iload_n hx hb dX6_begin_5 rfl (lv_at hl 2 rfl) ?_
  refine rz_iastG F hK hP hD hS 1 0 rfl rfl (by omega) (by omega) dX6_begin_6 (w1 := fun g1 => [(b, .inr (6, [.int (zI (i 0)), .int (zI (i 1)), .int (zI (i 2)), .int (zI (i 3)), .int (zI (i 4)), .ref (q 0), .ref (q 1), .ref (q 2), .long (zL (i 5)), .ref (q 3)])), ((q 0), .inl (cI, 4, .inl (fun k => zI (g1 k)))), ((q 1), .inl (cI, 20, .inl (fun k => zI ((g 1) k)))), ((q 2), .inl (cI, 20, .inl (fun k => zI ((g 2) k)))), ((q 3), .inl (cI, 100, .inl (fun k => zI ((g 3) k)))), (o, .inr (2, [.int (zI no), .ref (qo 0), .ref (qo 1), .ref (qo 2), .ref (qo 3), .ref (qo 4), .ref (qo 5), .ref (qo 6), .ref (qo 7)])), ((qo 0), .inl (cI, 10, .inl (fun k => zI ((go 0) k)))), ((qo 1), .inl (cI, 10, .inl (fun k => zI ((go 1) k)))), ((qo 2), .inl (cI, 10, .inl (fun k => zI ((go 2) k)))), ((qo 3), .inl (cI, 40, .inl (fun k => zI ((go 3) k)))), ((qo 4), .inl (cI, 40, .inl (fun k => zI ((go 4) k)))), ((qo 5), .inl (cI, 40, .inl (fun k => zI ((go 5) k)))), ((qo 6), .inl (cI, 20, .inl (fun k => zI ((go 6) k)))), ((qo 7), .inl (cI, 20, .inl (fun k => zI ((go 7) k))))]) (fun _ => rfl) (fun g1 e_g1 H locs hP hD hS => ?_)
  refine lv_aload_n hx hb dX6_begin_7 rfl (lv_at hl 0 rfl) ?_
  refine r_get F hK hP 0 5 rfl rfl in_X6 (by decide) k_332 rfl dX6_begin_8 ?_
  refine lv_iconst (v := zI 1) hx hb dX6_begin_11 rfl ?_
  refine lv_iload_n hx hb dX6_begin_12 rfl (lv_at hl 3 rfl) ?_
  refine rz_iastG F hK hP hD hS 1 0 rfl rfl (by omega) (by omega) dX6_begin_13 (w1 := fun g2 => [(b, .inr (6, [.int (zI (i 0)), .int (zI (i 1)), .int (zI (i 2)), .int (zI (i 3)), .int (zI (i 4)), .ref (q 0), .ref (q 1), .ref (q 2), .long (zL (i 5)), .ref (q 3)])), ((q 0), .inl (cI, 4, .inl (fun k => zI (g2 k)))), ((q 1), .inl (cI, 20, .inl (fun k => zI ((g 1) k)))), ((q 2), .inl (cI, 20, .inl (fun k => zI ((g 2) k)))), ((q 3), .inl (cI, 100, .inl (fun k => zI ((g 3) k)))), (o, .inr (2, [.int (zI no), .ref (qo 0), .ref (qo 1), .ref (qo 2), .ref (qo 3), .ref (qo 4), .ref (qo 5), .ref (qo 6), .ref (qo 7)])), ((qo 0), .inl (cI, 10, .inl (fun k => zI ((go 0) k)))), ((qo 1), .inl (cI, 10, .inl (fun k => zI ((go 1) k)))), ((qo 2), .inl (cI, 10, .inl (fun k => zI ((go 2) k)))), ((qo 3), .inl (cI, 40, .inl (fun k => zI ((go 3) k)))), ((qo 4), .inl (cI, 40, .inl (fun k => zI ((go 4) k)))), ((qo 5), .inl (cI, 40, .inl (fun k => zI ((go 5) k)))), ((qo 6), .inl (cI, 20, .inl (fun k => zI ((go 6) k)))), ((qo 7), .inl (cI, 20, .inl (fun k => zI ((go 7) k))))]) (fun _ => rfl) (fun g2 e_g2 H locs hP hD hS => ?_)
  refine lv_aload_n hx hb dX6_begin_14 rfl (lv_at hl 0 rfl) ?_
  refine r_get F hK hP 0 5 rfl rfl in_X6 (by decide) k_332 rfl dX6_begin_15 ?_
  refine lv_iconst (v := zI 2) hx hb dX6_begin_18 rfl ?_
  refine lv_iload hx hb dX6_begin_19 (lv_at hl 4 rfl) ?_
  refine rz_iastG F hK hP hD hS 1 0 rfl rfl (by omega) (by omega) dX6_begin_21 (w1 := fun g3 => [(b, .inr (6, [.int (zI (i 0)), .int (zI (i 1)), .int (zI (i 2)), .int (zI (i 3)), .int (zI (i 4)), .ref (q 0), .ref (q 1), .ref (q 2), .long (zL (i 5)), .ref (q 3)])), ((q 0), .inl (cI, 4, .inl (fun k => zI (g3 k)))), ((q 1), .inl (cI, 20, .inl (fun k => zI ((g 1) k)))), ((q 2), .inl (cI, 20, .inl (fun k => zI ((g 2) k)))), ((q 3), .inl (cI, 100, .inl (fun k => zI ((g 3) k)))), (o, .inr (2, [.int (zI no), .ref (qo 0), .ref (qo 1), .ref (qo 2), .ref (qo 3), .ref (qo 4), .ref (qo 5), .ref (qo 6), .ref (qo 7)])), ((qo 0), .inl (cI, 10, .inl (fun k => zI ((go 0) k)))), ((qo 1), .inl (cI, 10, .inl (fun k => zI ((go 1) k)))), ((qo 2), .inl (cI, 10, .inl (fun k => zI ((go 2) k)))), ((qo 3), .inl (cI, 40, .inl (fun k => zI ((go 3) k)))), ((qo 4), .inl (cI, 40, .inl (fun k => zI ((go 4) k)))), ((qo 5), .inl (cI, 40, .inl (fun k => zI ((go 5) k)))), ((qo 6), .inl (cI, 20, .inl (fun k => zI ((go 6) k)))), ((qo 7), .inl (cI, 20, .inl (fun k => zI ((go 7) k))))]) (fun _ => rfl) (fun g3 e_g3 H locs hP hD hS => ?_)
  refine lv_aload_n hx hb dX6_begin_22 rfl (lv_at hl 0 rfl) ?_
  refine r_get F hK hP 0 5 rfl rfl in_X6 (by decide) k_332 rfl dX6_begin_23 ?_
  refine lv_iconst (v := zI 3) hx hb dX6_begin_26 rfl ?_
  refine lv_iload hx hb dX6_begin_27 (lv_at hl 5 rfl) ?_
  refine rz_iastG F hK hP hD hS 1 0 rfl rfl (by omega) (by omega) dX6_begin_29 (w1 := fun g4 => [(b, .inr (6, [.int (zI (i 0)), .int (zI (i 1)), .int (zI (i 2)), .int (zI (i 3)), .int (zI (i 4)), .ref (q 0), .ref (q 1), .ref (q 2), .long (zL (i 5)), .ref (q 3)])), ((q 0), .inl (cI, 4, .inl (fun k => zI (g4 k)))), ((q 1), .inl (cI, 20, .inl (fun k => zI ((g 1) k)))), ((q 2), .inl (cI, 20, .inl (fun k => zI ((g 2) k)))), ((q 3), .inl (cI, 100, .inl (fun k => zI ((g 3) k)))), (o, .inr (2, [.int (zI no), .ref (qo 0), .ref (qo 1), .ref (qo 2), .ref (qo 3), .ref (qo 4), .ref (qo 5), .ref (qo 6), .ref (qo 7)])), ((qo 0), .inl (cI, 10, .inl (fun k => zI ((go 0) k)))), ((qo 1), .inl (cI, 10, .inl (fun k => zI ((go 1) k)))), ((qo 2), .inl (cI, 10, .inl (fun k => zI ((go 2) k)))), ((qo 3), .inl (cI, 40, .inl (fun k => zI ((go 3) k)))), ((qo 4), .inl (cI, 40, .inl (fun k => zI ((go 4) k)))), ((qo 5), .inl (cI, 40, .inl (fun k => zI ((go 5) k)))), ((qo 6), .inl (cI, 20, .inl (fun k => zI ((go 6) k)))), ((qo 7), .inl (cI, 20, .inl (fun k => zI ((go 7) k))))]) (fun _ => rfl) (fun g4 e_g4 H locs hP hD hS => ?_)
  refine lv_aload_n hx hb dX6_begin_30 rfl (lv_at hl 0 rfl) ?_
  refine lv_iconst (v := zI 0) hx hb dX6_begin_31 rfl ?_
  refine r_put F hK hP hD hS 0 0 rfl rfl in_X6 tyX6 tyX6_ok nmX6 (by decide) k_320 rfl rfl rfl (Nat.le_of_ble_eq_true rfl) dX6_begin_32 (w1 := [(b, .inr (6, [.int (zI 0), .int (zI (i 1)), .int (zI (i 2)), .int (zI (i 3)), .int (zI (i 4)), .ref (q 0), .ref (q 1), .ref (q 2), .long (zL (i 5)), .ref (q 3)])), ((q 0), .inl (cI, 4, .inl (fun k => zI (g4 k)))), ((q 1), .inl (cI, 20, .inl (fun k => zI ((g 1) k)))), ((q 2), .inl (cI, 20, .inl (fun k => zI ((g 2) k)))), ((q 3), .inl (cI, 100, .inl (fun k => zI ((g 3) k)))), (o, .inr (2, [.int (zI no), .ref (qo 0), .ref (qo 1), .ref (qo 2), .ref (qo 3), .ref (qo 4), .ref (qo 5), .ref (qo 6), .ref (qo 7)])), ((qo 0), .inl (cI, 10, .inl (fun k => zI ((go 0) k)))), ((qo 1), .inl (cI, 10, .inl (fun k => zI ((go 1) k)))), ((qo 2), .inl (cI, 10, .inl (fun k => zI ((go 2) k)))), ((qo 3), .inl (cI, 40, .inl (fun k => zI ((go 3) k)))), ((qo 4), .inl (cI, 40, .inl (fun k => zI ((go 4) k)))), ((qo 5), .inl (cI, 40, .inl (fun k => zI ((go 5) k)))), ((qo 6), .inl (cI, 20, .inl (fun k => zI ((go 6) k)))), ((qo 7), .inl (cI, 20, .inl (fun k => zI ((go 7) k))))]) rfl (fun H locs hP hD hS => ?_)
  refine lv_aload_n hx hb dX6_begin_35 rfl (lv_at hl 0 rfl) ?_
  refine lv_iconst (v := zI 0) hx hb dX6_begin_36 rfl ?_
  refine r_put F hK hP hD hS 0 1 rfl rfl in_X6 tyX6 tyX6_ok nmX6 (by decide) k_322 rfl rfl rfl (Nat.le_of_ble_eq_true rfl) dX6_begin_37 (w1 := [(b, .inr (6, [.int (zI 0), .int (zI 0), .int (zI (i 2)), .int (zI (i 3)), .int (zI (i 4)), .ref (q 0), .ref (q 1), .ref (q 2), .long (zL (i 5)), .ref (q 3)])), ((q 0), .inl (cI, 4, .inl (fun k => zI (g4 k)))), ((q 1), .inl (cI, 20, .inl (fun k => zI ((g 1) k)))), ((q 2), .inl (cI, 20, .inl (fun k => zI ((g 2) k)))), ((q 3), .inl (cI, 100, .inl (fun k => zI ((g 3) k)))), (o, .inr (2, [.int (zI no), .ref (qo 0), .ref (qo 1), .ref (qo 2), .ref (qo 3), .ref (qo 4), .ref (qo 5), .ref (qo 6), .ref (qo 7)])), ((qo 0), .inl (cI, 10, .inl (fun k => zI ((go 0) k)))), ((qo 1), .inl (cI, 10, .inl (fun k => zI ((go 1) k)))), ((qo 2), .inl (cI, 10, .inl (fun k => zI ((go 2) k)))), ((qo 3), .inl (cI, 40, .inl (fun k => zI ((go 3) k)))), ((qo 4), .inl (cI, 40, .inl (fun k => zI ((go 4) k)))), ((qo 5), .inl (cI, 40, .inl (fun k => zI ((go 5) k)))), ((qo 6), .inl (cI, 20, .inl (fun k => zI ((go 6) k)))), ((qo 7), .inl (cI, 20, .inl (fun k => zI ((go 7) k))))]) rfl (fun H locs hP hD hS => ?_)
  refine lv_aload_n hx hb dX6_begin_40 rfl (lv_at hl 0 rfl) ?_
  refine lv_iconst (v := zI 0) hx hb dX6_begin_41 rfl ?_
  refine r_put F hK hP hD hS 0 3 rfl rfl in_X6 tyX6 tyX6_ok nmX6 (by decide) k_328 rfl rfl rfl (Nat.le_of_ble_eq_true rfl) dX6_begin_42 (w1 := [(b, .inr (6, [.int (zI 0), .int (zI 0), .int (zI (i 2)), .int (zI 0), .int (zI (i 4)), .ref (q 0), .ref (q 1), .ref (q 2), .long (zL (i 5)), .ref (q 3)])), ((q 0), .inl (cI, 4, .inl (fun k => zI (g4 k)))), ((q 1), .inl (cI, 20, .inl (fun k => zI ((g 1) k)))), ((q 2), .inl (cI, 20, .inl (fun k => zI ((g 2) k)))), ((q 3), .inl (cI, 100, .inl (fun k => zI ((g 3) k)))), (o, .inr (2, [.int (zI no), .ref (qo 0), .ref (qo 1), .ref (qo 2), .ref (qo 3), .ref (qo 4), .ref (qo 5), .ref (qo 6), .ref (qo 7)])), ((qo 0), .inl (cI, 10, .inl (fun k => zI ((go 0) k)))), ((qo 1), .inl (cI, 10, .inl (fun k => zI ((go 1) k)))), ((qo 2), .inl (cI, 10, .inl (fun k => zI ((go 2) k)))), ((qo 3), .inl (cI, 40, .inl (fun k => zI ((go 3) k)))), ((qo 4), .inl (cI, 40, .inl (fun k => zI ((go 4) k)))), ((qo 5), .inl (cI, 40, .inl (fun k => zI ((go 5) k)))), ((qo 6), .inl (cI, 20, .inl (fun k => zI ((go 6) k)))), ((qo 7), .inl (cI, 20, .inl (fun k => zI ((go 7) k))))]) rfl (fun H locs hP hD hS => ?_)
  refine lv_aload_n hx hb dX6_begin_45 rfl (lv_at hl 0 rfl) ?_
  refine lv_iconst (v := zI 1) hx hb dX6_begin_46 rfl ?_
  refine r_put F hK hP hD hS 0 4 rfl rfl in_X6 tyX6 tyX6_ok nmX6 (by decide) k_330 rfl rfl rfl (Nat.le_of_ble_eq_true rfl) dX6_begin_47 (w1 := [(b, .inr (6, [.int (zI 0), .int (zI 0), .int (zI (i 2)), .int (zI 0), .int (zI 1), .ref (q 0), .ref (q 1), .ref (q 2), .long (zL (i 5)), .ref (q 3)])), ((q 0), .inl (cI, 4, .inl (fun k => zI (g4 k)))), ((q 1), .inl (cI, 20, .inl (fun k => zI ((g 1) k)))), ((q 2), .inl (cI, 20, .inl (fun k => zI ((g 2) k)))), ((q 3), .inl (cI, 100, .inl (fun k => zI ((g 3) k)))), (o, .inr (2, [.int (zI no), .ref (qo 0), .ref (qo 1), .ref (qo 2), .ref (qo 3), .ref (qo 4), .ref (qo 5), .ref (qo 6), .ref (qo 7)])), ((qo 0), .inl (cI, 10, .inl (fun k => zI ((go 0) k)))), ((qo 1), .inl (cI, 10, .inl (fun k => zI ((go 1) k)))), ((qo 2), .inl (cI, 10, .inl (fun k => zI ((go 2) k)))), ((qo 3), .inl (cI, 40, .inl (fun k => zI ((go 3) k)))), ((qo 4), .inl (cI, 40, .inl (fun k => zI ((go 4) k)))), ((qo 5), .inl (cI, 40, .inl (fun k => zI ((go 5) k)))), ((qo 6), .inl (cI, 20, .inl (fun k => zI ((go 6) k)))), ((qo 7), .inl (cI, 20, .inl (fun k => zI ((go 7) k))))]) rfl (fun H locs hP hD hS => ?_)
  refine lv_aload_n hx hb dX6_begin_50 rfl (lv_at hl 0 rfl) ?_
  refine lv_lconst (v := (zL 0)) hx hb dX6_begin_51 rfl ?_
  refine r_put F hK hP hD hS 0 8 rfl rfl in_X6 tyX6 tyX6_ok nmX6 (by decide) k_338 rfl rfl rfl (Nat.le_of_ble_eq_true rfl) dX6_begin_52 (w1 := [(b, .inr (6, [.int (zI 0), .int (zI 0), .int (zI (i 2)), .int (zI 0), .int (zI 1), .ref (q 0), .ref (q 1), .ref (q 2), .long (zL 0), .ref (q 3)])), ((q 0), .inl (cI, 4, .inl (fun k => zI (g4 k)))), ((q 1), .inl (cI, 20, .inl (fun k => zI ((g 1) k)))), ((q 2), .inl (cI, 20, .inl (fun k => zI ((g 2) k)))), ((q 3), .inl (cI, 100, .inl (fun k => zI ((g 3) k)))), (o, .inr (2, [.int (zI no), .ref (qo 0), .ref (qo 1), .ref (qo 2), .ref (qo 3), .ref (qo 4), .ref (qo 5), .ref (qo 6), .ref (qo 7)])), ((qo 0), .inl (cI, 10, .inl (fun k => zI ((go 0) k)))), ((qo 1), .inl (cI, 10, .inl (fun k => zI ((go 1) k)))), ((qo 2), .inl (cI, 10, .inl (fun k => zI ((go 2) k)))), ((qo 3), .inl (cI, 40, .inl (fun k => zI ((go 3) k)))), ((qo 4), .inl (cI, 40, .inl (fun k => zI ((go 4) k)))), ((qo 5), .inl (cI, 40, .inl (fun k => zI ((go 5) k)))), ((qo 6), .inl (cI, 20, .inl (fun k => zI ((go 6) k)))), ((qo 7), .inl (cI, 20, .inl (fun k => zI ((go 7) k))))]) rfl (fun H locs hP hD hS => ?_)
  refine lv_aload_n hx hb dX6_begin_55 rfl (lv_at hl 0 rfl) ?_
  refine r_get F hK hP 0 9 rfl rfl in_X6 (by decide) k_339 rfl dX6_begin_56 ?_
  refine lv_iconst (v := zI 0) hx hb dX6_begin_59 rfl ?_
  refine lv_iconst (v := zI 0) hx hb dX6_begin_60 rfl ?_
  refine rz_iastG F hK hP hD hS 4 0 rfl rfl (by omega) (by omega) dX6_begin_61 (w1 := fun g5 => [(b, .inr (6, [.int (zI 0), .int (zI 0), .int (zI (i 2)), .int (zI 0), .int (zI 1), .ref (q 0), .ref (q 1), .ref (q 2), .long (zL 0), .ref (q 3)])), ((q 0), .inl (cI, 4, .inl (fun k => zI (g4 k)))), ((q 1), .inl (cI, 20, .inl (fun k => zI ((g 1) k)))), ((q 2), .inl (cI, 20, .inl (fun k => zI ((g 2) k)))), ((q 3), .inl (cI, 100, .inl (fun k => zI (g5 k)))), (o, .inr (2, [.int (zI no), .ref (qo 0), .ref (qo 1), .ref (qo 2), .ref (qo 3), .ref (qo 4), .ref (qo 5), .ref (qo 6), .ref (qo 7)])), ((qo 0), .inl (cI, 10, .inl (fun k => zI ((go 0) k)))), ((qo 1), .inl (cI, 10, .inl (fun k => zI ((go 1) k)))), ((qo 2), .inl (cI, 10, .inl (fun k => zI ((go 2) k)))), ((qo 3), .inl (cI, 40, .inl (fun k => zI ((go 3) k)))), ((qo 4), .inl (cI, 40, .inl (fun k => zI ((go 4) k)))), ((qo 5), .inl (cI, 40, .inl (fun k => zI ((go 5) k)))), ((qo 6), .inl (cI, 20, .inl (fun k => zI ((go 6) k)))), ((qo 7), .inl (cI, 20, .inl (fun k => zI ((go 7) k))))]) (fun _ => rfl) (fun g5 e_g5 H locs hP hD hS => ?_)
  refine lv_aload_n hx hb dX6_begin_62 rfl (lv_at hl 0 rfl) ?_
  refine r_get F hK hP 0 6 rfl rfl in_X6 (by decide) k_334 rfl dX6_begin_63 ?_
  refine lv_iconst (v := zI 0) hx hb dX6_begin_66 rfl ?_
  refine r_callZv (As := [.ref (q 1), .int (zI 0)]) (rest := []) (wr := [(b, .inr (6, [.int (zI 0), .int (zI 0), .int (zI (i 2)), .int (zI 0), .int (zI 1), .ref (q 0), .ref (q 1), .ref (q 2), .long (zL 0), .ref (q 3)])), ((q 0), .inl (cI, 4, .inl (fun k => zI (g4 k)))), ((q 2), .inl (cI, 20, .inl (fun k => zI ((g 2) k)))), ((q 3), .inl (cI, 100, .inl (fun k => zI (g5 k)))), (o, .inr (2, [.int (zI no), .ref (qo 0), .ref (qo 1), .ref (qo 2), .ref (qo 3), .ref (qo 4), .ref (qo 5), .ref (qo 6), .ref (qo 7)])), ((qo 0), .inl (cI, 10, .inl (fun k => zI ((go 0) k)))), ((qo 1), .inl (cI, 10, .inl (fun k => zI ((go 1) k)))), ((qo 2), .inl (cI, 10, .inl (fun k => zI ((go 2) k)))), ((qo 3), .inl (cI, 40, .inl (fun k => zI ((go 3) k)))), ((qo 4), .inl (cI, 40, .inl (fun k => zI ((go 4) k)))), ((qo 5), .inl (cI, 40, .inl (fun k => zI ((go 5) k)))), ((qo 6), .inl (cI, 20, .inl (fun k => zI ((go 6) k)))), ((qo 7), .inl (cI, 20, .inl (fun k => zI ((go 7) k))))]) F hK hP hD hS hA hO hE (c_J7_fill hO (q 1) 20 (by decide) (g 1) 0) k_662 ks_J7_fill_53178 2 rfl (by decide +kernel) ⟨Nat.le_of_ble_eq_true rfl, Nat.le_of_ble_eq_true rfl⟩ [2] [0, 1, 3, 4, 5, 6, 7, 8, 9, 10, 11, 12, 13] rfl rfl (by decide) (by decide) (by decide) hl.1 rfl (Nat.le_of_ble_eq_true rfl) dX6_begin_67 ⟨Nat.le_of_ble_eq_true rfl, Nat.le_of_ble_eq_true rfl⟩ (w1 := fun u6 => [(b, .inr (6, [.int (zI 0), .int (zI 0), .int (zI (i 2)), .int (zI 0), .int (zI 1), .ref (q 0), .ref (q 1), .ref (q 2), .long (zL 0), .ref (q 3)])), ((q 0), .inl (cI, 4, .inl (fun k => zI (g4 k)))), ((q 2), .inl (cI, 20, .inl (fun k => zI ((g 2) k)))), ((q 3), .inl (cI, 100, .inl (fun k => zI (g5 k)))), (o, .inr (2, [.int (zI no), .ref (qo 0), .ref (qo 1), .ref (qo 2), .ref (qo 3), .ref (qo 4), .ref (qo 5), .ref (qo 6), .ref (qo 7)])), ((qo 0), .inl (cI, 10, .inl (fun k => zI ((go 0) k)))), ((qo 1), .inl (cI, 10, .inl (fun k => zI ((go 1) k)))), ((qo 2), .inl (cI, 10, .inl (fun k => zI ((go 2) k)))), ((qo 3), .inl (cI, 40, .inl (fun k => zI ((go 3) k)))), ((qo 4), .inl (cI, 40, .inl (fun k => zI ((go 4) k)))), ((qo 5), .inl (cI, 40, .inl (fun k => zI ((go 5) k)))), ((qo 6), .inl (cI, 20, .inl (fun k => zI ((go 6) k)))), ((qo 7), .inl (cI, 20, .inl (fun k => zI ((go 7) k)))), ((q 1), .inl (cI, 20, .inl (fun k => zI ((u6.2 0) k))))]) (fun _ => rfl) (fun  u6 H locs hp7 hP hD hS => ?_)
  have hr8 : ∀ k, k < 20 → 0 ≤ (u6.2 0) k ∧ (u6.2 0) k ≤ 9 := fun k hk => by rw [hp7 k hk]; omega
  refine lv_aload_n hx hb dX6_begin_70 rfl (lv_at hl 0 rfl) ?_
  refine r_get F hK hP 0 7 rfl rfl in_X6 (by decide) k_336 rfl dX6_begin_71 ?_
  refine lv_iconst (v := zI 0) hx hb dX6_begin_74 rfl ?_
  refine r_callZv (As := [.ref (q 2), .int (zI 0)]) (rest := []) (wr := [(b, .inr (6, [.int (zI 0), .int (zI 0), .int (zI (i 2)), .int (zI 0), .int (zI 1), .ref (q 0), .ref (q 1), .ref (q 2), .long (zL 0), .ref (q 3)])), ((q 0), .inl (cI, 4, .inl (fun k => zI (g4 k)))), ((q 3), .inl (cI, 100, .inl (fun k => zI (g5 k)))), (o, .inr (2, [.int (zI no), .ref (qo 0), .ref (qo 1), .ref (qo 2), .ref (qo 3), .ref (qo 4), .ref (qo 5), .ref (qo 6), .ref (qo 7)])), ((qo 0), .inl (cI, 10, .inl (fun k => zI ((go 0) k)))), ((qo 1), .inl (cI, 10, .inl (fun k => zI ((go 1) k)))), ((qo 2), .inl (cI, 10, .inl (fun k => zI ((go 2) k)))), ((qo 3), .inl (cI, 40, .inl (fun k => zI ((go 3) k)))), ((qo 4), .inl (cI, 40, .inl (fun k => zI ((go 4) k)))), ((qo 5), .inl (cI, 40, .inl (fun k => zI ((go 5) k)))), ((qo 6), .inl (cI, 20, .inl (fun k => zI ((go 6) k)))), ((qo 7), .inl (cI, 20, .inl (fun k => zI ((go 7) k)))), ((q 1), .inl (cI, 20, .inl (fun k => zI ((u6.2 0) k))))]) F hK hP hD hS hA hO hE (c_J7_fill hO (q 2) 20 (by decide) (g 2) 0) k_662 ks_J7_fill_53178 2 rfl (by decide +kernel) ⟨Nat.le_of_ble_eq_true rfl, Nat.le_of_ble_eq_true rfl⟩ [2] [0, 1, 3, 4, 5, 6, 7, 8, 9, 10, 11, 12, 13] rfl rfl (by decide) (by decide) (by decide) hl.1 rfl (Nat.le_of_ble_eq_true rfl) dX6_begin_75 ⟨Nat.le_of_ble_eq_true rfl, Nat.le_of_ble_eq_true rfl⟩ (w1 := fun u9 => [(b, .inr (6, [.int (zI 0), .int (zI 0), .int (zI (i 2)), .int (zI 0), .int (zI 1), .ref (q 0), .ref (q 1), .ref (q 2), .long (zL 0), .ref (q 3)])), ((q 0), .inl (cI, 4, .inl (fun k => zI (g4 k)))), ((q 3), .inl (cI, 100, .inl (fun k => zI (g5 k)))), (o, .inr (2, [.int (zI no), .ref (qo 0), .ref (qo 1), .ref (qo 2), .ref (qo 3), .ref (qo 4), .ref (qo 5), .ref (qo 6), .ref (qo 7)])), ((qo 0), .inl (cI, 10, .inl (fun k => zI ((go 0) k)))), ((qo 1), .inl (cI, 10, .inl (fun k => zI ((go 1) k)))), ((qo 2), .inl (cI, 10, .inl (fun k => zI ((go 2) k)))), ((qo 3), .inl (cI, 40, .inl (fun k => zI ((go 3) k)))), ((qo 4), .inl (cI, 40, .inl (fun k => zI ((go 4) k)))), ((qo 5), .inl (cI, 40, .inl (fun k => zI ((go 5) k)))), ((qo 6), .inl (cI, 20, .inl (fun k => zI ((go 6) k)))), ((qo 7), .inl (cI, 20, .inl (fun k => zI ((go 7) k)))), ((q 1), .inl (cI, 20, .inl (fun k => zI ((u6.2 0) k)))), ((q 2), .inl (cI, 20, .inl (fun k => zI ((u9.2 0) k))))]) (fun _ => rfl) (fun  u9 H locs hp10 hP hD hS => ?_)
  refine lv_aload_n hx hb dX6_begin_78 rfl (lv_at hl 0 rfl) ?_
  refine lv_aload_n hx hb dX6_begin_79 rfl (lv_at hl 1 rfl) ?_
  refine r_get F hK hP 3 1 rfl rfl in_X2 (by decide) k_148 rfl dX6_begin_80 ?_
  refine lv_iconst (v := zI 0) hx hb dX6_begin_83 rfl ?_
  refine rz_iald F hK hP 4 0 rfl rfl (by omega) (by omega) dX6_begin_84 ?_
  have h_l84_10 := hM.2.1 (0 : Int).toNat (by omega)
  refine lv_iconst (v := zI (-1)) hx hb dX6_begin_85 rfl ?_
  refine rz_icmp_ne (tgt := 93) F (by omega) (by omega) dX6_begin_86 (by decide) (fun h86_11 => ?_) (fun h86_11 => ?_)
  · refine lv_iconst (v := zI 0) hx hb dX6_begin_93 rfl ?_
    refine r_put F hK hP hD hS 0 2 rfl rfl in_X6 tyX6 tyX6_ok nmX6 (by decide) k_325 rfl rfl rfl (Nat.le_of_ble_eq_true rfl) dX6_begin_94 (w1 := [(b, .inr (6, [.int (zI 0), .int (zI 0), .int (zI 0), .int (zI 0), .int (zI 1), .ref (q 0), .ref (q 1), .ref (q 2), .long (zL 0), .ref (q 3)])), ((q 0), .inl (cI, 4, .inl (fun k => zI (g4 k)))), ((q 3), .inl (cI, 100, .inl (fun k => zI (g5 k)))), (o, .inr (2, [.int (zI no), .ref (qo 0), .ref (qo 1), .ref (qo 2), .ref (qo 3), .ref (qo 4), .ref (qo 5), .ref (qo 6), .ref (qo 7)])), ((qo 0), .inl (cI, 10, .inl (fun k => zI ((go 0) k)))), ((qo 1), .inl (cI, 10, .inl (fun k => zI ((go 1) k)))), ((qo 2), .inl (cI, 10, .inl (fun k => zI ((go 2) k)))), ((qo 3), .inl (cI, 40, .inl (fun k => zI ((go 3) k)))), ((qo 4), .inl (cI, 40, .inl (fun k => zI ((go 4) k)))), ((qo 5), .inl (cI, 40, .inl (fun k => zI ((go 5) k)))), ((qo 6), .inl (cI, 20, .inl (fun k => zI ((go 6) k)))), ((qo 7), .inl (cI, 20, .inl (fun k => zI ((go 7) k)))), ((q 1), .inl (cI, 20, .inl (fun k => zI ((u6.2 0) k)))), ((q 2), .inl (cI, 20, .inl (fun k => zI ((u9.2 0) k))))]) rfl (fun H locs hP hD hS => ?_)
    obtain ⟨i13, e_i13⟩ : ∃ i13 : Nat → Int, i13 = fun k => [0, 0, 0, 0, 1, 0].getD k 0 := ⟨_, rfl⟩
    have e_i13_0 : i13 0 = 0 := congrFun e_i13 0
    have e_i13_1 : i13 1 = 0 := congrFun e_i13 1
    have e_i13_2 : i13 2 = 0 := congrFun e_i13 2
    have e_i13_3 : i13 3 = 0 := congrFun e_i13 3
    have e_i13_4 : i13 4 = 1 := congrFun e_i13 4
    have e_i13_5 : i13 5 = 0 := congrFun e_i13 5
    obtain ⟨gg14, e_gg14⟩ : ∃ gg14 : Nat → Nat → Int, gg14 = fun k => [g4, (u6.2 0), (u9.2 0), g5].getD k (fun _ => 0) := ⟨_, rfl⟩
    have hO15 : WalkOk i13 gg14 := ⟨by omega, by rw [e_gg14]; exact hr8⟩
    have hf16 := hO15.1
    have hP : va_P G vwCl [(b, .inr (6, [.int (zI (i13 0)), .int (zI (i13 1)), .int (zI (i13 2)), .int (zI (i13 3)), .int (zI (i13 4)), .ref (q 0), .ref (q 1), .ref (q 2), .long (zL (i13 5)), .ref (q 3)])), ((q 0), .inl (cI, 4, .inl (fun k => zI ((gg14 0) k)))), ((q 3), .inl (cI, 100, .inl (fun k => zI ((gg14 3) k)))), (o, .inr (2, [.int (zI no), .ref (qo 0), .ref (qo 1), .ref (qo 2), .ref (qo 3), .ref (qo 4), .ref (qo 5), .ref (qo 6), .ref (qo 7)])), ((qo 0), .inl (cI, 10, .inl (fun k => zI ((go 0) k)))), ((qo 1), .inl (cI, 10, .inl (fun k => zI ((go 1) k)))), ((qo 2), .inl (cI, 10, .inl (fun k => zI ((go 2) k)))), ((qo 3), .inl (cI, 40, .inl (fun k => zI ((go 3) k)))), ((qo 4), .inl (cI, 40, .inl (fun k => zI ((go 4) k)))), ((qo 5), .inl (cI, 40, .inl (fun k => zI ((go 5) k)))), ((qo 6), .inl (cI, 20, .inl (fun k => zI ((go 6) k)))), ((qo 7), .inl (cI, 20, .inl (fun k => zI ((go 7) k)))), ((q 1), .inl (cI, 20, .inl (fun k => zI ((gg14 1) k)))), ((q 2), .inl (cI, 20, .inl (fun k => zI ((gg14 2) k))))] H := by subst e_i13 e_gg14; exact hP
    have hD : va_D A [(b, .inr (6, [.int (zI (i13 0)), .int (zI (i13 1)), .int (zI (i13 2)), .int (zI (i13 3)), .int (zI (i13 4)), .ref (q 0), .ref (q 1), .ref (q 2), .long (zL (i13 5)), .ref (q 3)])), ((q 0), .inl (cI, 4, .inl (fun k => zI ((gg14 0) k)))), ((q 3), .inl (cI, 100, .inl (fun k => zI ((gg14 3) k)))), (o, .inr (2, [.int (zI no), .ref (qo 0), .ref (qo 1), .ref (qo 2), .ref (qo 3), .ref (qo 4), .ref (qo 5), .ref (qo 6), .ref (qo 7)])), ((qo 0), .inl (cI, 10, .inl (fun k => zI ((go 0) k)))), ((qo 1), .inl (cI, 10, .inl (fun k => zI ((go 1) k)))), ((qo 2), .inl (cI, 10, .inl (fun k => zI ((go 2) k)))), ((qo 3), .inl (cI, 40, .inl (fun k => zI ((go 3) k)))), ((qo 4), .inl (cI, 40, .inl (fun k => zI ((go 4) k)))), ((qo 5), .inl (cI, 40, .inl (fun k => zI ((go 5) k)))), ((qo 6), .inl (cI, 20, .inl (fun k => zI ((go 6) k)))), ((qo 7), .inl (cI, 20, .inl (fun k => zI ((go 7) k)))), ((q 1), .inl (cI, 20, .inl (fun k => zI ((gg14 1) k)))), ((q 2), .inl (cI, 20, .inl (fun k => zI ((gg14 2) k))))] := by subst e_i13 e_gg14; exact hD
    exact ret (i13, gg14) _ _ _ _ _ _ ⟨hO15, by dsimp only; omega⟩ (bw_subP (isC := [0, 1, 12, 13, 2, 3, 4, 5, 6, 7, 8, 9, 10, 11]) hP rfl) (hD.sub [0, 1, 12, 13, 2, 3, 4, 5, 6, 7, 8, 9, 10, 11] (by decide) rfl) hS (Nat.le_of_ble_eq_true rfl) (Nat.le_of_ble_eq_true rfl) dX6_begin_97
  · refine lv_iconst (v := zI 3) hx hb dX6_begin_89 rfl ?_
    refine lv_goto (tgt := 94) hx hb dX6_begin_90 (by decide) ?_
    refine r_put F hK hP hD hS 0 2 rfl rfl in_X6 tyX6 tyX6_ok nmX6 (by decide) k_325 rfl rfl rfl (Nat.le_of_ble_eq_true rfl) dX6_begin_94 (w1 := [(b, .inr (6, [.int (zI 0), .int (zI 0), .int (zI 3), .int (zI 0), .int (zI 1), .ref (q 0), .ref (q 1), .ref (q 2), .long (zL 0), .ref (q 3)])), ((q 0), .inl (cI, 4, .inl (fun k => zI (g4 k)))), ((q 3), .inl (cI, 100, .inl (fun k => zI (g5 k)))), (o, .inr (2, [.int (zI no), .ref (qo 0), .ref (qo 1), .ref (qo 2), .ref (qo 3), .ref (qo 4), .ref (qo 5), .ref (qo 6), .ref (qo 7)])), ((qo 0), .inl (cI, 10, .inl (fun k => zI ((go 0) k)))), ((qo 1), .inl (cI, 10, .inl (fun k => zI ((go 1) k)))), ((qo 2), .inl (cI, 10, .inl (fun k => zI ((go 2) k)))), ((qo 3), .inl (cI, 40, .inl (fun k => zI ((go 3) k)))), ((qo 4), .inl (cI, 40, .inl (fun k => zI ((go 4) k)))), ((qo 5), .inl (cI, 40, .inl (fun k => zI ((go 5) k)))), ((qo 6), .inl (cI, 20, .inl (fun k => zI ((go 6) k)))), ((qo 7), .inl (cI, 20, .inl (fun k => zI ((go 7) k)))), ((q 1), .inl (cI, 20, .inl (fun k => zI ((u6.2 0) k)))), ((q 2), .inl (cI, 20, .inl (fun k => zI ((u9.2 0) k))))]) rfl (fun H locs hP hD hS => ?_)
    obtain ⟨i17, e_i17⟩ : ∃ i17 : Nat → Int, i17 = fun k => [0, 0, 3, 0, 1, 0].getD k 0 := ⟨_, rfl⟩
    have e_i17_0 : i17 0 = 0 := congrFun e_i17 0
    have e_i17_1 : i17 1 = 0 := congrFun e_i17 1
    have e_i17_2 : i17 2 = 3 := congrFun e_i17 2
    have e_i17_3 : i17 3 = 0 := congrFun e_i17 3
    have e_i17_4 : i17 4 = 1 := congrFun e_i17 4
    have e_i17_5 : i17 5 = 0 := congrFun e_i17 5
    obtain ⟨gg18, e_gg18⟩ : ∃ gg18 : Nat → Nat → Int, gg18 = fun k => [g4, (u6.2 0), (u9.2 0), g5].getD k (fun _ => 0) := ⟨_, rfl⟩
    have hO19 : WalkOk i17 gg18 := ⟨by omega, by rw [e_gg18]; exact hr8⟩
    have hf20 := hO19.1
    have hP : va_P G vwCl [(b, .inr (6, [.int (zI (i17 0)), .int (zI (i17 1)), .int (zI (i17 2)), .int (zI (i17 3)), .int (zI (i17 4)), .ref (q 0), .ref (q 1), .ref (q 2), .long (zL (i17 5)), .ref (q 3)])), ((q 0), .inl (cI, 4, .inl (fun k => zI ((gg18 0) k)))), ((q 3), .inl (cI, 100, .inl (fun k => zI ((gg18 3) k)))), (o, .inr (2, [.int (zI no), .ref (qo 0), .ref (qo 1), .ref (qo 2), .ref (qo 3), .ref (qo 4), .ref (qo 5), .ref (qo 6), .ref (qo 7)])), ((qo 0), .inl (cI, 10, .inl (fun k => zI ((go 0) k)))), ((qo 1), .inl (cI, 10, .inl (fun k => zI ((go 1) k)))), ((qo 2), .inl (cI, 10, .inl (fun k => zI ((go 2) k)))), ((qo 3), .inl (cI, 40, .inl (fun k => zI ((go 3) k)))), ((qo 4), .inl (cI, 40, .inl (fun k => zI ((go 4) k)))), ((qo 5), .inl (cI, 40, .inl (fun k => zI ((go 5) k)))), ((qo 6), .inl (cI, 20, .inl (fun k => zI ((go 6) k)))), ((qo 7), .inl (cI, 20, .inl (fun k => zI ((go 7) k)))), ((q 1), .inl (cI, 20, .inl (fun k => zI ((gg18 1) k)))), ((q 2), .inl (cI, 20, .inl (fun k => zI ((gg18 2) k))))] H := by subst e_i17 e_gg18; exact hP
    have hD : va_D A [(b, .inr (6, [.int (zI (i17 0)), .int (zI (i17 1)), .int (zI (i17 2)), .int (zI (i17 3)), .int (zI (i17 4)), .ref (q 0), .ref (q 1), .ref (q 2), .long (zL (i17 5)), .ref (q 3)])), ((q 0), .inl (cI, 4, .inl (fun k => zI ((gg18 0) k)))), ((q 3), .inl (cI, 100, .inl (fun k => zI ((gg18 3) k)))), (o, .inr (2, [.int (zI no), .ref (qo 0), .ref (qo 1), .ref (qo 2), .ref (qo 3), .ref (qo 4), .ref (qo 5), .ref (qo 6), .ref (qo 7)])), ((qo 0), .inl (cI, 10, .inl (fun k => zI ((go 0) k)))), ((qo 1), .inl (cI, 10, .inl (fun k => zI ((go 1) k)))), ((qo 2), .inl (cI, 10, .inl (fun k => zI ((go 2) k)))), ((qo 3), .inl (cI, 40, .inl (fun k => zI ((go 3) k)))), ((qo 4), .inl (cI, 40, .inl (fun k => zI ((go 4) k)))), ((qo 5), .inl (cI, 40, .inl (fun k => zI ((go 5) k)))), ((qo 6), .inl (cI, 20, .inl (fun k => zI ((go 6) k)))), ((qo 7), .inl (cI, 20, .inl (fun k => zI ((go 7) k)))), ((q 1), .inl (cI, 20, .inl (fun k => zI ((gg18 1) k)))), ((q 2), .inl (cI, 20, .inl (fun k => zI ((gg18 2) k))))] := by subst e_i17 e_gg18; exact hD
    exact ret (i17, gg18) _ _ _ _ _ _ ⟨hO19, by dsimp only; omega⟩ (bw_subP (isC := [0, 1, 12, 13, 2, 3, 4, 5, 6, 7, 8, 9, 10, 11]) hP rfl) (hD.sub [0, 1, 12, 13, 2, 3, 4, 5, 6, 7, 8, 9, 10, 11] (by decide) rfl) hS (Nat.le_of_ble_eq_true rfl) (Nat.le_of_ble_eq_true rfl) dX6_begin_97
theorem dX6_beginInput_0 : decode cX6_beginInput 0 = .ok (.iload_n 2, 1) := bo_28 (by decide +kernel)
theorem dX6_beginInput_1 : decode cX6_beginInput 1 = .ok (.iconst 0, 1) := bo_3 (by decide +kernel)
theorem dX6_beginInput_2 : decode cX6_beginInput 2 = .ok (.invokestatic 55, 3) := bo_184 0 55 (by decide +kernel)
theorem k_758 : Cond.methodLink RX6 55 Lib.Math.max.name ∈ bw_T := bw_m 758 (by decide +kernel) rfl
theorem k_759 : Cond.static Lib.Math.max.name ∈ bw_T := bw_m 759 (by decide +kernel) rfl
theorem k_760 : Cond.code Lib.Math.max.name Lib.Math.max.code 2 (some .int) ∈ bw_T := bw_m 760 (by decide +kernel) rfl
theorem dX6_beginInput_5 : decode cX6_beginInput 5 = .ok (.iconst 1, 1) := bo_4 (by decide +kernel)
theorem dX6_beginInput_6 : decode cX6_beginInput 6 = .ok (.iadd, 1) := bo_96 (by decide +kernel)
theorem dX6_beginInput_7 : decode cX6_beginInput 7 = .ok (.istore 4, 2) := bo_54 (by decide +kernel)
theorem dX6_beginInput_9 : decode cX6_beginInput 9 = .ok (.iload_n 3, 1) := bo_29 (by decide +kernel)
theorem dX6_beginInput_10 : decode cX6_beginInput 10 = .ok (.iload 4, 2) := bo_21 (by decide +kernel)
theorem dX6_beginInput_12 : decode cX6_beginInput 12 = .ok (.irem, 1) := bo_112 (by decide +kernel)
theorem dX6_beginInput_13 : decode cX6_beginInput 13 = .ok (.istore 5, 2) := bo_54 (by decide +kernel)
theorem dX6_beginInput_15 : decode cX6_beginInput 15 = .ok (.iload_n 3, 1) := bo_29 (by decide +kernel)
theorem dX6_beginInput_16 : decode cX6_beginInput 16 = .ok (.iload 4, 2) := bo_21 (by decide +kernel)
theorem dX6_beginInput_18 : decode cX6_beginInput 18 = .ok (.idiv, 1) := bo_108 (by decide +kernel)
theorem dX6_beginInput_19 : decode cX6_beginInput 19 = .ok (.iload 4, 2) := bo_21 (by decide +kernel)
theorem dX6_beginInput_21 : decode cX6_beginInput 21 = .ok (.irem, 1) := bo_112 (by decide +kernel)
theorem dX6_beginInput_22 : decode cX6_beginInput 22 = .ok (.istore 6, 2) := bo_54 (by decide +kernel)
theorem dX6_beginInput_24 : decode cX6_beginInput 24 = .ok (.iload_n 3, 1) := bo_29 (by decide +kernel)
theorem dX6_beginInput_25 : decode cX6_beginInput 25 = .ok (.iload 4, 2) := bo_21 (by decide +kernel)
theorem dX6_beginInput_27 : decode cX6_beginInput 27 = .ok (.iload 4, 2) := bo_21 (by decide +kernel)
theorem dX6_beginInput_29 : decode cX6_beginInput 29 = .ok (.imul, 1) := bo_104 (by decide +kernel)
theorem dX6_beginInput_30 : decode cX6_beginInput 30 = .ok (.idiv, 1) := bo_108 (by decide +kernel)
theorem dX6_beginInput_31 : decode cX6_beginInput 31 = .ok (.iload 4, 2) := bo_21 (by decide +kernel)
theorem dX6_beginInput_33 : decode cX6_beginInput 33 = .ok (.irem, 1) := bo_112 (by decide +kernel)
theorem dX6_beginInput_34 : decode cX6_beginInput 34 = .ok (.istore 7, 2) := bo_54 (by decide +kernel)
theorem dX6_beginInput_36 : decode cX6_beginInput 36 = .ok (.iload_n 3, 1) := bo_29 (by decide +kernel)
theorem dX6_beginInput_37 : decode cX6_beginInput 37 = .ok (.iload 4, 2) := bo_21 (by decide +kernel)
theorem dX6_beginInput_39 : decode cX6_beginInput 39 = .ok (.iload 4, 2) := bo_21 (by decide +kernel)
theorem dX6_beginInput_41 : decode cX6_beginInput 41 = .ok (.imul, 1) := bo_104 (by decide +kernel)
theorem dX6_beginInput_42 : decode cX6_beginInput 42 = .ok (.iload 4, 2) := bo_21 (by decide +kernel)
theorem dX6_beginInput_44 : decode cX6_beginInput 44 = .ok (.imul, 1) := bo_104 (by decide +kernel)
theorem dX6_beginInput_45 : decode cX6_beginInput 45 = .ok (.idiv, 1) := bo_108 (by decide +kernel)
theorem dX6_beginInput_46 : decode cX6_beginInput 46 = .ok (.iload 4, 2) := bo_21 (by decide +kernel)
theorem dX6_beginInput_48 : decode cX6_beginInput 48 = .ok (.irem, 1) := bo_112 (by decide +kernel)
theorem dX6_beginInput_49 : decode cX6_beginInput 49 = .ok (.istore 8, 2) := bo_54 (by decide +kernel)
theorem dX6_beginInput_51 : decode cX6_beginInput 51 = .ok (.aload_n 0, 1) := bo_42 (by decide +kernel)
theorem dX6_beginInput_52 : decode cX6_beginInput 52 = .ok (.aload_n 1, 1) := bo_43 (by decide +kernel)
theorem dX6_beginInput_53 : decode cX6_beginInput 53 = .ok (.iload 8, 2) := bo_21 (by decide +kernel)
theorem dX6_beginInput_55 : decode cX6_beginInput 55 = .ok (.iload 7, 2) := bo_21 (by decide +kernel)
theorem dX6_beginInput_57 : decode cX6_beginInput 57 = .ok (.iload 6, 2) := bo_21 (by decide +kernel)
theorem dX6_beginInput_59 : decode cX6_beginInput 59 = .ok (.iload 5, 2) := bo_21 (by decide +kernel)
theorem dX6_beginInput_61 : decode cX6_beginInput 61 = .ok (.invokevirtual 61, 3) := bo_182 0 61 (by decide +kernel)
theorem k_761 : Cond.methodLink RX6 61 yX6_begin ∈ bw_T := bw_m 761 (by decide +kernel) rfl
theorem kv_X6_begin : bw_KV RX6 yX6_begin (Cond.code yX6_begin cX6_begin 6 none) := ⟨bw_m 659 (by decide +kernel) rfl, bw_m 660 (by decide +kernel) rfl, bw_m 102 (by decide +kernel) rfl, bw_m 661 (by decide +kernel) rfl⟩
theorem dX6_beginInput_64 : decode cX6_beginInput 64 = .ok (.return_, 1) := bo_177 (by decide +kernel)
abbrev rm_X6_beginInput : Room := { frames := 2, cells := 0, slots := 0, locals := 48 }
set_option maxRecDepth 100000 in
set_option maxHeartbeats 8000000 in
theorem c_X6_beginInput {l : Launch} {E : (Nat → Prop) → State → Prop} (hO : bw_Ok E) {G : va_G} {cI cB cJ cN cW : ClassId} (b : Nat) (q : Nat → Nat) (i : Nat → Int) (g : Nat → Nat → Int) (hW : WalkOk i g) (o : Nat) (qo : Nat → Nat) (no : Int) (go : Nat → Nat → Int) (hM : NetOk no go) (x : Int) (y : Int) (hx9 : -1 ≤ x ∧ x ≤ 3) (hy9 : 0 ≤ y ∧ y < 256) : bw_Cv (S := zU) l yX6_beginInput (bw_ws (Cond.code yX6_beginInput cX6_beginInput 9 none)) rm_X6_beginInput E G (bw_kt cI cB cJ cN cW) [.ref b, .ref o, .int (zI x), .int (zI y)] [(b, .inr (6, [.int (zI (i 0)), .int (zI (i 1)), .int (zI (i 2)), .int (zI (i 3)), .int (zI (i 4)), .ref (q 0), .ref (q 1), .ref (q 2), .long (zL (i 5)), .ref (q 3)])), ((q 0), .inl (cI, 4, .inl (fun k => zI ((g 0) k)))), ((q 1), .inl (cI, 20, .inl (fun k => zI ((g 1) k)))), ((q 2), .inl (cI, 20, .inl (fun k => zI ((g 2) k)))), ((q 3), .inl (cI, 100, .inl (fun k => zI ((g 3) k)))), (o, .inr (2, [.int (zI no), .ref (qo 0), .ref (qo 1), .ref (qo 2), .ref (qo 3), .ref (qo 4), .ref (qo 5), .ref (qo 6), .ref (qo 7)])), ((qo 0), .inl (cI, 10, .inl (fun k => zI ((go 0) k)))), ((qo 1), .inl (cI, 10, .inl (fun k => zI ((go 1) k)))), ((qo 2), .inl (cI, 10, .inl (fun k => zI ((go 2) k)))), ((qo 3), .inl (cI, 40, .inl (fun k => zI ((go 3) k)))), ((qo 4), .inl (cI, 40, .inl (fun k => zI ((go 4) k)))), ((qo 5), .inl (cI, 40, .inl (fun k => zI ((go 5) k)))), ((qo 6), .inl (cI, 20, .inl (fun k => zI ((go 6) k)))), ((qo 7), .inl (cI, 20, .inl (fun k => zI ((go 7) k))))] (fun u => WalkOk u.1 u.2 ∧ (u.1 1 = 0)) (fun u => [(b, .inr (6, [.int (zI (u.1 0)), .int (zI (u.1 1)), .int (zI (u.1 2)), .int (zI (u.1 3)), .int (zI (u.1 4)), .ref (q 0), .ref (q 1), .ref (q 2), .long (zL (u.1 5)), .ref (q 3)])), ((q 0), .inl (cI, 4, .inl (fun k => zI ((u.2 0) k)))), ((q 1), .inl (cI, 20, .inl (fun k => zI ((u.2 1) k)))), ((q 2), .inl (cI, 20, .inl (fun k => zI ((u.2 2) k)))), ((q 3), .inl (cI, 100, .inl (fun k => zI ((u.2 3) k)))), (o, .inr (2, [.int (zI no), .ref (qo 0), .ref (qo 1), .ref (qo 2), .ref (qo 3), .ref (qo 4), .ref (qo 5), .ref (qo 6), .ref (qo 7)])), ((qo 0), .inl (cI, 10, .inl (fun k => zI ((go 0) k)))), ((qo 1), .inl (cI, 10, .inl (fun k => zI ((go 1) k)))), ((qo 2), .inl (cI, 10, .inl (fun k => zI ((go 2) k)))), ((qo 3), .inl (cI, 40, .inl (fun k => zI ((go 3) k)))), ((qo 4), .inl (cI, 40, .inl (fun k => zI ((go 4) k)))), ((qo 5), .inl (cI, 40, .inl (fun k => zI ((go 5) k)))), ((qo 6), .inl (cI, 20, .inl (fun k => zI ((go 6) k)))), ((qo 7), .inl (cI, 20, .inl (fun k => zI ((go 7) k))))]) := by
  refine bw_Cv.of (cc := cX6_beginInput) (maxL := 9) (by decide) rfl (Nat.le_of_ble_eq_true rfl) ?_
  intro p e s m below meth c A Q hx hb hml hts hown hin hK hA hS hP hD hE ret ls hl
  have F : CallFix p m c cX6_beginInput 9 s ([.ref b, .ref o, .int (zI x), .int (zI y)] : List Value).toArray bw_T RX6 := ⟨hx, hb, hml, hown, fun w h => hts w (List.mem_cons_of_mem _ h)⟩
  replace hl : lv_has ls 9 [(0, .ref b), (1, .ref o), (2, .int (zI x)), (3, .int (zI y))] := hl
  have hW1 := hW.1
  have hM0 := hM.1
  refine lv_iload_n hx hb dX6_beginInput_0 rfl (lv_at hl 2 rfl) ?_
  refine lv_iconst (v := zI 0) hx hb dX6_beginInput_1 rfl ?_
  refine rz_max F k_758 k_759 k_110 k_760 hl.1 (Nat.le_of_ble_eq_true rfl) (Nat.le_of_ble_eq_true rfl) (Nat.le_of_ble_eq_true rfl) (Nat.le_of_ble_eq_true rfl) (by omega) (by omega) dX6_beginInput_2 (fun z1 h_z1 => ?_)
  have hb0 : 1 ≤ ((z1 + 1) * (z1 + 1)) ∧ ((z1 + 1) * (z1 + 1)) ≤ 16 := by rcases (show z1 = 0 ∨ z1 = 1 ∨ z1 = 2 ∨ z1 = 3 by omega) with q | q | q | q <;> rw [q] <;> decide
  have hb1 : 1 ≤ (((z1 + 1) * (z1 + 1)) * (z1 + 1)) ∧ (((z1 + 1) * (z1 + 1)) * (z1 + 1)) ≤ 64 := by rcases (show z1 = 0 ∨ z1 = 1 ∨ z1 = 2 ∨ z1 = 3 by omega) with q | q | q | q <;> rw [q] <;> decide
  refine lv_iconst (v := zI 1) hx hb dX6_beginInput_5 rfl ?_
  refine r_iadd (v := zI (z1 + 1)) F dX6_beginInput_6 (zI_add _ _) ?_
  refine lv_istore (lv' := [(4, .int (zI (z1 + 1))), (0, .ref b), (1, .ref o), (2, .int (zI x)), (3, .int (zI y))]) hx hb dX6_beginInput_7 hl (by decide) rfl (fun ls hl => ?_)
  refine lv_iload_n hx hb dX6_beginInput_9 rfl (lv_at hl 4 rfl) ?_
  refine lv_iload hx hb dX6_beginInput_10 (lv_at hl 0 rfl) ?_
  refine rz_irem F (by omega) (by omega) dX6_beginInput_12 (fun z2 h_z2 => ?_)
  refine lv_istore (lv' := [(5, .int (zI z2)), (4, .int (zI (z1 + 1))), (0, .ref b), (1, .ref o), (2, .int (zI x)), (3, .int (zI y))]) hx hb dX6_beginInput_13 hl (by decide) rfl (fun ls hl => ?_)
  refine lv_iload_n hx hb dX6_beginInput_15 rfl (lv_at hl 5 rfl) ?_
  refine lv_iload hx hb dX6_beginInput_16 (lv_at hl 1 rfl) ?_
  refine rz_idiv F (by omega) (by omega) dX6_beginInput_18 (fun z3 h_z3 => ?_)
  refine lv_iload hx hb dX6_beginInput_19 (lv_at hl 1 rfl) ?_
  refine rz_irem F (by omega) (by omega) dX6_beginInput_21 (fun z4 h_z4 => ?_)
  refine lv_istore (lv' := [(6, .int (zI z4)), (5, .int (zI z2)), (4, .int (zI (z1 + 1))), (0, .ref b), (1, .ref o), (2, .int (zI x)), (3, .int (zI y))]) hx hb dX6_beginInput_22 hl (by decide) rfl (fun ls hl => ?_)
  refine lv_iload_n hx hb dX6_beginInput_24 rfl (lv_at hl 6 rfl) ?_
  refine lv_iload hx hb dX6_beginInput_25 (lv_at hl 2 rfl) ?_
  refine lv_iload hx hb dX6_beginInput_27 (lv_at hl 2 rfl) ?_
  refine r_imul (v := zI ((z1 + 1) * (z1 + 1))) F dX6_beginInput_29 (zI_mul _ _) ?_
  refine rz_idiv F (by omega) (by omega) dX6_beginInput_30 (fun z5 h_z5 => ?_)
  refine lv_iload hx hb dX6_beginInput_31 (lv_at hl 2 rfl) ?_
  refine rz_irem F (by omega) (by omega) dX6_beginInput_33 (fun z6 h_z6 => ?_)
  refine lv_istore (lv' := [(7, .int (zI z6)), (6, .int (zI z4)), (5, .int (zI z2)), (4, .int (zI (z1 + 1))), (0, .ref b), (1, .ref o), (2, .int (zI x)), (3, .int (zI y))]) hx hb dX6_beginInput_34 hl (by decide) rfl (fun ls hl => ?_)
  refine lv_iload_n hx hb dX6_beginInput_36 rfl (lv_at hl 7 rfl) ?_
  refine lv_iload hx hb dX6_beginInput_37 (lv_at hl 3 rfl) ?_
  refine lv_iload hx hb dX6_beginInput_39 (lv_at hl 3 rfl) ?_
  refine r_imul (v := zI ((z1 + 1) * (z1 + 1))) F dX6_beginInput_41 (zI_mul _ _) ?_
  refine lv_iload hx hb dX6_beginInput_42 (lv_at hl 3 rfl) ?_
  refine r_imul (v := zI (((z1 + 1) * (z1 + 1)) * (z1 + 1))) F dX6_beginInput_44 (zI_mul _ _) ?_
  refine rz_idiv F (by omega) (by omega) dX6_beginInput_45 (fun z7 h_z7 => ?_)
  refine lv_iload hx hb dX6_beginInput_46 (lv_at hl 3 rfl) ?_
  refine rz_irem F (by omega) (by omega) dX6_beginInput_48 (fun z8 h_z8 => ?_)
  refine lv_istore (lv' := [(8, .int (zI z8)), (7, .int (zI z6)), (6, .int (zI z4)), (5, .int (zI z2)), (4, .int (zI (z1 + 1))), (0, .ref b), (1, .ref o), (2, .int (zI x)), (3, .int (zI y))]) hx hb dX6_beginInput_49 hl (by decide) rfl (fun ls hl => ?_)
  refine lv_aload_n hx hb dX6_beginInput_51 rfl (lv_at hl 5 rfl) ?_
  refine lv_aload_n hx hb dX6_beginInput_52 rfl (lv_at hl 6 rfl) ?_
  refine lv_iload hx hb dX6_beginInput_53 (lv_at hl 0 rfl) ?_
  refine lv_iload hx hb dX6_beginInput_55 (lv_at hl 1 rfl) ?_
  refine lv_iload hx hb dX6_beginInput_57 (lv_at hl 2 rfl) ?_
  refine lv_iload hx hb dX6_beginInput_59 (lv_at hl 3 rfl) ?_
  refine r_callVv (As := [.ref o, .int (zI z8), .int (zI z6), .int (zI z4), .int (zI z2)]) (rest := []) (wr := []) F hK hP hD hS hA hO hE (c_X6_begin hO b q i g hW o qo no go hM z8 z6 z4 z2) k_761 kv_X6_begin 5 rfl (by decide +kernel) ⟨Nat.le_of_ble_eq_true rfl, Nat.le_of_ble_eq_true rfl⟩ [0, 1, 2, 3, 4, 5, 6, 7, 8, 9, 10, 11, 12, 13] [] rfl rfl (by decide) (by decide) (by decide) 0 6 rfl rfl rfl hl.1 rfl (Nat.le_of_ble_eq_true rfl) dX6_beginInput_61 ⟨Nat.le_of_ble_eq_true rfl, Nat.le_of_ble_eq_true rfl⟩ (w1 := fun u9 => [(b, .inr (6, [.int (zI (u9.1 0)), .int (zI (u9.1 1)), .int (zI (u9.1 2)), .int (zI (u9.1 3)), .int (zI (u9.1 4)), .ref (q 0), .ref (q 1), .ref (q 2), .long (zL (u9.1 5)), .ref (q 3)])), ((q 0), .inl (cI, 4, .inl (fun k => zI ((u9.2 0) k)))), ((q 1), .inl (cI, 20, .inl (fun k => zI ((u9.2 1) k)))), ((q 2), .inl (cI, 20, .inl (fun k => zI ((u9.2 2) k)))), ((q 3), .inl (cI, 100, .inl (fun k => zI ((u9.2 3) k)))), (o, .inr (2, [.int (zI no), .ref (qo 0), .ref (qo 1), .ref (qo 2), .ref (qo 3), .ref (qo 4), .ref (qo 5), .ref (qo 6), .ref (qo 7)])), ((qo 0), .inl (cI, 10, .inl (fun k => zI ((go 0) k)))), ((qo 1), .inl (cI, 10, .inl (fun k => zI ((go 1) k)))), ((qo 2), .inl (cI, 10, .inl (fun k => zI ((go 2) k)))), ((qo 3), .inl (cI, 40, .inl (fun k => zI ((go 3) k)))), ((qo 4), .inl (cI, 40, .inl (fun k => zI ((go 4) k)))), ((qo 5), .inl (cI, 40, .inl (fun k => zI ((go 5) k)))), ((qo 6), .inl (cI, 20, .inl (fun k => zI ((go 6) k)))), ((qo 7), .inl (cI, 20, .inl (fun k => zI ((go 7) k))))]) (fun _ => rfl) (fun  u9 H locs hp10 hP hD hS => ?_)
  have hx11 := hp10.2
  have hf12 := hp10.1.1
  exact ret (u9.1, u9.2) _ _ _ _ _ _ ⟨hp10.1, by dsimp only; omega⟩ (bw_subP (isC := [0, 1, 2, 3, 4, 5, 6, 7, 8, 9, 10, 11, 12, 13]) hP rfl) (hD.sub [0, 1, 2, 3, 4, 5, 6, 7, 8, 9, 10, 11, 12, 13] (by decide) rfl) hS (Nat.le_of_ble_eq_true rfl) (Nat.le_of_ble_eq_true rfl) dX6_beginInput_64
