def AcR (gn : Nat → Nat → Int) (p : Nat → Int) (l w : Int) : Prop := gn 3 (4 * l + w).toNat = p (20 * l + 2 + 3 * w).toNat ∧ gn 4 (4 * l + w).toNat = p (20 * l + 2 + 3 * w + 1).toNat ∧ gn 5 (4 * l + w).toNat = p (20 * l + 2 + 3 * w + 2).toNat
theorem NRow.told {gn : Nat → Nat → Int} {p : Nat → Int} {k : Nat} (h : NRow gn p k) (ht : gn 0 k ≠ -1) : (p (20 * k) = 1 ∧ (gn 0 k = p (20 * k + 14) ∧ 0 ≤ gn 0 k ∧ gn 0 k ≤ 2) ∧ gn 2 k = p (20 * k + 1)
    ∧ (∀ j : Nat, (j : Int) < gn 2 k → gn 3 (4 * k + j) = p (20 * k + (2 + 3 * j)) ∧ gn 4 (4 * k + j) = p (20 * k + (2 + 3 * j + 1)) ∧ gn 5 (4 * k + j) = p (20 * k + (2 + 3 * j + 2)))
    ∧ ((gn 0 k = 0 ∧ gn 6 (2 * k) = -2 ∧ gn 7 (2 * k) = 0) ∨ (1 ≤ gn 0 k ∧ gn 6 (2 * k) = p (20 * k + 16) ∧ gn 7 (2 * k) = p (20 * k + 17) ∧ 1 ≤ gn 7 (2 * k)))
    ∧ ((gn 0 k ≠ 2 ∧ gn 1 k = -2 ∧ gn 6 (2 * k + 1) = -2 ∧ gn 7 (2 * k + 1) = 0) ∨ (gn 0 k = 2 ∧ gn 1 k = p (20 * k + 15) ∧ gn 6 (2 * k + 1) = p (20 * k + 18) ∧ gn 7 (2 * k + 1) = p (20 * k + 19) ∧ 1 ≤ gn 7 (2 * k + 1)))) := by
  rcases h with h | h
  · exact absurd h.1 ht
  · exact h
theorem NRel.acR {gn : Nat → Nat → Int} {p : Nat → Int} (h : NRel gn p) {l w : Int} (hl : 0 ≤ l ∧ l < 10) (ht : gn 0 l.toNat ≠ -1) (hw : 0 ≤ w ∧ w < gn 2 l.toNat) : AcR gn p l w := by
  obtain ⟨-, -, -, h4, -⟩ := (h l.toNat (by omega)).told ht
  obtain ⟨h5, h6, h7⟩ := h4 w.toNat (by omega)
  unfold AcR
  rw [show (4 * l + w).toNat = 4 * l.toNat + w.toNat by omega, show (20 * l + 2 + 3 * w).toNat = 20 * l.toNat + (2 + 3 * w.toNat) by omega, show (20 * l + 2 + 3 * w + 1).toNat = 20 * l.toNat + (2 + 3 * w.toNat + 1) by omega, show (20 * l + 2 + 3 * w + 2).toNat = 20 * l.toNat + (2 + 3 * w.toNat + 2) by omega]
  exact ⟨h5, h6, h7⟩
theorem NRel.td {gn : Nat → Nat → Int} {p : Nat → Int} (h : NRel gn p) {l : Int} (hl : 0 ≤ l ∧ l < 10) : (gn 0 l.toNat = -1 ∧ p (20 * l + 0).toNat = 0) ∨ (gn 0 l.toNat ≠ -1 ∧ p (20 * l + 0).toNat = 1) := by
  rw [show (20 * l + 0).toNat = 20 * l.toNat + 0 by omega]
  rcases h l.toNat (by omega) with a | a
  · exact Or.inl ⟨a.1, a.2.2 0 (by omega)⟩
  · exact Or.inr ⟨by omega, a.1⟩
/-- a way of a told line -/
theorem NRel.way {gn : Nat → Nat → Int} {p : Nat → Int} (h : NRel gn p) {l : Int} (hl : 0 ≤ l ∧ l < 10) (ht : gn 0 l.toNat ≠ -1) : gn 0 l.toNat = p (20 * l + 14).toNat ∧ gn 2 l.toNat = p (20 * l + 1).toNat ∧ (1 ≤ gn 0 l.toNat → gn 6 (2 * l).toNat = p (20 * l + 16).toNat ∧ gn 7 (2 * l).toNat = p (20 * l + 16 + 1).toNat) ∧ (gn 0 l.toNat = 2 → gn 1 l.toNat = p (20 * l + 15).toNat ∧ gn 6 (2 * l + 1).toNat = p (20 * l + 18).toNat ∧ gn 7 (2 * l + 1).toNat = p (20 * l + 18 + 1).toNat) := by
  obtain ⟨-, h2, h3, -, h5, h6⟩ := (h l.toNat (by omega)).told ht
  rw [show (20 * l + 14).toNat = 20 * l.toNat + 14 by omega, show (20 * l + 1).toNat = 20 * l.toNat + 1 by omega, show (20 * l + 16).toNat = 20 * l.toNat + 16 by omega, show (20 * l + 16 + 1).toNat = 20 * l.toNat + 17 by omega, show (20 * l + 15).toNat = 20 * l.toNat + 15 by omega, show (20 * l + 18).toNat = 20 * l.toNat + 18 by omega, show (20 * l + 18 + 1).toNat = 20 * l.toNat + 19 by omega, show (2 * l).toNat = 2 * l.toNat by omega, show (2 * l + 1).toNat = 2 * l.toNat + 1 by omega]
  refine ⟨h2.1, h3, fun q => ?_, fun q => ?_⟩
  · rcases h5 with a | a
    · exact absurd a.1 (by omega)
    · exact ⟨a.2.1, a.2.2.1⟩
  · rcases h6 with a | a
    · exact absurd q a.1
    · exact ⟨a.2.1, a.2.2.1, a.2.2.2.1⟩
theorem actF_none {p s : Nat → Int} {x w K T : Int} (hK : K = p (20 * x + 2 + 3 * w).toNat) (hT : T = p (20 * x + 2 + 3 * w + 1).toNat) (hr : 0 ≤ K ∧ K ≤ 3) (hs : K ≠ 3 → 0 ≤ s T.toNat ∧ s T.toNat ≤ 99) (h0 : K = 0 → 99 ≤ s T.toNat) (h1 : K = 1 → s T.toNat ≤ 0) (h2 : K ≠ 2) (h3 : K = 3 → s (28 + x).toNat / twoP w % 2 = 1) : actF p s x w = s := by
  unfold actF lessZ
  rw [← hK, ← hT]
  rcases (show K = 0 ∨ K = 1 ∨ K = 3 by omega) with q | q | q
  · have a := hs (by omega)
    have b := h0 q
    rw [if_pos q]
    refine uZ_self ?_
    rw [if_pos (by omega)]
    omega
  · have a := hs (by omega)
    have b := h1 q
    rw [if_neg (by omega), if_pos q]
    refine uZ_self ?_
    rw [if_neg (by omega)]
    omega
  · rw [if_neg (by omega), if_neg (by omega), if_neg (by omega), if_pos (h3 q)]
abbrev rm_X6z_act : Room := { frames := 0, cells := 0, slots := 0, locals := 0 }
set_option maxRecDepth 100000 in
set_option maxHeartbeats 8000000 in
theorem c_X6z_act {l : Launch} {E : (Nat → Prop) → State → Prop} (hO : bw_Ok E) {G : va_G} {cI cB cJ cN cW : ClassId} (b : Nat) (q : Nat → Nat) (i : Nat → Int) (g : Nat → Nat → Int) (hW : WalkOk i g) (o : Nat) (qo : Nat → Nat) (no : Int) (go : Nat → Nat → Int) (hM : NetOk no go) (x : Int) (hx9 : 0 ≤ x ∧ x < 40) (pR sR : Nat → Int) (nR : Int) (hPr : ProgOk pR) (lR wR : Int) (hSi : SI pR sR) (hl8 : 0 ≤ lR ∧ lR < 10) (hw8 : 0 ≤ wR ∧ wR < 4) (hxe : x = 4 * lR + wR) (hAc : AcR go pR lR wR) (hWR : WR nR sR i g) : bw_Cv (S := zU) l yX6_act (bw_ws (Cond.code yX6_act cX6_act 5 none)) rm_X6z_act E G (bw_kt cI cB cJ cN cW) [.ref b, .ref o, .int (zI x)] [(b, .inr (6, [.int (zI (i 0)), .int (zI (i 1)), .int (zI (i 2)), .int (zI (i 3)), .int (zI (i 4)), .ref (q 0), .ref (q 1), .ref (q 2), .long (zL (i 5)), .ref (q 3)])), ((q 0), .inl (cI, 4, .inl (fun k => zI ((g 0) k)))), ((q 1), .inl (cI, 20, .inl (fun k => zI ((g 1) k)))), ((q 2), .inl (cI, 20, .inl (fun k => zI ((g 2) k)))), ((q 3), .inl (cI, 100, .inl (fun k => zI ((g 3) k)))), (o, .inr (2, [.int (zI no), .ref (qo 0), .ref (qo 1), .ref (qo 2), .ref (qo 3), .ref (qo 4), .ref (qo 5), .ref (qo 6), .ref (qo 7)])), ((qo 0), .inl (cI, 10, .inl (fun k => zI ((go 0) k)))), ((qo 1), .inl (cI, 10, .inl (fun k => zI ((go 1) k)))), ((qo 2), .inl (cI, 10, .inl (fun k => zI ((go 2) k)))), ((qo 3), .inl (cI, 40, .inl (fun k => zI ((go 3) k)))), ((qo 4), .inl (cI, 40, .inl (fun k => zI ((go 4) k)))), ((qo 5), .inl (cI, 40, .inl (fun k => zI ((go 5) k)))), ((qo 6), .inl (cI, 20, .inl (fun k => zI ((go 6) k)))), ((qo 7), .inl (cI, 20, .inl (fun k => zI ((go 7) k))))] (fun u => WalkOk u.1 u.2 ∧ ((u.1 0 = i 0 ∧ u.1 1 = i 1 ∧ u.1 2 = i 2) ∧ WR nR (actF pR sR lR wR) u.1 u.2)) (fun u => [(b, .inr (6, [.int (zI (u.1 0)), .int (zI (u.1 1)), .int (zI (u.1 2)), .int (zI (u.1 3)), .int (zI (u.1 4)), .ref (q 0), .ref (q 1), .ref (q 2), .long (zL (u.1 5)), .ref (q 3)])), ((q 0), .inl (cI, 4, .inl (fun k => zI ((u.2 0) k)))), ((q 1), .inl (cI, 20, .inl (fun k => zI ((u.2 1) k)))), ((q 2), .inl (cI, 20, .inl (fun k => zI ((u.2 2) k)))), ((q 3), .inl (cI, 100, .inl (fun k => zI ((u.2 3) k)))), (o, .inr (2, [.int (zI no), .ref (qo 0), .ref (qo 1), .ref (qo 2), .ref (qo 3), .ref (qo 4), .ref (qo 5), .ref (qo 6), .ref (qo 7)])), ((qo 0), .inl (cI, 10, .inl (fun k => zI ((go 0) k)))), ((qo 1), .inl (cI, 10, .inl (fun k => zI ((go 1) k)))), ((qo 2), .inl (cI, 10, .inl (fun k => zI ((go 2) k)))), ((qo 3), .inl (cI, 40, .inl (fun k => zI ((go 3) k)))), ((qo 4), .inl (cI, 40, .inl (fun k => zI ((go 4) k)))), ((qo 5), .inl (cI, 40, .inl (fun k => zI ((go 5) k)))), ((qo 6), .inl (cI, 20, .inl (fun k => zI ((go 6) k)))), ((qo 7), .inl (cI, 20, .inl (fun k => zI ((go 7) k))))]) := by
  refine bw_Cv.of (cc := cX6_act) (maxL := 5) (by decide) rfl (Nat.le_of_ble_eq_true rfl) ?_
  intro p e s m below meth c A Q hx hb hml hts hown hin hK hA hS hP hD hE ret ls hl
  have F : CallFix p m c cX6_act 5 s ([.ref b, .ref o, .int (zI x)] : List Value).toArray bw_T RX6 := ⟨hx, hb, hml, hown, fun w h => hts w (List.mem_cons_of_mem _ h)⟩
  replace hl : lv_has ls 5 [(0, .ref b), (1, .ref o), (2, .int (zI x))] := hl
  have hW1 := hW.1
  have hM0 := hM.1
  have hA0 : go 3 (x).toNat = pR (20 * lR + 2 + 3 * wR).toNat := by rw [hxe]; exact hAc.1
  have hA1 : go 4 (x).toNat = pR (20 * lR + 2 + 3 * wR + 1).toNat := by rw [hxe]; exact hAc.2.1
  have hA2 : go 5 (x).toNat = pR (20 * lR + 2 + 3 * wR + 2).toNat := by rw [hxe]; exact hAc.2.2
  have hG5 : 0 ≤ i 5 ∧ i 5 < 1099511627776 := by rw [hWR.1.2.2.2.2]; exact gv_rg hSi.2.2.2.2
  have hgb : i 5 / p2 x % 2 = sR (28 + lR).toNat / twoP wR % 2 := by rw [hWR.1.2.2.2.2, hxe]; exact gv_bit hSi.2.2.2.2 hl8 hw8
  refine lv_aload_n hx hb dX6_act_0 rfl (lv_at hl 1 rfl) ?_
  refine r_get F hK hP 5 4 rfl rfl in_X2 (by decide) k_157 rfl dX6_act_1 ?_
  refine lv_iload_n hx hb dX6_act_4 rfl (lv_at hl 2 rfl) ?_
  refine rz_iald F hK hP 9 0 rfl rfl (by omega) (by omega) dX6_act_5 ?_
  have h_l5_0 := hM.2.2.2.2.1 (x).toNat (by omega)
  refine lv_istore_n (lv' := [(3, .int (zI ((go 3) (x).toNat))), (0, .ref b), (1, .ref o), (2, .int (zI x))]) hx hb dX6_act_6 rfl hl (by decide) rfl (fun ls hl => ?_)
  refine lv_aload_n hx hb dX6_act_7 rfl (lv_at hl 2 rfl) ?_
  refine r_get F hK hP 5 5 rfl rfl in_X2 (by decide) k_160 rfl dX6_act_8 ?_
  refine lv_iload_n hx hb dX6_act_11 rfl (lv_at hl 3 rfl) ?_
  refine rz_iald F hK hP 10 0 rfl rfl (by omega) (by omega) dX6_act_12 ?_
  have h_l12_1 := hM.2.2.2.2.2.1 (x).toNat (by omega)
  refine lv_istore (lv' := [(4, .int (zI ((go 4) (x).toNat))), (3, .int (zI ((go 3) (x).toNat))), (0, .ref b), (1, .ref o), (2, .int (zI x))]) hx hb dX6_act_13 hl (by decide) rfl (fun ls hl => ?_)
  refine lv_iload_n hx hb dX6_act_15 rfl (lv_at hl 1 rfl) ?_
  refine lv_iconst (v := zI 2) hx hb dX6_act_16 rfl ?_
  refine rz_icmp_ne (tgt := 36) F (by omega) (by omega) dX6_act_17 (by decide) (fun h17_2 => ?_) (fun h17_2 => ?_)
  · refine lv_iload_n hx hb dX6_act_36 rfl (lv_at hl 1 rfl) ?_
    refine rz_if_ne (tgt := 66) F (by omega) dX6_act_37 (by decide) (fun h37_3 => ?_) (fun h37_3 => ?_)
    · refine lv_iload_n hx hb dX6_act_66 rfl (lv_at hl 1 rfl) ?_
      refine lv_iconst (v := zI 1) hx hb dX6_act_67 rfl ?_
      refine rz_icmp_ne (tgt := 95) F (by omega) (by omega) dX6_act_68 (by decide) (fun h68_4 => ?_) (fun h68_4 => ?_)
      · refine lv_iload_n hx hb dX6_act_95 rfl (lv_at hl 1 rfl) ?_
        refine lv_iconst (v := zI 3) hx hb dX6_act_96 rfl ?_
        refine rz_icmp_ne (tgt := 147) F (by omega) (by omega) dX6_act_97 (by decide) (fun h97_5 => ?_) (fun h97_5 => ?_)
        · exact ret (i, g) _ _ _ _ _ _ ⟨hW, ⟨by dsimp only; omega, (show WR nR (actF pR sR lR wR) i g from by rw [actF_none (K := go 3 (x).toNat) (T := (go 4 (x).toNat)) hA0 hA1 (by omega) (fun q9 => hSi.1 _ (by omega)) (fun q9 => by have q8 := hWR.2.1 ((go 4 (x).toNat)).toNat (by omega); omega) (fun q9 => by have q8 := hWR.2.1 ((go 4 (x).toNat)).toNat (by omega); omega) (by omega) (fun q9 => (by exfalso; omega))]; exact hWR)⟩⟩ (bw_subP (isC := [0, 1, 2, 3, 4, 5, 6, 7, 8, 9, 10, 11, 12, 13]) hP rfl) (hD.sub [0, 1, 2, 3, 4, 5, 6, 7, 8, 9, 10, 11, 12, 13] (by decide) rfl) hS (Nat.le_of_ble_eq_true rfl) (Nat.le_of_ble_eq_true rfl) dX6_act_147
        · refine lv_aload_n hx hb dX6_act_100 rfl (lv_at hl 2 rfl) ?_
          refine r_get F hK hP 0 8 rfl rfl in_X6 (by decide) k_338 rfl dX6_act_101 ?_
          refine lv_iload_n hx hb dX6_act_104 rfl (lv_at hl 4 rfl) ?_
          refine lv_lshr hx hb dX6_act_105 rfl ?_
          refine lv_lconst (v := (zL 1)) hx hb dX6_act_106 rfl ?_
          refine lv_land hx hb dX6_act_107 ?_
          refine rz_eqL (z := (i 5) / p2 x % 2) (lbit hG5 (by omega)) ?_
          refine lv_lconst (v := (zL 0)) hx hb dX6_act_108 rfl ?_
          refine rz_lcmpE F dX6_act_109 (fun z7 h_z7 hc_z7 => ?_)
          refine rz_if_ne (tgt := 147) F (by omega) dX6_act_110 (by decide) (fun h110_7 => ?_) (fun h110_7 => ?_)
          · exact ret (i, g) _ _ _ _ _ _ ⟨hW, ⟨by dsimp only; omega, (show WR nR (actF pR sR lR wR) i g from by rw [actF_none (K := go 3 (x).toNat) (T := (go 4 (x).toNat)) hA0 hA1 (by omega) (fun q9 => hSi.1 _ (by omega)) (fun q9 => by have q8 := hWR.2.1 ((go 4 (x).toNat)).toNat (by omega); omega) (fun q9 => by have q8 := hWR.2.1 ((go 4 (x).toNat)).toNat (by omega); omega) (by omega) (fun q9 => (by rw [← hgb]; have q8 : ¬ ((i 5) / p2 x % 2 = 0) := fun q9 => absurd (hc_z7.mpr (by rw [q9])) (by omega); omega))]; exact hWR)⟩⟩ (bw_subP (isC := [0, 1, 2, 3, 4, 5, 6, 7, 8, 9, 10, 11, 12, 13]) hP rfl) (hD.sub [0, 1, 2, 3, 4, 5, 6, 7, 8, 9, 10, 11, 12, 13] (by decide) rfl) hS (Nat.le_of_ble_eq_true rfl) (Nat.le_of_ble_eq_true rfl) dX6_act_147
          · refine lv_aload_n hx hb dX6_act_113 rfl (lv_at hl 2 rfl) ?_
            have hbt : ¬ (i 5) / p2 x % 2 = 1 := fun q9 => by have q8 := zL_inj (by omega) (by omega) (hc_z7.mp (by omega)); omega
            refine lv_dup hx hb dX6_act_114 rfl ?_
            refine r_get F hK hP 0 8 rfl rfl in_X6 (by decide) k_338 rfl dX6_act_115 ?_
            refine lv_lconst (v := (zL 1)) hx hb dX6_act_118 rfl ?_
            refine lv_iload_n hx hb dX6_act_119 rfl (lv_at hl 4 rfl) ?_
            refine lv_lshl hx hb dX6_act_120 rfl ?_
            refine lv_lor hx hb dX6_act_121 ?_
            refine rz_eqL (z := (i 5) + p2 x) (lor1 hG5 (by omega) hbt) ?_
            refine r_put F hK hP hD hS 0 8 rfl rfl in_X6 tyX6 tyX6_ok nmX6 (by decide) k_338 rfl rfl rfl (Nat.le_of_ble_eq_true rfl) dX6_act_122 (w1 := [(b, .inr (6, [.int (zI (i 0)), .int (zI (i 1)), .int (zI (i 2)), .int (zI (i 3)), .int (zI (i 4)), .ref (q 0), .ref (q 1), .ref (q 2), .long (zL ((i 5) + p2 x)), .ref (q 3)])), ((q 0), .inl (cI, 4, .inl (fun k => zI ((g 0) k)))), ((q 1), .inl (cI, 20, .inl (fun k => zI ((g 1) k)))), ((q 2), .inl (cI, 20, .inl (fun k => zI ((g 2) k)))), ((q 3), .inl (cI, 100, .inl (fun k => zI ((g 3) k)))), (o, .inr (2, [.int (zI no), .ref (qo 0), .ref (qo 1), .ref (qo 2), .ref (qo 3), .ref (qo 4), .ref (qo 5), .ref (qo 6), .ref (qo 7)])), ((qo 0), .inl (cI, 10, .inl (fun k => zI ((go 0) k)))), ((qo 1), .inl (cI, 10, .inl (fun k => zI ((go 1) k)))), ((qo 2), .inl (cI, 10, .inl (fun k => zI ((go 2) k)))), ((qo 3), .inl (cI, 40, .inl (fun k => zI ((go 3) k)))), ((qo 4), .inl (cI, 40, .inl (fun k => zI ((go 4) k)))), ((qo 5), .inl (cI, 40, .inl (fun k => zI ((go 5) k)))), ((qo 6), .inl (cI, 20, .inl (fun k => zI ((go 6) k)))), ((qo 7), .inl (cI, 20, .inl (fun k => zI ((go 7) k))))]) rfl (fun H locs hP hD hS => ?_)
            refine lv_aload_n hx hb dX6_act_125 rfl (lv_at hl 2 rfl) ?_
            refine r_get F hK hP 0 6 rfl rfl in_X6 (by decide) k_334 rfl dX6_act_126 ?_
            refine lv_iconst (v := zI 2) hx hb dX6_act_129 rfl ?_
            refine lv_iload hx hb dX6_act_130 (lv_at hl 0 rfl) ?_
            refine r_imul (v := zI (2 * ((go 4) (x).toNat))) F dX6_act_132 (zI_mul _ _) ?_
            refine lv_iconst (v := zI 0) hx hb dX6_act_133 rfl ?_
            refine rz_iastG F hK hP hD hS 2 0 rfl rfl (by omega) (by omega) dX6_act_134 (w1 := fun g9 => [(b, .inr (6, [.int (zI (i 0)), .int (zI (i 1)), .int (zI (i 2)), .int (zI (i 3)), .int (zI (i 4)), .ref (q 0), .ref (q 1), .ref (q 2), .long (zL ((i 5) + p2 x)), .ref (q 3)])), ((q 0), .inl (cI, 4, .inl (fun k => zI ((g 0) k)))), ((q 1), .inl (cI, 20, .inl (fun k => zI (g9 k)))), ((q 2), .inl (cI, 20, .inl (fun k => zI ((g 2) k)))), ((q 3), .inl (cI, 100, .inl (fun k => zI ((g 3) k)))), (o, .inr (2, [.int (zI no), .ref (qo 0), .ref (qo 1), .ref (qo 2), .ref (qo 3), .ref (qo 4), .ref (qo 5), .ref (qo 6), .ref (qo 7)])), ((qo 0), .inl (cI, 10, .inl (fun k => zI ((go 0) k)))), ((qo 1), .inl (cI, 10, .inl (fun k => zI ((go 1) k)))), ((qo 2), .inl (cI, 10, .inl (fun k => zI ((go 2) k)))), ((qo 3), .inl (cI, 40, .inl (fun k => zI ((go 3) k)))), ((qo 4), .inl (cI, 40, .inl (fun k => zI ((go 4) k)))), ((qo 5), .inl (cI, 40, .inl (fun k => zI ((go 5) k)))), ((qo 6), .inl (cI, 20, .inl (fun k => zI ((go 6) k)))), ((qo 7), .inl (cI, 20, .inl (fun k => zI ((go 7) k))))]) (fun _ => rfl) (fun g9 e_g9 H locs hP hD hS => ?_)
            have h_g9 : ∀ k, k < 20 → 0 ≤ g9 k ∧ g9 k ≤ 9 := by rw [e_g9]; exact uZ_all (P := fun _ y9 => 0 ≤ y9 ∧ y9 ≤ 9) hW.2 (fun _ => by omega)
            refine lv_aload_n hx hb dX6_act_135 rfl (lv_at hl 2 rfl) ?_
            refine r_get F hK hP 0 6 rfl rfl in_X6 (by decide) k_334 rfl dX6_act_136 ?_
            refine lv_iconst (v := zI 2) hx hb dX6_act_139 rfl ?_
            refine lv_iload hx hb dX6_act_140 (lv_at hl 0 rfl) ?_
            refine r_imul (v := zI (2 * ((go 4) (x).toNat))) F dX6_act_142 (zI_mul _ _) ?_
            refine lv_iconst (v := zI 1) hx hb dX6_act_143 rfl ?_
            refine r_iadd (v := zI ((2 * ((go 4) (x).toNat)) + 1)) F dX6_act_144 (zI_add _ _) ?_
            refine lv_iconst (v := zI 0) hx hb dX6_act_145 rfl ?_
            refine rz_iastG F hK hP hD hS 2 0 rfl rfl (by omega) (by omega) dX6_act_146 (w1 := fun g10 => [(b, .inr (6, [.int (zI (i 0)), .int (zI (i 1)), .int (zI (i 2)), .int (zI (i 3)), .int (zI (i 4)), .ref (q 0), .ref (q 1), .ref (q 2), .long (zL ((i 5) + p2 x)), .ref (q 3)])), ((q 0), .inl (cI, 4, .inl (fun k => zI ((g 0) k)))), ((q 1), .inl (cI, 20, .inl (fun k => zI (g10 k)))), ((q 2), .inl (cI, 20, .inl (fun k => zI ((g 2) k)))), ((q 3), .inl (cI, 100, .inl (fun k => zI ((g 3) k)))), (o, .inr (2, [.int (zI no), .ref (qo 0), .ref (qo 1), .ref (qo 2), .ref (qo 3), .ref (qo 4), .ref (qo 5), .ref (qo 6), .ref (qo 7)])), ((qo 0), .inl (cI, 10, .inl (fun k => zI ((go 0) k)))), ((qo 1), .inl (cI, 10, .inl (fun k => zI ((go 1) k)))), ((qo 2), .inl (cI, 10, .inl (fun k => zI ((go 2) k)))), ((qo 3), .inl (cI, 40, .inl (fun k => zI ((go 3) k)))), ((qo 4), .inl (cI, 40, .inl (fun k => zI ((go 4) k)))), ((qo 5), .inl (cI, 40, .inl (fun k => zI ((go 5) k)))), ((qo 6), .inl (cI, 20, .inl (fun k => zI ((go 6) k)))), ((qo 7), .inl (cI, 20, .inl (fun k => zI ((go 7) k))))]) (fun _ => rfl) (fun g10 e_g10 H locs hP hD hS => ?_)
            have h_g10 : ∀ k, k < 20 → 0 ≤ g10 k ∧ g10 k ≤ 9 := by rw [e_g10]; exact uZ_all (P := fun _ y9 => 0 ≤ y9 ∧ y9 ≤ 9) h_g9 (fun _ => by omega)
            obtain ⟨i11, e_i11⟩ : ∃ i11 : Nat → Int, i11 = fun k => [(i 0), (i 1), (i 2), (i 3), (i 4), ((i 5) + p2 x)].getD k 0 := ⟨_, rfl⟩
            have e_i11_0 : i11 0 = (i 0) := congrFun e_i11 0
            have e_i11_1 : i11 1 = (i 1) := congrFun e_i11 1
            have e_i11_2 : i11 2 = (i 2) := congrFun e_i11 2
            have e_i11_3 : i11 3 = (i 3) := congrFun e_i11 3
            have e_i11_4 : i11 4 = (i 4) := congrFun e_i11 4
            have e_i11_5 : i11 5 = ((i 5) + p2 x) := congrFun e_i11 5
            obtain ⟨gg12, e_gg12⟩ : ∃ gg12 : Nat → Nat → Int, gg12 = fun k => [(g 0), g10, (g 2), (g 3)].getD k (fun _ => 0) := ⟨_, rfl⟩
            have hO13 : WalkOk i11 gg12 := ⟨by omega, by rw [e_gg12]; exact h_g10⟩
            have hf14 := hO13.1
            have hP : va_P G vwCl [(b, .inr (6, [.int (zI (i11 0)), .int (zI (i11 1)), .int (zI (i11 2)), .int (zI (i11 3)), .int (zI (i11 4)), .ref (q 0), .ref (q 1), .ref (q 2), .long (zL (i11 5)), .ref (q 3)])), ((q 0), .inl (cI, 4, .inl (fun k => zI ((gg12 0) k)))), ((q 1), .inl (cI, 20, .inl (fun k => zI ((gg12 1) k)))), ((q 2), .inl (cI, 20, .inl (fun k => zI ((gg12 2) k)))), ((q 3), .inl (cI, 100, .inl (fun k => zI ((gg12 3) k)))), (o, .inr (2, [.int (zI no), .ref (qo 0), .ref (qo 1), .ref (qo 2), .ref (qo 3), .ref (qo 4), .ref (qo 5), .ref (qo 6), .ref (qo 7)])), ((qo 0), .inl (cI, 10, .inl (fun k => zI ((go 0) k)))), ((qo 1), .inl (cI, 10, .inl (fun k => zI ((go 1) k)))), ((qo 2), .inl (cI, 10, .inl (fun k => zI ((go 2) k)))), ((qo 3), .inl (cI, 40, .inl (fun k => zI ((go 3) k)))), ((qo 4), .inl (cI, 40, .inl (fun k => zI ((go 4) k)))), ((qo 5), .inl (cI, 40, .inl (fun k => zI ((go 5) k)))), ((qo 6), .inl (cI, 20, .inl (fun k => zI ((go 6) k)))), ((qo 7), .inl (cI, 20, .inl (fun k => zI ((go 7) k))))] H := by subst e_i11 e_gg12; exact hP
            have hD : va_D A [(b, .inr (6, [.int (zI (i11 0)), .int (zI (i11 1)), .int (zI (i11 2)), .int (zI (i11 3)), .int (zI (i11 4)), .ref (q 0), .ref (q 1), .ref (q 2), .long (zL (i11 5)), .ref (q 3)])), ((q 0), .inl (cI, 4, .inl (fun k => zI ((gg12 0) k)))), ((q 1), .inl (cI, 20, .inl (fun k => zI ((gg12 1) k)))), ((q 2), .inl (cI, 20, .inl (fun k => zI ((gg12 2) k)))), ((q 3), .inl (cI, 100, .inl (fun k => zI ((gg12 3) k)))), (o, .inr (2, [.int (zI no), .ref (qo 0), .ref (qo 1), .ref (qo 2), .ref (qo 3), .ref (qo 4), .ref (qo 5), .ref (qo 6), .ref (qo 7)])), ((qo 0), .inl (cI, 10, .inl (fun k => zI ((go 0) k)))), ((qo 1), .inl (cI, 10, .inl (fun k => zI ((go 1) k)))), ((qo 2), .inl (cI, 10, .inl (fun k => zI ((go 2) k)))), ((qo 3), .inl (cI, 40, .inl (fun k => zI ((go 3) k)))), ((qo 4), .inl (cI, 40, .inl (fun k => zI ((go 4) k)))), ((qo 5), .inl (cI, 40, .inl (fun k => zI ((go 5) k)))), ((qo 6), .inl (cI, 20, .inl (fun k => zI ((go 6) k)))), ((qo 7), .inl (cI, 20, .inl (fun k => zI ((go 7) k))))] := by subst e_i11 e_gg12; exact hD
            exact ret (i11, gg12) _ _ _ _ _ _ ⟨hO13, ⟨by dsimp only; omega, (WR.give (t := (go 4 (x).toNat)) hWR hl8 hw8 (by omega) (by unfold actF; rw [← hA0, ← hA1, ← hgb, if_neg (show ¬ go 3 (x).toNat = 0 by omega), if_neg (show ¬ go 3 (x).toNat = 1 by omega), if_neg (show ¬ go 3 (x).toNat = 2 by omega), if_neg hbt]) ⟨e_i11_0, e_i11_1, e_i11_2, e_i11_3, (e_i11_5.trans (by rw [hxe]))⟩ ⟨(by rw [e_gg12]; rfl), (by rw [e_gg12]; exact e_g10.trans (by rw [e_g9])), (by rw [e_gg12]; rfl), (by rw [e_gg12]; rfl)⟩)⟩⟩ (bw_subP (isC := [0, 1, 2, 3, 4, 5, 6, 7, 8, 9, 10, 11, 12, 13]) hP rfl) (hD.sub [0, 1, 2, 3, 4, 5, 6, 7, 8, 9, 10, 11, 12, 13] (by decide) rfl) hS (Nat.le_of_ble_eq_true rfl) (Nat.le_of_ble_eq_true rfl) dX6_act_147
      · refine lv_aload_n hx hb dX6_act_71 rfl (lv_at hl 2 rfl) ?_
        refine r_get F hK hP 0 5 rfl rfl in_X6 (by decide) k_332 rfl dX6_act_72 ?_
        refine lv_iload hx hb dX6_act_75 (lv_at hl 0 rfl) ?_
        refine rz_iald F hK hP 1 0 rfl rfl (by omega) (by omega) dX6_act_77 ?_
        have hc15 := hSi.1 ((go 4 (x).toNat)).toNat (by omega)
        have hc16 : (g 0) ((go 4 (x).toNat)).toNat = sR ((go 4 (x).toNat)).toNat := hWR.2.1 _ (by omega)
        refine rz_if_le (tgt := 95) F (by omega) dX6_act_78 (by decide) (fun h78_16 => ?_) (fun h78_16 => ?_)
        · refine lv_iload_n hx hb dX6_act_95 rfl (lv_at hl 1 rfl) ?_
          refine lv_iconst (v := zI 3) hx hb dX6_act_96 rfl ?_
          refine rz_icmp_ne (tgt := 147) F (by omega) (by omega) dX6_act_97 (by decide) (fun h97_17 => ?_) (fun h97_17 => ?_)
          · exact ret (i, g) _ _ _ _ _ _ ⟨hW, ⟨by dsimp only; omega, (show WR nR (actF pR sR lR wR) i g from by rw [actF_none (K := go 3 (x).toNat) (T := (go 4 (x).toNat)) hA0 hA1 (by omega) (fun q9 => hSi.1 _ (by omega)) (fun q9 => by have q8 := hWR.2.1 ((go 4 (x).toNat)).toNat (by omega); omega) (fun q9 => by have q8 := hWR.2.1 ((go 4 (x).toNat)).toNat (by omega); omega) (by omega) (fun q9 => (by exfalso; omega))]; exact hWR)⟩⟩ (bw_subP (isC := [0, 1, 2, 3, 4, 5, 6, 7, 8, 9, 10, 11, 12, 13]) hP rfl) (hD.sub [0, 1, 2, 3, 4, 5, 6, 7, 8, 9, 10, 11, 12, 13] (by decide) rfl) hS (Nat.le_of_ble_eq_true rfl) (Nat.le_of_ble_eq_true rfl) dX6_act_147
          · refine lv_aload_n hx hb dX6_act_100 rfl (lv_at hl 2 rfl) ?_
            refine r_get F hK hP 0 8 rfl rfl in_X6 (by decide) k_338 rfl dX6_act_101 ?_
            refine lv_iload_n hx hb dX6_act_104 rfl (lv_at hl 4 rfl) ?_
            refine lv_lshr hx hb dX6_act_105 rfl ?_
            refine lv_lconst (v := (zL 1)) hx hb dX6_act_106 rfl ?_
            refine lv_land hx hb dX6_act_107 ?_
            refine rz_eqL (z := (i 5) / p2 x % 2) (lbit hG5 (by omega)) ?_
            refine lv_lconst (v := (zL 0)) hx hb dX6_act_108 rfl ?_
            refine rz_lcmpE F dX6_act_109 (fun z19 h_z19 hc_z19 => ?_)
            refine rz_if_ne (tgt := 147) F (by omega) dX6_act_110 (by decide) (fun h110_19 => ?_) (fun h110_19 => ?_)
            · exact ret (i, g) _ _ _ _ _ _ ⟨hW, ⟨by dsimp only; omega, (show WR nR (actF pR sR lR wR) i g from by rw [actF_none (K := go 3 (x).toNat) (T := (go 4 (x).toNat)) hA0 hA1 (by omega) (fun q9 => hSi.1 _ (by omega)) (fun q9 => by have q8 := hWR.2.1 ((go 4 (x).toNat)).toNat (by omega); omega) (fun q9 => by have q8 := hWR.2.1 ((go 4 (x).toNat)).toNat (by omega); omega) (by omega) (fun q9 => (by rw [← hgb]; have q8 : ¬ ((i 5) / p2 x % 2 = 0) := fun q9 => absurd (hc_z19.mpr (by rw [q9])) (by omega); omega))]; exact hWR)⟩⟩ (bw_subP (isC := [0, 1, 2, 3, 4, 5, 6, 7, 8, 9, 10, 11, 12, 13]) hP rfl) (hD.sub [0, 1, 2, 3, 4, 5, 6, 7, 8, 9, 10, 11, 12, 13] (by decide) rfl) hS (Nat.le_of_ble_eq_true rfl) (Nat.le_of_ble_eq_true rfl) dX6_act_147
            · refine lv_aload_n hx hb dX6_act_113 rfl (lv_at hl 2 rfl) ?_
              have hbt : ¬ (i 5) / p2 x % 2 = 1 := fun q9 => by have q8 := zL_inj (by omega) (by omega) (hc_z19.mp (by omega)); omega
              refine lv_dup hx hb dX6_act_114 rfl ?_
              refine r_get F hK hP 0 8 rfl rfl in_X6 (by decide) k_338 rfl dX6_act_115 ?_
              refine lv_lconst (v := (zL 1)) hx hb dX6_act_118 rfl ?_
              refine lv_iload_n hx hb dX6_act_119 rfl (lv_at hl 4 rfl) ?_
              refine lv_lshl hx hb dX6_act_120 rfl ?_
              refine lv_lor hx hb dX6_act_121 ?_
              refine rz_eqL (z := (i 5) + p2 x) (lor1 hG5 (by omega) hbt) ?_
              refine r_put F hK hP hD hS 0 8 rfl rfl in_X6 tyX6 tyX6_ok nmX6 (by decide) k_338 rfl rfl rfl (Nat.le_of_ble_eq_true rfl) dX6_act_122 (w1 := [(b, .inr (6, [.int (zI (i 0)), .int (zI (i 1)), .int (zI (i 2)), .int (zI (i 3)), .int (zI (i 4)), .ref (q 0), .ref (q 1), .ref (q 2), .long (zL ((i 5) + p2 x)), .ref (q 3)])), ((q 0), .inl (cI, 4, .inl (fun k => zI ((g 0) k)))), ((q 1), .inl (cI, 20, .inl (fun k => zI ((g 1) k)))), ((q 2), .inl (cI, 20, .inl (fun k => zI ((g 2) k)))), ((q 3), .inl (cI, 100, .inl (fun k => zI ((g 3) k)))), (o, .inr (2, [.int (zI no), .ref (qo 0), .ref (qo 1), .ref (qo 2), .ref (qo 3), .ref (qo 4), .ref (qo 5), .ref (qo 6), .ref (qo 7)])), ((qo 0), .inl (cI, 10, .inl (fun k => zI ((go 0) k)))), ((qo 1), .inl (cI, 10, .inl (fun k => zI ((go 1) k)))), ((qo 2), .inl (cI, 10, .inl (fun k => zI ((go 2) k)))), ((qo 3), .inl (cI, 40, .inl (fun k => zI ((go 3) k)))), ((qo 4), .inl (cI, 40, .inl (fun k => zI ((go 4) k)))), ((qo 5), .inl (cI, 40, .inl (fun k => zI ((go 5) k)))), ((qo 6), .inl (cI, 20, .inl (fun k => zI ((go 6) k)))), ((qo 7), .inl (cI, 20, .inl (fun k => zI ((go 7) k))))]) rfl (fun H locs hP hD hS => ?_)
              refine lv_aload_n hx hb dX6_act_125 rfl (lv_at hl 2 rfl) ?_
              refine r_get F hK hP 0 6 rfl rfl in_X6 (by decide) k_334 rfl dX6_act_126 ?_
              refine lv_iconst (v := zI 2) hx hb dX6_act_129 rfl ?_
              refine lv_iload hx hb dX6_act_130 (lv_at hl 0 rfl) ?_
              refine r_imul (v := zI (2 * ((go 4) (x).toNat))) F dX6_act_132 (zI_mul _ _) ?_
              refine lv_iconst (v := zI 0) hx hb dX6_act_133 rfl ?_
              refine rz_iastG F hK hP hD hS 2 0 rfl rfl (by omega) (by omega) dX6_act_134 (w1 := fun g21 => [(b, .inr (6, [.int (zI (i 0)), .int (zI (i 1)), .int (zI (i 2)), .int (zI (i 3)), .int (zI (i 4)), .ref (q 0), .ref (q 1), .ref (q 2), .long (zL ((i 5) + p2 x)), .ref (q 3)])), ((q 0), .inl (cI, 4, .inl (fun k => zI ((g 0) k)))), ((q 1), .inl (cI, 20, .inl (fun k => zI (g21 k)))), ((q 2), .inl (cI, 20, .inl (fun k => zI ((g 2) k)))), ((q 3), .inl (cI, 100, .inl (fun k => zI ((g 3) k)))), (o, .inr (2, [.int (zI no), .ref (qo 0), .ref (qo 1), .ref (qo 2), .ref (qo 3), .ref (qo 4), .ref (qo 5), .ref (qo 6), .ref (qo 7)])), ((qo 0), .inl (cI, 10, .inl (fun k => zI ((go 0) k)))), ((qo 1), .inl (cI, 10, .inl (fun k => zI ((go 1) k)))), ((qo 2), .inl (cI, 10, .inl (fun k => zI ((go 2) k)))), ((qo 3), .inl (cI, 40, .inl (fun k => zI ((go 3) k)))), ((qo 4), .inl (cI, 40, .inl (fun k => zI ((go 4) k)))), ((qo 5), .inl (cI, 40, .inl (fun k => zI ((go 5) k)))), ((qo 6), .inl (cI, 20, .inl (fun k => zI ((go 6) k)))), ((qo 7), .inl (cI, 20, .inl (fun k => zI ((go 7) k))))]) (fun _ => rfl) (fun g21 e_g21 H locs hP hD hS => ?_)
              have h_g21 : ∀ k, k < 20 → 0 ≤ g21 k ∧ g21 k ≤ 9 := by rw [e_g21]; exact uZ_all (P := fun _ y9 => 0 ≤ y9 ∧ y9 ≤ 9) hW.2 (fun _ => by omega)
              refine lv_aload_n hx hb dX6_act_135 rfl (lv_at hl 2 rfl) ?_
              refine r_get F hK hP 0 6 rfl rfl in_X6 (by decide) k_334 rfl dX6_act_136 ?_
              refine lv_iconst (v := zI 2) hx hb dX6_act_139 rfl ?_
              refine lv_iload hx hb dX6_act_140 (lv_at hl 0 rfl) ?_
              refine r_imul (v := zI (2 * ((go 4) (x).toNat))) F dX6_act_142 (zI_mul _ _) ?_
              refine lv_iconst (v := zI 1) hx hb dX6_act_143 rfl ?_
              refine r_iadd (v := zI ((2 * ((go 4) (x).toNat)) + 1)) F dX6_act_144 (zI_add _ _) ?_
              refine lv_iconst (v := zI 0) hx hb dX6_act_145 rfl ?_
              refine rz_iastG F hK hP hD hS 2 0 rfl rfl (by omega) (by omega) dX6_act_146 (w1 := fun g22 => [(b, .inr (6, [.int (zI (i 0)), .int (zI (i 1)), .int (zI (i 2)), .int (zI (i 3)), .int (zI (i 4)), .ref (q 0), .ref (q 1), .ref (q 2), .long (zL ((i 5) + p2 x)), .ref (q 3)])), ((q 0), .inl (cI, 4, .inl (fun k => zI ((g 0) k)))), ((q 1), .inl (cI, 20, .inl (fun k => zI (g22 k)))), ((q 2), .inl (cI, 20, .inl (fun k => zI ((g 2) k)))), ((q 3), .inl (cI, 100, .inl (fun k => zI ((g 3) k)))), (o, .inr (2, [.int (zI no), .ref (qo 0), .ref (qo 1), .ref (qo 2), .ref (qo 3), .ref (qo 4), .ref (qo 5), .ref (qo 6), .ref (qo 7)])), ((qo 0), .inl (cI, 10, .inl (fun k => zI ((go 0) k)))), ((qo 1), .inl (cI, 10, .inl (fun k => zI ((go 1) k)))), ((qo 2), .inl (cI, 10, .inl (fun k => zI ((go 2) k)))), ((qo 3), .inl (cI, 40, .inl (fun k => zI ((go 3) k)))), ((qo 4), .inl (cI, 40, .inl (fun k => zI ((go 4) k)))), ((qo 5), .inl (cI, 40, .inl (fun k => zI ((go 5) k)))), ((qo 6), .inl (cI, 20, .inl (fun k => zI ((go 6) k)))), ((qo 7), .inl (cI, 20, .inl (fun k => zI ((go 7) k))))]) (fun _ => rfl) (fun g22 e_g22 H locs hP hD hS => ?_)
              have h_g22 : ∀ k, k < 20 → 0 ≤ g22 k ∧ g22 k ≤ 9 := by rw [e_g22]; exact uZ_all (P := fun _ y9 => 0 ≤ y9 ∧ y9 ≤ 9) h_g21 (fun _ => by omega)
              obtain ⟨i23, e_i23⟩ : ∃ i23 : Nat → Int, i23 = fun k => [(i 0), (i 1), (i 2), (i 3), (i 4), ((i 5) + p2 x)].getD k 0 := ⟨_, rfl⟩
              have e_i23_0 : i23 0 = (i 0) := congrFun e_i23 0
              have e_i23_1 : i23 1 = (i 1) := congrFun e_i23 1
              have e_i23_2 : i23 2 = (i 2) := congrFun e_i23 2
              have e_i23_3 : i23 3 = (i 3) := congrFun e_i23 3
              have e_i23_4 : i23 4 = (i 4) := congrFun e_i23 4
              have e_i23_5 : i23 5 = ((i 5) + p2 x) := congrFun e_i23 5
              obtain ⟨gg24, e_gg24⟩ : ∃ gg24 : Nat → Nat → Int, gg24 = fun k => [(g 0), g22, (g 2), (g 3)].getD k (fun _ => 0) := ⟨_, rfl⟩
              have hO25 : WalkOk i23 gg24 := ⟨by omega, by rw [e_gg24]; exact h_g22⟩
              have hf26 := hO25.1
              have hP : va_P G vwCl [(b, .inr (6, [.int (zI (i23 0)), .int (zI (i23 1)), .int (zI (i23 2)), .int (zI (i23 3)), .int (zI (i23 4)), .ref (q 0), .ref (q 1), .ref (q 2), .long (zL (i23 5)), .ref (q 3)])), ((q 0), .inl (cI, 4, .inl (fun k => zI ((gg24 0) k)))), ((q 1), .inl (cI, 20, .inl (fun k => zI ((gg24 1) k)))), ((q 2), .inl (cI, 20, .inl (fun k => zI ((gg24 2) k)))), ((q 3), .inl (cI, 100, .inl (fun k => zI ((gg24 3) k)))), (o, .inr (2, [.int (zI no), .ref (qo 0), .ref (qo 1), .ref (qo 2), .ref (qo 3), .ref (qo 4), .ref (qo 5), .ref (qo 6), .ref (qo 7)])), ((qo 0), .inl (cI, 10, .inl (fun k => zI ((go 0) k)))), ((qo 1), .inl (cI, 10, .inl (fun k => zI ((go 1) k)))), ((qo 2), .inl (cI, 10, .inl (fun k => zI ((go 2) k)))), ((qo 3), .inl (cI, 40, .inl (fun k => zI ((go 3) k)))), ((qo 4), .inl (cI, 40, .inl (fun k => zI ((go 4) k)))), ((qo 5), .inl (cI, 40, .inl (fun k => zI ((go 5) k)))), ((qo 6), .inl (cI, 20, .inl (fun k => zI ((go 6) k)))), ((qo 7), .inl (cI, 20, .inl (fun k => zI ((go 7) k))))] H := by subst e_i23 e_gg24; exact hP
              have hD : va_D A [(b, .inr (6, [.int (zI (i23 0)), .int (zI (i23 1)), .int (zI (i23 2)), .int (zI (i23 3)), .int (zI (i23 4)), .ref (q 0), .ref (q 1), .ref (q 2), .long (zL (i23 5)), .ref (q 3)])), ((q 0), .inl (cI, 4, .inl (fun k => zI ((gg24 0) k)))), ((q 1), .inl (cI, 20, .inl (fun k => zI ((gg24 1) k)))), ((q 2), .inl (cI, 20, .inl (fun k => zI ((gg24 2) k)))), ((q 3), .inl (cI, 100, .inl (fun k => zI ((gg24 3) k)))), (o, .inr (2, [.int (zI no), .ref (qo 0), .ref (qo 1), .ref (qo 2), .ref (qo 3), .ref (qo 4), .ref (qo 5), .ref (qo 6), .ref (qo 7)])), ((qo 0), .inl (cI, 10, .inl (fun k => zI ((go 0) k)))), ((qo 1), .inl (cI, 10, .inl (fun k => zI ((go 1) k)))), ((qo 2), .inl (cI, 10, .inl (fun k => zI ((go 2) k)))), ((qo 3), .inl (cI, 40, .inl (fun k => zI ((go 3) k)))), ((qo 4), .inl (cI, 40, .inl (fun k => zI ((go 4) k)))), ((qo 5), .inl (cI, 40, .inl (fun k => zI ((go 5) k)))), ((qo 6), .inl (cI, 20, .inl (fun k => zI ((go 6) k)))), ((qo 7), .inl (cI, 20, .inl (fun k => zI ((go 7) k))))] := by subst e_i23 e_gg24; exact hD
              exact ret (i23, gg24) _ _ _ _ _ _ ⟨hO25, ⟨by dsimp only; omega, (WR.give (t := (go 4 (x).toNat)) hWR hl8 hw8 (by omega) (by unfold actF; rw [← hA0, ← hA1, ← hgb, if_neg (show ¬ go 3 (x).toNat = 0 by omega), if_neg (show ¬ go 3 (x).toNat = 1 by omega), if_neg (show ¬ go 3 (x).toNat = 2 by omega), if_neg hbt]) ⟨e_i23_0, e_i23_1, e_i23_2, e_i23_3, (e_i23_5.trans (by rw [hxe]))⟩ ⟨(by rw [e_gg24]; rfl), (by rw [e_gg24]; exact e_g22.trans (by rw [e_g21])), (by rw [e_gg24]; rfl), (by rw [e_gg24]; rfl)⟩)⟩⟩ (bw_subP (isC := [0, 1, 2, 3, 4, 5, 6, 7, 8, 9, 10, 11, 12, 13]) hP rfl) (hD.sub [0, 1, 2, 3, 4, 5, 6, 7, 8, 9, 10, 11, 12, 13] (by decide) rfl) hS (Nat.le_of_ble_eq_true rfl) (Nat.le_of_ble_eq_true rfl) dX6_act_147
        · refine lv_aload_n hx hb dX6_act_81 rfl (lv_at hl 2 rfl) ?_
          have hc0 : (g 0) ((go 4 (x).toNat)).toNat = sR ((go 4 (x).toNat)).toNat := hWR.2.1 _ (by omega)
          refine r_get F hK hP 0 5 rfl rfl in_X6 (by decide) k_332 rfl dX6_act_82 ?_
          refine lv_iload hx hb dX6_act_85 (lv_at hl 0 rfl) ?_
          refine lv_dup2_11 hx hb dX6_act_87 rfl rfl ?_
          refine rz_iald F hK hP 1 0 rfl rfl (by omega) (by omega) dX6_act_88 ?_
          have hc27 := hSi.1 ((go 4 (x).toNat)).toNat (by omega)
          have hc28 : (g 0) ((go 4 (x).toNat)).toNat = sR ((go 4 (x).toNat)).toNat := hWR.2.1 _ (by omega)
          refine lv_iconst (v := zI 1) hx hb dX6_act_89 rfl ?_
          refine r_isub (v := zI (((g 0) (((go 4) (x).toNat)).toNat) - 1)) F dX6_act_90 (zI_sub _ _) ?_
          refine rz_iastG F hK hP hD hS 1 0 rfl rfl (by omega) (by omega) dX6_act_91 (w1 := fun g29 => [(b, .inr (6, [.int (zI (i 0)), .int (zI (i 1)), .int (zI (i 2)), .int (zI (i 3)), .int (zI (i 4)), .ref (q 0), .ref (q 1), .ref (q 2), .long (zL (i 5)), .ref (q 3)])), ((q 0), .inl (cI, 4, .inl (fun k => zI (g29 k)))), ((q 1), .inl (cI, 20, .inl (fun k => zI ((g 1) k)))), ((q 2), .inl (cI, 20, .inl (fun k => zI ((g 2) k)))), ((q 3), .inl (cI, 100, .inl (fun k => zI ((g 3) k)))), (o, .inr (2, [.int (zI no), .ref (qo 0), .ref (qo 1), .ref (qo 2), .ref (qo 3), .ref (qo 4), .ref (qo 5), .ref (qo 6), .ref (qo 7)])), ((qo 0), .inl (cI, 10, .inl (fun k => zI ((go 0) k)))), ((qo 1), .inl (cI, 10, .inl (fun k => zI ((go 1) k)))), ((qo 2), .inl (cI, 10, .inl (fun k => zI ((go 2) k)))), ((qo 3), .inl (cI, 40, .inl (fun k => zI ((go 3) k)))), ((qo 4), .inl (cI, 40, .inl (fun k => zI ((go 4) k)))), ((qo 5), .inl (cI, 40, .inl (fun k => zI ((go 5) k)))), ((qo 6), .inl (cI, 20, .inl (fun k => zI ((go 6) k)))), ((qo 7), .inl (cI, 20, .inl (fun k => zI ((go 7) k))))]) (fun _ => rfl) (fun g29 e_g29 H locs hP hD hS => ?_)
          refine lv_goto (tgt := 147) hx hb dX6_act_92 (by decide) ?_
          obtain ⟨i30, e_i30⟩ : ∃ i30 : Nat → Int, i30 = fun k => [(i 0), (i 1), (i 2), (i 3), (i 4), (i 5)].getD k 0 := ⟨_, rfl⟩
          have e_i30_0 : i30 0 = (i 0) := congrFun e_i30 0
          have e_i30_1 : i30 1 = (i 1) := congrFun e_i30 1
          have e_i30_2 : i30 2 = (i 2) := congrFun e_i30 2
          have e_i30_3 : i30 3 = (i 3) := congrFun e_i30 3
          have e_i30_4 : i30 4 = (i 4) := congrFun e_i30 4
          have e_i30_5 : i30 5 = (i 5) := congrFun e_i30 5
          obtain ⟨gg31, e_gg31⟩ : ∃ gg31 : Nat → Nat → Int, gg31 = fun k => [g29, (g 1), (g 2), (g 3)].getD k (fun _ => 0) := ⟨_, rfl⟩
          have hO32 : WalkOk i30 gg31 := ⟨by omega, by rw [e_gg31]; exact hW.2⟩
          have hf33 := hO32.1
          have hP : va_P G vwCl [(b, .inr (6, [.int (zI (i30 0)), .int (zI (i30 1)), .int (zI (i30 2)), .int (zI (i30 3)), .int (zI (i30 4)), .ref (q 0), .ref (q 1), .ref (q 2), .long (zL (i30 5)), .ref (q 3)])), ((q 0), .inl (cI, 4, .inl (fun k => zI ((gg31 0) k)))), ((q 1), .inl (cI, 20, .inl (fun k => zI ((gg31 1) k)))), ((q 2), .inl (cI, 20, .inl (fun k => zI ((gg31 2) k)))), ((q 3), .inl (cI, 100, .inl (fun k => zI ((gg31 3) k)))), (o, .inr (2, [.int (zI no), .ref (qo 0), .ref (qo 1), .ref (qo 2), .ref (qo 3), .ref (qo 4), .ref (qo 5), .ref (qo 6), .ref (qo 7)])), ((qo 0), .inl (cI, 10, .inl (fun k => zI ((go 0) k)))), ((qo 1), .inl (cI, 10, .inl (fun k => zI ((go 1) k)))), ((qo 2), .inl (cI, 10, .inl (fun k => zI ((go 2) k)))), ((qo 3), .inl (cI, 40, .inl (fun k => zI ((go 3) k)))), ((qo 4), .inl (cI, 40, .inl (fun k => zI ((go 4) k)))), ((qo 5), .inl (cI, 40, .inl (fun k => zI ((go 5) k)))), ((qo 6), .inl (cI, 20, .inl (fun k => zI ((go 6) k)))), ((qo 7), .inl (cI, 20, .inl (fun k => zI ((go 7) k))))] H := by subst e_i30 e_gg31; exact hP
          have hD : va_D A [(b, .inr (6, [.int (zI (i30 0)), .int (zI (i30 1)), .int (zI (i30 2)), .int (zI (i30 3)), .int (zI (i30 4)), .ref (q 0), .ref (q 1), .ref (q 2), .long (zL (i30 5)), .ref (q 3)])), ((q 0), .inl (cI, 4, .inl (fun k => zI ((gg31 0) k)))), ((q 1), .inl (cI, 20, .inl (fun k => zI ((gg31 1) k)))), ((q 2), .inl (cI, 20, .inl (fun k => zI ((gg31 2) k)))), ((q 3), .inl (cI, 100, .inl (fun k => zI ((gg31 3) k)))), (o, .inr (2, [.int (zI no), .ref (qo 0), .ref (qo 1), .ref (qo 2), .ref (qo 3), .ref (qo 4), .ref (qo 5), .ref (qo 6), .ref (qo 7)])), ((qo 0), .inl (cI, 10, .inl (fun k => zI ((go 0) k)))), ((qo 1), .inl (cI, 10, .inl (fun k => zI ((go 1) k)))), ((qo 2), .inl (cI, 10, .inl (fun k => zI ((go 2) k)))), ((qo 3), .inl (cI, 40, .inl (fun k => zI ((go 3) k)))), ((qo 4), .inl (cI, 40, .inl (fun k => zI ((go 4) k)))), ((qo 5), .inl (cI, 40, .inl (fun k => zI ((go 5) k)))), ((qo 6), .inl (cI, 20, .inl (fun k => zI ((go 6) k)))), ((qo 7), .inl (cI, 20, .inl (fun k => zI ((go 7) k))))] := by subst e_i30 e_gg31; exact hD
          exact ret (i30, gg31) _ _ _ _ _ _ ⟨hO32, ⟨by dsimp only; omega, (WR.cnt (k := ((go 4 (x).toNat)).toNat) (v := (((g 0) (((go 4) (x).toNat)).toNat) - 1)) hWR (by omega) (by unfold actF; rw [← hA0, ← hA1, if_neg (show ¬ go 3 (x).toNat = 0 by omega), if_pos (show go 3 (x).toNat = 1 by omega), if_pos (show 0 < sR ((go 4 (x).toNat)).toNat by omega), hc0]) ⟨e_i30_0, e_i30_1, e_i30_2, e_i30_3, e_i30_5⟩ ⟨(by rw [e_gg31]; exact e_g29), (by rw [e_gg31]; rfl), (by rw [e_gg31]; rfl), (by rw [e_gg31]; rfl)⟩)⟩⟩ (bw_subP (isC := [0, 1, 2, 3, 4, 5, 6, 7, 8, 9, 10, 11, 12, 13]) hP rfl) (hD.sub [0, 1, 2, 3, 4, 5, 6, 7, 8, 9, 10, 11, 12, 13] (by decide) rfl) hS (Nat.le_of_ble_eq_true rfl) (Nat.le_of_ble_eq_true rfl) dX6_act_147
    · refine lv_aload_n hx hb dX6_act_40 rfl (lv_at hl 2 rfl) ?_
      refine r_get F hK hP 0 5 rfl rfl in_X6 (by decide) k_332 rfl dX6_act_41 ?_
      refine lv_iload hx hb dX6_act_44 (lv_at hl 0 rfl) ?_
      refine rz_iald F hK hP 1 0 rfl rfl (by omega) (by omega) dX6_act_46 ?_
      have hc34 := hSi.1 ((go 4 (x).toNat)).toNat (by omega)
      have hc35 : (g 0) ((go 4 (x).toNat)).toNat = sR ((go 4 (x).toNat)).toNat := hWR.2.1 _ (by omega)
      refine lv_bipush (v := zI 99) hx hb dX6_act_47 (by decide) ?_
      refine rz_icmp_ge (tgt := 66) F (by omega) (by omega) dX6_act_49 (by decide) (fun h49_35 => ?_) (fun h49_35 => ?_)
      · refine lv_iload_n hx hb dX6_act_66 rfl (lv_at hl 1 rfl) ?_
        refine lv_iconst (v := zI 1) hx hb dX6_act_67 rfl ?_
        refine rz_icmp_ne (tgt := 95) F (by omega) (by omega) dX6_act_68 (by decide) (fun h68_36 => ?_) (fun h68_36 => ?_)
        · refine lv_iload_n hx hb dX6_act_95 rfl (lv_at hl 1 rfl) ?_
          refine lv_iconst (v := zI 3) hx hb dX6_act_96 rfl ?_
          refine rz_icmp_ne (tgt := 147) F (by omega) (by omega) dX6_act_97 (by decide) (fun h97_37 => ?_) (fun h97_37 => ?_)
          · exact ret (i, g) _ _ _ _ _ _ ⟨hW, ⟨by dsimp only; omega, (show WR nR (actF pR sR lR wR) i g from by rw [actF_none (K := go 3 (x).toNat) (T := (go 4 (x).toNat)) hA0 hA1 (by omega) (fun q9 => hSi.1 _ (by omega)) (fun q9 => by have q8 := hWR.2.1 ((go 4 (x).toNat)).toNat (by omega); omega) (fun q9 => by have q8 := hWR.2.1 ((go 4 (x).toNat)).toNat (by omega); omega) (by omega) (fun q9 => (by exfalso; omega))]; exact hWR)⟩⟩ (bw_subP (isC := [0, 1, 2, 3, 4, 5, 6, 7, 8, 9, 10, 11, 12, 13]) hP rfl) (hD.sub [0, 1, 2, 3, 4, 5, 6, 7, 8, 9, 10, 11, 12, 13] (by decide) rfl) hS (Nat.le_of_ble_eq_true rfl) (Nat.le_of_ble_eq_true rfl) dX6_act_147
          · refine lv_aload_n hx hb dX6_act_100 rfl (lv_at hl 2 rfl) ?_
            refine r_get F hK hP 0 8 rfl rfl in_X6 (by decide) k_338 rfl dX6_act_101 ?_
            refine lv_iload_n hx hb dX6_act_104 rfl (lv_at hl 4 rfl) ?_
            refine lv_lshr hx hb dX6_act_105 rfl ?_
            refine lv_lconst (v := (zL 1)) hx hb dX6_act_106 rfl ?_
            refine lv_land hx hb dX6_act_107 ?_
            refine rz_eqL (z := (i 5) / p2 x % 2) (lbit hG5 (by omega)) ?_
            refine lv_lconst (v := (zL 0)) hx hb dX6_act_108 rfl ?_
            refine rz_lcmpE F dX6_act_109 (fun z39 h_z39 hc_z39 => ?_)
            refine rz_if_ne (tgt := 147) F (by omega) dX6_act_110 (by decide) (fun h110_39 => ?_) (fun h110_39 => ?_)
            · exact ret (i, g) _ _ _ _ _ _ ⟨hW, ⟨by dsimp only; omega, (show WR nR (actF pR sR lR wR) i g from by rw [actF_none (K := go 3 (x).toNat) (T := (go 4 (x).toNat)) hA0 hA1 (by omega) (fun q9 => hSi.1 _ (by omega)) (fun q9 => by have q8 := hWR.2.1 ((go 4 (x).toNat)).toNat (by omega); omega) (fun q9 => by have q8 := hWR.2.1 ((go 4 (x).toNat)).toNat (by omega); omega) (by omega) (fun q9 => (by rw [← hgb]; have q8 : ¬ ((i 5) / p2 x % 2 = 0) := fun q9 => absurd (hc_z39.mpr (by rw [q9])) (by omega); omega))]; exact hWR)⟩⟩ (bw_subP (isC := [0, 1, 2, 3, 4, 5, 6, 7, 8, 9, 10, 11, 12, 13]) hP rfl) (hD.sub [0, 1, 2, 3, 4, 5, 6, 7, 8, 9, 10, 11, 12, 13] (by decide) rfl) hS (Nat.le_of_ble_eq_true rfl) (Nat.le_of_ble_eq_true rfl) dX6_act_147
            · refine lv_aload_n hx hb dX6_act_113 rfl (lv_at hl 2 rfl) ?_
              have hbt : ¬ (i 5) / p2 x % 2 = 1 := fun q9 => by have q8 := zL_inj (by omega) (by omega) (hc_z39.mp (by omega)); omega
              refine lv_dup hx hb dX6_act_114 rfl ?_
              refine r_get F hK hP 0 8 rfl rfl in_X6 (by decide) k_338 rfl dX6_act_115 ?_
              refine lv_lconst (v := (zL 1)) hx hb dX6_act_118 rfl ?_
              refine lv_iload_n hx hb dX6_act_119 rfl (lv_at hl 4 rfl) ?_
              refine lv_lshl hx hb dX6_act_120 rfl ?_
              refine lv_lor hx hb dX6_act_121 ?_
              refine rz_eqL (z := (i 5) + p2 x) (lor1 hG5 (by omega) hbt) ?_
              refine r_put F hK hP hD hS 0 8 rfl rfl in_X6 tyX6 tyX6_ok nmX6 (by decide) k_338 rfl rfl rfl (Nat.le_of_ble_eq_true rfl) dX6_act_122 (w1 := [(b, .inr (6, [.int (zI (i 0)), .int (zI (i 1)), .int (zI (i 2)), .int (zI (i 3)), .int (zI (i 4)), .ref (q 0), .ref (q 1), .ref (q 2), .long (zL ((i 5) + p2 x)), .ref (q 3)])), ((q 0), .inl (cI, 4, .inl (fun k => zI ((g 0) k)))), ((q 1), .inl (cI, 20, .inl (fun k => zI ((g 1) k)))), ((q 2), .inl (cI, 20, .inl (fun k => zI ((g 2) k)))), ((q 3), .inl (cI, 100, .inl (fun k => zI ((g 3) k)))), (o, .inr (2, [.int (zI no), .ref (qo 0), .ref (qo 1), .ref (qo 2), .ref (qo 3), .ref (qo 4), .ref (qo 5), .ref (qo 6), .ref (qo 7)])), ((qo 0), .inl (cI, 10, .inl (fun k => zI ((go 0) k)))), ((qo 1), .inl (cI, 10, .inl (fun k => zI ((go 1) k)))), ((qo 2), .inl (cI, 10, .inl (fun k => zI ((go 2) k)))), ((qo 3), .inl (cI, 40, .inl (fun k => zI ((go 3) k)))), ((qo 4), .inl (cI, 40, .inl (fun k => zI ((go 4) k)))), ((qo 5), .inl (cI, 40, .inl (fun k => zI ((go 5) k)))), ((qo 6), .inl (cI, 20, .inl (fun k => zI ((go 6) k)))), ((qo 7), .inl (cI, 20, .inl (fun k => zI ((go 7) k))))]) rfl (fun H locs hP hD hS => ?_)
              refine lv_aload_n hx hb dX6_act_125 rfl (lv_at hl 2 rfl) ?_
              refine r_get F hK hP 0 6 rfl rfl in_X6 (by decide) k_334 rfl dX6_act_126 ?_
              refine lv_iconst (v := zI 2) hx hb dX6_act_129 rfl ?_
              refine lv_iload hx hb dX6_act_130 (lv_at hl 0 rfl) ?_
              refine r_imul (v := zI (2 * ((go 4) (x).toNat))) F dX6_act_132 (zI_mul _ _) ?_
              refine lv_iconst (v := zI 0) hx hb dX6_act_133 rfl ?_
              refine rz_iastG F hK hP hD hS 2 0 rfl rfl (by omega) (by omega) dX6_act_134 (w1 := fun g41 => [(b, .inr (6, [.int (zI (i 0)), .int (zI (i 1)), .int (zI (i 2)), .int (zI (i 3)), .int (zI (i 4)), .ref (q 0), .ref (q 1), .ref (q 2), .long (zL ((i 5) + p2 x)), .ref (q 3)])), ((q 0), .inl (cI, 4, .inl (fun k => zI ((g 0) k)))), ((q 1), .inl (cI, 20, .inl (fun k => zI (g41 k)))), ((q 2), .inl (cI, 20, .inl (fun k => zI ((g 2) k)))), ((q 3), .inl (cI, 100, .inl (fun k => zI ((g 3) k)))), (o, .inr (2, [.int (zI no), .ref (qo 0), .ref (qo 1), .ref (qo 2), .ref (qo 3), .ref (qo 4), .ref (qo 5), .ref (qo 6), .ref (qo 7)])), ((qo 0), .inl (cI, 10, .inl (fun k => zI ((go 0) k)))), ((qo 1), .inl (cI, 10, .inl (fun k => zI ((go 1) k)))), ((qo 2), .inl (cI, 10, .inl (fun k => zI ((go 2) k)))), ((qo 3), .inl (cI, 40, .inl (fun k => zI ((go 3) k)))), ((qo 4), .inl (cI, 40, .inl (fun k => zI ((go 4) k)))), ((qo 5), .inl (cI, 40, .inl (fun k => zI ((go 5) k)))), ((qo 6), .inl (cI, 20, .inl (fun k => zI ((go 6) k)))), ((qo 7), .inl (cI, 20, .inl (fun k => zI ((go 7) k))))]) (fun _ => rfl) (fun g41 e_g41 H locs hP hD hS => ?_)
              have h_g41 : ∀ k, k < 20 → 0 ≤ g41 k ∧ g41 k ≤ 9 := by rw [e_g41]; exact uZ_all (P := fun _ y9 => 0 ≤ y9 ∧ y9 ≤ 9) hW.2 (fun _ => by omega)
              refine lv_aload_n hx hb dX6_act_135 rfl (lv_at hl 2 rfl) ?_
              refine r_get F hK hP 0 6 rfl rfl in_X6 (by decide) k_334 rfl dX6_act_136 ?_
              refine lv_iconst (v := zI 2) hx hb dX6_act_139 rfl ?_
              refine lv_iload hx hb dX6_act_140 (lv_at hl 0 rfl) ?_
              refine r_imul (v := zI (2 * ((go 4) (x).toNat))) F dX6_act_142 (zI_mul _ _) ?_
              refine lv_iconst (v := zI 1) hx hb dX6_act_143 rfl ?_
              refine r_iadd (v := zI ((2 * ((go 4) (x).toNat)) + 1)) F dX6_act_144 (zI_add _ _) ?_
              refine lv_iconst (v := zI 0) hx hb dX6_act_145 rfl ?_
              refine rz_iastG F hK hP hD hS 2 0 rfl rfl (by omega) (by omega) dX6_act_146 (w1 := fun g42 => [(b, .inr (6, [.int (zI (i 0)), .int (zI (i 1)), .int (zI (i 2)), .int (zI (i 3)), .int (zI (i 4)), .ref (q 0), .ref (q 1), .ref (q 2), .long (zL ((i 5) + p2 x)), .ref (q 3)])), ((q 0), .inl (cI, 4, .inl (fun k => zI ((g 0) k)))), ((q 1), .inl (cI, 20, .inl (fun k => zI (g42 k)))), ((q 2), .inl (cI, 20, .inl (fun k => zI ((g 2) k)))), ((q 3), .inl (cI, 100, .inl (fun k => zI ((g 3) k)))), (o, .inr (2, [.int (zI no), .ref (qo 0), .ref (qo 1), .ref (qo 2), .ref (qo 3), .ref (qo 4), .ref (qo 5), .ref (qo 6), .ref (qo 7)])), ((qo 0), .inl (cI, 10, .inl (fun k => zI ((go 0) k)))), ((qo 1), .inl (cI, 10, .inl (fun k => zI ((go 1) k)))), ((qo 2), .inl (cI, 10, .inl (fun k => zI ((go 2) k)))), ((qo 3), .inl (cI, 40, .inl (fun k => zI ((go 3) k)))), ((qo 4), .inl (cI, 40, .inl (fun k => zI ((go 4) k)))), ((qo 5), .inl (cI, 40, .inl (fun k => zI ((go 5) k)))), ((qo 6), .inl (cI, 20, .inl (fun k => zI ((go 6) k)))), ((qo 7), .inl (cI, 20, .inl (fun k => zI ((go 7) k))))]) (fun _ => rfl) (fun g42 e_g42 H locs hP hD hS => ?_)
              have h_g42 : ∀ k, k < 20 → 0 ≤ g42 k ∧ g42 k ≤ 9 := by rw [e_g42]; exact uZ_all (P := fun _ y9 => 0 ≤ y9 ∧ y9 ≤ 9) h_g41 (fun _ => by omega)
              obtain ⟨i43, e_i43⟩ : ∃ i43 : Nat → Int, i43 = fun k => [(i 0), (i 1), (i 2), (i 3), (i 4), ((i 5) + p2 x)].getD k 0 := ⟨_, rfl⟩
              have e_i43_0 : i43 0 = (i 0) := congrFun e_i43 0
              have e_i43_1 : i43 1 = (i 1) := congrFun e_i43 1
              have e_i43_2 : i43 2 = (i 2) := congrFun e_i43 2
              have e_i43_3 : i43 3 = (i 3) := congrFun e_i43 3
              have e_i43_4 : i43 4 = (i 4) := congrFun e_i43 4
              have e_i43_5 : i43 5 = ((i 5) + p2 x) := congrFun e_i43 5
              obtain ⟨gg44, e_gg44⟩ : ∃ gg44 : Nat → Nat → Int, gg44 = fun k => [(g 0), g42, (g 2), (g 3)].getD k (fun _ => 0) := ⟨_, rfl⟩
              have hO45 : WalkOk i43 gg44 := ⟨by omega, by rw [e_gg44]; exact h_g42⟩
              have hf46 := hO45.1
              have hP : va_P G vwCl [(b, .inr (6, [.int (zI (i43 0)), .int (zI (i43 1)), .int (zI (i43 2)), .int (zI (i43 3)), .int (zI (i43 4)), .ref (q 0), .ref (q 1), .ref (q 2), .long (zL (i43 5)), .ref (q 3)])), ((q 0), .inl (cI, 4, .inl (fun k => zI ((gg44 0) k)))), ((q 1), .inl (cI, 20, .inl (fun k => zI ((gg44 1) k)))), ((q 2), .inl (cI, 20, .inl (fun k => zI ((gg44 2) k)))), ((q 3), .inl (cI, 100, .inl (fun k => zI ((gg44 3) k)))), (o, .inr (2, [.int (zI no), .ref (qo 0), .ref (qo 1), .ref (qo 2), .ref (qo 3), .ref (qo 4), .ref (qo 5), .ref (qo 6), .ref (qo 7)])), ((qo 0), .inl (cI, 10, .inl (fun k => zI ((go 0) k)))), ((qo 1), .inl (cI, 10, .inl (fun k => zI ((go 1) k)))), ((qo 2), .inl (cI, 10, .inl (fun k => zI ((go 2) k)))), ((qo 3), .inl (cI, 40, .inl (fun k => zI ((go 3) k)))), ((qo 4), .inl (cI, 40, .inl (fun k => zI ((go 4) k)))), ((qo 5), .inl (cI, 40, .inl (fun k => zI ((go 5) k)))), ((qo 6), .inl (cI, 20, .inl (fun k => zI ((go 6) k)))), ((qo 7), .inl (cI, 20, .inl (fun k => zI ((go 7) k))))] H := by subst e_i43 e_gg44; exact hP
              have hD : va_D A [(b, .inr (6, [.int (zI (i43 0)), .int (zI (i43 1)), .int (zI (i43 2)), .int (zI (i43 3)), .int (zI (i43 4)), .ref (q 0), .ref (q 1), .ref (q 2), .long (zL (i43 5)), .ref (q 3)])), ((q 0), .inl (cI, 4, .inl (fun k => zI ((gg44 0) k)))), ((q 1), .inl (cI, 20, .inl (fun k => zI ((gg44 1) k)))), ((q 2), .inl (cI, 20, .inl (fun k => zI ((gg44 2) k)))), ((q 3), .inl (cI, 100, .inl (fun k => zI ((gg44 3) k)))), (o, .inr (2, [.int (zI no), .ref (qo 0), .ref (qo 1), .ref (qo 2), .ref (qo 3), .ref (qo 4), .ref (qo 5), .ref (qo 6), .ref (qo 7)])), ((qo 0), .inl (cI, 10, .inl (fun k => zI ((go 0) k)))), ((qo 1), .inl (cI, 10, .inl (fun k => zI ((go 1) k)))), ((qo 2), .inl (cI, 10, .inl (fun k => zI ((go 2) k)))), ((qo 3), .inl (cI, 40, .inl (fun k => zI ((go 3) k)))), ((qo 4), .inl (cI, 40, .inl (fun k => zI ((go 4) k)))), ((qo 5), .inl (cI, 40, .inl (fun k => zI ((go 5) k)))), ((qo 6), .inl (cI, 20, .inl (fun k => zI ((go 6) k)))), ((qo 7), .inl (cI, 20, .inl (fun k => zI ((go 7) k))))] := by subst e_i43 e_gg44; exact hD
              exact ret (i43, gg44) _ _ _ _ _ _ ⟨hO45, ⟨by dsimp only; omega, (WR.give (t := (go 4 (x).toNat)) hWR hl8 hw8 (by omega) (by unfold actF; rw [← hA0, ← hA1, ← hgb, if_neg (show ¬ go 3 (x).toNat = 0 by omega), if_neg (show ¬ go 3 (x).toNat = 1 by omega), if_neg (show ¬ go 3 (x).toNat = 2 by omega), if_neg hbt]) ⟨e_i43_0, e_i43_1, e_i43_2, e_i43_3, (e_i43_5.trans (by rw [hxe]))⟩ ⟨(by rw [e_gg44]; rfl), (by rw [e_gg44]; exact e_g42.trans (by rw [e_g41])), (by rw [e_gg44]; rfl), (by rw [e_gg44]; rfl)⟩)⟩⟩ (bw_subP (isC := [0, 1, 2, 3, 4, 5, 6, 7, 8, 9, 10, 11, 12, 13]) hP rfl) (hD.sub [0, 1, 2, 3, 4, 5, 6, 7, 8, 9, 10, 11, 12, 13] (by decide) rfl) hS (Nat.le_of_ble_eq_true rfl) (Nat.le_of_ble_eq_true rfl) dX6_act_147
        · refine lv_aload_n hx hb dX6_act_71 rfl (lv_at hl 2 rfl) ?_
          refine r_get F hK hP 0 5 rfl rfl in_X6 (by decide) k_332 rfl dX6_act_72 ?_
          refine lv_iload hx hb dX6_act_75 (lv_at hl 0 rfl) ?_
          refine rz_iald F hK hP 1 0 rfl rfl (by omega) (by omega) dX6_act_77 ?_
          have hc47 := hSi.1 ((go 4 (x).toNat)).toNat (by omega)
          have hc48 : (g 0) ((go 4 (x).toNat)).toNat = sR ((go 4 (x).toNat)).toNat := hWR.2.1 _ (by omega)
          refine rz_if_le (tgt := 95) F (by omega) dX6_act_78 (by decide) (fun h78_48 => ?_) (fun h78_48 => ?_)
          · refine lv_iload_n hx hb dX6_act_95 rfl (lv_at hl 1 rfl) ?_
            refine lv_iconst (v := zI 3) hx hb dX6_act_96 rfl ?_
            refine rz_icmp_ne (tgt := 147) F (by omega) (by omega) dX6_act_97 (by decide) (fun h97_49 => ?_) (fun h97_49 => ?_)
            · exact ret (i, g) _ _ _ _ _ _ ⟨hW, ⟨by dsimp only; omega, (show WR nR (actF pR sR lR wR) i g from by rw [actF_none (K := go 3 (x).toNat) (T := (go 4 (x).toNat)) hA0 hA1 (by omega) (fun q9 => hSi.1 _ (by omega)) (fun q9 => by have q8 := hWR.2.1 ((go 4 (x).toNat)).toNat (by omega); omega) (fun q9 => by have q8 := hWR.2.1 ((go 4 (x).toNat)).toNat (by omega); omega) (by omega) (fun q9 => (by exfalso; omega))]; exact hWR)⟩⟩ (bw_subP (isC := [0, 1, 2, 3, 4, 5, 6, 7, 8, 9, 10, 11, 12, 13]) hP rfl) (hD.sub [0, 1, 2, 3, 4, 5, 6, 7, 8, 9, 10, 11, 12, 13] (by decide) rfl) hS (Nat.le_of_ble_eq_true rfl) (Nat.le_of_ble_eq_true rfl) dX6_act_147
            · refine lv_aload_n hx hb dX6_act_100 rfl (lv_at hl 2 rfl) ?_
              refine r_get F hK hP 0 8 rfl rfl in_X6 (by decide) k_338 rfl dX6_act_101 ?_
              refine lv_iload_n hx hb dX6_act_104 rfl (lv_at hl 4 rfl) ?_
              refine lv_lshr hx hb dX6_act_105 rfl ?_
              refine lv_lconst (v := (zL 1)) hx hb dX6_act_106 rfl ?_
              refine lv_land hx hb dX6_act_107 ?_
              refine rz_eqL (z := (i 5) / p2 x % 2) (lbit hG5 (by omega)) ?_
              refine lv_lconst (v := (zL 0)) hx hb dX6_act_108 rfl ?_
              refine rz_lcmpE F dX6_act_109 (fun z51 h_z51 hc_z51 => ?_)
              refine rz_if_ne (tgt := 147) F (by omega) dX6_act_110 (by decide) (fun h110_51 => ?_) (fun h110_51 => ?_)
              · exact ret (i, g) _ _ _ _ _ _ ⟨hW, ⟨by dsimp only; omega, (show WR nR (actF pR sR lR wR) i g from by rw [actF_none (K := go 3 (x).toNat) (T := (go 4 (x).toNat)) hA0 hA1 (by omega) (fun q9 => hSi.1 _ (by omega)) (fun q9 => by have q8 := hWR.2.1 ((go 4 (x).toNat)).toNat (by omega); omega) (fun q9 => by have q8 := hWR.2.1 ((go 4 (x).toNat)).toNat (by omega); omega) (by omega) (fun q9 => (by rw [← hgb]; have q8 : ¬ ((i 5) / p2 x % 2 = 0) := fun q9 => absurd (hc_z51.mpr (by rw [q9])) (by omega); omega))]; exact hWR)⟩⟩ (bw_subP (isC := [0, 1, 2, 3, 4, 5, 6, 7, 8, 9, 10, 11, 12, 13]) hP rfl) (hD.sub [0, 1, 2, 3, 4, 5, 6, 7, 8, 9, 10, 11, 12, 13] (by decide) rfl) hS (Nat.le_of_ble_eq_true rfl) (Nat.le_of_ble_eq_true rfl) dX6_act_147
              · refine lv_aload_n hx hb dX6_act_113 rfl (lv_at hl 2 rfl) ?_
                have hbt : ¬ (i 5) / p2 x % 2 = 1 := fun q9 => by have q8 := zL_inj (by omega) (by omega) (hc_z51.mp (by omega)); omega
                refine lv_dup hx hb dX6_act_114 rfl ?_
                refine r_get F hK hP 0 8 rfl rfl in_X6 (by decide) k_338 rfl dX6_act_115 ?_
                refine lv_lconst (v := (zL 1)) hx hb dX6_act_118 rfl ?_
                refine lv_iload_n hx hb dX6_act_119 rfl (lv_at hl 4 rfl) ?_
                refine lv_lshl hx hb dX6_act_120 rfl ?_
                refine lv_lor hx hb dX6_act_121 ?_
                refine rz_eqL (z := (i 5) + p2 x) (lor1 hG5 (by omega) hbt) ?_
                refine r_put F hK hP hD hS 0 8 rfl rfl in_X6 tyX6 tyX6_ok nmX6 (by decide) k_338 rfl rfl rfl (Nat.le_of_ble_eq_true rfl) dX6_act_122 (w1 := [(b, .inr (6, [.int (zI (i 0)), .int (zI (i 1)), .int (zI (i 2)), .int (zI (i 3)), .int (zI (i 4)), .ref (q 0), .ref (q 1), .ref (q 2), .long (zL ((i 5) + p2 x)), .ref (q 3)])), ((q 0), .inl (cI, 4, .inl (fun k => zI ((g 0) k)))), ((q 1), .inl (cI, 20, .inl (fun k => zI ((g 1) k)))), ((q 2), .inl (cI, 20, .inl (fun k => zI ((g 2) k)))), ((q 3), .inl (cI, 100, .inl (fun k => zI ((g 3) k)))), (o, .inr (2, [.int (zI no), .ref (qo 0), .ref (qo 1), .ref (qo 2), .ref (qo 3), .ref (qo 4), .ref (qo 5), .ref (qo 6), .ref (qo 7)])), ((qo 0), .inl (cI, 10, .inl (fun k => zI ((go 0) k)))), ((qo 1), .inl (cI, 10, .inl (fun k => zI ((go 1) k)))), ((qo 2), .inl (cI, 10, .inl (fun k => zI ((go 2) k)))), ((qo 3), .inl (cI, 40, .inl (fun k => zI ((go 3) k)))), ((qo 4), .inl (cI, 40, .inl (fun k => zI ((go 4) k)))), ((qo 5), .inl (cI, 40, .inl (fun k => zI ((go 5) k)))), ((qo 6), .inl (cI, 20, .inl (fun k => zI ((go 6) k)))), ((qo 7), .inl (cI, 20, .inl (fun k => zI ((go 7) k))))]) rfl (fun H locs hP hD hS => ?_)
                refine lv_aload_n hx hb dX6_act_125 rfl (lv_at hl 2 rfl) ?_
                refine r_get F hK hP 0 6 rfl rfl in_X6 (by decide) k_334 rfl dX6_act_126 ?_
                refine lv_iconst (v := zI 2) hx hb dX6_act_129 rfl ?_
                refine lv_iload hx hb dX6_act_130 (lv_at hl 0 rfl) ?_
                refine r_imul (v := zI (2 * ((go 4) (x).toNat))) F dX6_act_132 (zI_mul _ _) ?_
                refine lv_iconst (v := zI 0) hx hb dX6_act_133 rfl ?_
                refine rz_iastG F hK hP hD hS 2 0 rfl rfl (by omega) (by omega) dX6_act_134 (w1 := fun g53 => [(b, .inr (6, [.int (zI (i 0)), .int (zI (i 1)), .int (zI (i 2)), .int (zI (i 3)), .int (zI (i 4)), .ref (q 0), .ref (q 1), .ref (q 2), .long (zL ((i 5) + p2 x)), .ref (q 3)])), ((q 0), .inl (cI, 4, .inl (fun k => zI ((g 0) k)))), ((q 1), .inl (cI, 20, .inl (fun k => zI (g53 k)))), ((q 2), .inl (cI, 20, .inl (fun k => zI ((g 2) k)))), ((q 3), .inl (cI, 100, .inl (fun k => zI ((g 3) k)))), (o, .inr (2, [.int (zI no), .ref (qo 0), .ref (qo 1), .ref (qo 2), .ref (qo 3), .ref (qo 4), .ref (qo 5), .ref (qo 6), .ref (qo 7)])), ((qo 0), .inl (cI, 10, .inl (fun k => zI ((go 0) k)))), ((qo 1), .inl (cI, 10, .inl (fun k => zI ((go 1) k)))), ((qo 2), .inl (cI, 10, .inl (fun k => zI ((go 2) k)))), ((qo 3), .inl (cI, 40, .inl (fun k => zI ((go 3) k)))), ((qo 4), .inl (cI, 40, .inl (fun k => zI ((go 4) k)))), ((qo 5), .inl (cI, 40, .inl (fun k => zI ((go 5) k)))), ((qo 6), .inl (cI, 20, .inl (fun k => zI ((go 6) k)))), ((qo 7), .inl (cI, 20, .inl (fun k => zI ((go 7) k))))]) (fun _ => rfl) (fun g53 e_g53 H locs hP hD hS => ?_)
                have h_g53 : ∀ k, k < 20 → 0 ≤ g53 k ∧ g53 k ≤ 9 := by rw [e_g53]; exact uZ_all (P := fun _ y9 => 0 ≤ y9 ∧ y9 ≤ 9) hW.2 (fun _ => by omega)
                refine lv_aload_n hx hb dX6_act_135 rfl (lv_at hl 2 rfl) ?_
                refine r_get F hK hP 0 6 rfl rfl in_X6 (by decide) k_334 rfl dX6_act_136 ?_
                refine lv_iconst (v := zI 2) hx hb dX6_act_139 rfl ?_
                refine lv_iload hx hb dX6_act_140 (lv_at hl 0 rfl) ?_
                refine r_imul (v := zI (2 * ((go 4) (x).toNat))) F dX6_act_142 (zI_mul _ _) ?_
                refine lv_iconst (v := zI 1) hx hb dX6_act_143 rfl ?_
                refine r_iadd (v := zI ((2 * ((go 4) (x).toNat)) + 1)) F dX6_act_144 (zI_add _ _) ?_
                refine lv_iconst (v := zI 0) hx hb dX6_act_145 rfl ?_
                refine rz_iastG F hK hP hD hS 2 0 rfl rfl (by omega) (by omega) dX6_act_146 (w1 := fun g54 => [(b, .inr (6, [.int (zI (i 0)), .int (zI (i 1)), .int (zI (i 2)), .int (zI (i 3)), .int (zI (i 4)), .ref (q 0), .ref (q 1), .ref (q 2), .long (zL ((i 5) + p2 x)), .ref (q 3)])), ((q 0), .inl (cI, 4, .inl (fun k => zI ((g 0) k)))), ((q 1), .inl (cI, 20, .inl (fun k => zI (g54 k)))), ((q 2), .inl (cI, 20, .inl (fun k => zI ((g 2) k)))), ((q 3), .inl (cI, 100, .inl (fun k => zI ((g 3) k)))), (o, .inr (2, [.int (zI no), .ref (qo 0), .ref (qo 1), .ref (qo 2), .ref (qo 3), .ref (qo 4), .ref (qo 5), .ref (qo 6), .ref (qo 7)])), ((qo 0), .inl (cI, 10, .inl (fun k => zI ((go 0) k)))), ((qo 1), .inl (cI, 10, .inl (fun k => zI ((go 1) k)))), ((qo 2), .inl (cI, 10, .inl (fun k => zI ((go 2) k)))), ((qo 3), .inl (cI, 40, .inl (fun k => zI ((go 3) k)))), ((qo 4), .inl (cI, 40, .inl (fun k => zI ((go 4) k)))), ((qo 5), .inl (cI, 40, .inl (fun k => zI ((go 5) k)))), ((qo 6), .inl (cI, 20, .inl (fun k => zI ((go 6) k)))), ((qo 7), .inl (cI, 20, .inl (fun k => zI ((go 7) k))))]) (fun _ => rfl) (fun g54 e_g54 H locs hP hD hS => ?_)
                have h_g54 : ∀ k, k < 20 → 0 ≤ g54 k ∧ g54 k ≤ 9 := by rw [e_g54]; exact uZ_all (P := fun _ y9 => 0 ≤ y9 ∧ y9 ≤ 9) h_g53 (fun _ => by omega)
                obtain ⟨i55, e_i55⟩ : ∃ i55 : Nat → Int, i55 = fun k => [(i 0), (i 1), (i 2), (i 3), (i 4), ((i 5) + p2 x)].getD k 0 := ⟨_, rfl⟩
                have e_i55_0 : i55 0 = (i 0) := congrFun e_i55 0
                have e_i55_1 : i55 1 = (i 1) := congrFun e_i55 1
                have e_i55_2 : i55 2 = (i 2) := congrFun e_i55 2
                have e_i55_3 : i55 3 = (i 3) := congrFun e_i55 3
                have e_i55_4 : i55 4 = (i 4) := congrFun e_i55 4
                have e_i55_5 : i55 5 = ((i 5) + p2 x) := congrFun e_i55 5
                obtain ⟨gg56, e_gg56⟩ : ∃ gg56 : Nat → Nat → Int, gg56 = fun k => [(g 0), g54, (g 2), (g 3)].getD k (fun _ => 0) := ⟨_, rfl⟩
                have hO57 : WalkOk i55 gg56 := ⟨by omega, by rw [e_gg56]; exact h_g54⟩
                have hf58 := hO57.1
                have hP : va_P G vwCl [(b, .inr (6, [.int (zI (i55 0)), .int (zI (i55 1)), .int (zI (i55 2)), .int (zI (i55 3)), .int (zI (i55 4)), .ref (q 0), .ref (q 1), .ref (q 2), .long (zL (i55 5)), .ref (q 3)])), ((q 0), .inl (cI, 4, .inl (fun k => zI ((gg56 0) k)))), ((q 1), .inl (cI, 20, .inl (fun k => zI ((gg56 1) k)))), ((q 2), .inl (cI, 20, .inl (fun k => zI ((gg56 2) k)))), ((q 3), .inl (cI, 100, .inl (fun k => zI ((gg56 3) k)))), (o, .inr (2, [.int (zI no), .ref (qo 0), .ref (qo 1), .ref (qo 2), .ref (qo 3), .ref (qo 4), .ref (qo 5), .ref (qo 6), .ref (qo 7)])), ((qo 0), .inl (cI, 10, .inl (fun k => zI ((go 0) k)))), ((qo 1), .inl (cI, 10, .inl (fun k => zI ((go 1) k)))), ((qo 2), .inl (cI, 10, .inl (fun k => zI ((go 2) k)))), ((qo 3), .inl (cI, 40, .inl (fun k => zI ((go 3) k)))), ((qo 4), .inl (cI, 40, .inl (fun k => zI ((go 4) k)))), ((qo 5), .inl (cI, 40, .inl (fun k => zI ((go 5) k)))), ((qo 6), .inl (cI, 20, .inl (fun k => zI ((go 6) k)))), ((qo 7), .inl (cI, 20, .inl (fun k => zI ((go 7) k))))] H := by subst e_i55 e_gg56; exact hP
                have hD : va_D A [(b, .inr (6, [.int (zI (i55 0)), .int (zI (i55 1)), .int (zI (i55 2)), .int (zI (i55 3)), .int (zI (i55 4)), .ref (q 0), .ref (q 1), .ref (q 2), .long (zL (i55 5)), .ref (q 3)])), ((q 0), .inl (cI, 4, .inl (fun k => zI ((gg56 0) k)))), ((q 1), .inl (cI, 20, .inl (fun k => zI ((gg56 1) k)))), ((q 2), .inl (cI, 20, .inl (fun k => zI ((gg56 2) k)))), ((q 3), .inl (cI, 100, .inl (fun k => zI ((gg56 3) k)))), (o, .inr (2, [.int (zI no), .ref (qo 0), .ref (qo 1), .ref (qo 2), .ref (qo 3), .ref (qo 4), .ref (qo 5), .ref (qo 6), .ref (qo 7)])), ((qo 0), .inl (cI, 10, .inl (fun k => zI ((go 0) k)))), ((qo 1), .inl (cI, 10, .inl (fun k => zI ((go 1) k)))), ((qo 2), .inl (cI, 10, .inl (fun k => zI ((go 2) k)))), ((qo 3), .inl (cI, 40, .inl (fun k => zI ((go 3) k)))), ((qo 4), .inl (cI, 40, .inl (fun k => zI ((go 4) k)))), ((qo 5), .inl (cI, 40, .inl (fun k => zI ((go 5) k)))), ((qo 6), .inl (cI, 20, .inl (fun k => zI ((go 6) k)))), ((qo 7), .inl (cI, 20, .inl (fun k => zI ((go 7) k))))] := by subst e_i55 e_gg56; exact hD
                exact ret (i55, gg56) _ _ _ _ _ _ ⟨hO57, ⟨by dsimp only; omega, (WR.give (t := (go 4 (x).toNat)) hWR hl8 hw8 (by omega) (by unfold actF; rw [← hA0, ← hA1, ← hgb, if_neg (show ¬ go 3 (x).toNat = 0 by omega), if_neg (show ¬ go 3 (x).toNat = 1 by omega), if_neg (show ¬ go 3 (x).toNat = 2 by omega), if_neg hbt]) ⟨e_i55_0, e_i55_1, e_i55_2, e_i55_3, (e_i55_5.trans (by rw [hxe]))⟩ ⟨(by rw [e_gg56]; rfl), (by rw [e_gg56]; exact e_g54.trans (by rw [e_g53])), (by rw [e_gg56]; rfl), (by rw [e_gg56]; rfl)⟩)⟩⟩ (bw_subP (isC := [0, 1, 2, 3, 4, 5, 6, 7, 8, 9, 10, 11, 12, 13]) hP rfl) (hD.sub [0, 1, 2, 3, 4, 5, 6, 7, 8, 9, 10, 11, 12, 13] (by decide) rfl) hS (Nat.le_of_ble_eq_true rfl) (Nat.le_of_ble_eq_true rfl) dX6_act_147
          · refine lv_aload_n hx hb dX6_act_81 rfl (lv_at hl 2 rfl) ?_
            have hc0 : (g 0) ((go 4 (x).toNat)).toNat = sR ((go 4 (x).toNat)).toNat := hWR.2.1 _ (by omega)
            refine r_get F hK hP 0 5 rfl rfl in_X6 (by decide) k_332 rfl dX6_act_82 ?_
            refine lv_iload hx hb dX6_act_85 (lv_at hl 0 rfl) ?_
            refine lv_dup2_11 hx hb dX6_act_87 rfl rfl ?_
            refine rz_iald F hK hP 1 0 rfl rfl (by omega) (by omega) dX6_act_88 ?_
            have hc59 := hSi.1 ((go 4 (x).toNat)).toNat (by omega)
            have hc60 : (g 0) ((go 4 (x).toNat)).toNat = sR ((go 4 (x).toNat)).toNat := hWR.2.1 _ (by omega)
            refine lv_iconst (v := zI 1) hx hb dX6_act_89 rfl ?_
            refine r_isub (v := zI (((g 0) (((go 4) (x).toNat)).toNat) - 1)) F dX6_act_90 (zI_sub _ _) ?_
            refine rz_iastG F hK hP hD hS 1 0 rfl rfl (by omega) (by omega) dX6_act_91 (w1 := fun g61 => [(b, .inr (6, [.int (zI (i 0)), .int (zI (i 1)), .int (zI (i 2)), .int (zI (i 3)), .int (zI (i 4)), .ref (q 0), .ref (q 1), .ref (q 2), .long (zL (i 5)), .ref (q 3)])), ((q 0), .inl (cI, 4, .inl (fun k => zI (g61 k)))), ((q 1), .inl (cI, 20, .inl (fun k => zI ((g 1) k)))), ((q 2), .inl (cI, 20, .inl (fun k => zI ((g 2) k)))), ((q 3), .inl (cI, 100, .inl (fun k => zI ((g 3) k)))), (o, .inr (2, [.int (zI no), .ref (qo 0), .ref (qo 1), .ref (qo 2), .ref (qo 3), .ref (qo 4), .ref (qo 5), .ref (qo 6), .ref (qo 7)])), ((qo 0), .inl (cI, 10, .inl (fun k => zI ((go 0) k)))), ((qo 1), .inl (cI, 10, .inl (fun k => zI ((go 1) k)))), ((qo 2), .inl (cI, 10, .inl (fun k => zI ((go 2) k)))), ((qo 3), .inl (cI, 40, .inl (fun k => zI ((go 3) k)))), ((qo 4), .inl (cI, 40, .inl (fun k => zI ((go 4) k)))), ((qo 5), .inl (cI, 40, .inl (fun k => zI ((go 5) k)))), ((qo 6), .inl (cI, 20, .inl (fun k => zI ((go 6) k)))), ((qo 7), .inl (cI, 20, .inl (fun k => zI ((go 7) k))))]) (fun _ => rfl) (fun g61 e_g61 H locs hP hD hS => ?_)
            refine lv_goto (tgt := 147) hx hb dX6_act_92 (by decide) ?_
            obtain ⟨i62, e_i62⟩ : ∃ i62 : Nat → Int, i62 = fun k => [(i 0), (i 1), (i 2), (i 3), (i 4), (i 5)].getD k 0 := ⟨_, rfl⟩
            have e_i62_0 : i62 0 = (i 0) := congrFun e_i62 0
            have e_i62_1 : i62 1 = (i 1) := congrFun e_i62 1
            have e_i62_2 : i62 2 = (i 2) := congrFun e_i62 2
            have e_i62_3 : i62 3 = (i 3) := congrFun e_i62 3
            have e_i62_4 : i62 4 = (i 4) := congrFun e_i62 4
            have e_i62_5 : i62 5 = (i 5) := congrFun e_i62 5
            obtain ⟨gg63, e_gg63⟩ : ∃ gg63 : Nat → Nat → Int, gg63 = fun k => [g61, (g 1), (g 2), (g 3)].getD k (fun _ => 0) := ⟨_, rfl⟩
            have hO64 : WalkOk i62 gg63 := ⟨by omega, by rw [e_gg63]; exact hW.2⟩
            have hf65 := hO64.1
            have hP : va_P G vwCl [(b, .inr (6, [.int (zI (i62 0)), .int (zI (i62 1)), .int (zI (i62 2)), .int (zI (i62 3)), .int (zI (i62 4)), .ref (q 0), .ref (q 1), .ref (q 2), .long (zL (i62 5)), .ref (q 3)])), ((q 0), .inl (cI, 4, .inl (fun k => zI ((gg63 0) k)))), ((q 1), .inl (cI, 20, .inl (fun k => zI ((gg63 1) k)))), ((q 2), .inl (cI, 20, .inl (fun k => zI ((gg63 2) k)))), ((q 3), .inl (cI, 100, .inl (fun k => zI ((gg63 3) k)))), (o, .inr (2, [.int (zI no), .ref (qo 0), .ref (qo 1), .ref (qo 2), .ref (qo 3), .ref (qo 4), .ref (qo 5), .ref (qo 6), .ref (qo 7)])), ((qo 0), .inl (cI, 10, .inl (fun k => zI ((go 0) k)))), ((qo 1), .inl (cI, 10, .inl (fun k => zI ((go 1) k)))), ((qo 2), .inl (cI, 10, .inl (fun k => zI ((go 2) k)))), ((qo 3), .inl (cI, 40, .inl (fun k => zI ((go 3) k)))), ((qo 4), .inl (cI, 40, .inl (fun k => zI ((go 4) k)))), ((qo 5), .inl (cI, 40, .inl (fun k => zI ((go 5) k)))), ((qo 6), .inl (cI, 20, .inl (fun k => zI ((go 6) k)))), ((qo 7), .inl (cI, 20, .inl (fun k => zI ((go 7) k))))] H := by subst e_i62 e_gg63; exact hP
            have hD : va_D A [(b, .inr (6, [.int (zI (i62 0)), .int (zI (i62 1)), .int (zI (i62 2)), .int (zI (i62 3)), .int (zI (i62 4)), .ref (q 0), .ref (q 1), .ref (q 2), .long (zL (i62 5)), .ref (q 3)])), ((q 0), .inl (cI, 4, .inl (fun k => zI ((gg63 0) k)))), ((q 1), .inl (cI, 20, .inl (fun k => zI ((gg63 1) k)))), ((q 2), .inl (cI, 20, .inl (fun k => zI ((gg63 2) k)))), ((q 3), .inl (cI, 100, .inl (fun k => zI ((gg63 3) k)))), (o, .inr (2, [.int (zI no), .ref (qo 0), .ref (qo 1), .ref (qo 2), .ref (qo 3), .ref (qo 4), .ref (qo 5), .ref (qo 6), .ref (qo 7)])), ((qo 0), .inl (cI, 10, .inl (fun k => zI ((go 0) k)))), ((qo 1), .inl (cI, 10, .inl (fun k => zI ((go 1) k)))), ((qo 2), .inl (cI, 10, .inl (fun k => zI ((go 2) k)))), ((qo 3), .inl (cI, 40, .inl (fun k => zI ((go 3) k)))), ((qo 4), .inl (cI, 40, .inl (fun k => zI ((go 4) k)))), ((qo 5), .inl (cI, 40, .inl (fun k => zI ((go 5) k)))), ((qo 6), .inl (cI, 20, .inl (fun k => zI ((go 6) k)))), ((qo 7), .inl (cI, 20, .inl (fun k => zI ((go 7) k))))] := by subst e_i62 e_gg63; exact hD
            exact ret (i62, gg63) _ _ _ _ _ _ ⟨hO64, ⟨by dsimp only; omega, (WR.cnt (k := ((go 4 (x).toNat)).toNat) (v := (((g 0) (((go 4) (x).toNat)).toNat) - 1)) hWR (by omega) (by unfold actF; rw [← hA0, ← hA1, if_neg (show ¬ go 3 (x).toNat = 0 by omega), if_pos (show go 3 (x).toNat = 1 by omega), if_pos (show 0 < sR ((go 4 (x).toNat)).toNat by omega), hc0]) ⟨e_i62_0, e_i62_1, e_i62_2, e_i62_3, e_i62_5⟩ ⟨(by rw [e_gg63]; exact e_g61), (by rw [e_gg63]; rfl), (by rw [e_gg63]; rfl), (by rw [e_gg63]; rfl)⟩)⟩⟩ (bw_subP (isC := [0, 1, 2, 3, 4, 5, 6, 7, 8, 9, 10, 11, 12, 13]) hP rfl) (hD.sub [0, 1, 2, 3, 4, 5, 6, 7, 8, 9, 10, 11, 12, 13] (by decide) rfl) hS (Nat.le_of_ble_eq_true rfl) (Nat.le_of_ble_eq_true rfl) dX6_act_147
      · refine lv_aload_n hx hb dX6_act_52 rfl (lv_at hl 2 rfl) ?_
        have hc0 : (g 0) ((go 4 (x).toNat)).toNat = sR ((go 4 (x).toNat)).toNat := hWR.2.1 _ (by omega)
        refine r_get F hK hP 0 5 rfl rfl in_X6 (by decide) k_332 rfl dX6_act_53 ?_
        refine lv_iload hx hb dX6_act_56 (lv_at hl 0 rfl) ?_
        refine lv_dup2_11 hx hb dX6_act_58 rfl rfl ?_
        refine rz_iald F hK hP 1 0 rfl rfl (by omega) (by omega) dX6_act_59 ?_
        have hc66 := hSi.1 ((go 4 (x).toNat)).toNat (by omega)
        have hc67 : (g 0) ((go 4 (x).toNat)).toNat = sR ((go 4 (x).toNat)).toNat := hWR.2.1 _ (by omega)
        refine lv_iconst (v := zI 1) hx hb dX6_act_60 rfl ?_
        refine r_iadd (v := zI (((g 0) (((go 4) (x).toNat)).toNat) + 1)) F dX6_act_61 (zI_add _ _) ?_
        refine rz_iastG F hK hP hD hS 1 0 rfl rfl (by omega) (by omega) dX6_act_62 (w1 := fun g68 => [(b, .inr (6, [.int (zI (i 0)), .int (zI (i 1)), .int (zI (i 2)), .int (zI (i 3)), .int (zI (i 4)), .ref (q 0), .ref (q 1), .ref (q 2), .long (zL (i 5)), .ref (q 3)])), ((q 0), .inl (cI, 4, .inl (fun k => zI (g68 k)))), ((q 1), .inl (cI, 20, .inl (fun k => zI ((g 1) k)))), ((q 2), .inl (cI, 20, .inl (fun k => zI ((g 2) k)))), ((q 3), .inl (cI, 100, .inl (fun k => zI ((g 3) k)))), (o, .inr (2, [.int (zI no), .ref (qo 0), .ref (qo 1), .ref (qo 2), .ref (qo 3), .ref (qo 4), .ref (qo 5), .ref (qo 6), .ref (qo 7)])), ((qo 0), .inl (cI, 10, .inl (fun k => zI ((go 0) k)))), ((qo 1), .inl (cI, 10, .inl (fun k => zI ((go 1) k)))), ((qo 2), .inl (cI, 10, .inl (fun k => zI ((go 2) k)))), ((qo 3), .inl (cI, 40, .inl (fun k => zI ((go 3) k)))), ((qo 4), .inl (cI, 40, .inl (fun k => zI ((go 4) k)))), ((qo 5), .inl (cI, 40, .inl (fun k => zI ((go 5) k)))), ((qo 6), .inl (cI, 20, .inl (fun k => zI ((go 6) k)))), ((qo 7), .inl (cI, 20, .inl (fun k => zI ((go 7) k))))]) (fun _ => rfl) (fun g68 e_g68 H locs hP hD hS => ?_)
        refine lv_goto (tgt := 147) hx hb dX6_act_63 (by decide) ?_
        obtain ⟨i69, e_i69⟩ : ∃ i69 : Nat → Int, i69 = fun k => [(i 0), (i 1), (i 2), (i 3), (i 4), (i 5)].getD k 0 := ⟨_, rfl⟩
        have e_i69_0 : i69 0 = (i 0) := congrFun e_i69 0
        have e_i69_1 : i69 1 = (i 1) := congrFun e_i69 1
        have e_i69_2 : i69 2 = (i 2) := congrFun e_i69 2
        have e_i69_3 : i69 3 = (i 3) := congrFun e_i69 3
        have e_i69_4 : i69 4 = (i 4) := congrFun e_i69 4
        have e_i69_5 : i69 5 = (i 5) := congrFun e_i69 5
        obtain ⟨gg70, e_gg70⟩ : ∃ gg70 : Nat → Nat → Int, gg70 = fun k => [g68, (g 1), (g 2), (g 3)].getD k (fun _ => 0) := ⟨_, rfl⟩
        have hO71 : WalkOk i69 gg70 := ⟨by omega, by rw [e_gg70]; exact hW.2⟩
        have hf72 := hO71.1
        have hP : va_P G vwCl [(b, .inr (6, [.int (zI (i69 0)), .int (zI (i69 1)), .int (zI (i69 2)), .int (zI (i69 3)), .int (zI (i69 4)), .ref (q 0), .ref (q 1), .ref (q 2), .long (zL (i69 5)), .ref (q 3)])), ((q 0), .inl (cI, 4, .inl (fun k => zI ((gg70 0) k)))), ((q 1), .inl (cI, 20, .inl (fun k => zI ((gg70 1) k)))), ((q 2), .inl (cI, 20, .inl (fun k => zI ((gg70 2) k)))), ((q 3), .inl (cI, 100, .inl (fun k => zI ((gg70 3) k)))), (o, .inr (2, [.int (zI no), .ref (qo 0), .ref (qo 1), .ref (qo 2), .ref (qo 3), .ref (qo 4), .ref (qo 5), .ref (qo 6), .ref (qo 7)])), ((qo 0), .inl (cI, 10, .inl (fun k => zI ((go 0) k)))), ((qo 1), .inl (cI, 10, .inl (fun k => zI ((go 1) k)))), ((qo 2), .inl (cI, 10, .inl (fun k => zI ((go 2) k)))), ((qo 3), .inl (cI, 40, .inl (fun k => zI ((go 3) k)))), ((qo 4), .inl (cI, 40, .inl (fun k => zI ((go 4) k)))), ((qo 5), .inl (cI, 40, .inl (fun k => zI ((go 5) k)))), ((qo 6), .inl (cI, 20, .inl (fun k => zI ((go 6) k)))), ((qo 7), .inl (cI, 20, .inl (fun k => zI ((go 7) k))))] H := by subst e_i69 e_gg70; exact hP
        have hD : va_D A [(b, .inr (6, [.int (zI (i69 0)), .int (zI (i69 1)), .int (zI (i69 2)), .int (zI (i69 3)), .int (zI (i69 4)), .ref (q 0), .ref (q 1), .ref (q 2), .long (zL (i69 5)), .ref (q 3)])), ((q 0), .inl (cI, 4, .inl (fun k => zI ((gg70 0) k)))), ((q 1), .inl (cI, 20, .inl (fun k => zI ((gg70 1) k)))), ((q 2), .inl (cI, 20, .inl (fun k => zI ((gg70 2) k)))), ((q 3), .inl (cI, 100, .inl (fun k => zI ((gg70 3) k)))), (o, .inr (2, [.int (zI no), .ref (qo 0), .ref (qo 1), .ref (qo 2), .ref (qo 3), .ref (qo 4), .ref (qo 5), .ref (qo 6), .ref (qo 7)])), ((qo 0), .inl (cI, 10, .inl (fun k => zI ((go 0) k)))), ((qo 1), .inl (cI, 10, .inl (fun k => zI ((go 1) k)))), ((qo 2), .inl (cI, 10, .inl (fun k => zI ((go 2) k)))), ((qo 3), .inl (cI, 40, .inl (fun k => zI ((go 3) k)))), ((qo 4), .inl (cI, 40, .inl (fun k => zI ((go 4) k)))), ((qo 5), .inl (cI, 40, .inl (fun k => zI ((go 5) k)))), ((qo 6), .inl (cI, 20, .inl (fun k => zI ((go 6) k)))), ((qo 7), .inl (cI, 20, .inl (fun k => zI ((go 7) k))))] := by subst e_i69 e_gg70; exact hD
        exact ret (i69, gg70) _ _ _ _ _ _ ⟨hO71, ⟨by dsimp only; omega, (WR.cnt (k := ((go 4 (x).toNat)).toNat) (v := (((g 0) (((go 4) (x).toNat)).toNat) + 1)) hWR (by omega) (by unfold actF lessZ; rw [← hA0, ← hA1, if_pos (show go 3 (x).toNat = 0 by omega), if_neg (show ¬ (99 < sR ((go 4 (x).toNat)).toNat + 1) by omega), hc0]) ⟨e_i69_0, e_i69_1, e_i69_2, e_i69_3, e_i69_5⟩ ⟨(by rw [e_gg70]; exact e_g68), (by rw [e_gg70]; rfl), (by rw [e_gg70]; rfl), (by rw [e_gg70]; rfl)⟩)⟩⟩ (bw_subP (isC := [0, 1, 2, 3, 4, 5, 6, 7, 8, 9, 10, 11, 12, 13]) hP rfl) (hD.sub [0, 1, 2, 3, 4, 5, 6, 7, 8, 9, 10, 11, 12, 13] (by decide) rfl) hS (Nat.le_of_ble_eq_true rfl) (Nat.le_of_ble_eq_true rfl) dX6_act_147
  · refine lv_aload_n hx hb dX6_act_20 rfl (lv_at hl 2 rfl) ?_
    refine r_get F hK hP 0 5 rfl rfl in_X6 (by decide) k_332 rfl dX6_act_21 ?_
    refine lv_iload hx hb dX6_act_24 (lv_at hl 0 rfl) ?_
    refine lv_aload_n hx hb dX6_act_26 rfl (lv_at hl 3 rfl) ?_
    refine r_get F hK hP 5 6 rfl rfl in_X2 (by decide) k_163 rfl dX6_act_27 ?_
    refine lv_iload_n hx hb dX6_act_30 rfl (lv_at hl 4 rfl) ?_
    refine rz_iald F hK hP 11 0 rfl rfl (by omega) (by omega) dX6_act_31 ?_
    have h_l31_72 := hM.2.2.2.2.2.2.1 (x).toNat (by omega)
    refine rz_iastG F hK hP hD hS 1 0 rfl rfl (by omega) (by omega) dX6_act_32 (w1 := fun g74 => [(b, .inr (6, [.int (zI (i 0)), .int (zI (i 1)), .int (zI (i 2)), .int (zI (i 3)), .int (zI (i 4)), .ref (q 0), .ref (q 1), .ref (q 2), .long (zL (i 5)), .ref (q 3)])), ((q 0), .inl (cI, 4, .inl (fun k => zI (g74 k)))), ((q 1), .inl (cI, 20, .inl (fun k => zI ((g 1) k)))), ((q 2), .inl (cI, 20, .inl (fun k => zI ((g 2) k)))), ((q 3), .inl (cI, 100, .inl (fun k => zI ((g 3) k)))), (o, .inr (2, [.int (zI no), .ref (qo 0), .ref (qo 1), .ref (qo 2), .ref (qo 3), .ref (qo 4), .ref (qo 5), .ref (qo 6), .ref (qo 7)])), ((qo 0), .inl (cI, 10, .inl (fun k => zI ((go 0) k)))), ((qo 1), .inl (cI, 10, .inl (fun k => zI ((go 1) k)))), ((qo 2), .inl (cI, 10, .inl (fun k => zI ((go 2) k)))), ((qo 3), .inl (cI, 40, .inl (fun k => zI ((go 3) k)))), ((qo 4), .inl (cI, 40, .inl (fun k => zI ((go 4) k)))), ((qo 5), .inl (cI, 40, .inl (fun k => zI ((go 5) k)))), ((qo 6), .inl (cI, 20, .inl (fun k => zI ((go 6) k)))), ((qo 7), .inl (cI, 20, .inl (fun k => zI ((go 7) k))))]) (fun _ => rfl) (fun g74 e_g74 H locs hP hD hS => ?_)
    refine lv_goto (tgt := 147) hx hb dX6_act_33 (by decide) ?_
    obtain ⟨i75, e_i75⟩ : ∃ i75 : Nat → Int, i75 = fun k => [(i 0), (i 1), (i 2), (i 3), (i 4), (i 5)].getD k 0 := ⟨_, rfl⟩
    have e_i75_0 : i75 0 = (i 0) := congrFun e_i75 0
    have e_i75_1 : i75 1 = (i 1) := congrFun e_i75 1
    have e_i75_2 : i75 2 = (i 2) := congrFun e_i75 2
    have e_i75_3 : i75 3 = (i 3) := congrFun e_i75 3
    have e_i75_4 : i75 4 = (i 4) := congrFun e_i75 4
    have e_i75_5 : i75 5 = (i 5) := congrFun e_i75 5
    obtain ⟨gg76, e_gg76⟩ : ∃ gg76 : Nat → Nat → Int, gg76 = fun k => [g74, (g 1), (g 2), (g 3)].getD k (fun _ => 0) := ⟨_, rfl⟩
    have hO77 : WalkOk i75 gg76 := ⟨by omega, by rw [e_gg76]; exact hW.2⟩
    have hf78 := hO77.1
    have hP : va_P G vwCl [(b, .inr (6, [.int (zI (i75 0)), .int (zI (i75 1)), .int (zI (i75 2)), .int (zI (i75 3)), .int (zI (i75 4)), .ref (q 0), .ref (q 1), .ref (q 2), .long (zL (i75 5)), .ref (q 3)])), ((q 0), .inl (cI, 4, .inl (fun k => zI ((gg76 0) k)))), ((q 1), .inl (cI, 20, .inl (fun k => zI ((gg76 1) k)))), ((q 2), .inl (cI, 20, .inl (fun k => zI ((gg76 2) k)))), ((q 3), .inl (cI, 100, .inl (fun k => zI ((gg76 3) k)))), (o, .inr (2, [.int (zI no), .ref (qo 0), .ref (qo 1), .ref (qo 2), .ref (qo 3), .ref (qo 4), .ref (qo 5), .ref (qo 6), .ref (qo 7)])), ((qo 0), .inl (cI, 10, .inl (fun k => zI ((go 0) k)))), ((qo 1), .inl (cI, 10, .inl (fun k => zI ((go 1) k)))), ((qo 2), .inl (cI, 10, .inl (fun k => zI ((go 2) k)))), ((qo 3), .inl (cI, 40, .inl (fun k => zI ((go 3) k)))), ((qo 4), .inl (cI, 40, .inl (fun k => zI ((go 4) k)))), ((qo 5), .inl (cI, 40, .inl (fun k => zI ((go 5) k)))), ((qo 6), .inl (cI, 20, .inl (fun k => zI ((go 6) k)))), ((qo 7), .inl (cI, 20, .inl (fun k => zI ((go 7) k))))] H := by subst e_i75 e_gg76; exact hP
    have hD : va_D A [(b, .inr (6, [.int (zI (i75 0)), .int (zI (i75 1)), .int (zI (i75 2)), .int (zI (i75 3)), .int (zI (i75 4)), .ref (q 0), .ref (q 1), .ref (q 2), .long (zL (i75 5)), .ref (q 3)])), ((q 0), .inl (cI, 4, .inl (fun k => zI ((gg76 0) k)))), ((q 1), .inl (cI, 20, .inl (fun k => zI ((gg76 1) k)))), ((q 2), .inl (cI, 20, .inl (fun k => zI ((gg76 2) k)))), ((q 3), .inl (cI, 100, .inl (fun k => zI ((gg76 3) k)))), (o, .inr (2, [.int (zI no), .ref (qo 0), .ref (qo 1), .ref (qo 2), .ref (qo 3), .ref (qo 4), .ref (qo 5), .ref (qo 6), .ref (qo 7)])), ((qo 0), .inl (cI, 10, .inl (fun k => zI ((go 0) k)))), ((qo 1), .inl (cI, 10, .inl (fun k => zI ((go 1) k)))), ((qo 2), .inl (cI, 10, .inl (fun k => zI ((go 2) k)))), ((qo 3), .inl (cI, 40, .inl (fun k => zI ((go 3) k)))), ((qo 4), .inl (cI, 40, .inl (fun k => zI ((go 4) k)))), ((qo 5), .inl (cI, 40, .inl (fun k => zI ((go 5) k)))), ((qo 6), .inl (cI, 20, .inl (fun k => zI ((go 6) k)))), ((qo 7), .inl (cI, 20, .inl (fun k => zI ((go 7) k))))] := by subst e_i75 e_gg76; exact hD
    exact ret (i75, gg76) _ _ _ _ _ _ ⟨hO77, ⟨by dsimp only; omega, (WR.cnt (k := ((go 4 (x).toNat)).toNat) (v := ((go 5) (x).toNat)) hWR (by omega) (by unfold actF; rw [← hA0, ← hA1, ← hA2, if_neg (show ¬ go 3 (x).toNat = 0 by omega), if_neg (show ¬ go 3 (x).toNat = 1 by omega), if_pos (show go 3 (x).toNat = 2 by omega)]) ⟨e_i75_0, e_i75_1, e_i75_2, e_i75_3, e_i75_5⟩ ⟨(by rw [e_gg76]; exact e_g74), (by rw [e_gg76]; rfl), (by rw [e_gg76]; rfl), (by rw [e_gg76]; rfl)⟩)⟩⟩ (bw_subP (isC := [0, 1, 2, 3, 4, 5, 6, 7, 8, 9, 10, 11, 12, 13]) hP rfl) (hD.sub [0, 1, 2, 3, 4, 5, 6, 7, 8, 9, 10, 11, 12, 13] (by decide) rfl) hS (Nat.le_of_ble_eq_true rfl) (Nat.le_of_ble_eq_true rfl) dX6_act_147
