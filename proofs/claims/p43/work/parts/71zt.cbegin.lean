abbrev rm_X6z_goOn : Room := { frames := 2, cells := 0, slots := 0, locals := 48 }
set_option maxRecDepth 100000 in
set_option maxHeartbeats 8000000 in
theorem c_X6z_goOn {l : Launch} {E : (Nat → Prop) → State → Prop} (hO : bw_Ok E) {G : va_G} {cI cB cJ cN cW : ClassId} (b : Nat) (q : Nat → Nat) (i : Nat → Int) (g : Nat → Nat → Int) (hW : WalkOk i g) (o : Nat) (qo : Nat → Nat) (no : Int) (go : Nat → Nat → Int) (hM : NetOk no go) (x : Int) (hx9 : 0 ≤ x ∧ x ≤ 1000) (hK : i 1 ≤ 1999990000) (pR sR : Nat → Int) (hPr : ProgOk pR) (hSt : StOk pR sR) (hRT : RT pR sR) (hNR : NRel go pR) (hWR : WR (sR 5) sR i g) : bw_Ci (S := zU) l yX6_goOn (bw_ws (Cond.code yX6_goOn cX6_goOn 5 (some .int))) rm_X6z_goOn E G (bw_kt cI cB cJ cN cW) [.ref b, .ref o, .int (zI x)] [(b, .inr (6, [.int (zI (i 0)), .int (zI (i 1)), .int (zI (i 2)), .int (zI (i 3)), .int (zI (i 4)), .ref (q 0), .ref (q 1), .ref (q 2), .long (zL (i 5)), .ref (q 3)])), ((q 0), .inl (cI, 4, .inl (fun k => zI ((g 0) k)))), ((q 1), .inl (cI, 20, .inl (fun k => zI ((g 1) k)))), ((q 2), .inl (cI, 20, .inl (fun k => zI ((g 2) k)))), ((q 3), .inl (cI, 100, .inl (fun k => zI ((g 3) k)))), (o, .inr (2, [.int (zI no), .ref (qo 0), .ref (qo 1), .ref (qo 2), .ref (qo 3), .ref (qo 4), .ref (qo 5), .ref (qo 6), .ref (qo 7)])), ((qo 0), .inl (cI, 10, .inl (fun k => zI ((go 0) k)))), ((qo 1), .inl (cI, 10, .inl (fun k => zI ((go 1) k)))), ((qo 2), .inl (cI, 10, .inl (fun k => zI ((go 2) k)))), ((qo 3), .inl (cI, 40, .inl (fun k => zI ((go 3) k)))), ((qo 4), .inl (cI, 40, .inl (fun k => zI ((go 4) k)))), ((qo 5), .inl (cI, 40, .inl (fun k => zI ((go 5) k)))), ((qo 6), .inl (cI, 20, .inl (fun k => zI ((go 6) k)))), ((qo 7), .inl (cI, 20, .inl (fun k => zI ((go 7) k))))] (fun r u => ∃ z : Int, r = zI z ∧ WalkOk u.1 u.2 ∧ (z = (stepsF pR (x).toNat sR) 5 - sR 5 ∧ WR ((stepsF pR (x).toNat sR) 5) (stepsF pR (x).toNat sR) u.1 u.2 ∧ (i 1 ≤ u.1 1 ∧ u.1 1 ≤ i 1 + x))) (fun u => [(b, .inr (6, [.int (zI (u.1 0)), .int (zI (u.1 1)), .int (zI (u.1 2)), .int (zI (u.1 3)), .int (zI (u.1 4)), .ref (q 0), .ref (q 1), .ref (q 2), .long (zL (u.1 5)), .ref (q 3)])), ((q 0), .inl (cI, 4, .inl (fun k => zI ((u.2 0) k)))), ((q 1), .inl (cI, 20, .inl (fun k => zI ((u.2 1) k)))), ((q 2), .inl (cI, 20, .inl (fun k => zI ((u.2 2) k)))), ((q 3), .inl (cI, 100, .inl (fun k => zI ((u.2 3) k)))), (o, .inr (2, [.int (zI no), .ref (qo 0), .ref (qo 1), .ref (qo 2), .ref (qo 3), .ref (qo 4), .ref (qo 5), .ref (qo 6), .ref (qo 7)])), ((qo 0), .inl (cI, 10, .inl (fun k => zI ((go 0) k)))), ((qo 1), .inl (cI, 10, .inl (fun k => zI ((go 1) k)))), ((qo 2), .inl (cI, 10, .inl (fun k => zI ((go 2) k)))), ((qo 3), .inl (cI, 40, .inl (fun k => zI ((go 3) k)))), ((qo 4), .inl (cI, 40, .inl (fun k => zI ((go 4) k)))), ((qo 5), .inl (cI, 40, .inl (fun k => zI ((go 5) k)))), ((qo 6), .inl (cI, 20, .inl (fun k => zI ((go 6) k)))), ((qo 7), .inl (cI, 20, .inl (fun k => zI ((go 7) k))))]) := by
  refine bw_Ci.of (cc := cX6_goOn) (maxL := 5) (ty := .int) (by decide) rfl (Nat.le_of_ble_eq_true rfl) ?_
  intro p e s m below meth c A Q hx hb hml hts hown hin hK hA hS hP hD hE ret ls hl
  have F : CallFix p m c cX6_goOn 5 s ([.ref b, .ref o, .int (zI x)] : List Value).toArray bw_T RX6 := ⟨hx, hb, hml, hown, fun w h => hts w (List.mem_cons_of_mem _ h)⟩
  replace hl : lv_has ls 5 [(0, .ref b), (1, .ref o), (2, .int (zI x))] := hl
  have hW1 := hW.1
  have hM0 := hM.1
  refine lv_aload_n hx hb dX6_goOn_0 rfl (lv_at hl 0 rfl) ?_
  refine r_get F hK hP 0 1 rfl rfl in_X6 (by decide) k_322 rfl dX6_goOn_1 ?_
  refine lv_istore_n (lv' := [(3, .int (zI (i 1))), (0, .ref b), (1, .ref o), (2, .int (zI x))]) hx hb dX6_goOn_4 rfl hl (by decide) rfl (fun ls hl => ?_)
  refine lv_iconst (v := zI 0) hx hb dX6_goOn_5 rfl ?_
  refine lv_istore (lv' := [(4, .int (zI 0)), (3, .int (zI (i 1))), (0, .ref b), (1, .ref o), (2, .int (zI x))]) hx hb dX6_goOn_6 hl (by decide) rfl (fun ls hl => ?_)
  refine W.widen (k := 0) (n := 0) (Nat.le_of_ble_eq_true rfl) (Nat.le_of_ble_eq_true rfl) ?_
  refine (?_ : ∀ (n9_1 : Nat) (v4 : Int) (ii : Nat → Int) (gg : Nat → Nat → Int) (H : Heap) (locs : List Loc), (0 ≤ v4 ∧ v4 ≤ x ∧ i 1 ≤ ii 1 ∧ ii 1 ≤ i 1 + v4) → (x - v4 : Int).toNat < n9_1 → (WalkOk ii gg) → (∃ s9 : Nat → Int, StOk pR s9 ∧ RT pR s9 ∧ WR (s9 5) s9 ii gg ∧ stepsF pR (x - v4).toNat s9 = stepsF pR (x).toNat sR) → va_P G vwCl [(b, .inr (6, [.int (zI (ii 0)), .int (zI (ii 1)), .int (zI (ii 2)), .int (zI (ii 3)), .int (zI (ii 4)), .ref (q 0), .ref (q 1), .ref (q 2), .long (zL (ii 5)), .ref (q 3)])), ((q 0), .inl (cI, 4, .inl (fun k => zI ((gg 0) k)))), ((q 1), .inl (cI, 20, .inl (fun k => zI ((gg 1) k)))), ((q 2), .inl (cI, 20, .inl (fun k => zI ((gg 2) k)))), ((q 3), .inl (cI, 100, .inl (fun k => zI ((gg 3) k)))), (o, .inr (2, [.int (zI no), .ref (qo 0), .ref (qo 1), .ref (qo 2), .ref (qo 3), .ref (qo 4), .ref (qo 5), .ref (qo 6), .ref (qo 7)])), ((qo 0), .inl (cI, 10, .inl (fun k => zI ((go 0) k)))), ((qo 1), .inl (cI, 10, .inl (fun k => zI ((go 1) k)))), ((qo 2), .inl (cI, 10, .inl (fun k => zI ((go 2) k)))), ((qo 3), .inl (cI, 40, .inl (fun k => zI ((go 3) k)))), ((qo 4), .inl (cI, 40, .inl (fun k => zI ((go 4) k)))), ((qo 5), .inl (cI, 40, .inl (fun k => zI ((go 5) k)))), ((qo 6), .inl (cI, 20, .inl (fun k => zI ((go 6) k)))), ((qo 7), .inl (cI, 20, .inl (fun k => zI ((go 7) k))))] H → va_D A [(b, .inr (6, [.int (zI (ii 0)), .int (zI (ii 1)), .int (zI (ii 2)), .int (zI (ii 3)), .int (zI (ii 4)), .ref (q 0), .ref (q 1), .ref (q 2), .long (zL (ii 5)), .ref (q 3)])), ((q 0), .inl (cI, 4, .inl (fun k => zI ((gg 0) k)))), ((q 1), .inl (cI, 20, .inl (fun k => zI ((gg 1) k)))), ((q 2), .inl (cI, 20, .inl (fun k => zI ((gg 2) k)))), ((q 3), .inl (cI, 100, .inl (fun k => zI ((gg 3) k)))), (o, .inr (2, [.int (zI no), .ref (qo 0), .ref (qo 1), .ref (qo 2), .ref (qo 3), .ref (qo 4), .ref (qo 5), .ref (qo 6), .ref (qo 7)])), ((qo 0), .inl (cI, 10, .inl (fun k => zI ((go 0) k)))), ((qo 1), .inl (cI, 10, .inl (fun k => zI ((go 1) k)))), ((qo 2), .inl (cI, 10, .inl (fun k => zI ((go 2) k)))), ((qo 3), .inl (cI, 40, .inl (fun k => zI ((go 3) k)))), ((qo 4), .inl (cI, 40, .inl (fun k => zI ((go 4) k)))), ((qo 5), .inl (cI, 40, .inl (fun k => zI ((go 5) k)))), ((qo 6), .inl (cI, 20, .inl (fun k => zI ((go 6) k)))), ((qo 7), .inl (cI, 20, .inl (fun k => zI ((go 7) k))))] → va_S A s.heap H locs → ∀ ls : Array Slot, lv_has ls 5 [(4, .int (zI v4)), (3, .int (zI (i 1))), (0, .ref b), (1, .ref o), (2, .int (zI x))] → W p l e rm_X6z_goOn s m ([.ref b, .ref o, .int (zI x)] : List Value).toArray below meth c H locs 0 0 Q (F0 m 8 ls [])) ((x - 0 : Int).toNat + 1) 0 i g _ _ (by omega) (by omega) hW ⟨sR, hSt, hRT, hWR, by rw [Int.sub_zero]⟩ hP hD hS ls hl
  clear hP hD hS hl ls
  intro n9_1
  induction n9_1 with
  | zero =>
    intro v4 ii gg H locs hI hM
    exact absurd hM (by omega)
  | succ n9_1 ih1 =>
    intro v4 ii gg H locs hI1 hM1 hG hgo9 hP hD hS ls hl
    have hf1 := hG.1
    refine lv_iload hx hb dX6_goOn_8 (lv_at hl 0 rfl) ?_
    obtain ⟨s9, h91, h92, h93, h94⟩ := hgo9
    refine lv_iload_n hx hb dX6_goOn_10 rfl (lv_at hl 4 rfl) ?_
    refine rz_icmp_ge (tgt := 32) F (by omega) (by omega) dX6_goOn_11 (by decide) (fun h11_1 => ?_) (fun h11_1 => ?_)
    · refine lv_aload_n hx hb dX6_goOn_32 rfl (lv_at hl 2 rfl) ?_
      have hfin : stepsF pR (x).toNat sR = s9 := by
        rw [← h94]
        by_cases q9 : s9 6 = 0
        · have q8 := h93.1.2.2.1
          rw [show (x - v4).toNat = 0 by omega]; rfl
        · exact stepsF_end q9 _
      refine r_get F hK hP 0 1 rfl rfl in_X6 (by decide) k_322 rfl dX6_goOn_33 ?_
      refine lv_iload_n hx hb dX6_goOn_36 rfl (lv_at hl 1 rfl) ?_
      refine r_isub (v := zI ((ii 1) - (i 1))) F dX6_goOn_37 (zI_sub _ _) ?_
      exact ret (zI ((ii 1) - (i 1))) (ii, gg) _ _ _ _ _ _ rfl ⟨((ii 1) - (i 1)), rfl, hG, (show (((ii 1) - (i 1)) : Int) = (stepsF pR (x).toNat sR) 5 - sR 5 ∧ WR ((stepsF pR (x).toNat sR) 5) (stepsF pR (x).toNat sR) ii gg ∧ (i 1 ≤ ii 1 ∧ ii 1 ≤ i 1 + x) from by have q7 := h93.1.2.1; have q6 := hWR.1.2.1; rw [hfin]; exact ⟨by omega, h93, by omega, by omega⟩)⟩ (bw_subP (isC := [0, 1, 2, 3, 4, 5, 6, 7, 8, 9, 10, 11, 12, 13]) hP rfl) (hD.sub [0, 1, 2, 3, 4, 5, 6, 7, 8, 9, 10, 11, 12, 13] (by decide) rfl) hS (Nat.le_of_ble_eq_true rfl) (Nat.le_of_ble_eq_true rfl) dX6_goOn_38
    · refine lv_aload_n hx hb dX6_goOn_14 rfl (lv_at hl 2 rfl) ?_
      refine r_get F hK hP 0 2 rfl rfl in_X6 (by decide) k_325 rfl dX6_goOn_15 ?_
      refine rz_if_ne (tgt := 32) F (by omega) dX6_goOn_18 (by decide) (fun h18_2 => ?_) (fun h18_2 => ?_)
      · refine lv_aload_n hx hb dX6_goOn_32 rfl (lv_at hl 2 rfl) ?_
        have hfin : stepsF pR (x).toNat sR = s9 := by
          rw [← h94]
          by_cases q9 : s9 6 = 0
          · have q8 := h93.1.2.2.1
            rw [show (x - v4).toNat = 0 by omega]; rfl
          · exact stepsF_end q9 _
        refine r_get F hK hP 0 1 rfl rfl in_X6 (by decide) k_322 rfl dX6_goOn_33 ?_
        refine lv_iload_n hx hb dX6_goOn_36 rfl (lv_at hl 1 rfl) ?_
        refine r_isub (v := zI ((ii 1) - (i 1))) F dX6_goOn_37 (zI_sub _ _) ?_
        exact ret (zI ((ii 1) - (i 1))) (ii, gg) _ _ _ _ _ _ rfl ⟨((ii 1) - (i 1)), rfl, hG, (show (((ii 1) - (i 1)) : Int) = (stepsF pR (x).toNat sR) 5 - sR 5 ∧ WR ((stepsF pR (x).toNat sR) 5) (stepsF pR (x).toNat sR) ii gg ∧ (i 1 ≤ ii 1 ∧ ii 1 ≤ i 1 + x) from by have q7 := h93.1.2.1; have q6 := hWR.1.2.1; rw [hfin]; exact ⟨by omega, h93, by omega, by omega⟩)⟩ (bw_subP (isC := [0, 1, 2, 3, 4, 5, 6, 7, 8, 9, 10, 11, 12, 13]) hP rfl) (hD.sub [0, 1, 2, 3, 4, 5, 6, 7, 8, 9, 10, 11, 12, 13] (by decide) rfl) hS (Nat.le_of_ble_eq_true rfl) (Nat.le_of_ble_eq_true rfl) dX6_goOn_38
      · refine lv_aload_n hx hb dX6_goOn_21 rfl (lv_at hl 2 rfl) ?_
        have h60 : s9 6 = 0 := by have q8 := h93.1.2.2.1; omega
        refine lv_aload_n hx hb dX6_goOn_22 rfl (lv_at hl 3 rfl) ?_
        refine r_callVv (As := [.ref o]) (rest := []) (wr := []) F hK hP hD hS hA hO hE (c_X6z_step hO b q ii gg hG o qo no go hM (by omega) pR s9 hPr h91 h92 hNR h93 h60) k_698 kv_X6_step 1 rfl (by decide +kernel) ⟨Nat.le_of_ble_eq_true rfl, Nat.le_of_ble_eq_true rfl⟩ [0, 1, 2, 3, 4, 5, 6, 7, 8, 9, 10, 11, 12, 13] [] rfl rfl (by decide) (by decide) (by decide) 0 6 rfl rfl rfl hl.1 rfl (Nat.le_of_ble_eq_true rfl) dX6_goOn_23 ⟨Nat.le_of_ble_eq_true rfl, Nat.le_of_ble_eq_true rfl⟩ (w1 := fun u4 => [(b, .inr (6, [.int (zI (u4.1 0)), .int (zI (u4.1 1)), .int (zI (u4.1 2)), .int (zI (u4.1 3)), .int (zI (u4.1 4)), .ref (q 0), .ref (q 1), .ref (q 2), .long (zL (u4.1 5)), .ref (q 3)])), ((q 0), .inl (cI, 4, .inl (fun k => zI ((u4.2 0) k)))), ((q 1), .inl (cI, 20, .inl (fun k => zI ((u4.2 1) k)))), ((q 2), .inl (cI, 20, .inl (fun k => zI ((u4.2 2) k)))), ((q 3), .inl (cI, 100, .inl (fun k => zI ((u4.2 3) k)))), (o, .inr (2, [.int (zI no), .ref (qo 0), .ref (qo 1), .ref (qo 2), .ref (qo 3), .ref (qo 4), .ref (qo 5), .ref (qo 6), .ref (qo 7)])), ((qo 0), .inl (cI, 10, .inl (fun k => zI ((go 0) k)))), ((qo 1), .inl (cI, 10, .inl (fun k => zI ((go 1) k)))), ((qo 2), .inl (cI, 10, .inl (fun k => zI ((go 2) k)))), ((qo 3), .inl (cI, 40, .inl (fun k => zI ((go 3) k)))), ((qo 4), .inl (cI, 40, .inl (fun k => zI ((go 4) k)))), ((qo 5), .inl (cI, 40, .inl (fun k => zI ((go 5) k)))), ((qo 6), .inl (cI, 20, .inl (fun k => zI ((go 6) k)))), ((qo 7), .inl (cI, 20, .inl (fun k => zI ((go 7) k))))]) (fun _ => rfl) (fun  u4 H locs hp5 hP hD hS => ?_)
        have hf6 := hp5.1.1
        have hx7 := hp5.2.1
        refine lv_iinc (v := zI (v4 + 1)) (lv' := [(4, .int (zI (v4 + 1))), (3, .int (zI (i 1))), (0, .ref b), (1, .ref o), (2, .int (zI x))]) hx hb dX6_goOn_26 hl (k := 0) rfl (zI_add _ _) (by decide) rfl (fun ls hl => ?_)
        refine lv_goto (tgt := 8) hx hb dX6_goOn_29 (by decide) ?_
        exact ih1 (v4 + 1) u4.1 u4.2 _ _ (by omega) (by omega) hp5.1 ⟨stepF pR s9, (StOk_stepF hPr h91 h60).1, RT_stepF hPr h91, hp5.2.2, by rw [← h94, show (x - v4).toNat = (x - (v4 + 1)).toNat + 1 by omega, stepsF_go h60]⟩ hP hD hS ls (lv_sub hl [0, 1, 2, 3, 4] rfl)
abbrev rm_X6z_begin : Room := { frames := 1, cells := 0, slots := 0, locals := 23 }
set_option maxRecDepth 100000 in
set_option maxHeartbeats 8000000 in
theorem c_X6z_begin {l : Launch} {E : (Nat → Prop) → State → Prop} (hO : bw_Ok E) {G : va_G} {cI cB cJ cN cW : ClassId} (b : Nat) (q : Nat → Nat) (i : Nat → Int) (g : Nat → Nat → Int) (hW : WalkOk i g) (o : Nat) (qo : Nat → Nat) (no : Int) (go : Nat → Nat → Int) (hM : NetOk no go) (x0 : Int) (x1 : Int) (x2 : Int) (x3 : Int) (pR : Nat → Int) (hNR : NRel go pR) : bw_Cv (S := zU) l yX6_begin (bw_ws (Cond.code yX6_begin cX6_begin 6 none)) rm_X6z_begin E G (bw_kt cI cB cJ cN cW) [.ref b, .ref o, .int (zI x0), .int (zI x1), .int (zI x2), .int (zI x3)] [(b, .inr (6, [.int (zI (i 0)), .int (zI (i 1)), .int (zI (i 2)), .int (zI (i 3)), .int (zI (i 4)), .ref (q 0), .ref (q 1), .ref (q 2), .long (zL (i 5)), .ref (q 3)])), ((q 0), .inl (cI, 4, .inl (fun k => zI ((g 0) k)))), ((q 1), .inl (cI, 20, .inl (fun k => zI ((g 1) k)))), ((q 2), .inl (cI, 20, .inl (fun k => zI ((g 2) k)))), ((q 3), .inl (cI, 100, .inl (fun k => zI ((g 3) k)))), (o, .inr (2, [.int (zI no), .ref (qo 0), .ref (qo 1), .ref (qo 2), .ref (qo 3), .ref (qo 4), .ref (qo 5), .ref (qo 6), .ref (qo 7)])), ((qo 0), .inl (cI, 10, .inl (fun k => zI ((go 0) k)))), ((qo 1), .inl (cI, 10, .inl (fun k => zI ((go 1) k)))), ((qo 2), .inl (cI, 10, .inl (fun k => zI ((go 2) k)))), ((qo 3), .inl (cI, 40, .inl (fun k => zI ((go 3) k)))), ((qo 4), .inl (cI, 40, .inl (fun k => zI ((go 4) k)))), ((qo 5), .inl (cI, 40, .inl (fun k => zI ((go 5) k)))), ((qo 6), .inl (cI, 20, .inl (fun k => zI ((go 6) k)))), ((qo 7), .inl (cI, 20, .inl (fun k => zI ((go 7) k))))] (fun u => WalkOk u.1 u.2 ∧ (u.1 1 = 0 ∧ WR 0 (begF pR x0 x1 x2 x3) u.1 u.2)) (fun u => [(b, .inr (6, [.int (zI (u.1 0)), .int (zI (u.1 1)), .int (zI (u.1 2)), .int (zI (u.1 3)), .int (zI (u.1 4)), .ref (q 0), .ref (q 1), .ref (q 2), .long (zL (u.1 5)), .ref (q 3)])), ((q 0), .inl (cI, 4, .inl (fun k => zI ((u.2 0) k)))), ((q 1), .inl (cI, 20, .inl (fun k => zI ((u.2 1) k)))), ((q 2), .inl (cI, 20, .inl (fun k => zI ((u.2 2) k)))), ((q 3), .inl (cI, 100, .inl (fun k => zI ((u.2 3) k)))), (o, .inr (2, [.int (zI no), .ref (qo 0), .ref (qo 1), .ref (qo 2), .ref (qo 3), .ref (qo 4), .ref (qo 5), .ref (qo 6), .ref (qo 7)])), ((qo 0), .inl (cI, 10, .inl (fun k => zI ((go 0) k)))), ((qo 1), .inl (cI, 10, .inl (fun k => zI ((go 1) k)))), ((qo 2), .inl (cI, 10, .inl (fun k => zI ((go 2) k)))), ((qo 3), .inl (cI, 40, .inl (fun k => zI ((go 3) k)))), ((qo 4), .inl (cI, 40, .inl (fun k => zI ((go 4) k)))), ((qo 5), .inl (cI, 40, .inl (fun k => zI ((go 5) k)))), ((qo 6), .inl (cI, 20, .inl (fun k => zI ((go 6) k)))), ((qo 7), .inl (cI, 20, .inl (fun k => zI ((go 7) k))))]) := by
  refine bw_Cv.of (cc := cX6_begin) (maxL := 6) (by decide) rfl (Nat.le_of_ble_eq_true rfl) ?_
  intro p e s m below meth c A Q hx hb hml hts hown hin hK hA hS hP hD hE ret ls hl
  have F : CallFix p m c cX6_begin 6 s ([.ref b, .ref o, .int (zI x0), .int (zI x1), .int (zI x2), .int (zI x3)] : List Value).toArray bw_T RX6 := ⟨hx, hb, hml, hown, fun w h => hts w (List.mem_cons_of_mem _ h)⟩
  replace hl : lv_has ls 6 [(0, .ref b), (1, .ref o), (2, .int (zI x0)), (3, .int (zI x1)), (4, .int (zI x2)), (5, .int (zI x3))] := hl
  have hW1 := hW.1
  have hM0 := hM.1
  have hgo := hM.2.1 (0 : Int).toNat (by decide)
  have htd := hNR.td (l := 0) (by omega)
  refine lv_aload_n hx hb dX6_begin_0 rfl (lv_at hl 0 rfl) ?_
  refine r_get F hK hP 0 5 rfl rfl in_X6 (by decide) k_332 rfl dX6_begin_1 ?_
  refine lv_iconst (v := zI 0) hx hb dX6_begin_4 rfl ?_
  refine lv_iload_n hx hb dX6_begin_5 rfl (lv_at hl 2 rfl) ?_
  refine rz_iastG F hK hP hD hS 1 0 rfl rfl (by omega) (by omega) dX6_begin_6 (w1 := fun g1 => [(b, .inr (6, [.int (zI (i 0)), .int (zI (i 1)), .int (zI (i 2)), .int (zI (i 3)), .int (zI (i 4)), .ref (q 0), .ref (q 1), .ref (q 2), .long (zL (i 5)), .ref (q 3)])), ((q 0), .inl (cI, 4, .inl (fun k => zI (g1 k)))), ((q 1), .inl (cI, 20, .inl (fun k => zI ((g 1) k)))), ((q 2), .inl (cI, 20, .inl (fun k => zI ((g 2) k)))), ((q 3), .inl (cI, 100, .inl (fun k => zI ((g 3) k)))), (o, .inr (2, [.int (zI no), .ref (qo 0), .ref (qo 1), .ref (qo 2), .ref (qo 3), .ref (qo 4), .ref (qo 5), .ref (qo 6), .ref (qo 7)])), ((qo 0), .inl (cI, 10, .inl (fun k => zI ((go 0) k)))), ((qo 1), .inl (cI, 10, .inl (fun k => zI ((go 1) k)))), ((qo 2), .inl (cI, 10, .inl (fun k => zI ((go 2) k)))), ((qo 3), .inl (cI, 40, .inl (fun k => zI ((go 3) k)))), ((qo 4), .inl (cI, 40, .inl (fun k => zI ((go 4) k)))), ((qo 5), .inl (cI, 40, .inl (fun k => zI ((go 5) k)))), ((qo 6), .inl (cI, 20, .inl (fun k => zI ((go 6) k)))), ((qo 7), .inl (cI, 20, .inl (fun k => zI ((go 7) k))))]) (fun _ => rfl) (fun g1 e_g1 H locs hP hD hS => ?_)
  refine lv_aload_n hx hb dX6_begin_7 rfl (lv_at hl 0 rfl) ?_
  refine r_get F hK hP 0 5 rfl rfl in_X6 (by decide) k_332 rfl dX6_begin_8 ?_
  refine lv_iconst (v := zI 1) hx hb dX6_begin_11 rfl ?_
  refine lv_iload_n hx hb dX6_begin_12 rfl (lv_at hl 3 rfl) ?_
  refine rz_iastG F hK hP hD hS 1 0 rfl rfl (by omega) (by omega) dX6_begin_13 (w1 := fun g2 => [(b, .inr (6, [.int (zI (i 0)), .int (zI (i 1)), .int (zI (i 2)), .int (zI (i 3)), .int (zI (i 4)), .ref (q 0), .ref (q 1), .ref (q 2), .long (zL (i 5)), .ref (q 3)])), ((q 0), .inl (cI, 4, .inl (fun k => zI (g2 k)))), ((q 1), .inl (cI, 20, .inl (fun k => zI ((g 1) k)))), ((q 2), .inl (cI, 20, .inl (fun k => zI ((g 2) k)))), ((q 3), .inl (cI, 100, .inl (fun k => zI ((g 3) k)))), (o, .inr (2, [.int (zI no), .ref (qo 0), .ref (qo 1), .ref (qo 2), .ref (qo 3), .ref (qo 4), .ref (qo 5), .ref (qo 6), .ref (qo 7)])), ((qo 0), .inl (cI, 10, .inl (fun k => zI ((go 0) k)))), ((qo 1), .inl (cI, 10, .inl (fun k => zI ((go 1) k)))), ((qo 2), .inl (cI, 10, .inl (fun k => zI ((go 2) k)))), ((qo 3), .inl (cI, 40, .inl (fun k => zI ((go 3) k)))), ((qo 4), .inl (cI, 40, .inl (fun k => zI ((go 4) k)))), ((qo 5), .inl (cI, 40, .inl (fun k => zI ((go 5) k)))), ((qo 6), .inl (cI, 20, .inl (fun k => zI ((go 6) k)))), ((qo 7), .inl (cI, 20, .inl (fun k => zI ((go 7) k))))]) (fun _ => rfl) (fun g2 e_g2 H locs hP hD hS => ?_)
  refine lv_aload_n hx hb dX6_begin_14 rfl (lv_at hl 0 rfl) ?_
  refine r_get F hK hP 0 5 rfl rfl in_X6 (by decide) k_332 rfl dX6_begin_15 ?_
  refine lv_iconst (v := zI 2) hx hb dX6_begin_18 rfl ?_
  refine lv_iload hx hb dX6_begin_19 (lv_at hl 4 rfl) ?_
  refine rz_iastG F hK hP hD hS 1 0 rfl rfl (by omega) (by omega) dX6_begin_21 (w1 := fun g3 => [(b, .inr (6, [.int (zI (i 0)), .int (zI (i 1)), .int (zI (i 2)), .int (zI (i 3)), .int (zI (i 4)), .ref (q 0), .ref (q 1), .ref (q 2), .long (zL (i 5)), .ref (q 3)])), ((q 0), .inl (cI, 4, .inl (fun k => zI (g3 k)))), ((q 1), .inl (cI, 20, .inl (fun k => zI ((g 1) k)))), ((q 2), .inl (cI, 20, .inl (fun k => zI ((g 2) k)))), ((q 3), .inl (cI, 100, .inl (fun k => zI ((g 3) k)))), (o, .inr (2, [.int (zI no), .ref (qo 0), .ref (qo 1), .ref (qo 2), .ref (qo 3), .ref (qo 4), .ref (qo 5), .ref (qo 6), .ref (qo 7)])), ((qo 0), .inl (cI, 10, .inl (fun k => zI ((go 0) k)))), ((qo 1), .inl (cI, 10, .inl (fun k => zI ((go 1) k)))), ((qo 2), .inl (cI, 10, .inl (fun k => zI ((go 2) k)))), ((qo 3), .inl (cI, 40, .inl (fun k => zI ((go 3) k)))), ((qo 4), .inl (cI, 40, .inl (fun k => zI ((go 4) k)))), ((qo 5), .inl (cI, 40, .inl (fun k => zI ((go 5) k)))), ((qo 6), .inl (cI, 20, .inl (fun k => zI ((go 6) k)))), ((qo 7), .inl (cI, 20, .inl (fun k => zI ((go 7) k))))]) (fun _ => rfl) (fun g3 e_g3 H locs hP hD hS => ?_)
  refine lv_aload_n hx hb dX6_begin_22 rfl (lv_at hl 0 rfl) ?_
  refine r_get F hK hP 0 5 rfl rfl in_X6 (by decide) k_332 rfl dX6_begin_23 ?_
  refine lv_iconst (v := zI 3) hx hb dX6_begin_26 rfl ?_
  refine lv_iload hx hb dX6_begin_27 (lv_at hl 5 rfl) ?_
  refine rz_iastG F hK hP hD hS 1 0 rfl rfl (by omega) (by omega) dX6_begin_29 (w1 := fun g4 => [(b, .inr (6, [.int (zI (i 0)), .int (zI (i 1)), .int (zI (i 2)), .int (zI (i 3)), .int (zI (i 4)), .ref (q 0), .ref (q 1), .ref (q 2), .long (zL (i 5)), .ref (q 3)])), ((q 0), .inl (cI, 4, .inl (fun k => zI (g4 k)))), ((q 1), .inl (cI, 20, .inl (fun k => zI ((g 1) k)))), ((q 2), .inl (cI, 20, .inl (fun k => zI ((g 2) k)))), ((q 3), .inl (cI, 100, .inl (fun k => zI ((g 3) k)))), (o, .inr (2, [.int (zI no), .ref (qo 0), .ref (qo 1), .ref (qo 2), .ref (qo 3), .ref (qo 4), .ref (qo 5), .ref (qo 6), .ref (qo 7)])), ((qo 0), .inl (cI, 10, .inl (fun k => zI ((go 0) k)))), ((qo 1), .inl (cI, 10, .inl (fun k => zI ((go 1) k)))), ((qo 2), .inl (cI, 10, .inl (fun k => zI ((go 2) k)))), ((qo 3), .inl (cI, 40, .inl (fun k => zI ((go 3) k)))), ((qo 4), .inl (cI, 40, .inl (fun k => zI ((go 4) k)))), ((qo 5), .inl (cI, 40, .inl (fun k => zI ((go 5) k)))), ((qo 6), .inl (cI, 20, .inl (fun k => zI ((go 6) k)))), ((qo 7), .inl (cI, 20, .inl (fun k => zI ((go 7) k))))]) (fun _ => rfl) (fun g4 e_g4 H locs hP hD hS => ?_)
  refine lv_aload_n hx hb dX6_begin_30 rfl (lv_at hl 0 rfl) ?_
  refine lv_iconst (v := zI 0) hx hb dX6_begin_31 rfl ?_
  refine r_put F hK hP hD hS 0 0 rfl rfl in_X6 tyX6 tyX6_ok nmX6 (by decide) k_320 rfl rfl rfl (Nat.le_of_ble_eq_true rfl) dX6_begin_32 (w1 := [(b, .inr (6, [.int (zI 0), .int (zI (i 1)), .int (zI (i 2)), .int (zI (i 3)), .int (zI (i 4)), .ref (q 0), .ref (q 1), .ref (q 2), .long (zL (i 5)), .ref (q 3)])), ((q 0), .inl (cI, 4, .inl (fun k => zI (g4 k)))), ((q 1), .inl (cI, 20, .inl (fun k => zI ((g 1) k)))), ((q 2), .inl (cI, 20, .inl (fun k => zI ((g 2) k)))), ((q 3), .inl (cI, 100, .inl (fun k => zI ((g 3) k)))), (o, .inr (2, [.int (zI no), .ref (qo 0), .ref (qo 1), .ref (qo 2), .ref (qo 3), .ref (qo 4), .ref (qo 5), .ref (qo 6), .ref (qo 7)])), ((qo 0), .inl (cI, 10, .inl (fun k => zI ((go 0) k)))), ((qo 1), .inl (cI, 10, .inl (fun k => zI ((go 1) k)))), ((qo 2), .inl (cI, 10, .inl (fun k => zI ((go 2) k)))), ((qo 3), .inl (cI, 40, .inl (fun k => zI ((go 3) k)))), ((qo 4), .inl (cI, 40, .inl (fun k => zI ((go 4) k)))), ((qo 5), .inl (cI, 40, .inl (fun k => zI ((go 5) k)))), ((qo 6), .inl (cI, 20, .inl (fun k => zI ((go 6) k)))), ((qo 7), .inl (cI, 20, .inl (fun k => zI ((go 7) k))))]) rfl (fun H locs hP hD hS => ?_)
  refine lv_aload_n hx hb dX6_begin_35 rfl (lv_at hl 0 rfl) ?_
  refine lv_iconst (v := zI 0) hx hb dX6_begin_36 rfl ?_
  refine r_put F hK hP hD hS 0 1 rfl rfl in_X6 tyX6 tyX6_ok nmX6 (by decide) k_322 rfl rfl rfl (Nat.le_of_ble_eq_true rfl) dX6_begin_37 (w1 := [(b, .inr (6, [.int (zI 0), .int (zI 0), .int (zI (i 2)), .int (zI (i 3)), .int (zI (i 4)), .ref (q 0), .ref (q 1), .ref (q 2), .long (zL (i 5)), .ref (q 3)])), ((q 0), .inl (cI, 4, .inl (fun k => zI (g4 k)))), ((q 1), .inl (cI, 20, .inl (fun k => zI ((g 1) k)))), ((q 2), .inl (cI, 20, .inl (fun k => zI ((g 2) k)))), ((q 3), .inl (cI, 100, .inl (fun k => zI ((g 3) k)))), (o, .inr (2, [.int (zI no), .ref (qo 0), .ref (qo 1), .ref (qo 2), .ref (qo 3), .ref (qo 4), .ref (qo 5), .ref (qo 6), .ref (qo 7)])), ((qo 0), .inl (cI, 10, .inl (fun k => zI ((go 0) k)))), ((qo 1), .inl (cI, 10, .inl (fun k => zI ((go 1) k)))), ((qo 2), .inl (cI, 10, .inl (fun k => zI ((go 2) k)))), ((qo 3), .inl (cI, 40, .inl (fun k => zI ((go 3) k)))), ((qo 4), .inl (cI, 40, .inl (fun k => zI ((go 4) k)))), ((qo 5), .inl (cI, 40, .inl (fun k => zI ((go 5) k)))), ((qo 6), .inl (cI, 20, .inl (fun k => zI ((go 6) k)))), ((qo 7), .inl (cI, 20, .inl (fun k => zI ((go 7) k))))]) rfl (fun H locs hP hD hS => ?_)
  refine lv_aload_n hx hb dX6_begin_40 rfl (lv_at hl 0 rfl) ?_
  refine lv_iconst (v := zI 0) hx hb dX6_begin_41 rfl ?_
  refine r_put F hK hP hD hS 0 3 rfl rfl in_X6 tyX6 tyX6_ok nmX6 (by decide) k_328 rfl rfl rfl (Nat.le_of_ble_eq_true rfl) dX6_begin_42 (w1 := [(b, .inr (6, [.int (zI 0), .int (zI 0), .int (zI (i 2)), .int (zI 0), .int (zI (i 4)), .ref (q 0), .ref (q 1), .ref (q 2), .long (zL (i 5)), .ref (q 3)])), ((q 0), .inl (cI, 4, .inl (fun k => zI (g4 k)))), ((q 1), .inl (cI, 20, .inl (fun k => zI ((g 1) k)))), ((q 2), .inl (cI, 20, .inl (fun k => zI ((g 2) k)))), ((q 3), .inl (cI, 100, .inl (fun k => zI ((g 3) k)))), (o, .inr (2, [.int (zI no), .ref (qo 0), .ref (qo 1), .ref (qo 2), .ref (qo 3), .ref (qo 4), .ref (qo 5), .ref (qo 6), .ref (qo 7)])), ((qo 0), .inl (cI, 10, .inl (fun k => zI ((go 0) k)))), ((qo 1), .inl (cI, 10, .inl (fun k => zI ((go 1) k)))), ((qo 2), .inl (cI, 10, .inl (fun k => zI ((go 2) k)))), ((qo 3), .inl (cI, 40, .inl (fun k => zI ((go 3) k)))), ((qo 4), .inl (cI, 40, .inl (fun k => zI ((go 4) k)))), ((qo 5), .inl (cI, 40, .inl (fun k => zI ((go 5) k)))), ((qo 6), .inl (cI, 20, .inl (fun k => zI ((go 6) k)))), ((qo 7), .inl (cI, 20, .inl (fun k => zI ((go 7) k))))]) rfl (fun H locs hP hD hS => ?_)
  refine lv_aload_n hx hb dX6_begin_45 rfl (lv_at hl 0 rfl) ?_
  refine lv_iconst (v := zI 1) hx hb dX6_begin_46 rfl ?_
  refine r_put F hK hP hD hS 0 4 rfl rfl in_X6 tyX6 tyX6_ok nmX6 (by decide) k_330 rfl rfl rfl (Nat.le_of_ble_eq_true rfl) dX6_begin_47 (w1 := [(b, .inr (6, [.int (zI 0), .int (zI 0), .int (zI (i 2)), .int (zI 0), .int (zI 1), .ref (q 0), .ref (q 1), .ref (q 2), .long (zL (i 5)), .ref (q 3)])), ((q 0), .inl (cI, 4, .inl (fun k => zI (g4 k)))), ((q 1), .inl (cI, 20, .inl (fun k => zI ((g 1) k)))), ((q 2), .inl (cI, 20, .inl (fun k => zI ((g 2) k)))), ((q 3), .inl (cI, 100, .inl (fun k => zI ((g 3) k)))), (o, .inr (2, [.int (zI no), .ref (qo 0), .ref (qo 1), .ref (qo 2), .ref (qo 3), .ref (qo 4), .ref (qo 5), .ref (qo 6), .ref (qo 7)])), ((qo 0), .inl (cI, 10, .inl (fun k => zI ((go 0) k)))), ((qo 1), .inl (cI, 10, .inl (fun k => zI ((go 1) k)))), ((qo 2), .inl (cI, 10, .inl (fun k => zI ((go 2) k)))), ((qo 3), .inl (cI, 40, .inl (fun k => zI ((go 3) k)))), ((qo 4), .inl (cI, 40, .inl (fun k => zI ((go 4) k)))), ((qo 5), .inl (cI, 40, .inl (fun k => zI ((go 5) k)))), ((qo 6), .inl (cI, 20, .inl (fun k => zI ((go 6) k)))), ((qo 7), .inl (cI, 20, .inl (fun k => zI ((go 7) k))))]) rfl (fun H locs hP hD hS => ?_)
  refine lv_aload_n hx hb dX6_begin_50 rfl (lv_at hl 0 rfl) ?_
  refine lv_lconst (v := (zL 0)) hx hb dX6_begin_51 rfl ?_
  refine r_put F hK hP hD hS 0 8 rfl rfl in_X6 tyX6 tyX6_ok nmX6 (by decide) k_338 rfl rfl rfl (Nat.le_of_ble_eq_true rfl) dX6_begin_52 (w1 := [(b, .inr (6, [.int (zI 0), .int (zI 0), .int (zI (i 2)), .int (zI 0), .int (zI 1), .ref (q 0), .ref (q 1), .ref (q 2), .long (zL 0), .ref (q 3)])), ((q 0), .inl (cI, 4, .inl (fun k => zI (g4 k)))), ((q 1), .inl (cI, 20, .inl (fun k => zI ((g 1) k)))), ((q 2), .inl (cI, 20, .inl (fun k => zI ((g 2) k)))), ((q 3), .inl (cI, 100, .inl (fun k => zI ((g 3) k)))), (o, .inr (2, [.int (zI no), .ref (qo 0), .ref (qo 1), .ref (qo 2), .ref (qo 3), .ref (qo 4), .ref (qo 5), .ref (qo 6), .ref (qo 7)])), ((qo 0), .inl (cI, 10, .inl (fun k => zI ((go 0) k)))), ((qo 1), .inl (cI, 10, .inl (fun k => zI ((go 1) k)))), ((qo 2), .inl (cI, 10, .inl (fun k => zI ((go 2) k)))), ((qo 3), .inl (cI, 40, .inl (fun k => zI ((go 3) k)))), ((qo 4), .inl (cI, 40, .inl (fun k => zI ((go 4) k)))), ((qo 5), .inl (cI, 40, .inl (fun k => zI ((go 5) k)))), ((qo 6), .inl (cI, 20, .inl (fun k => zI ((go 6) k)))), ((qo 7), .inl (cI, 20, .inl (fun k => zI ((go 7) k))))]) rfl (fun H locs hP hD hS => ?_)
  refine lv_aload_n hx hb dX6_begin_55 rfl (lv_at hl 0 rfl) ?_
  refine r_get F hK hP 0 9 rfl rfl in_X6 (by decide) k_339 rfl dX6_begin_56 ?_
  refine lv_iconst (v := zI 0) hx hb dX6_begin_59 rfl ?_
  refine lv_iconst (v := zI 0) hx hb dX6_begin_60 rfl ?_
  refine rz_iastG F hK hP hD hS 4 0 rfl rfl (by omega) (by omega) dX6_begin_61 (w1 := fun g5 => [(b, .inr (6, [.int (zI 0), .int (zI 0), .int (zI (i 2)), .int (zI 0), .int (zI 1), .ref (q 0), .ref (q 1), .ref (q 2), .long (zL 0), .ref (q 3)])), ((q 0), .inl (cI, 4, .inl (fun k => zI (g4 k)))), ((q 1), .inl (cI, 20, .inl (fun k => zI ((g 1) k)))), ((q 2), .inl (cI, 20, .inl (fun k => zI ((g 2) k)))), ((q 3), .inl (cI, 100, .inl (fun k => zI (g5 k)))), (o, .inr (2, [.int (zI no), .ref (qo 0), .ref (qo 1), .ref (qo 2), .ref (qo 3), .ref (qo 4), .ref (qo 5), .ref (qo 6), .ref (qo 7)])), ((qo 0), .inl (cI, 10, .inl (fun k => zI ((go 0) k)))), ((qo 1), .inl (cI, 10, .inl (fun k => zI ((go 1) k)))), ((qo 2), .inl (cI, 10, .inl (fun k => zI ((go 2) k)))), ((qo 3), .inl (cI, 40, .inl (fun k => zI ((go 3) k)))), ((qo 4), .inl (cI, 40, .inl (fun k => zI ((go 4) k)))), ((qo 5), .inl (cI, 40, .inl (fun k => zI ((go 5) k)))), ((qo 6), .inl (cI, 20, .inl (fun k => zI ((go 6) k)))), ((qo 7), .inl (cI, 20, .inl (fun k => zI ((go 7) k))))]) (fun _ => rfl) (fun g5 e_g5 H locs hP hD hS => ?_)
  refine lv_aload_n hx hb dX6_begin_62 rfl (lv_at hl 0 rfl) ?_
  refine r_get F hK hP 0 6 rfl rfl in_X6 (by decide) k_334 rfl dX6_begin_63 ?_
  refine lv_iconst (v := zI 0) hx hb dX6_begin_66 rfl ?_
  refine r_callZv (As := [.ref (q 1), .int (zI 0)]) (rest := []) (wr := [(b, .inr (6, [.int (zI 0), .int (zI 0), .int (zI (i 2)), .int (zI 0), .int (zI 1), .ref (q 0), .ref (q 1), .ref (q 2), .long (zL 0), .ref (q 3)])), ((q 0), .inl (cI, 4, .inl (fun k => zI (g4 k)))), ((q 2), .inl (cI, 20, .inl (fun k => zI ((g 2) k)))), ((q 3), .inl (cI, 100, .inl (fun k => zI (g5 k)))), (o, .inr (2, [.int (zI no), .ref (qo 0), .ref (qo 1), .ref (qo 2), .ref (qo 3), .ref (qo 4), .ref (qo 5), .ref (qo 6), .ref (qo 7)])), ((qo 0), .inl (cI, 10, .inl (fun k => zI ((go 0) k)))), ((qo 1), .inl (cI, 10, .inl (fun k => zI ((go 1) k)))), ((qo 2), .inl (cI, 10, .inl (fun k => zI ((go 2) k)))), ((qo 3), .inl (cI, 40, .inl (fun k => zI ((go 3) k)))), ((qo 4), .inl (cI, 40, .inl (fun k => zI ((go 4) k)))), ((qo 5), .inl (cI, 40, .inl (fun k => zI ((go 5) k)))), ((qo 6), .inl (cI, 20, .inl (fun k => zI ((go 6) k)))), ((qo 7), .inl (cI, 20, .inl (fun k => zI ((go 7) k))))]) F hK hP hD hS hA hO hE (c_J7_fill hO (q 1) 20 (by decide) (g 1) 0) k_662 ks_J7_fill_53178 2 rfl (by decide +kernel) ⟨Nat.le_of_ble_eq_true rfl, Nat.le_of_ble_eq_true rfl⟩ [2] [0, 1, 3, 4, 5, 6, 7, 8, 9, 10, 11, 12, 13] rfl rfl (by decide) (by decide) (by decide) hl.1 rfl (Nat.le_of_ble_eq_true rfl) dX6_begin_67 ⟨Nat.le_of_ble_eq_true rfl, Nat.le_of_ble_eq_true rfl⟩ (w1 := fun u6 => [(b, .inr (6, [.int (zI 0), .int (zI 0), .int (zI (i 2)), .int (zI 0), .int (zI 1), .ref (q 0), .ref (q 1), .ref (q 2), .long (zL 0), .ref (q 3)])), ((q 0), .inl (cI, 4, .inl (fun k => zI (g4 k)))), ((q 2), .inl (cI, 20, .inl (fun k => zI ((g 2) k)))), ((q 3), .inl (cI, 100, .inl (fun k => zI (g5 k)))), (o, .inr (2, [.int (zI no), .ref (qo 0), .ref (qo 1), .ref (qo 2), .ref (qo 3), .ref (qo 4), .ref (qo 5), .ref (qo 6), .ref (qo 7)])), ((qo 0), .inl (cI, 10, .inl (fun k => zI ((go 0) k)))), ((qo 1), .inl (cI, 10, .inl (fun k => zI ((go 1) k)))), ((qo 2), .inl (cI, 10, .inl (fun k => zI ((go 2) k)))), ((qo 3), .inl (cI, 40, .inl (fun k => zI ((go 3) k)))), ((qo 4), .inl (cI, 40, .inl (fun k => zI ((go 4) k)))), ((qo 5), .inl (cI, 40, .inl (fun k => zI ((go 5) k)))), ((qo 6), .inl (cI, 20, .inl (fun k => zI ((go 6) k)))), ((qo 7), .inl (cI, 20, .inl (fun k => zI ((go 7) k)))), ((q 1), .inl (cI, 20, .inl (fun k => zI ((u6.2 0) k))))]) (fun _ => rfl) (fun  u6 H locs hp7 hP hD hS => ?_)
  have hr8 : ∀ k, k < 20 → 0 ≤ (u6.2 0) k ∧ (u6.2 0) k ≤ 9 := fun k hk => by rw [hp7 k hk]; omega
  refine lv_aload_n hx hb dX6_begin_70 rfl (lv_at hl 0 rfl) ?_
  refine r_get F hK hP 0 7 rfl rfl in_X6 (by decide) k_336 rfl dX6_begin_71 ?_
  refine lv_iconst (v := zI 0) hx hb dX6_begin_74 rfl ?_
  refine r_callZv (As := [.ref (q 2), .int (zI 0)]) (rest := []) (wr := [(b, .inr (6, [.int (zI 0), .int (zI 0), .int (zI (i 2)), .int (zI 0), .int (zI 1), .ref (q 0), .ref (q 1), .ref (q 2), .long (zL 0), .ref (q 3)])), ((q 0), .inl (cI, 4, .inl (fun k => zI (g4 k)))), ((q 3), .inl (cI, 100, .inl (fun k => zI (g5 k)))), (o, .inr (2, [.int (zI no), .ref (qo 0), .ref (qo 1), .ref (qo 2), .ref (qo 3), .ref (qo 4), .ref (qo 5), .ref (qo 6), .ref (qo 7)])), ((qo 0), .inl (cI, 10, .inl (fun k => zI ((go 0) k)))), ((qo 1), .inl (cI, 10, .inl (fun k => zI ((go 1) k)))), ((qo 2), .inl (cI, 10, .inl (fun k => zI ((go 2) k)))), ((qo 3), .inl (cI, 40, .inl (fun k => zI ((go 3) k)))), ((qo 4), .inl (cI, 40, .inl (fun k => zI ((go 4) k)))), ((qo 5), .inl (cI, 40, .inl (fun k => zI ((go 5) k)))), ((qo 6), .inl (cI, 20, .inl (fun k => zI ((go 6) k)))), ((qo 7), .inl (cI, 20, .inl (fun k => zI ((go 7) k)))), ((q 1), .inl (cI, 20, .inl (fun k => zI ((u6.2 0) k))))]) F hK hP hD hS hA hO hE (c_J7_fill hO (q 2) 20 (by decide) (g 2) 0) k_662 ks_J7_fill_53178 2 rfl (by decide +kernel) ⟨Nat.le_of_ble_eq_true rfl, Nat.le_of_ble_eq_true rfl⟩ [2] [0, 1, 3, 4, 5, 6, 7, 8, 9, 10, 11, 12, 13] rfl rfl (by decide) (by decide) (by decide) hl.1 rfl (Nat.le_of_ble_eq_true rfl) dX6_begin_75 ⟨Nat.le_of_ble_eq_true rfl, Nat.le_of_ble_eq_true rfl⟩ (w1 := fun u9 => [(b, .inr (6, [.int (zI 0), .int (zI 0), .int (zI (i 2)), .int (zI 0), .int (zI 1), .ref (q 0), .ref (q 1), .ref (q 2), .long (zL 0), .ref (q 3)])), ((q 0), .inl (cI, 4, .inl (fun k => zI (g4 k)))), ((q 3), .inl (cI, 100, .inl (fun k => zI (g5 k)))), (o, .inr (2, [.int (zI no), .ref (qo 0), .ref (qo 1), .ref (qo 2), .ref (qo 3), .ref (qo 4), .ref (qo 5), .ref (qo 6), .ref (qo 7)])), ((qo 0), .inl (cI, 10, .inl (fun k => zI ((go 0) k)))), ((qo 1), .inl (cI, 10, .inl (fun k => zI ((go 1) k)))), ((qo 2), .inl (cI, 10, .inl (fun k => zI ((go 2) k)))), ((qo 3), .inl (cI, 40, .inl (fun k => zI ((go 3) k)))), ((qo 4), .inl (cI, 40, .inl (fun k => zI ((go 4) k)))), ((qo 5), .inl (cI, 40, .inl (fun k => zI ((go 5) k)))), ((qo 6), .inl (cI, 20, .inl (fun k => zI ((go 6) k)))), ((qo 7), .inl (cI, 20, .inl (fun k => zI ((go 7) k)))), ((q 1), .inl (cI, 20, .inl (fun k => zI ((u6.2 0) k)))), ((q 2), .inl (cI, 20, .inl (fun k => zI ((u9.2 0) k))))]) (fun _ => rfl) (fun  u9 H locs hp10 hP hD hS => ?_)
  refine lv_aload_n hx hb dX6_begin_78 rfl (lv_at hl 0 rfl) ?_
  refine lv_aload_n hx hb dX6_begin_79 rfl (lv_at hl 1 rfl) ?_
  refine r_get F hK hP 3 1 rfl rfl in_X2 (by decide) k_148 rfl dX6_begin_80 ?_
  refine lv_iconst (v := zI 0) hx hb dX6_begin_83 rfl ?_
  refine rz_iald F hK hP 4 0 rfl rfl (by omega) (by omega) dX6_begin_84 ?_
  refine lv_iconst (v := zI (-1)) hx hb dX6_begin_85 rfl ?_
  refine rz_icmp_ne (tgt := 93) F (by omega) (by omega) dX6_begin_86 (by decide) (fun h86_10 => ?_) (fun h86_10 => ?_)
  · refine lv_iconst (v := zI 0) hx hb dX6_begin_93 rfl ?_
    refine r_put F hK hP hD hS 0 2 rfl rfl in_X6 tyX6 tyX6_ok nmX6 (by decide) k_325 rfl rfl rfl (Nat.le_of_ble_eq_true rfl) dX6_begin_94 (w1 := [(b, .inr (6, [.int (zI 0), .int (zI 0), .int (zI 0), .int (zI 0), .int (zI 1), .ref (q 0), .ref (q 1), .ref (q 2), .long (zL 0), .ref (q 3)])), ((q 0), .inl (cI, 4, .inl (fun k => zI (g4 k)))), ((q 3), .inl (cI, 100, .inl (fun k => zI (g5 k)))), (o, .inr (2, [.int (zI no), .ref (qo 0), .ref (qo 1), .ref (qo 2), .ref (qo 3), .ref (qo 4), .ref (qo 5), .ref (qo 6), .ref (qo 7)])), ((qo 0), .inl (cI, 10, .inl (fun k => zI ((go 0) k)))), ((qo 1), .inl (cI, 10, .inl (fun k => zI ((go 1) k)))), ((qo 2), .inl (cI, 10, .inl (fun k => zI ((go 2) k)))), ((qo 3), .inl (cI, 40, .inl (fun k => zI ((go 3) k)))), ((qo 4), .inl (cI, 40, .inl (fun k => zI ((go 4) k)))), ((qo 5), .inl (cI, 40, .inl (fun k => zI ((go 5) k)))), ((qo 6), .inl (cI, 20, .inl (fun k => zI ((go 6) k)))), ((qo 7), .inl (cI, 20, .inl (fun k => zI ((go 7) k)))), ((q 1), .inl (cI, 20, .inl (fun k => zI ((u6.2 0) k)))), ((q 2), .inl (cI, 20, .inl (fun k => zI ((u9.2 0) k))))]) rfl (fun H locs hP hD hS => ?_)
    obtain ⟨i12, e_i12⟩ : ∃ i12 : Nat → Int, i12 = fun k => [0, 0, 0, 0, 1, 0].getD k 0 := ⟨_, rfl⟩
    have e_i12_0 : i12 0 = 0 := congrFun e_i12 0
    have e_i12_1 : i12 1 = 0 := congrFun e_i12 1
    have e_i12_2 : i12 2 = 0 := congrFun e_i12 2
    have e_i12_3 : i12 3 = 0 := congrFun e_i12 3
    have e_i12_4 : i12 4 = 1 := congrFun e_i12 4
    have e_i12_5 : i12 5 = 0 := congrFun e_i12 5
    obtain ⟨gg13, e_gg13⟩ : ∃ gg13 : Nat → Nat → Int, gg13 = fun k => [g4, (u6.2 0), (u9.2 0), g5].getD k (fun _ => 0) := ⟨_, rfl⟩
    have hO14 : WalkOk i12 gg13 := ⟨by omega, by rw [e_gg13]; exact hr8⟩
    have hf15 := hO14.1
    have hP : va_P G vwCl [(b, .inr (6, [.int (zI (i12 0)), .int (zI (i12 1)), .int (zI (i12 2)), .int (zI (i12 3)), .int (zI (i12 4)), .ref (q 0), .ref (q 1), .ref (q 2), .long (zL (i12 5)), .ref (q 3)])), ((q 0), .inl (cI, 4, .inl (fun k => zI ((gg13 0) k)))), ((q 3), .inl (cI, 100, .inl (fun k => zI ((gg13 3) k)))), (o, .inr (2, [.int (zI no), .ref (qo 0), .ref (qo 1), .ref (qo 2), .ref (qo 3), .ref (qo 4), .ref (qo 5), .ref (qo 6), .ref (qo 7)])), ((qo 0), .inl (cI, 10, .inl (fun k => zI ((go 0) k)))), ((qo 1), .inl (cI, 10, .inl (fun k => zI ((go 1) k)))), ((qo 2), .inl (cI, 10, .inl (fun k => zI ((go 2) k)))), ((qo 3), .inl (cI, 40, .inl (fun k => zI ((go 3) k)))), ((qo 4), .inl (cI, 40, .inl (fun k => zI ((go 4) k)))), ((qo 5), .inl (cI, 40, .inl (fun k => zI ((go 5) k)))), ((qo 6), .inl (cI, 20, .inl (fun k => zI ((go 6) k)))), ((qo 7), .inl (cI, 20, .inl (fun k => zI ((go 7) k)))), ((q 1), .inl (cI, 20, .inl (fun k => zI ((gg13 1) k)))), ((q 2), .inl (cI, 20, .inl (fun k => zI ((gg13 2) k))))] H := by subst e_i12 e_gg13; exact hP
    have hD : va_D A [(b, .inr (6, [.int (zI (i12 0)), .int (zI (i12 1)), .int (zI (i12 2)), .int (zI (i12 3)), .int (zI (i12 4)), .ref (q 0), .ref (q 1), .ref (q 2), .long (zL (i12 5)), .ref (q 3)])), ((q 0), .inl (cI, 4, .inl (fun k => zI ((gg13 0) k)))), ((q 3), .inl (cI, 100, .inl (fun k => zI ((gg13 3) k)))), (o, .inr (2, [.int (zI no), .ref (qo 0), .ref (qo 1), .ref (qo 2), .ref (qo 3), .ref (qo 4), .ref (qo 5), .ref (qo 6), .ref (qo 7)])), ((qo 0), .inl (cI, 10, .inl (fun k => zI ((go 0) k)))), ((qo 1), .inl (cI, 10, .inl (fun k => zI ((go 1) k)))), ((qo 2), .inl (cI, 10, .inl (fun k => zI ((go 2) k)))), ((qo 3), .inl (cI, 40, .inl (fun k => zI ((go 3) k)))), ((qo 4), .inl (cI, 40, .inl (fun k => zI ((go 4) k)))), ((qo 5), .inl (cI, 40, .inl (fun k => zI ((go 5) k)))), ((qo 6), .inl (cI, 20, .inl (fun k => zI ((go 6) k)))), ((qo 7), .inl (cI, 20, .inl (fun k => zI ((go 7) k)))), ((q 1), .inl (cI, 20, .inl (fun k => zI ((gg13 1) k)))), ((q 2), .inl (cI, 20, .inl (fun k => zI ((gg13 2) k))))] := by subst e_i12 e_gg13; exact hD
    exact ret (i12, gg13) _ _ _ _ _ _ ⟨hO14, ⟨by dsimp only; omega, (WR.beg ⟨e_i12_0, e_i12_1, (e_i12_2.trans (if_pos (show pR (20 * 0 + 0 : Int).toNat = 1 by omega)).symm), e_i12_3, e_i12_5⟩ (by rw [e_gg13]; exact cnt4 e_g1 e_g2 e_g3 e_g4) (fun k hk => by rw [e_gg13]; exact hp7 k hk) (fun k hk => by rw [e_gg13]; exact hp10 k hk) (by rw [e_gg13]; exact (congrFun e_g5 0).trans (by simp [uZ])))⟩⟩ (bw_subP (isC := [0, 1, 12, 13, 2, 3, 4, 5, 6, 7, 8, 9, 10, 11]) hP rfl) (hD.sub [0, 1, 12, 13, 2, 3, 4, 5, 6, 7, 8, 9, 10, 11] (by decide) rfl) hS (Nat.le_of_ble_eq_true rfl) (Nat.le_of_ble_eq_true rfl) dX6_begin_97
  · refine lv_iconst (v := zI 3) hx hb dX6_begin_89 rfl ?_
    refine lv_goto (tgt := 94) hx hb dX6_begin_90 (by decide) ?_
    refine r_put F hK hP hD hS 0 2 rfl rfl in_X6 tyX6 tyX6_ok nmX6 (by decide) k_325 rfl rfl rfl (Nat.le_of_ble_eq_true rfl) dX6_begin_94 (w1 := [(b, .inr (6, [.int (zI 0), .int (zI 0), .int (zI 3), .int (zI 0), .int (zI 1), .ref (q 0), .ref (q 1), .ref (q 2), .long (zL 0), .ref (q 3)])), ((q 0), .inl (cI, 4, .inl (fun k => zI (g4 k)))), ((q 3), .inl (cI, 100, .inl (fun k => zI (g5 k)))), (o, .inr (2, [.int (zI no), .ref (qo 0), .ref (qo 1), .ref (qo 2), .ref (qo 3), .ref (qo 4), .ref (qo 5), .ref (qo 6), .ref (qo 7)])), ((qo 0), .inl (cI, 10, .inl (fun k => zI ((go 0) k)))), ((qo 1), .inl (cI, 10, .inl (fun k => zI ((go 1) k)))), ((qo 2), .inl (cI, 10, .inl (fun k => zI ((go 2) k)))), ((qo 3), .inl (cI, 40, .inl (fun k => zI ((go 3) k)))), ((qo 4), .inl (cI, 40, .inl (fun k => zI ((go 4) k)))), ((qo 5), .inl (cI, 40, .inl (fun k => zI ((go 5) k)))), ((qo 6), .inl (cI, 20, .inl (fun k => zI ((go 6) k)))), ((qo 7), .inl (cI, 20, .inl (fun k => zI ((go 7) k)))), ((q 1), .inl (cI, 20, .inl (fun k => zI ((u6.2 0) k)))), ((q 2), .inl (cI, 20, .inl (fun k => zI ((u9.2 0) k))))]) rfl (fun H locs hP hD hS => ?_)
    obtain ⟨i16, e_i16⟩ : ∃ i16 : Nat → Int, i16 = fun k => [0, 0, 3, 0, 1, 0].getD k 0 := ⟨_, rfl⟩
    have e_i16_0 : i16 0 = 0 := congrFun e_i16 0
    have e_i16_1 : i16 1 = 0 := congrFun e_i16 1
    have e_i16_2 : i16 2 = 3 := congrFun e_i16 2
    have e_i16_3 : i16 3 = 0 := congrFun e_i16 3
    have e_i16_4 : i16 4 = 1 := congrFun e_i16 4
    have e_i16_5 : i16 5 = 0 := congrFun e_i16 5
    obtain ⟨gg17, e_gg17⟩ : ∃ gg17 : Nat → Nat → Int, gg17 = fun k => [g4, (u6.2 0), (u9.2 0), g5].getD k (fun _ => 0) := ⟨_, rfl⟩
    have hO18 : WalkOk i16 gg17 := ⟨by omega, by rw [e_gg17]; exact hr8⟩
    have hf19 := hO18.1
    have hP : va_P G vwCl [(b, .inr (6, [.int (zI (i16 0)), .int (zI (i16 1)), .int (zI (i16 2)), .int (zI (i16 3)), .int (zI (i16 4)), .ref (q 0), .ref (q 1), .ref (q 2), .long (zL (i16 5)), .ref (q 3)])), ((q 0), .inl (cI, 4, .inl (fun k => zI ((gg17 0) k)))), ((q 3), .inl (cI, 100, .inl (fun k => zI ((gg17 3) k)))), (o, .inr (2, [.int (zI no), .ref (qo 0), .ref (qo 1), .ref (qo 2), .ref (qo 3), .ref (qo 4), .ref (qo 5), .ref (qo 6), .ref (qo 7)])), ((qo 0), .inl (cI, 10, .inl (fun k => zI ((go 0) k)))), ((qo 1), .inl (cI, 10, .inl (fun k => zI ((go 1) k)))), ((qo 2), .inl (cI, 10, .inl (fun k => zI ((go 2) k)))), ((qo 3), .inl (cI, 40, .inl (fun k => zI ((go 3) k)))), ((qo 4), .inl (cI, 40, .inl (fun k => zI ((go 4) k)))), ((qo 5), .inl (cI, 40, .inl (fun k => zI ((go 5) k)))), ((qo 6), .inl (cI, 20, .inl (fun k => zI ((go 6) k)))), ((qo 7), .inl (cI, 20, .inl (fun k => zI ((go 7) k)))), ((q 1), .inl (cI, 20, .inl (fun k => zI ((gg17 1) k)))), ((q 2), .inl (cI, 20, .inl (fun k => zI ((gg17 2) k))))] H := by subst e_i16 e_gg17; exact hP
    have hD : va_D A [(b, .inr (6, [.int (zI (i16 0)), .int (zI (i16 1)), .int (zI (i16 2)), .int (zI (i16 3)), .int (zI (i16 4)), .ref (q 0), .ref (q 1), .ref (q 2), .long (zL (i16 5)), .ref (q 3)])), ((q 0), .inl (cI, 4, .inl (fun k => zI ((gg17 0) k)))), ((q 3), .inl (cI, 100, .inl (fun k => zI ((gg17 3) k)))), (o, .inr (2, [.int (zI no), .ref (qo 0), .ref (qo 1), .ref (qo 2), .ref (qo 3), .ref (qo 4), .ref (qo 5), .ref (qo 6), .ref (qo 7)])), ((qo 0), .inl (cI, 10, .inl (fun k => zI ((go 0) k)))), ((qo 1), .inl (cI, 10, .inl (fun k => zI ((go 1) k)))), ((qo 2), .inl (cI, 10, .inl (fun k => zI ((go 2) k)))), ((qo 3), .inl (cI, 40, .inl (fun k => zI ((go 3) k)))), ((qo 4), .inl (cI, 40, .inl (fun k => zI ((go 4) k)))), ((qo 5), .inl (cI, 40, .inl (fun k => zI ((go 5) k)))), ((qo 6), .inl (cI, 20, .inl (fun k => zI ((go 6) k)))), ((qo 7), .inl (cI, 20, .inl (fun k => zI ((go 7) k)))), ((q 1), .inl (cI, 20, .inl (fun k => zI ((gg17 1) k)))), ((q 2), .inl (cI, 20, .inl (fun k => zI ((gg17 2) k))))] := by subst e_i16 e_gg17; exact hD
    exact ret (i16, gg17) _ _ _ _ _ _ ⟨hO18, ⟨by dsimp only; omega, (WR.beg ⟨e_i16_0, e_i16_1, (e_i16_2.trans (if_neg (show ¬ pR (20 * 0 + 0 : Int).toNat = 1 by omega)).symm), e_i16_3, e_i16_5⟩ (by rw [e_gg17]; exact cnt4 e_g1 e_g2 e_g3 e_g4) (fun k hk => by rw [e_gg17]; exact hp7 k hk) (fun k hk => by rw [e_gg17]; exact hp10 k hk) (by rw [e_gg17]; exact (congrFun e_g5 0).trans (by simp [uZ])))⟩⟩ (bw_subP (isC := [0, 1, 12, 13, 2, 3, 4, 5, 6, 7, 8, 9, 10, 11]) hP rfl) (hD.sub [0, 1, 12, 13, 2, 3, 4, 5, 6, 7, 8, 9, 10, 11] (by decide) rfl) hS (Nat.le_of_ble_eq_true rfl) (Nat.le_of_ble_eq_true rfl) dX6_begin_97
abbrev rm_X6z_beginInput : Room := { frames := 2, cells := 0, slots := 0, locals := 48 }
set_option maxRecDepth 100000 in
set_option maxHeartbeats 8000000 in
theorem c_X6z_beginInput {l : Launch} {E : (Nat → Prop) → State → Prop} (hO : bw_Ok E) {G : va_G} {cI cB cJ cN cW : ClassId} (b : Nat) (q : Nat → Nat) (i : Nat → Int) (g : Nat → Nat → Int) (hW : WalkOk i g) (o : Nat) (qo : Nat → Nat) (no : Int) (go : Nat → Nat → Int) (hM : NetOk no go) (x : Int) (y : Int) (hx9 : 0 ≤ x ∧ x ≤ 3) (hy8 : 0 ≤ y ∧ y < inZ x) (pR : Nat → Int) (hNR : NRel go pR) : bw_Cv (S := zU) l yX6_beginInput (bw_ws (Cond.code yX6_beginInput cX6_beginInput 9 none)) rm_X6z_beginInput E G (bw_kt cI cB cJ cN cW) [.ref b, .ref o, .int (zI x), .int (zI y)] [(b, .inr (6, [.int (zI (i 0)), .int (zI (i 1)), .int (zI (i 2)), .int (zI (i 3)), .int (zI (i 4)), .ref (q 0), .ref (q 1), .ref (q 2), .long (zL (i 5)), .ref (q 3)])), ((q 0), .inl (cI, 4, .inl (fun k => zI ((g 0) k)))), ((q 1), .inl (cI, 20, .inl (fun k => zI ((g 1) k)))), ((q 2), .inl (cI, 20, .inl (fun k => zI ((g 2) k)))), ((q 3), .inl (cI, 100, .inl (fun k => zI ((g 3) k)))), (o, .inr (2, [.int (zI no), .ref (qo 0), .ref (qo 1), .ref (qo 2), .ref (qo 3), .ref (qo 4), .ref (qo 5), .ref (qo 6), .ref (qo 7)])), ((qo 0), .inl (cI, 10, .inl (fun k => zI ((go 0) k)))), ((qo 1), .inl (cI, 10, .inl (fun k => zI ((go 1) k)))), ((qo 2), .inl (cI, 10, .inl (fun k => zI ((go 2) k)))), ((qo 3), .inl (cI, 40, .inl (fun k => zI ((go 3) k)))), ((qo 4), .inl (cI, 40, .inl (fun k => zI ((go 4) k)))), ((qo 5), .inl (cI, 40, .inl (fun k => zI ((go 5) k)))), ((qo 6), .inl (cI, 20, .inl (fun k => zI ((go 6) k)))), ((qo 7), .inl (cI, 20, .inl (fun k => zI ((go 7) k))))] (fun u => WalkOk u.1 u.2 ∧ (u.1 1 = 0 ∧ WR 0 (begI pR x y) u.1 u.2)) (fun u => [(b, .inr (6, [.int (zI (u.1 0)), .int (zI (u.1 1)), .int (zI (u.1 2)), .int (zI (u.1 3)), .int (zI (u.1 4)), .ref (q 0), .ref (q 1), .ref (q 2), .long (zL (u.1 5)), .ref (q 3)])), ((q 0), .inl (cI, 4, .inl (fun k => zI ((u.2 0) k)))), ((q 1), .inl (cI, 20, .inl (fun k => zI ((u.2 1) k)))), ((q 2), .inl (cI, 20, .inl (fun k => zI ((u.2 2) k)))), ((q 3), .inl (cI, 100, .inl (fun k => zI ((u.2 3) k)))), (o, .inr (2, [.int (zI no), .ref (qo 0), .ref (qo 1), .ref (qo 2), .ref (qo 3), .ref (qo 4), .ref (qo 5), .ref (qo 6), .ref (qo 7)])), ((qo 0), .inl (cI, 10, .inl (fun k => zI ((go 0) k)))), ((qo 1), .inl (cI, 10, .inl (fun k => zI ((go 1) k)))), ((qo 2), .inl (cI, 10, .inl (fun k => zI ((go 2) k)))), ((qo 3), .inl (cI, 40, .inl (fun k => zI ((go 3) k)))), ((qo 4), .inl (cI, 40, .inl (fun k => zI ((go 4) k)))), ((qo 5), .inl (cI, 40, .inl (fun k => zI ((go 5) k)))), ((qo 6), .inl (cI, 20, .inl (fun k => zI ((go 6) k)))), ((qo 7), .inl (cI, 20, .inl (fun k => zI ((go 7) k))))]) := by
  refine bw_Cv.of (cc := cX6_beginInput) (maxL := 9) (by decide) rfl (Nat.le_of_ble_eq_true rfl) ?_
  intro p e s m below meth c A Q hx hb hml hts hown hin hK hA hS hP hD hE ret ls hl
  have F : CallFix p m c cX6_beginInput 9 s ([.ref b, .ref o, .int (zI x), .int (zI y)] : List Value).toArray bw_T RX6 := ⟨hx, hb, hml, hown, fun w h => hts w (List.mem_cons_of_mem _ h)⟩
  replace hl : lv_has ls 9 [(0, .ref b), (1, .ref o), (2, .int (zI x)), (3, .int (zI y))] := hl
  have hW1 := hW.1
  have hM0 := hM.1
  have hy7 : 0 ≤ y ∧ y < (x + 1) * (x + 1) * (x + 1) * (x + 1) := hy8
  rcases (show x = 0 ∨ x = 1 ∨ x = 2 ∨ x = 3 by omega) with rfl | rfl | rfl | rfl
  · refine lv_iload_n hx hb dX6_beginInput_0 rfl (lv_at hl 2 rfl) ?_
    refine lv_iconst (v := zI 0) hx hb dX6_beginInput_1 rfl ?_
    refine rz_max F k_758 k_759 k_110 k_760 hl.1 (Nat.le_of_ble_eq_true rfl) (Nat.le_of_ble_eq_true rfl) (Nat.le_of_ble_eq_true rfl) (Nat.le_of_ble_eq_true rfl) (by omega) (by omega) dX6_beginInput_2 (fun z1 h_z1 => ?_)
    obtain rfl : z1 = 0 := by omega
    refine lv_iconst (v := zI 1) hx hb dX6_beginInput_5 rfl ?_
    refine r_iadd (v := zI 1) F dX6_beginInput_6 (by decide) ?_
    refine lv_istore (lv' := [(4, .int (zI 1)), (0, .ref b), (1, .ref o), (2, .int (zI 0)), (3, .int (zI y))]) hx hb dX6_beginInput_7 hl (by decide) rfl (fun ls hl => ?_)
    refine lv_iload_n hx hb dX6_beginInput_9 rfl (lv_at hl 4 rfl) ?_
    refine lv_iload hx hb dX6_beginInput_10 (lv_at hl 0 rfl) ?_
    refine rz_irem F (by omega) (by omega) dX6_beginInput_12 (fun z3 h_z3 => ?_)
    obtain ⟨rfl, hd4⟩ := h_z3
    refine lv_istore (lv' := [(5, .int (zI (y % 1))), (4, .int (zI 1)), (0, .ref b), (1, .ref o), (2, .int (zI 0)), (3, .int (zI y))]) hx hb dX6_beginInput_13 hl (by decide) rfl (fun ls hl => ?_)
    refine lv_iload_n hx hb dX6_beginInput_15 rfl (lv_at hl 5 rfl) ?_
    refine lv_iload hx hb dX6_beginInput_16 (lv_at hl 1 rfl) ?_
    refine rz_idiv F (by omega) (by omega) dX6_beginInput_18 (fun z6 h_z6 => ?_)
    obtain ⟨rfl, hd7⟩ := h_z6
    refine lv_iload hx hb dX6_beginInput_19 (lv_at hl 1 rfl) ?_
    refine rz_irem F (by omega) (by omega) dX6_beginInput_21 (fun z9 h_z9 => ?_)
    obtain ⟨rfl, hd10⟩ := h_z9
    refine lv_istore (lv' := [(6, .int (zI ((y / 1) % 1))), (5, .int (zI (y % 1))), (4, .int (zI 1)), (0, .ref b), (1, .ref o), (2, .int (zI 0)), (3, .int (zI y))]) hx hb dX6_beginInput_22 hl (by decide) rfl (fun ls hl => ?_)
    refine lv_iload_n hx hb dX6_beginInput_24 rfl (lv_at hl 6 rfl) ?_
    refine lv_iload hx hb dX6_beginInput_25 (lv_at hl 2 rfl) ?_
    refine lv_iload hx hb dX6_beginInput_27 (lv_at hl 2 rfl) ?_
    refine r_imul (v := zI 1) F dX6_beginInput_29 (by decide) ?_
    refine rz_idiv F (by omega) (by omega) dX6_beginInput_30 (fun z12 h_z12 => ?_)
    obtain ⟨rfl, hd13⟩ := h_z12
    refine lv_iload hx hb dX6_beginInput_31 (lv_at hl 2 rfl) ?_
    refine rz_irem F (by omega) (by omega) dX6_beginInput_33 (fun z15 h_z15 => ?_)
    obtain ⟨rfl, hd16⟩ := h_z15
    refine lv_istore (lv' := [(7, .int (zI ((y / 1) % 1))), (6, .int (zI ((y / 1) % 1))), (5, .int (zI (y % 1))), (4, .int (zI 1)), (0, .ref b), (1, .ref o), (2, .int (zI 0)), (3, .int (zI y))]) hx hb dX6_beginInput_34 hl (by decide) rfl (fun ls hl => ?_)
    refine lv_iload_n hx hb dX6_beginInput_36 rfl (lv_at hl 7 rfl) ?_
    refine lv_iload hx hb dX6_beginInput_37 (lv_at hl 3 rfl) ?_
    refine lv_iload hx hb dX6_beginInput_39 (lv_at hl 3 rfl) ?_
    refine r_imul (v := zI 1) F dX6_beginInput_41 (by decide) ?_
    refine lv_iload hx hb dX6_beginInput_42 (lv_at hl 3 rfl) ?_
    refine r_imul (v := zI 1) F dX6_beginInput_44 (by decide) ?_
    refine rz_idiv F (by omega) (by omega) dX6_beginInput_45 (fun z18 h_z18 => ?_)
    obtain ⟨rfl, hd19⟩ := h_z18
    refine lv_iload hx hb dX6_beginInput_46 (lv_at hl 3 rfl) ?_
    refine rz_irem F (by omega) (by omega) dX6_beginInput_48 (fun z21 h_z21 => ?_)
    obtain ⟨rfl, hd22⟩ := h_z21
    refine lv_istore (lv' := [(8, .int (zI ((y / 1) % 1))), (7, .int (zI ((y / 1) % 1))), (6, .int (zI ((y / 1) % 1))), (5, .int (zI (y % 1))), (4, .int (zI 1)), (0, .ref b), (1, .ref o), (2, .int (zI 0)), (3, .int (zI y))]) hx hb dX6_beginInput_49 hl (by decide) rfl (fun ls hl => ?_)
    refine lv_aload_n hx hb dX6_beginInput_51 rfl (lv_at hl 5 rfl) ?_
    refine lv_aload_n hx hb dX6_beginInput_52 rfl (lv_at hl 6 rfl) ?_
    refine lv_iload hx hb dX6_beginInput_53 (lv_at hl 0 rfl) ?_
    refine lv_iload hx hb dX6_beginInput_55 (lv_at hl 1 rfl) ?_
    refine lv_iload hx hb dX6_beginInput_57 (lv_at hl 2 rfl) ?_
    refine lv_iload hx hb dX6_beginInput_59 (lv_at hl 3 rfl) ?_
    refine r_callVv (As := [.ref o, .int (zI ((y / 1) % 1)), .int (zI ((y / 1) % 1)), .int (zI ((y / 1) % 1)), .int (zI (y % 1))]) (rest := []) (wr := []) F hK hP hD hS hA hO hE (c_X6z_begin hO b q i g hW o qo no go hM ((y / 1) % 1) ((y / 1) % 1) ((y / 1) % 1) (y % 1) pR hNR) k_761 kv_X6_begin 5 rfl (by decide +kernel) ⟨Nat.le_of_ble_eq_true rfl, Nat.le_of_ble_eq_true rfl⟩ [0, 1, 2, 3, 4, 5, 6, 7, 8, 9, 10, 11, 12, 13] [] rfl rfl (by decide) (by decide) (by decide) 0 6 rfl rfl rfl hl.1 rfl (Nat.le_of_ble_eq_true rfl) dX6_beginInput_61 ⟨Nat.le_of_ble_eq_true rfl, Nat.le_of_ble_eq_true rfl⟩ (w1 := fun u23 => [(b, .inr (6, [.int (zI (u23.1 0)), .int (zI (u23.1 1)), .int (zI (u23.1 2)), .int (zI (u23.1 3)), .int (zI (u23.1 4)), .ref (q 0), .ref (q 1), .ref (q 2), .long (zL (u23.1 5)), .ref (q 3)])), ((q 0), .inl (cI, 4, .inl (fun k => zI ((u23.2 0) k)))), ((q 1), .inl (cI, 20, .inl (fun k => zI ((u23.2 1) k)))), ((q 2), .inl (cI, 20, .inl (fun k => zI ((u23.2 2) k)))), ((q 3), .inl (cI, 100, .inl (fun k => zI ((u23.2 3) k)))), (o, .inr (2, [.int (zI no), .ref (qo 0), .ref (qo 1), .ref (qo 2), .ref (qo 3), .ref (qo 4), .ref (qo 5), .ref (qo 6), .ref (qo 7)])), ((qo 0), .inl (cI, 10, .inl (fun k => zI ((go 0) k)))), ((qo 1), .inl (cI, 10, .inl (fun k => zI ((go 1) k)))), ((qo 2), .inl (cI, 10, .inl (fun k => zI ((go 2) k)))), ((qo 3), .inl (cI, 40, .inl (fun k => zI ((go 3) k)))), ((qo 4), .inl (cI, 40, .inl (fun k => zI ((go 4) k)))), ((qo 5), .inl (cI, 40, .inl (fun k => zI ((go 5) k)))), ((qo 6), .inl (cI, 20, .inl (fun k => zI ((go 6) k)))), ((qo 7), .inl (cI, 20, .inl (fun k => zI ((go 7) k))))]) (fun _ => rfl) (fun  u23 H locs hp24 hP hD hS => ?_)
    have hf25 := hp24.1.1
    have hx26 := hp24.2.1
    exact ret (u23.1, u23.2) _ _ _ _ _ _ ⟨hp24.1, ⟨by dsimp only; omega, (show WR 0 (begI pR 0 y) u23.1 u23.2 from by rw [begI_0]; have q8 := hp24.2.2; rwa [show (y / 1) % 1 = y / 1 by omega] at q8 ⊢)⟩⟩ (bw_subP (isC := [0, 1, 2, 3, 4, 5, 6, 7, 8, 9, 10, 11, 12, 13]) hP rfl) (hD.sub [0, 1, 2, 3, 4, 5, 6, 7, 8, 9, 10, 11, 12, 13] (by decide) rfl) hS (Nat.le_of_ble_eq_true rfl) (Nat.le_of_ble_eq_true rfl) dX6_beginInput_64
  · refine lv_iload_n hx hb dX6_beginInput_0 rfl (lv_at hl 2 rfl) ?_
    refine lv_iconst (v := zI 0) hx hb dX6_beginInput_1 rfl ?_
    refine rz_max F k_758 k_759 k_110 k_760 hl.1 (Nat.le_of_ble_eq_true rfl) (Nat.le_of_ble_eq_true rfl) (Nat.le_of_ble_eq_true rfl) (Nat.le_of_ble_eq_true rfl) (by omega) (by omega) dX6_beginInput_2 (fun z27 h_z27 => ?_)
    obtain rfl : z27 = 1 := by omega
    refine lv_iconst (v := zI 1) hx hb dX6_beginInput_5 rfl ?_
    refine r_iadd (v := zI 2) F dX6_beginInput_6 (by decide) ?_
    refine lv_istore (lv' := [(4, .int (zI 2)), (0, .ref b), (1, .ref o), (2, .int (zI 1)), (3, .int (zI y))]) hx hb dX6_beginInput_7 hl (by decide) rfl (fun ls hl => ?_)
    refine lv_iload_n hx hb dX6_beginInput_9 rfl (lv_at hl 4 rfl) ?_
    refine lv_iload hx hb dX6_beginInput_10 (lv_at hl 0 rfl) ?_
    refine rz_irem F (by omega) (by omega) dX6_beginInput_12 (fun z29 h_z29 => ?_)
    obtain ⟨rfl, hd30⟩ := h_z29
    refine lv_istore (lv' := [(5, .int (zI (y % 2))), (4, .int (zI 2)), (0, .ref b), (1, .ref o), (2, .int (zI 1)), (3, .int (zI y))]) hx hb dX6_beginInput_13 hl (by decide) rfl (fun ls hl => ?_)
    refine lv_iload_n hx hb dX6_beginInput_15 rfl (lv_at hl 5 rfl) ?_
    refine lv_iload hx hb dX6_beginInput_16 (lv_at hl 1 rfl) ?_
    refine rz_idiv F (by omega) (by omega) dX6_beginInput_18 (fun z32 h_z32 => ?_)
    obtain ⟨rfl, hd33⟩ := h_z32
    refine lv_iload hx hb dX6_beginInput_19 (lv_at hl 1 rfl) ?_
    refine rz_irem F (by omega) (by omega) dX6_beginInput_21 (fun z35 h_z35 => ?_)
    obtain ⟨rfl, hd36⟩ := h_z35
    refine lv_istore (lv' := [(6, .int (zI ((y / 2) % 2))), (5, .int (zI (y % 2))), (4, .int (zI 2)), (0, .ref b), (1, .ref o), (2, .int (zI 1)), (3, .int (zI y))]) hx hb dX6_beginInput_22 hl (by decide) rfl (fun ls hl => ?_)
    refine lv_iload_n hx hb dX6_beginInput_24 rfl (lv_at hl 6 rfl) ?_
    refine lv_iload hx hb dX6_beginInput_25 (lv_at hl 2 rfl) ?_
    refine lv_iload hx hb dX6_beginInput_27 (lv_at hl 2 rfl) ?_
    refine r_imul (v := zI 4) F dX6_beginInput_29 (by decide) ?_
    refine rz_idiv F (by omega) (by omega) dX6_beginInput_30 (fun z38 h_z38 => ?_)
    obtain ⟨rfl, hd39⟩ := h_z38
    refine lv_iload hx hb dX6_beginInput_31 (lv_at hl 2 rfl) ?_
    refine rz_irem F (by omega) (by omega) dX6_beginInput_33 (fun z41 h_z41 => ?_)
    obtain ⟨rfl, hd42⟩ := h_z41
    refine lv_istore (lv' := [(7, .int (zI ((y / 4) % 2))), (6, .int (zI ((y / 2) % 2))), (5, .int (zI (y % 2))), (4, .int (zI 2)), (0, .ref b), (1, .ref o), (2, .int (zI 1)), (3, .int (zI y))]) hx hb dX6_beginInput_34 hl (by decide) rfl (fun ls hl => ?_)
    refine lv_iload_n hx hb dX6_beginInput_36 rfl (lv_at hl 7 rfl) ?_
    refine lv_iload hx hb dX6_beginInput_37 (lv_at hl 3 rfl) ?_
    refine lv_iload hx hb dX6_beginInput_39 (lv_at hl 3 rfl) ?_
    refine r_imul (v := zI 4) F dX6_beginInput_41 (by decide) ?_
    refine lv_iload hx hb dX6_beginInput_42 (lv_at hl 3 rfl) ?_
    refine r_imul (v := zI 8) F dX6_beginInput_44 (by decide) ?_
    refine rz_idiv F (by omega) (by omega) dX6_beginInput_45 (fun z44 h_z44 => ?_)
    obtain ⟨rfl, hd45⟩ := h_z44
    refine lv_iload hx hb dX6_beginInput_46 (lv_at hl 3 rfl) ?_
    refine rz_irem F (by omega) (by omega) dX6_beginInput_48 (fun z47 h_z47 => ?_)
    obtain ⟨rfl, hd48⟩ := h_z47
    refine lv_istore (lv' := [(8, .int (zI ((y / 8) % 2))), (7, .int (zI ((y / 4) % 2))), (6, .int (zI ((y / 2) % 2))), (5, .int (zI (y % 2))), (4, .int (zI 2)), (0, .ref b), (1, .ref o), (2, .int (zI 1)), (3, .int (zI y))]) hx hb dX6_beginInput_49 hl (by decide) rfl (fun ls hl => ?_)
    refine lv_aload_n hx hb dX6_beginInput_51 rfl (lv_at hl 5 rfl) ?_
    refine lv_aload_n hx hb dX6_beginInput_52 rfl (lv_at hl 6 rfl) ?_
    refine lv_iload hx hb dX6_beginInput_53 (lv_at hl 0 rfl) ?_
    refine lv_iload hx hb dX6_beginInput_55 (lv_at hl 1 rfl) ?_
    refine lv_iload hx hb dX6_beginInput_57 (lv_at hl 2 rfl) ?_
    refine lv_iload hx hb dX6_beginInput_59 (lv_at hl 3 rfl) ?_
    refine r_callVv (As := [.ref o, .int (zI ((y / 8) % 2)), .int (zI ((y / 4) % 2)), .int (zI ((y / 2) % 2)), .int (zI (y % 2))]) (rest := []) (wr := []) F hK hP hD hS hA hO hE (c_X6z_begin hO b q i g hW o qo no go hM ((y / 8) % 2) ((y / 4) % 2) ((y / 2) % 2) (y % 2) pR hNR) k_761 kv_X6_begin 5 rfl (by decide +kernel) ⟨Nat.le_of_ble_eq_true rfl, Nat.le_of_ble_eq_true rfl⟩ [0, 1, 2, 3, 4, 5, 6, 7, 8, 9, 10, 11, 12, 13] [] rfl rfl (by decide) (by decide) (by decide) 0 6 rfl rfl rfl hl.1 rfl (Nat.le_of_ble_eq_true rfl) dX6_beginInput_61 ⟨Nat.le_of_ble_eq_true rfl, Nat.le_of_ble_eq_true rfl⟩ (w1 := fun u49 => [(b, .inr (6, [.int (zI (u49.1 0)), .int (zI (u49.1 1)), .int (zI (u49.1 2)), .int (zI (u49.1 3)), .int (zI (u49.1 4)), .ref (q 0), .ref (q 1), .ref (q 2), .long (zL (u49.1 5)), .ref (q 3)])), ((q 0), .inl (cI, 4, .inl (fun k => zI ((u49.2 0) k)))), ((q 1), .inl (cI, 20, .inl (fun k => zI ((u49.2 1) k)))), ((q 2), .inl (cI, 20, .inl (fun k => zI ((u49.2 2) k)))), ((q 3), .inl (cI, 100, .inl (fun k => zI ((u49.2 3) k)))), (o, .inr (2, [.int (zI no), .ref (qo 0), .ref (qo 1), .ref (qo 2), .ref (qo 3), .ref (qo 4), .ref (qo 5), .ref (qo 6), .ref (qo 7)])), ((qo 0), .inl (cI, 10, .inl (fun k => zI ((go 0) k)))), ((qo 1), .inl (cI, 10, .inl (fun k => zI ((go 1) k)))), ((qo 2), .inl (cI, 10, .inl (fun k => zI ((go 2) k)))), ((qo 3), .inl (cI, 40, .inl (fun k => zI ((go 3) k)))), ((qo 4), .inl (cI, 40, .inl (fun k => zI ((go 4) k)))), ((qo 5), .inl (cI, 40, .inl (fun k => zI ((go 5) k)))), ((qo 6), .inl (cI, 20, .inl (fun k => zI ((go 6) k)))), ((qo 7), .inl (cI, 20, .inl (fun k => zI ((go 7) k))))]) (fun _ => rfl) (fun  u49 H locs hp50 hP hD hS => ?_)
    have hf51 := hp50.1.1
    have hx52 := hp50.2.1
    exact ret (u49.1, u49.2) _ _ _ _ _ _ ⟨hp50.1, ⟨by dsimp only; omega, (show WR 0 (begI pR 1 y) u49.1 u49.2 from by rw [begI_1]; have q8 := hp50.2.2; rwa [show (y / 8) % 2 = y / 8 by omega] at q8)⟩⟩ (bw_subP (isC := [0, 1, 2, 3, 4, 5, 6, 7, 8, 9, 10, 11, 12, 13]) hP rfl) (hD.sub [0, 1, 2, 3, 4, 5, 6, 7, 8, 9, 10, 11, 12, 13] (by decide) rfl) hS (Nat.le_of_ble_eq_true rfl) (Nat.le_of_ble_eq_true rfl) dX6_beginInput_64
  · refine lv_iload_n hx hb dX6_beginInput_0 rfl (lv_at hl 2 rfl) ?_
    refine lv_iconst (v := zI 0) hx hb dX6_beginInput_1 rfl ?_
    refine rz_max F k_758 k_759 k_110 k_760 hl.1 (Nat.le_of_ble_eq_true rfl) (Nat.le_of_ble_eq_true rfl) (Nat.le_of_ble_eq_true rfl) (Nat.le_of_ble_eq_true rfl) (by omega) (by omega) dX6_beginInput_2 (fun z53 h_z53 => ?_)
    obtain rfl : z53 = 2 := by omega
    refine lv_iconst (v := zI 1) hx hb dX6_beginInput_5 rfl ?_
    refine r_iadd (v := zI 3) F dX6_beginInput_6 (by decide) ?_
    refine lv_istore (lv' := [(4, .int (zI 3)), (0, .ref b), (1, .ref o), (2, .int (zI 2)), (3, .int (zI y))]) hx hb dX6_beginInput_7 hl (by decide) rfl (fun ls hl => ?_)
    refine lv_iload_n hx hb dX6_beginInput_9 rfl (lv_at hl 4 rfl) ?_
    refine lv_iload hx hb dX6_beginInput_10 (lv_at hl 0 rfl) ?_
    refine rz_irem F (by omega) (by omega) dX6_beginInput_12 (fun z55 h_z55 => ?_)
    obtain ⟨rfl, hd56⟩ := h_z55
    refine lv_istore (lv' := [(5, .int (zI (y % 3))), (4, .int (zI 3)), (0, .ref b), (1, .ref o), (2, .int (zI 2)), (3, .int (zI y))]) hx hb dX6_beginInput_13 hl (by decide) rfl (fun ls hl => ?_)
    refine lv_iload_n hx hb dX6_beginInput_15 rfl (lv_at hl 5 rfl) ?_
    refine lv_iload hx hb dX6_beginInput_16 (lv_at hl 1 rfl) ?_
    refine rz_idiv F (by omega) (by omega) dX6_beginInput_18 (fun z58 h_z58 => ?_)
    obtain ⟨rfl, hd59⟩ := h_z58
    refine lv_iload hx hb dX6_beginInput_19 (lv_at hl 1 rfl) ?_
    refine rz_irem F (by omega) (by omega) dX6_beginInput_21 (fun z61 h_z61 => ?_)
    obtain ⟨rfl, hd62⟩ := h_z61
    refine lv_istore (lv' := [(6, .int (zI ((y / 3) % 3))), (5, .int (zI (y % 3))), (4, .int (zI 3)), (0, .ref b), (1, .ref o), (2, .int (zI 2)), (3, .int (zI y))]) hx hb dX6_beginInput_22 hl (by decide) rfl (fun ls hl => ?_)
    refine lv_iload_n hx hb dX6_beginInput_24 rfl (lv_at hl 6 rfl) ?_
    refine lv_iload hx hb dX6_beginInput_25 (lv_at hl 2 rfl) ?_
    refine lv_iload hx hb dX6_beginInput_27 (lv_at hl 2 rfl) ?_
    refine r_imul (v := zI 9) F dX6_beginInput_29 (by decide) ?_
    refine rz_idiv F (by omega) (by omega) dX6_beginInput_30 (fun z64 h_z64 => ?_)
    obtain ⟨rfl, hd65⟩ := h_z64
    refine lv_iload hx hb dX6_beginInput_31 (lv_at hl 2 rfl) ?_
    refine rz_irem F (by omega) (by omega) dX6_beginInput_33 (fun z67 h_z67 => ?_)
    obtain ⟨rfl, hd68⟩ := h_z67
    refine lv_istore (lv' := [(7, .int (zI ((y / 9) % 3))), (6, .int (zI ((y / 3) % 3))), (5, .int (zI (y % 3))), (4, .int (zI 3)), (0, .ref b), (1, .ref o), (2, .int (zI 2)), (3, .int (zI y))]) hx hb dX6_beginInput_34 hl (by decide) rfl (fun ls hl => ?_)
    refine lv_iload_n hx hb dX6_beginInput_36 rfl (lv_at hl 7 rfl) ?_
    refine lv_iload hx hb dX6_beginInput_37 (lv_at hl 3 rfl) ?_
    refine lv_iload hx hb dX6_beginInput_39 (lv_at hl 3 rfl) ?_
    refine r_imul (v := zI 9) F dX6_beginInput_41 (by decide) ?_
    refine lv_iload hx hb dX6_beginInput_42 (lv_at hl 3 rfl) ?_
    refine r_imul (v := zI 27) F dX6_beginInput_44 (by decide) ?_
    refine rz_idiv F (by omega) (by omega) dX6_beginInput_45 (fun z70 h_z70 => ?_)
    obtain ⟨rfl, hd71⟩ := h_z70
    refine lv_iload hx hb dX6_beginInput_46 (lv_at hl 3 rfl) ?_
    refine rz_irem F (by omega) (by omega) dX6_beginInput_48 (fun z73 h_z73 => ?_)
    obtain ⟨rfl, hd74⟩ := h_z73
    refine lv_istore (lv' := [(8, .int (zI ((y / 27) % 3))), (7, .int (zI ((y / 9) % 3))), (6, .int (zI ((y / 3) % 3))), (5, .int (zI (y % 3))), (4, .int (zI 3)), (0, .ref b), (1, .ref o), (2, .int (zI 2)), (3, .int (zI y))]) hx hb dX6_beginInput_49 hl (by decide) rfl (fun ls hl => ?_)
    refine lv_aload_n hx hb dX6_beginInput_51 rfl (lv_at hl 5 rfl) ?_
    refine lv_aload_n hx hb dX6_beginInput_52 rfl (lv_at hl 6 rfl) ?_
    refine lv_iload hx hb dX6_beginInput_53 (lv_at hl 0 rfl) ?_
    refine lv_iload hx hb dX6_beginInput_55 (lv_at hl 1 rfl) ?_
    refine lv_iload hx hb dX6_beginInput_57 (lv_at hl 2 rfl) ?_
    refine lv_iload hx hb dX6_beginInput_59 (lv_at hl 3 rfl) ?_
    refine r_callVv (As := [.ref o, .int (zI ((y / 27) % 3)), .int (zI ((y / 9) % 3)), .int (zI ((y / 3) % 3)), .int (zI (y % 3))]) (rest := []) (wr := []) F hK hP hD hS hA hO hE (c_X6z_begin hO b q i g hW o qo no go hM ((y / 27) % 3) ((y / 9) % 3) ((y / 3) % 3) (y % 3) pR hNR) k_761 kv_X6_begin 5 rfl (by decide +kernel) ⟨Nat.le_of_ble_eq_true rfl, Nat.le_of_ble_eq_true rfl⟩ [0, 1, 2, 3, 4, 5, 6, 7, 8, 9, 10, 11, 12, 13] [] rfl rfl (by decide) (by decide) (by decide) 0 6 rfl rfl rfl hl.1 rfl (Nat.le_of_ble_eq_true rfl) dX6_beginInput_61 ⟨Nat.le_of_ble_eq_true rfl, Nat.le_of_ble_eq_true rfl⟩ (w1 := fun u75 => [(b, .inr (6, [.int (zI (u75.1 0)), .int (zI (u75.1 1)), .int (zI (u75.1 2)), .int (zI (u75.1 3)), .int (zI (u75.1 4)), .ref (q 0), .ref (q 1), .ref (q 2), .long (zL (u75.1 5)), .ref (q 3)])), ((q 0), .inl (cI, 4, .inl (fun k => zI ((u75.2 0) k)))), ((q 1), .inl (cI, 20, .inl (fun k => zI ((u75.2 1) k)))), ((q 2), .inl (cI, 20, .inl (fun k => zI ((u75.2 2) k)))), ((q 3), .inl (cI, 100, .inl (fun k => zI ((u75.2 3) k)))), (o, .inr (2, [.int (zI no), .ref (qo 0), .ref (qo 1), .ref (qo 2), .ref (qo 3), .ref (qo 4), .ref (qo 5), .ref (qo 6), .ref (qo 7)])), ((qo 0), .inl (cI, 10, .inl (fun k => zI ((go 0) k)))), ((qo 1), .inl (cI, 10, .inl (fun k => zI ((go 1) k)))), ((qo 2), .inl (cI, 10, .inl (fun k => zI ((go 2) k)))), ((qo 3), .inl (cI, 40, .inl (fun k => zI ((go 3) k)))), ((qo 4), .inl (cI, 40, .inl (fun k => zI ((go 4) k)))), ((qo 5), .inl (cI, 40, .inl (fun k => zI ((go 5) k)))), ((qo 6), .inl (cI, 20, .inl (fun k => zI ((go 6) k)))), ((qo 7), .inl (cI, 20, .inl (fun k => zI ((go 7) k))))]) (fun _ => rfl) (fun  u75 H locs hp76 hP hD hS => ?_)
    have hf77 := hp76.1.1
    have hx78 := hp76.2.1
    exact ret (u75.1, u75.2) _ _ _ _ _ _ ⟨hp76.1, ⟨by dsimp only; omega, (show WR 0 (begI pR 2 y) u75.1 u75.2 from by rw [begI_2]; have q8 := hp76.2.2; rwa [show (y / 27) % 3 = y / 27 by omega] at q8)⟩⟩ (bw_subP (isC := [0, 1, 2, 3, 4, 5, 6, 7, 8, 9, 10, 11, 12, 13]) hP rfl) (hD.sub [0, 1, 2, 3, 4, 5, 6, 7, 8, 9, 10, 11, 12, 13] (by decide) rfl) hS (Nat.le_of_ble_eq_true rfl) (Nat.le_of_ble_eq_true rfl) dX6_beginInput_64
  · refine lv_iload_n hx hb dX6_beginInput_0 rfl (lv_at hl 2 rfl) ?_
    refine lv_iconst (v := zI 0) hx hb dX6_beginInput_1 rfl ?_
    refine rz_max F k_758 k_759 k_110 k_760 hl.1 (Nat.le_of_ble_eq_true rfl) (Nat.le_of_ble_eq_true rfl) (Nat.le_of_ble_eq_true rfl) (Nat.le_of_ble_eq_true rfl) (by omega) (by omega) dX6_beginInput_2 (fun z79 h_z79 => ?_)
    obtain rfl : z79 = 3 := by omega
    refine lv_iconst (v := zI 1) hx hb dX6_beginInput_5 rfl ?_
    refine r_iadd (v := zI 4) F dX6_beginInput_6 (by decide) ?_
    refine lv_istore (lv' := [(4, .int (zI 4)), (0, .ref b), (1, .ref o), (2, .int (zI 3)), (3, .int (zI y))]) hx hb dX6_beginInput_7 hl (by decide) rfl (fun ls hl => ?_)
    refine lv_iload_n hx hb dX6_beginInput_9 rfl (lv_at hl 4 rfl) ?_
    refine lv_iload hx hb dX6_beginInput_10 (lv_at hl 0 rfl) ?_
    refine rz_irem F (by omega) (by omega) dX6_beginInput_12 (fun z81 h_z81 => ?_)
    obtain ⟨rfl, hd82⟩ := h_z81
    refine lv_istore (lv' := [(5, .int (zI (y % 4))), (4, .int (zI 4)), (0, .ref b), (1, .ref o), (2, .int (zI 3)), (3, .int (zI y))]) hx hb dX6_beginInput_13 hl (by decide) rfl (fun ls hl => ?_)
    refine lv_iload_n hx hb dX6_beginInput_15 rfl (lv_at hl 5 rfl) ?_
    refine lv_iload hx hb dX6_beginInput_16 (lv_at hl 1 rfl) ?_
    refine rz_idiv F (by omega) (by omega) dX6_beginInput_18 (fun z84 h_z84 => ?_)
    obtain ⟨rfl, hd85⟩ := h_z84
    refine lv_iload hx hb dX6_beginInput_19 (lv_at hl 1 rfl) ?_
    refine rz_irem F (by omega) (by omega) dX6_beginInput_21 (fun z87 h_z87 => ?_)
    obtain ⟨rfl, hd88⟩ := h_z87
    refine lv_istore (lv' := [(6, .int (zI ((y / 4) % 4))), (5, .int (zI (y % 4))), (4, .int (zI 4)), (0, .ref b), (1, .ref o), (2, .int (zI 3)), (3, .int (zI y))]) hx hb dX6_beginInput_22 hl (by decide) rfl (fun ls hl => ?_)
    refine lv_iload_n hx hb dX6_beginInput_24 rfl (lv_at hl 6 rfl) ?_
    refine lv_iload hx hb dX6_beginInput_25 (lv_at hl 2 rfl) ?_
    refine lv_iload hx hb dX6_beginInput_27 (lv_at hl 2 rfl) ?_
    refine r_imul (v := zI 16) F dX6_beginInput_29 (by decide) ?_
    refine rz_idiv F (by omega) (by omega) dX6_beginInput_30 (fun z90 h_z90 => ?_)
    obtain ⟨rfl, hd91⟩ := h_z90
    refine lv_iload hx hb dX6_beginInput_31 (lv_at hl 2 rfl) ?_
    refine rz_irem F (by omega) (by omega) dX6_beginInput_33 (fun z93 h_z93 => ?_)
    obtain ⟨rfl, hd94⟩ := h_z93
    refine lv_istore (lv' := [(7, .int (zI ((y / 16) % 4))), (6, .int (zI ((y / 4) % 4))), (5, .int (zI (y % 4))), (4, .int (zI 4)), (0, .ref b), (1, .ref o), (2, .int (zI 3)), (3, .int (zI y))]) hx hb dX6_beginInput_34 hl (by decide) rfl (fun ls hl => ?_)
    refine lv_iload_n hx hb dX6_beginInput_36 rfl (lv_at hl 7 rfl) ?_
    refine lv_iload hx hb dX6_beginInput_37 (lv_at hl 3 rfl) ?_
    refine lv_iload hx hb dX6_beginInput_39 (lv_at hl 3 rfl) ?_
    refine r_imul (v := zI 16) F dX6_beginInput_41 (by decide) ?_
    refine lv_iload hx hb dX6_beginInput_42 (lv_at hl 3 rfl) ?_
    refine r_imul (v := zI 64) F dX6_beginInput_44 (by decide) ?_
    refine rz_idiv F (by omega) (by omega) dX6_beginInput_45 (fun z96 h_z96 => ?_)
    obtain ⟨rfl, hd97⟩ := h_z96
    refine lv_iload hx hb dX6_beginInput_46 (lv_at hl 3 rfl) ?_
    refine rz_irem F (by omega) (by omega) dX6_beginInput_48 (fun z99 h_z99 => ?_)
    obtain ⟨rfl, hd100⟩ := h_z99
    refine lv_istore (lv' := [(8, .int (zI ((y / 64) % 4))), (7, .int (zI ((y / 16) % 4))), (6, .int (zI ((y / 4) % 4))), (5, .int (zI (y % 4))), (4, .int (zI 4)), (0, .ref b), (1, .ref o), (2, .int (zI 3)), (3, .int (zI y))]) hx hb dX6_beginInput_49 hl (by decide) rfl (fun ls hl => ?_)
    refine lv_aload_n hx hb dX6_beginInput_51 rfl (lv_at hl 5 rfl) ?_
    refine lv_aload_n hx hb dX6_beginInput_52 rfl (lv_at hl 6 rfl) ?_
    refine lv_iload hx hb dX6_beginInput_53 (lv_at hl 0 rfl) ?_
    refine lv_iload hx hb dX6_beginInput_55 (lv_at hl 1 rfl) ?_
    refine lv_iload hx hb dX6_beginInput_57 (lv_at hl 2 rfl) ?_
    refine lv_iload hx hb dX6_beginInput_59 (lv_at hl 3 rfl) ?_
    refine r_callVv (As := [.ref o, .int (zI ((y / 64) % 4)), .int (zI ((y / 16) % 4)), .int (zI ((y / 4) % 4)), .int (zI (y % 4))]) (rest := []) (wr := []) F hK hP hD hS hA hO hE (c_X6z_begin hO b q i g hW o qo no go hM ((y / 64) % 4) ((y / 16) % 4) ((y / 4) % 4) (y % 4) pR hNR) k_761 kv_X6_begin 5 rfl (by decide +kernel) ⟨Nat.le_of_ble_eq_true rfl, Nat.le_of_ble_eq_true rfl⟩ [0, 1, 2, 3, 4, 5, 6, 7, 8, 9, 10, 11, 12, 13] [] rfl rfl (by decide) (by decide) (by decide) 0 6 rfl rfl rfl hl.1 rfl (Nat.le_of_ble_eq_true rfl) dX6_beginInput_61 ⟨Nat.le_of_ble_eq_true rfl, Nat.le_of_ble_eq_true rfl⟩ (w1 := fun u101 => [(b, .inr (6, [.int (zI (u101.1 0)), .int (zI (u101.1 1)), .int (zI (u101.1 2)), .int (zI (u101.1 3)), .int (zI (u101.1 4)), .ref (q 0), .ref (q 1), .ref (q 2), .long (zL (u101.1 5)), .ref (q 3)])), ((q 0), .inl (cI, 4, .inl (fun k => zI ((u101.2 0) k)))), ((q 1), .inl (cI, 20, .inl (fun k => zI ((u101.2 1) k)))), ((q 2), .inl (cI, 20, .inl (fun k => zI ((u101.2 2) k)))), ((q 3), .inl (cI, 100, .inl (fun k => zI ((u101.2 3) k)))), (o, .inr (2, [.int (zI no), .ref (qo 0), .ref (qo 1), .ref (qo 2), .ref (qo 3), .ref (qo 4), .ref (qo 5), .ref (qo 6), .ref (qo 7)])), ((qo 0), .inl (cI, 10, .inl (fun k => zI ((go 0) k)))), ((qo 1), .inl (cI, 10, .inl (fun k => zI ((go 1) k)))), ((qo 2), .inl (cI, 10, .inl (fun k => zI ((go 2) k)))), ((qo 3), .inl (cI, 40, .inl (fun k => zI ((go 3) k)))), ((qo 4), .inl (cI, 40, .inl (fun k => zI ((go 4) k)))), ((qo 5), .inl (cI, 40, .inl (fun k => zI ((go 5) k)))), ((qo 6), .inl (cI, 20, .inl (fun k => zI ((go 6) k)))), ((qo 7), .inl (cI, 20, .inl (fun k => zI ((go 7) k))))]) (fun _ => rfl) (fun  u101 H locs hp102 hP hD hS => ?_)
    have hf103 := hp102.1.1
    have hx104 := hp102.2.1
    exact ret (u101.1, u101.2) _ _ _ _ _ _ ⟨hp102.1, ⟨by dsimp only; omega, (show WR 0 (begI pR 3 y) u101.1 u101.2 from by rw [begI_3]; have q8 := hp102.2.2; rwa [show (y / 64) % 4 = y / 64 by omega] at q8)⟩⟩ (bw_subP (isC := [0, 1, 2, 3, 4, 5, 6, 7, 8, 9, 10, 11, 12, 13]) hP rfl) (hD.sub [0, 1, 2, 3, 4, 5, 6, 7, 8, 9, 10, 11, 12, 13] (by decide) rfl) hS (Nat.le_of_ble_eq_true rfl) (Nat.le_of_ble_eq_true rfl) dX6_beginInput_64
