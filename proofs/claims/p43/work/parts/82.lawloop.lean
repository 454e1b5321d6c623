theorem lw_Fle {K K' : Int} (h : K ≤ K') {t : Int} {ld : Int} {i1 : Nat → Int} {g1 : Nat → Nat → Int} {n2 : Int} {g2 : Nat → Nat → Int} {n3 : Int} {g3 : Nat → Nat → Int} {n4 : Int} {g4 : Nat → Nat → Int} {n5 : Int} {g5 : Nat → Nat → Int} {n6 : Int} {g6 : Nat → Nat → Int} {n7 : Int} {g7 : Nat → Nat → Int} {i8 : Nat → Int} {g8 : Nat → Nat → Int} {i9 : Nat → Int} {g9 : Nat → Nat → Int} {i10 : Nat → Int} {g10 : Nat → Nat → Int} {i11 : Nat → Int} {g11 : Nat → Nat → Int} {i12 : Nat → Int} {g12 : Nat → Nat → Int} {i13 : Nat → Int} {g13 : Nat → Nat → Int} {g14 : Nat → Nat → Int} {n15 : Int} {nN : Nat → Int} {gN : Nat → Nat → Nat → Int} {iK : Nat → Nat → Int} {gK : Nat → Nat → Nat → Int} (hF : lw_F K t ld i1 g1 n2 g2 n3 g3 n4 g4 n5 g5 n6 g6 n7 g7 i8 g8 i9 g9 i10 g10 i11 g11 i12 g12 i13 g13 g14 n15 nN gN iK gK) : lw_F K' t ld i1 g1 n2 g2 n3 g3 n4 g4 n5 g5 n6 g6 n7 g7 i8 g8 i9 g9 i10 g10 i11 g11 i12 g12 i13 g13 g14 n15 nN gN iK gK := by
  obtain ⟨ht, hL, h1, h2, h3, h4, h5, h6, h7, h8, h9, h10, h11, h12, h13, h14, h15, hN, hK4, hk, hkK⟩ := hF
  exact ⟨ht, hL, h1, h2, h3, h4, h5, h6, h7, h8, h9, h10, h11, h12, h13, h14, h15, hN, hK4, Int.le_trans hk h, fun j hj => Int.le_trans (hkK j hj) h⟩
/-- the loop's head: any state that keeps what is kept -/
def lw_Loop (p : Program) (l : Launch) (e : Env) (s : State) (m : MethodId) (below : List Frame) (meth : Method) (c : Code) (b : Nat) (G : va_G) (cI cB cJ cN cW : ClassId) (x y o : Nat) (Q qN qK : Nat → Nat → Nat) (qm : Nat → Nat) (n : Nat) : Prop := ∀ (t : Int) (ld : Int) (i1 : Nat → Int) (g1 : Nat → Nat → Int) (n2 : Int) (g2 : Nat → Nat → Int) (n3 : Int) (g3 : Nat → Nat → Int) (n4 : Int) (g4 : Nat → Nat → Int) (n5 : Int) (g5 : Nat → Nat → Int) (n6 : Int) (g6 : Nat → Nat → Int) (n7 : Int) (g7 : Nat → Nat → Int) (i8 : Nat → Int) (g8 : Nat → Nat → Int) (i9 : Nat → Int) (g9 : Nat → Nat → Int) (i10 : Nat → Int) (g10 : Nat → Nat → Int) (i11 : Nat → Int) (g11 : Nat → Nat → Int) (i12 : Nat → Int) (g12 : Nat → Nat → Int) (i13 : Nat → Int) (g13 : Nat → Nat → Int) (g14 : Nat → Nat → Int) (n15 : Int) (nN : Nat → Int) (gN : Nat → Nat → Nat → Int) (iK : Nat → Nat → Int) (gK : Nat → Nat → Nat → Int) (i : Nat → Int) (a0 : Nat → Int) (a1 : Nat → Int) (a2 : Nat → Int) (a3 : Nat → Int) (a4 : Nat → Int) (a5 : Nat → Int) (a6 : Nat → Int) (a7 : Nat → Int) (a8 : Nat → Int) (a9 : Nat → Int) (a10 : Nat → Int) (a11 : Nat → Int) (a12 : Nat → Int) (a13 : Nat → Int) (a14 : Nat → Int) (a15 : Nat → Int) (a16 : Nat → Int) (a17 : Nat → Int) (a18 : Nat → Int) (a19 : Nat → Int) (a20 : Nat → Int) (go : Nat → Int) (H : Heap) (locs : List Loc) (ls : Array Slot), lw_F (1000 * (n : Int)) t ld i1 g1 n2 g2 n3 g3 n4 g4 n5 g5 n6 g6 n7 g7 i8 g8 i9 g9 i10 g10 i11 g11 i12 g12 i13 g13 g14 n15 nN gN iK gK → lw_M i a0 a1 a2 a3 a4 a5 a6 a7 a8 a9 a10 a11 a12 a13 a14 a15 a16 a17 a18 a19 a20 → ((i1 0 = i 1 ∧ lw_X t ld i1 g1 n15 i a0) ∧ lw_N n4 g4 n5 g5 n7 g7 i8 g8 i11 g11 n15 nN gN iK gK i a3 a4 a6 a11 a13 a16) → va_P G vwCl (lw_W cI cB cJ cN cW x y o Q qN qK qm t ld i1 g1 n2 g2 n3 g3 n4 g4 n5 g5 n6 g6 n7 g7 i8 g8 i9 g9 i10 g10 i11 g11 i12 g12 i13 g13 g14 n15 nN gN iK gK i a0 a1 a2 a3 a4 a5 a6 a7 a8 a9 a10 a11 a12 a13 a14 a15 a16 a17 a18 a19 a20 go) H → va_D (fun q : Nat => s.heap.size ≤ q) (lw_W cI cB cJ cN cW x y o Q qN qK qm t ld i1 g1 n2 g2 n3 g3 n4 g4 n5 g5 n6 g6 n7 g7 i8 g8 i9 g9 i10 g10 i11 g11 i12 g12 i13 g13 g14 n15 nN gN iK gK i a0 a1 a2 a3 a4 a5 a6 a7 a8 a9 a10 a11 a12 a13 a14 a15 a16 a17 a18 a19 a20 go) → va_S (fun q : Nat => s.heap.size ≤ q) s.heap H locs → lv_has ls 7 [(4, .int (zI (n : Int))), (3, .ref o), (2, .ref y), (1, .ref x), (0, .ref b)] → W p l e room_1 s m #[Value.ref b] below meth c H locs (163 + n) (8733 + 6 * n) (lw_Z below #[Value.ref b] s) (F0 m 23 ls [])
theorem dL_law_1483 : decode cL_law 1483 = .ok (.iinc 4 6, 3) := bo_132 4 6 (by decide +kernel)
theorem dL_law_1486 : decode cL_law 1486 = .ok (.goto (-1463), 3) := bo_167 250 73 (by decide +kernel)
theorem lw_end {p : Program} {l : Launch} {e : Env} {s : State} {m : MethodId} {below : List Frame} {meth : Method} {c : Code} {b : Nat} {G : va_G} {cI cB cJ cN cW : ClassId} {x y o : Nat} {Q qN qK : Nat → Nat → Nat} {qm : Nat → Nat} {L : Nat} {xs : Nat → Int32} (C0 : lw_At p s m meth c b L xs) (n : Nat) (h : lw_Loop p l e s m below meth c b G cI cB cJ cN cW x y o Q qN qK qm (n + 6)) : lw_End p l e s m below meth c b G cI cB cJ cN cW x y o Q qN qK qm n := by
  obtain ⟨hx, hb, hr, hml, hown, hts, hX, hbl, hlocks, hgv⟩ := C0
  intro t ld i1 g1 n2 g2 n3 g3 n4 g4 n5 g5 n6 g6 n7 g7 i8 g8 i9 g9 i10 g10 i11 g11 i12 g12 i13 g13 g14 n15 nN gN iK gK i a0 a1 a2 a3 a4 a5 a6 a7 a8 a9 a10 a11 a12 a13 a14 a15 a16 a17 a18 a19 a20 go H locs ls hF hMm hT hP hD hS hl
  refine lv_iinc (v := zI ((n + 6 : Nat) : Int)) (lv' := [(4, .int (zI ((n + 6 : Nat) : Int))), (3, .ref o), (2, .ref y), (1, .ref x), (0, .ref b)]) hx hb dL_law_1483 hl (k := 0) rfl (by rw [show ((n + 6 : Nat) : Int) = (n : Int) + 6 by omega]; exact zI_add (n : Int) 6) (by decide) rfl (fun ls hl => ?_)
  refine lv_goto (tgt := 23) hx hb dL_law_1486 (by decide) ?_
  refine W.widen (k := 163 + (n + 6)) (n := 8733 + 6 * (n + 6)) (by omega) (by omega) ?_
  exact h t ld i1 g1 n2 g2 n3 g3 n4 g4 n5 g5 n6 g6 n7 g7 i8 g8 i9 g9 i10 g10 i11 g11 i12 g12 i13 g13 g14 n15 nN gN iK gK i a0 a1 a2 a3 a4 a5 a6 a7 a8 a9 a10 a11 a12 a13 a14 a15 a16 a17 a18 a19 a20 go H locs ls (lw_Fle (by omega) hF) hMm hT hP hD hS hl
theorem dL_law_23 : decode cL_law 23 = .ok (.iload 4, 2) := bo_21 (by decide +kernel)
theorem dL_law_25 : decode cL_law 25 = .ok (.aload_n 0, 1) := bo_42 (by decide +kernel)
theorem dL_law_26 : decode cL_law 26 = .ok (.arraylength, 1) := bo_190 (by decide +kernel)
theorem dL_law_27 : decode cL_law 27 = .ok (.bipush 6, 2) := bo_16 6 (by decide +kernel)
theorem dL_law_29 : decode cL_law 29 = .ok (.isub, 1) := bo_100 (by decide +kernel)
theorem dL_law_30 : decode cL_law 30 = .ok (.if_icmp .gt 1459, 3) := bo_163 5 179 (by decide +kernel)
theorem dL_law_33 : decode cL_law 33 = .ok (.aload_n 0, 1) := bo_42 (by decide +kernel)
theorem dL_law_34 : decode cL_law 34 = .ok (.iload 4, 2) := bo_21 (by decide +kernel)
theorem dL_law_36 : decode cL_law 36 = .ok (.iaload, 1) := bo_46 (by decide +kernel)
theorem dL_law_37 : decode cL_law 37 = .ok (.bipush 63, 2) := bo_16 63 (by decide +kernel)
theorem dL_law_39 : decode cL_law 39 = .ok (.iand, 1) := bo_126 (by decide +kernel)
theorem dL_law_40 : decode cL_law 40 = .ok (.tableswitch 1443 0 43 #[192, 265, 290, 303, 316, 377, 402, 415, 440, 465, 490, 503, 528, 589, 626, 639, 664, 689, 714, 739, 764, 789, 826, 839, 852, 865, 890, 903, 928, 941, 966, 1003, 1040, 1077, 1114, 1151, 1200, 1225, 1250, 1275, 1312, 1349, 1405, 1430], 192) := by decide +kernel
set_option maxRecDepth 100000 in
set_option maxHeartbeats 8000000 in
theorem lw_head {p : Program} {l : Launch} {e : Env} {s : State} {m : MethodId} {below : List Frame} {meth : Method} {c : Code} {b : Nat} {G : va_G} {cI cB cJ cN cW : ClassId} {x y o : Nat} {Q qN qK : Nat → Nat → Nat} {qm : Nat → Nat} {L : Nat} {xs : Nat → Int32} (C0 : lw_At p s m meth c b L xs) (hL9 : L ≤ 3072) {E : (Nat → Prop) → State → Prop} (hO : bw_Ok E) {sa va : Nat → Nat} {fb : Nat → Nat → Int32} (hWd : bw_Words E sa va fb) (hWb : ∀ j, j < 15 → ∀ k, k < wlen j → fb j k = zI (wch j k)) (hst : l.stackTraces = false) {sth : Nat} (hTh : bw_Thr E sth) (hK : va_K G vwCl (bw_kt cI cB cJ cN cW) s) (hE : E (fun q : Nat => s.heap.size ≤ q) s) (n : Nat) (hn : n ≤ 3072) (IH : n + 6 ≤ L → lw_End p l e s m below meth c b G cI cB cJ cN cW x y o Q qN qK qm n) : lw_Loop p l e s m below meth c b G cI cB cJ cN cW x y o Q qN qK qm n := by
  have C1 := C0
  obtain ⟨hx, hb, hr, hml, hown, hts, hX, hbl, hlocks, hgv⟩ := C0
  have hbA : ¬ (fun q : Nat => s.heap.size ≤ q) b := Nat.not_le.mpr hbl
  have F : CallFix p m c cL_law 7 s #[Value.ref b] bw_T RL := ⟨hx, hb, hml, hown, fun w h => hts w (List.mem_filter.mp h).1⟩
  intro t ld i1 g1 n2 g2 n3 g3 n4 g4 n5 g5 n6 g6 n7 g7 i8 g8 i9 g9 i10 g10 i11 g11 i12 g12 i13 g13 g14 n15 nN gN iK gK i a0 a1 a2 a3 a4 a5 a6 a7 a8 a9 a10 a11 a12 a13 a14 a15 a16 a17 a18 a19 a20 go H locs ls hF hMm hT hP hD hS hl
  refine lv_iload hx hb dL_law_23 (lv_at hl 0 rfl) ?_
  refine lv_aload_n hx hb dL_law_25 rfl (lv_at hl 4 rfl) ?_
  refine va_slen hx hb hX hbl hbA hS dL_law_26 ?_
  refine lv_bipush (v := zI 6) hx hb dL_law_27 (by decide) ?_
  refine r_isub (v := zI ((L : Int) - 6)) F dL_law_29 (zI_sub (L : Int) 6) ?_
  refine rz_icmp_gt (tgt := 1489) F (by omega) (by omega) dL_law_30 (by decide) (fun h9 => ?_) (fun h9 => ?_)
  · exact lc_exit C1 hS (by omega) (by omega)
  · have hn6 : n + 6 ≤ L := by omega
    have IH := IH hn6
    refine lv_aload_n hx hb dL_law_33 rfl (lv_at hl 4 rfl) ?_
    refine lv_iload hx hb dL_law_34 (lv_at hl 0 rfl) ?_
    refine va_sld hx hb hX hbl hbA hS (zI_in (by omega) (by omega)) dL_law_36 ?_
    refine lv_bipush (v := 63) hx hb dL_law_37 (by decide) ?_
    obtain ⟨j, hj, ej⟩ := pk_andE (xs (zI (n : Int)).toNatClampNeg) (m := 63) 6 (by decide)
    refine r_iand (v := nI j) F dL_law_39 ej ?_
    clear ej
    by_cases h44 : 44 ≤ j
    · refine lv_tableOut (tgt := 1483) hx hb dL_law_40 (Or.inr (by rw [nI_toInt (by omega)]; omega)) (by decide) ?_
      refine W.widen (k := 164 + n) (n := 8739 + 6 * n) (by omega) (by omega) ?_
      exact IH t ld i1 g1 n2 g2 n3 g3 n4 g4 n5 g5 n6 g6 n7 g7 i8 g8 i9 g9 i10 g10 i11 g11 i12 g12 i13 g13 g14 n15 nN gN iK gK i a0 a1 a2 a3 a4 a5 a6 a7 a8 a9 a10 a11 a12 a13 a14 a15 a16 a17 a18 a19 a20 go H locs ls (lw_Fle (by omega) hF) hMm hT hP hD hS hl
    · have h43 : j < 44 := by omega
      clear hj h44
      match j, h43 with
      | 0, _ =>
        refine lv_tableIn (off := 192) (tgt := 232) hx hb dL_law_40 (by decide) (by decide) (by decide) (by decide) ?_
        exact lc_0 C1 hL9 hO hWd hWb hst hTh cI cB cJ cN cW x y o Q qN qK qm hK hE n hn6 t ld i1 g1 n2 g2 n3 g3 n4 g4 n5 g5 n6 g6 n7 g7 i8 g8 i9 g9 i10 g10 i11 g11 i12 g12 i13 g13 g14 n15 nN gN iK gK i a0 a1 a2 a3 a4 a5 a6 a7 a8 a9 a10 a11 a12 a13 a14 a15 a16 a17 a18 a19 a20 go hF hMm hT hP hD hS hl IH
      | 1, _ =>
        refine lv_tableIn (off := 265) (tgt := 305) hx hb dL_law_40 (by decide) (by decide) (by decide) (by decide) ?_
        exact lc_1 C1 hL9 hO hWd hWb hst hTh cI cB cJ cN cW x y o Q qN qK qm hK hE n hn6 t ld i1 g1 n2 g2 n3 g3 n4 g4 n5 g5 n6 g6 n7 g7 i8 g8 i9 g9 i10 g10 i11 g11 i12 g12 i13 g13 g14 n15 nN gN iK gK i a0 a1 a2 a3 a4 a5 a6 a7 a8 a9 a10 a11 a12 a13 a14 a15 a16 a17 a18 a19 a20 go hF hMm hT hP hD hS hl IH
      | 2, _ =>
        refine lv_tableIn (off := 290) (tgt := 330) hx hb dL_law_40 (by decide) (by decide) (by decide) (by decide) ?_
        exact lc_2 C1 hL9 hO hWd hWb hst hTh cI cB cJ cN cW x y o Q qN qK qm hK hE n hn6 t ld i1 g1 n2 g2 n3 g3 n4 g4 n5 g5 n6 g6 n7 g7 i8 g8 i9 g9 i10 g10 i11 g11 i12 g12 i13 g13 g14 n15 nN gN iK gK i a0 a1 a2 a3 a4 a5 a6 a7 a8 a9 a10 a11 a12 a13 a14 a15 a16 a17 a18 a19 a20 go hF hMm hT hP hD hS hl IH
      | 3, _ =>
        refine lv_tableIn (off := 303) (tgt := 343) hx hb dL_law_40 (by decide) (by decide) (by decide) (by decide) ?_
        exact lc_3 C1 hL9 hO hWd hWb hst hTh cI cB cJ cN cW x y o Q qN qK qm hK hE n hn6 t ld i1 g1 n2 g2 n3 g3 n4 g4 n5 g5 n6 g6 n7 g7 i8 g8 i9 g9 i10 g10 i11 g11 i12 g12 i13 g13 g14 n15 nN gN iK gK i a0 a1 a2 a3 a4 a5 a6 a7 a8 a9 a10 a11 a12 a13 a14 a15 a16 a17 a18 a19 a20 go hF hMm hT hP hD hS hl IH
      | 4, _ =>
        refine lv_tableIn (off := 316) (tgt := 356) hx hb dL_law_40 (by decide) (by decide) (by decide) (by decide) ?_
        exact lc_4 C1 hL9 hO hWd hWb hst hTh cI cB cJ cN cW x y o Q qN qK qm hK hE n hn6 t ld i1 g1 n2 g2 n3 g3 n4 g4 n5 g5 n6 g6 n7 g7 i8 g8 i9 g9 i10 g10 i11 g11 i12 g12 i13 g13 g14 n15 nN gN iK gK i a0 a1 a2 a3 a4 a5 a6 a7 a8 a9 a10 a11 a12 a13 a14 a15 a16 a17 a18 a19 a20 go hF hMm hT hP hD hS hl IH
      | 5, _ =>
        refine lv_tableIn (off := 377) (tgt := 417) hx hb dL_law_40 (by decide) (by decide) (by decide) (by decide) ?_
        exact lc_5 C1 hL9 hO hWd hWb hst hTh cI cB cJ cN cW x y o Q qN qK qm hK hE n hn6 t ld i1 g1 n2 g2 n3 g3 n4 g4 n5 g5 n6 g6 n7 g7 i8 g8 i9 g9 i10 g10 i11 g11 i12 g12 i13 g13 g14 n15 nN gN iK gK i a0 a1 a2 a3 a4 a5 a6 a7 a8 a9 a10 a11 a12 a13 a14 a15 a16 a17 a18 a19 a20 go hF hMm hT hP hD hS hl IH
      | 6, _ =>
        refine lv_tableIn (off := 402) (tgt := 442) hx hb dL_law_40 (by decide) (by decide) (by decide) (by decide) ?_
        exact lc_6 C1 hL9 hO hWd hWb hst hTh cI cB cJ cN cW x y o Q qN qK qm hK hE n hn6 t ld i1 g1 n2 g2 n3 g3 n4 g4 n5 g5 n6 g6 n7 g7 i8 g8 i9 g9 i10 g10 i11 g11 i12 g12 i13 g13 g14 n15 nN gN iK gK i a0 a1 a2 a3 a4 a5 a6 a7 a8 a9 a10 a11 a12 a13 a14 a15 a16 a17 a18 a19 a20 go hF hMm hT hP hD hS hl IH
      | 7, _ =>
        refine lv_tableIn (off := 415) (tgt := 455) hx hb dL_law_40 (by decide) (by decide) (by decide) (by decide) ?_
        exact lc_7 C1 hL9 hO hWd hWb hst hTh cI cB cJ cN cW x y o Q qN qK qm hK hE n hn6 t ld i1 g1 n2 g2 n3 g3 n4 g4 n5 g5 n6 g6 n7 g7 i8 g8 i9 g9 i10 g10 i11 g11 i12 g12 i13 g13 g14 n15 nN gN iK gK i a0 a1 a2 a3 a4 a5 a6 a7 a8 a9 a10 a11 a12 a13 a14 a15 a16 a17 a18 a19 a20 go hF hMm hT hP hD hS hl IH
      | 8, _ =>
        refine lv_tableIn (off := 440) (tgt := 480) hx hb dL_law_40 (by decide) (by decide) (by decide) (by decide) ?_
        exact lc_8 C1 hL9 hO hWd hWb hst hTh cI cB cJ cN cW x y o Q qN qK qm hK hE n hn6 t ld i1 g1 n2 g2 n3 g3 n4 g4 n5 g5 n6 g6 n7 g7 i8 g8 i9 g9 i10 g10 i11 g11 i12 g12 i13 g13 g14 n15 nN gN iK gK i a0 a1 a2 a3 a4 a5 a6 a7 a8 a9 a10 a11 a12 a13 a14 a15 a16 a17 a18 a19 a20 go hF hMm hT hP hD hS hl IH
      | 9, _ =>
        refine lv_tableIn (off := 465) (tgt := 505) hx hb dL_law_40 (by decide) (by decide) (by decide) (by decide) ?_
        exact lc_9 C1 hL9 hO hWd hWb hst hTh cI cB cJ cN cW x y o Q qN qK qm hK hE n hn6 t ld i1 g1 n2 g2 n3 g3 n4 g4 n5 g5 n6 g6 n7 g7 i8 g8 i9 g9 i10 g10 i11 g11 i12 g12 i13 g13 g14 n15 nN gN iK gK i a0 a1 a2 a3 a4 a5 a6 a7 a8 a9 a10 a11 a12 a13 a14 a15 a16 a17 a18 a19 a20 go hF hMm hT hP hD hS hl IH
      | 10, _ =>
        refine lv_tableIn (off := 490) (tgt := 530) hx hb dL_law_40 (by decide) (by decide) (by decide) (by decide) ?_
        exact lc_10 C1 hL9 hO hWd hWb hst hTh cI cB cJ cN cW x y o Q qN qK qm hK hE n hn6 t ld i1 g1 n2 g2 n3 g3 n4 g4 n5 g5 n6 g6 n7 g7 i8 g8 i9 g9 i10 g10 i11 g11 i12 g12 i13 g13 g14 n15 nN gN iK gK i a0 a1 a2 a3 a4 a5 a6 a7 a8 a9 a10 a11 a12 a13 a14 a15 a16 a17 a18 a19 a20 go hF hMm hT hP hD hS hl IH
      | 11, _ =>
        refine lv_tableIn (off := 503) (tgt := 543) hx hb dL_law_40 (by decide) (by decide) (by decide) (by decide) ?_
        exact lc_11 C1 hL9 hO hWd hWb hst hTh cI cB cJ cN cW x y o Q qN qK qm hK hE n hn6 t ld i1 g1 n2 g2 n3 g3 n4 g4 n5 g5 n6 g6 n7 g7 i8 g8 i9 g9 i10 g10 i11 g11 i12 g12 i13 g13 g14 n15 nN gN iK gK i a0 a1 a2 a3 a4 a5 a6 a7 a8 a9 a10 a11 a12 a13 a14 a15 a16 a17 a18 a19 a20 go hF hMm hT hP hD hS hl IH
      | 12, _ =>
        refine lv_tableIn (off := 528) (tgt := 568) hx hb dL_law_40 (by decide) (by decide) (by decide) (by decide) ?_
        exact lc_12 C1 hL9 hO hWd hWb hst hTh cI cB cJ cN cW x y o Q qN qK qm hK hE n hn6 t ld i1 g1 n2 g2 n3 g3 n4 g4 n5 g5 n6 g6 n7 g7 i8 g8 i9 g9 i10 g10 i11 g11 i12 g12 i13 g13 g14 n15 nN gN iK gK i a0 a1 a2 a3 a4 a5 a6 a7 a8 a9 a10 a11 a12 a13 a14 a15 a16 a17 a18 a19 a20 go hF hMm hT hP hD hS hl IH
      | 13, _ =>
        refine lv_tableIn (off := 589) (tgt := 629) hx hb dL_law_40 (by decide) (by decide) (by decide) (by decide) ?_
        exact lc_13 C1 hL9 hO hWd hWb hst hTh cI cB cJ cN cW x y o Q qN qK qm hK hE n hn6 t ld i1 g1 n2 g2 n3 g3 n4 g4 n5 g5 n6 g6 n7 g7 i8 g8 i9 g9 i10 g10 i11 g11 i12 g12 i13 g13 g14 n15 nN gN iK gK i a0 a1 a2 a3 a4 a5 a6 a7 a8 a9 a10 a11 a12 a13 a14 a15 a16 a17 a18 a19 a20 go hF hMm hT hP hD hS hl IH
      | 14, _ =>
        refine lv_tableIn (off := 626) (tgt := 666) hx hb dL_law_40 (by decide) (by decide) (by decide) (by decide) ?_
        exact lc_14 C1 hL9 hO hWd hWb hst hTh cI cB cJ cN cW x y o Q qN qK qm hK hE n hn6 t ld i1 g1 n2 g2 n3 g3 n4 g4 n5 g5 n6 g6 n7 g7 i8 g8 i9 g9 i10 g10 i11 g11 i12 g12 i13 g13 g14 n15 nN gN iK gK i a0 a1 a2 a3 a4 a5 a6 a7 a8 a9 a10 a11 a12 a13 a14 a15 a16 a17 a18 a19 a20 go hF hMm hT hP hD hS hl IH
      | 15, _ =>
        refine lv_tableIn (off := 639) (tgt := 679) hx hb dL_law_40 (by decide) (by decide) (by decide) (by decide) ?_
        exact lc_15 C1 hL9 hO hWd hWb hst hTh cI cB cJ cN cW x y o Q qN qK qm hK hE n hn6 t ld i1 g1 n2 g2 n3 g3 n4 g4 n5 g5 n6 g6 n7 g7 i8 g8 i9 g9 i10 g10 i11 g11 i12 g12 i13 g13 g14 n15 nN gN iK gK i a0 a1 a2 a3 a4 a5 a6 a7 a8 a9 a10 a11 a12 a13 a14 a15 a16 a17 a18 a19 a20 go hF hMm hT hP hD hS hl IH
      | 16, _ =>
        refine lv_tableIn (off := 664) (tgt := 704) hx hb dL_law_40 (by decide) (by decide) (by decide) (by decide) ?_
        exact lc_16 C1 hL9 hO hWd hWb hst hTh cI cB cJ cN cW x y o Q qN qK qm hK hE n hn6 t ld i1 g1 n2 g2 n3 g3 n4 g4 n5 g5 n6 g6 n7 g7 i8 g8 i9 g9 i10 g10 i11 g11 i12 g12 i13 g13 g14 n15 nN gN iK gK i a0 a1 a2 a3 a4 a5 a6 a7 a8 a9 a10 a11 a12 a13 a14 a15 a16 a17 a18 a19 a20 go hF hMm hT hP hD hS hl IH
      | 17, _ =>
        refine lv_tableIn (off := 689) (tgt := 729) hx hb dL_law_40 (by decide) (by decide) (by decide) (by decide) ?_
        exact lc_17 C1 hL9 hO hWd hWb hst hTh cI cB cJ cN cW x y o Q qN qK qm hK hE n hn6 t ld i1 g1 n2 g2 n3 g3 n4 g4 n5 g5 n6 g6 n7 g7 i8 g8 i9 g9 i10 g10 i11 g11 i12 g12 i13 g13 g14 n15 nN gN iK gK i a0 a1 a2 a3 a4 a5 a6 a7 a8 a9 a10 a11 a12 a13 a14 a15 a16 a17 a18 a19 a20 go hF hMm hT hP hD hS hl IH
      | 18, _ =>
        refine lv_tableIn (off := 714) (tgt := 754) hx hb dL_law_40 (by decide) (by decide) (by decide) (by decide) ?_
        exact lc_18 C1 hL9 hO hWd hWb hst hTh cI cB cJ cN cW x y o Q qN qK qm hK hE n hn6 t ld i1 g1 n2 g2 n3 g3 n4 g4 n5 g5 n6 g6 n7 g7 i8 g8 i9 g9 i10 g10 i11 g11 i12 g12 i13 g13 g14 n15 nN gN iK gK i a0 a1 a2 a3 a4 a5 a6 a7 a8 a9 a10 a11 a12 a13 a14 a15 a16 a17 a18 a19 a20 go hF hMm hT hP hD hS hl IH
      | 19, _ =>
        refine lv_tableIn (off := 739) (tgt := 779) hx hb dL_law_40 (by decide) (by decide) (by decide) (by decide) ?_
        exact lc_19 C1 hL9 hO hWd hWb hst hTh cI cB cJ cN cW x y o Q qN qK qm hK hE n hn6 t ld i1 g1 n2 g2 n3 g3 n4 g4 n5 g5 n6 g6 n7 g7 i8 g8 i9 g9 i10 g10 i11 g11 i12 g12 i13 g13 g14 n15 nN gN iK gK i a0 a1 a2 a3 a4 a5 a6 a7 a8 a9 a10 a11 a12 a13 a14 a15 a16 a17 a18 a19 a20 go hF hMm hT hP hD hS hl IH
      | 20, _ =>
        refine lv_tableIn (off := 764) (tgt := 804) hx hb dL_law_40 (by decide) (by decide) (by decide) (by decide) ?_
        exact lc_20 C1 hL9 hO hWd hWb hst hTh cI cB cJ cN cW x y o Q qN qK qm hK hE n hn6 t ld i1 g1 n2 g2 n3 g3 n4 g4 n5 g5 n6 g6 n7 g7 i8 g8 i9 g9 i10 g10 i11 g11 i12 g12 i13 g13 g14 n15 nN gN iK gK i a0 a1 a2 a3 a4 a5 a6 a7 a8 a9 a10 a11 a12 a13 a14 a15 a16 a17 a18 a19 a20 go hF hMm hT hP hD hS hl IH
      | 21, _ =>
        refine lv_tableIn (off := 789) (tgt := 829) hx hb dL_law_40 (by decide) (by decide) (by decide) (by decide) ?_
        exact lc_21 C1 hL9 hO hWd hWb hst hTh cI cB cJ cN cW x y o Q qN qK qm hK hE n hn6 t ld i1 g1 n2 g2 n3 g3 n4 g4 n5 g5 n6 g6 n7 g7 i8 g8 i9 g9 i10 g10 i11 g11 i12 g12 i13 g13 g14 n15 nN gN iK gK i a0 a1 a2 a3 a4 a5 a6 a7 a8 a9 a10 a11 a12 a13 a14 a15 a16 a17 a18 a19 a20 go hF hMm hT hP hD hS hl IH
      | 22, _ =>
        refine lv_tableIn (off := 826) (tgt := 866) hx hb dL_law_40 (by decide) (by decide) (by decide) (by decide) ?_
        exact lc_22 C1 hL9 hO hWd hWb hst hTh cI cB cJ cN cW x y o Q qN qK qm hK hE n hn6 t ld i1 g1 n2 g2 n3 g3 n4 g4 n5 g5 n6 g6 n7 g7 i8 g8 i9 g9 i10 g10 i11 g11 i12 g12 i13 g13 g14 n15 nN gN iK gK i a0 a1 a2 a3 a4 a5 a6 a7 a8 a9 a10 a11 a12 a13 a14 a15 a16 a17 a18 a19 a20 go hF hMm hT hP hD hS hl IH
      | 23, _ =>
        refine lv_tableIn (off := 839) (tgt := 879) hx hb dL_law_40 (by decide) (by decide) (by decide) (by decide) ?_
        exact lc_23 C1 hL9 hO hWd hWb hst hTh cI cB cJ cN cW x y o Q qN qK qm hK hE n hn6 t ld i1 g1 n2 g2 n3 g3 n4 g4 n5 g5 n6 g6 n7 g7 i8 g8 i9 g9 i10 g10 i11 g11 i12 g12 i13 g13 g14 n15 nN gN iK gK i a0 a1 a2 a3 a4 a5 a6 a7 a8 a9 a10 a11 a12 a13 a14 a15 a16 a17 a18 a19 a20 go hF hMm hT hP hD hS hl IH
      | 24, _ =>
        refine lv_tableIn (off := 852) (tgt := 892) hx hb dL_law_40 (by decide) (by decide) (by decide) (by decide) ?_
        exact lc_24 C1 hL9 hO hWd hWb hst hTh cI cB cJ cN cW x y o Q qN qK qm hK hE n hn6 t ld i1 g1 n2 g2 n3 g3 n4 g4 n5 g5 n6 g6 n7 g7 i8 g8 i9 g9 i10 g10 i11 g11 i12 g12 i13 g13 g14 n15 nN gN iK gK i a0 a1 a2 a3 a4 a5 a6 a7 a8 a9 a10 a11 a12 a13 a14 a15 a16 a17 a18 a19 a20 go hF hMm hT hP hD hS hl IH
      | 25, _ =>
        refine lv_tableIn (off := 865) (tgt := 905) hx hb dL_law_40 (by decide) (by decide) (by decide) (by decide) ?_
        exact lc_25 C1 hL9 hO hWd hWb hst hTh cI cB cJ cN cW x y o Q qN qK qm hK hE n hn6 t ld i1 g1 n2 g2 n3 g3 n4 g4 n5 g5 n6 g6 n7 g7 i8 g8 i9 g9 i10 g10 i11 g11 i12 g12 i13 g13 g14 n15 nN gN iK gK i a0 a1 a2 a3 a4 a5 a6 a7 a8 a9 a10 a11 a12 a13 a14 a15 a16 a17 a18 a19 a20 go hF hMm hT hP hD hS hl IH
      | 26, _ =>
        refine lv_tableIn (off := 890) (tgt := 930) hx hb dL_law_40 (by decide) (by decide) (by decide) (by decide) ?_
        exact lc_26 C1 hL9 hO hWd hWb hst hTh cI cB cJ cN cW x y o Q qN qK qm hK hE n hn6 t ld i1 g1 n2 g2 n3 g3 n4 g4 n5 g5 n6 g6 n7 g7 i8 g8 i9 g9 i10 g10 i11 g11 i12 g12 i13 g13 g14 n15 nN gN iK gK i a0 a1 a2 a3 a4 a5 a6 a7 a8 a9 a10 a11 a12 a13 a14 a15 a16 a17 a18 a19 a20 go hF hMm hT hP hD hS hl IH
      | 27, _ =>
        refine lv_tableIn (off := 903) (tgt := 943) hx hb dL_law_40 (by decide) (by decide) (by decide) (by decide) ?_
        exact lc_27 C1 hL9 hO hWd hWb hst hTh cI cB cJ cN cW x y o Q qN qK qm hK hE n hn6 t ld i1 g1 n2 g2 n3 g3 n4 g4 n5 g5 n6 g6 n7 g7 i8 g8 i9 g9 i10 g10 i11 g11 i12 g12 i13 g13 g14 n15 nN gN iK gK i a0 a1 a2 a3 a4 a5 a6 a7 a8 a9 a10 a11 a12 a13 a14 a15 a16 a17 a18 a19 a20 go hF hMm hT hP hD hS hl IH
      | 28, _ =>
        refine lv_tableIn (off := 928) (tgt := 968) hx hb dL_law_40 (by decide) (by decide) (by decide) (by decide) ?_
        exact lc_28 C1 hL9 hO hWd hWb hst hTh cI cB cJ cN cW x y o Q qN qK qm hK hE n hn6 t ld i1 g1 n2 g2 n3 g3 n4 g4 n5 g5 n6 g6 n7 g7 i8 g8 i9 g9 i10 g10 i11 g11 i12 g12 i13 g13 g14 n15 nN gN iK gK i a0 a1 a2 a3 a4 a5 a6 a7 a8 a9 a10 a11 a12 a13 a14 a15 a16 a17 a18 a19 a20 go hF hMm hT hP hD hS hl IH
      | 29, _ =>
        refine lv_tableIn (off := 941) (tgt := 981) hx hb dL_law_40 (by decide) (by decide) (by decide) (by decide) ?_
        exact lc_29 C1 hL9 hO hWd hWb hst hTh cI cB cJ cN cW x y o Q qN qK qm hK hE n hn6 t ld i1 g1 n2 g2 n3 g3 n4 g4 n5 g5 n6 g6 n7 g7 i8 g8 i9 g9 i10 g10 i11 g11 i12 g12 i13 g13 g14 n15 nN gN iK gK i a0 a1 a2 a3 a4 a5 a6 a7 a8 a9 a10 a11 a12 a13 a14 a15 a16 a17 a18 a19 a20 go hF hMm hT hP hD hS hl IH
      | 30, _ =>
        refine lv_tableIn (off := 966) (tgt := 1006) hx hb dL_law_40 (by decide) (by decide) (by decide) (by decide) ?_
        exact lc_30 C1 hL9 hO hWd hWb hst hTh cI cB cJ cN cW x y o Q qN qK qm hK hE n hn6 t ld i1 g1 n2 g2 n3 g3 n4 g4 n5 g5 n6 g6 n7 g7 i8 g8 i9 g9 i10 g10 i11 g11 i12 g12 i13 g13 g14 n15 nN gN iK gK i a0 a1 a2 a3 a4 a5 a6 a7 a8 a9 a10 a11 a12 a13 a14 a15 a16 a17 a18 a19 a20 go hF hMm hT hP hD hS hl IH
      | 31, _ =>
        refine lv_tableIn (off := 1003) (tgt := 1043) hx hb dL_law_40 (by decide) (by decide) (by decide) (by decide) ?_
        exact lc_31 C1 hL9 hO hWd hWb hst hTh cI cB cJ cN cW x y o Q qN qK qm hK hE n hn6 t ld i1 g1 n2 g2 n3 g3 n4 g4 n5 g5 n6 g6 n7 g7 i8 g8 i9 g9 i10 g10 i11 g11 i12 g12 i13 g13 g14 n15 nN gN iK gK i a0 a1 a2 a3 a4 a5 a6 a7 a8 a9 a10 a11 a12 a13 a14 a15 a16 a17 a18 a19 a20 go hF hMm hT hP hD hS hl IH
      | 32, _ =>
        refine lv_tableIn (off := 1040) (tgt := 1080) hx hb dL_law_40 (by decide) (by decide) (by decide) (by decide) ?_
        exact lc_32 C1 hL9 hO hWd hWb hst hTh cI cB cJ cN cW x y o Q qN qK qm hK hE n hn6 t ld i1 g1 n2 g2 n3 g3 n4 g4 n5 g5 n6 g6 n7 g7 i8 g8 i9 g9 i10 g10 i11 g11 i12 g12 i13 g13 g14 n15 nN gN iK gK i a0 a1 a2 a3 a4 a5 a6 a7 a8 a9 a10 a11 a12 a13 a14 a15 a16 a17 a18 a19 a20 go hF hMm hT hP hD hS hl IH
      | 33, _ =>
        refine lv_tableIn (off := 1077) (tgt := 1117) hx hb dL_law_40 (by decide) (by decide) (by decide) (by decide) ?_
        exact lc_33 C1 hL9 hO hWd hWb hst hTh cI cB cJ cN cW x y o Q qN qK qm hK hE n hn6 t ld i1 g1 n2 g2 n3 g3 n4 g4 n5 g5 n6 g6 n7 g7 i8 g8 i9 g9 i10 g10 i11 g11 i12 g12 i13 g13 g14 n15 nN gN iK gK i a0 a1 a2 a3 a4 a5 a6 a7 a8 a9 a10 a11 a12 a13 a14 a15 a16 a17 a18 a19 a20 go hF hMm hT hP hD hS hl IH
      | 34, _ =>
        refine lv_tableIn (off := 1114) (tgt := 1154) hx hb dL_law_40 (by decide) (by decide) (by decide) (by decide) ?_
        exact lc_34 C1 hL9 hO hWd hWb hst hTh cI cB cJ cN cW x y o Q qN qK qm hK hE n hn6 t ld i1 g1 n2 g2 n3 g3 n4 g4 n5 g5 n6 g6 n7 g7 i8 g8 i9 g9 i10 g10 i11 g11 i12 g12 i13 g13 g14 n15 nN gN iK gK i a0 a1 a2 a3 a4 a5 a6 a7 a8 a9 a10 a11 a12 a13 a14 a15 a16 a17 a18 a19 a20 go hF hMm hT hP hD hS hl IH
      | 35, _ =>
        refine lv_tableIn (off := 1151) (tgt := 1191) hx hb dL_law_40 (by decide) (by decide) (by decide) (by decide) ?_
        exact lc_35 C1 hL9 hO hWd hWb hst hTh cI cB cJ cN cW x y o Q qN qK qm hK hE n hn6 t ld i1 g1 n2 g2 n3 g3 n4 g4 n5 g5 n6 g6 n7 g7 i8 g8 i9 g9 i10 g10 i11 g11 i12 g12 i13 g13 g14 n15 nN gN iK gK i a0 a1 a2 a3 a4 a5 a6 a7 a8 a9 a10 a11 a12 a13 a14 a15 a16 a17 a18 a19 a20 go hF hMm hT hP hD hS hl IH
      | 36, _ =>
        refine lv_tableIn (off := 1200) (tgt := 1240) hx hb dL_law_40 (by decide) (by decide) (by decide) (by decide) ?_
        exact lc_36 C1 hL9 hO hWd hWb hst hTh cI cB cJ cN cW x y o Q qN qK qm hK hE n hn6 t ld i1 g1 n2 g2 n3 g3 n4 g4 n5 g5 n6 g6 n7 g7 i8 g8 i9 g9 i10 g10 i11 g11 i12 g12 i13 g13 g14 n15 nN gN iK gK i a0 a1 a2 a3 a4 a5 a6 a7 a8 a9 a10 a11 a12 a13 a14 a15 a16 a17 a18 a19 a20 go hF hMm hT hP hD hS hl IH
      | 37, _ =>
        refine lv_tableIn (off := 1225) (tgt := 1265) hx hb dL_law_40 (by decide) (by decide) (by decide) (by decide) ?_
        exact lc_37 C1 hL9 hO hWd hWb hst hTh cI cB cJ cN cW x y o Q qN qK qm hK hE n hn6 t ld i1 g1 n2 g2 n3 g3 n4 g4 n5 g5 n6 g6 n7 g7 i8 g8 i9 g9 i10 g10 i11 g11 i12 g12 i13 g13 g14 n15 nN gN iK gK i a0 a1 a2 a3 a4 a5 a6 a7 a8 a9 a10 a11 a12 a13 a14 a15 a16 a17 a18 a19 a20 go hF hMm hT hP hD hS hl IH
      | 38, _ =>
        refine lv_tableIn (off := 1250) (tgt := 1290) hx hb dL_law_40 (by decide) (by decide) (by decide) (by decide) ?_
        exact lc_38 C1 hL9 hO hWd hWb hst hTh cI cB cJ cN cW x y o Q qN qK qm hK hE n hn6 t ld i1 g1 n2 g2 n3 g3 n4 g4 n5 g5 n6 g6 n7 g7 i8 g8 i9 g9 i10 g10 i11 g11 i12 g12 i13 g13 g14 n15 nN gN iK gK i a0 a1 a2 a3 a4 a5 a6 a7 a8 a9 a10 a11 a12 a13 a14 a15 a16 a17 a18 a19 a20 go hF hMm hT hP hD hS hl IH
      | 39, _ =>
        refine lv_tableIn (off := 1275) (tgt := 1315) hx hb dL_law_40 (by decide) (by decide) (by decide) (by decide) ?_
        exact lc_39 C1 hL9 hO hWd hWb hst hTh cI cB cJ cN cW x y o Q qN qK qm hK hE n hn6 t ld i1 g1 n2 g2 n3 g3 n4 g4 n5 g5 n6 g6 n7 g7 i8 g8 i9 g9 i10 g10 i11 g11 i12 g12 i13 g13 g14 n15 nN gN iK gK i a0 a1 a2 a3 a4 a5 a6 a7 a8 a9 a10 a11 a12 a13 a14 a15 a16 a17 a18 a19 a20 go hF hMm hT hP hD hS hl IH
      | 40, _ =>
        refine lv_tableIn (off := 1312) (tgt := 1352) hx hb dL_law_40 (by decide) (by decide) (by decide) (by decide) ?_
        exact lc_40 C1 hL9 hO hWd hWb hst hTh cI cB cJ cN cW x y o Q qN qK qm hK hE n hn6 t ld i1 g1 n2 g2 n3 g3 n4 g4 n5 g5 n6 g6 n7 g7 i8 g8 i9 g9 i10 g10 i11 g11 i12 g12 i13 g13 g14 n15 nN gN iK gK i a0 a1 a2 a3 a4 a5 a6 a7 a8 a9 a10 a11 a12 a13 a14 a15 a16 a17 a18 a19 a20 go hF hMm hT hP hD hS hl IH
      | 41, _ =>
        refine lv_tableIn (off := 1349) (tgt := 1389) hx hb dL_law_40 (by decide) (by decide) (by decide) (by decide) ?_
        exact lc_41 C1 hL9 hO hWd hWb hst hTh cI cB cJ cN cW x y o Q qN qK qm hK hE n hn6 t ld i1 g1 n2 g2 n3 g3 n4 g4 n5 g5 n6 g6 n7 g7 i8 g8 i9 g9 i10 g10 i11 g11 i12 g12 i13 g13 g14 n15 nN gN iK gK i a0 a1 a2 a3 a4 a5 a6 a7 a8 a9 a10 a11 a12 a13 a14 a15 a16 a17 a18 a19 a20 go hF hMm hT hP hD hS hl IH
      | 42, _ =>
        refine lv_tableIn (off := 1405) (tgt := 1445) hx hb dL_law_40 (by decide) (by decide) (by decide) (by decide) ?_
        exact lc_42 C1 hL9 hO hWd hWb hst hTh cI cB cJ cN cW x y o Q qN qK qm hK hE n hn6 t ld i1 g1 n2 g2 n3 g3 n4 g4 n5 g5 n6 g6 n7 g7 i8 g8 i9 g9 i10 g10 i11 g11 i12 g12 i13 g13 g14 n15 nN gN iK gK i a0 a1 a2 a3 a4 a5 a6 a7 a8 a9 a10 a11 a12 a13 a14 a15 a16 a17 a18 a19 a20 go hF hMm hT hP hD hS hl IH
      | 43, _ =>
        refine lv_tableIn (off := 1430) (tgt := 1470) hx hb dL_law_40 (by decide) (by decide) (by decide) (by decide) ?_
        exact lc_43 C1 hL9 hO hWd hWb hst hTh cI cB cJ cN cW x y o Q qN qK qm hK hE n hn6 t ld i1 g1 n2 g2 n3 g3 n4 g4 n5 g5 n6 g6 n7 g7 i8 g8 i9 g9 i10 g10 i11 g11 i12 g12 i13 g13 g14 n15 nN gN iK gK i a0 a1 a2 a3 a4 a5 a6 a7 a8 a9 a10 a11 a12 a13 a14 a15 a16 a17 a18 a19 a20 go hF hMm hT hP hD hS hl IH
      | k + 44, h => exact absurd h (by omega)
theorem lw_all {p : Program} {l : Launch} {e : Env} {s : State} {m : MethodId} {below : List Frame} {meth : Method} {c : Code} {b : Nat} {G : va_G} {cI cB cJ cN cW : ClassId} {x y o : Nat} {Q qN qK : Nat → Nat → Nat} {qm : Nat → Nat} {L : Nat} {xs : Nat → Int32} (C0 : lw_At p s m meth c b L xs) (hL9 : L ≤ 3072) {E : (Nat → Prop) → State → Prop} (hO : bw_Ok E) {sa va : Nat → Nat} {fb : Nat → Nat → Int32} (hWd : bw_Words E sa va fb) (hWb : ∀ j, j < 15 → ∀ k, k < wlen j → fb j k = zI (wch j k)) (hst : l.stackTraces = false) {sth : Nat} (hTh : bw_Thr E sth) (hK : va_K G vwCl (bw_kt cI cB cJ cN cW) s) (hE : E (fun q : Nat => s.heap.size ≤ q) s) : ∀ (d n : Nat), L ≤ n + d → n ≤ 3072 → lw_Loop p l e s m below meth c b G cI cB cJ cN cW x y o Q qN qK qm n := by
  intro d
  induction d with
  | zero => intro n h1 h2; exact lw_head C0 hL9 hO hWd hWb hst hTh hK hE n h2 (fun h6 => absurd h6 (by omega))
  | succ d ih => intro n h1 h2; exact lw_head C0 hL9 hO hWd hWb hst hTh hK hE n h2 (fun h6 => lw_end C0 n (ih (n + 6) (by omega) (by omega)))
