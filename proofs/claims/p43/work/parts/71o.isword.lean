/-- so far alike, or not -/
def SmW (l W : Nat → Int) (v k : Int) : Prop := (v = 1 ∧ ∀ j : Nat, (j : Int) < k → l j = W j) ∨ (v = 0 ∧ ∃ j : Nat, (j : Int) < k ∧ l j ≠ W j)
theorem SmW.eq {l W : Nat → Int} {v k : Int} (h : SmW l W v k) (hk : 0 ≤ k) (hv : v ≠ 0) (e : l k.toNat = W k.toNat) : SmW l W 1 (k + 1) := by
  rcases h with ⟨h1, h2⟩ | ⟨h1, h2⟩
  · refine Or.inl ⟨rfl, fun j hj => ?_⟩
    by_cases q : j = k.toNat
    · rw [q]; exact e
    · exact h2 j (by omega)
  · exact absurd h1 hv
theorem SmW.ne {l W : Nat → Int} {k : Int} (hk : 0 ≤ k) (e : l k.toNat ≠ W k.toNat) : SmW l W 0 (k + 1) := Or.inr ⟨rfl, k.toNat, by omega, e⟩
theorem SmW.no {l W : Nat → Int} {v k : Int} (h : SmW l W v k) (hv : v = 0) : SmW l W 0 (k + 1) := by
  rcases h with ⟨h1, h2⟩ | ⟨h1, j, h2, h3⟩
  · omega
  · exact Or.inr ⟨rfl, j, by omega, h3⟩
abbrev rm_X9_isWordX : Room := { frames := 4, cells := 0, slots := 0, locals := 85 }
set_option maxRecDepth 100000 in
set_option maxHeartbeats 8000000 in
theorem c_X9_isWordX {l : Launch} {E : (Nat → Prop) → State → Prop} (hO : bw_Ok E) {G : va_G} {cI cB cJ cN cW : ClassId} (y : Nat) (q : Nat → Nat) (i : Nat → Int) (hM : ModOk i) (g_letters : Nat → Int) (hr_letters : ∀ k, k < 8 → (-2147483648) ≤ g_letters k ∧ g_letters k ≤ 2147483647) {own9 : String} {ix9 : Nat} {tx9 : String} {sa va N : Nat} {fb : Nat → Int32} (hT : bw_Text E own9 ix9 tx9 sa va N fb) (f : Nat → Int) (n c9 : Int) (hR : TkR f n c9 (i 3) (i 4) (i 5) (i 7) (i 6) g_letters) (wf : Nat → Int) (hfb : ∀ k, k < N → fb k = zI (wf k) ∧ 97 ≤ wf k ∧ wf k ≤ 122) (hN8 : 1 ≤ N ∧ N ≤ 8) (ix : Nat) (hix : ix < 19) (hrv : wrdN wf N = rsv ix) : bw_Ci (S := zV) l yX9_isWord (bw_ws (Cond.code yX9_isWord cX9_isWord 4 (some .boolean))) rm_X9_isWordX E G (bw_kt cI cB cJ cN cW) [.ref y, .ref sa] [(y, .inr (9, [.int (zI (i 0)), .ref (q 0), .int (zI (i 1)), .int (zI (i 2)), .int (zI (i 3)), .int (zI (i 4)), .int (zI (i 5)), .int (zI (i 6)), .int (zI (i 7)), .int (zI (i 8)), .int (zI (i 9)), .int (zI (i 10)), .ref (q 1), .int (zI (i 11)), .int (zI (i 12)), .ref (q 2), .ref (q 3), .ref (q 4), .ref (q 5), .ref (q 6), .ref (q 7), .ref (q 8), .ref (q 9), .ref (q 10), .ref (q 11), .ref (q 12), .ref (q 13), .ref (q 14), .ref (q 15), .ref (q 16), .int (zI (i 13)), .int (zI (i 14)), .int (zI (i 15)), .int (zI (i 16)), .int (zI (i 17)), .int (zI (i 18)), .ref (q 17), .ref (q 18), .ref (q 19), .ref (q 20)])), ((q 1), .inl (cI, 8, .inl (fun k => zI (g_letters k))))] (fun r u => ∃ z : Int, r = zI z ∧ ((0 ≤ z ∧ z ≤ 1) ∧ Imp (z = 1) (i 11 = 0 ∧ tKd f n c9 = (ix : Int)) ∧ Imp (z = 0) (i 11 = 0 → tKd f n c9 ≠ (ix : Int)))) (fun u => [(y, .inr (9, [.int (zI (i 0)), .ref (q 0), .int (zI (i 1)), .int (zI (i 2)), .int (zI (i 3)), .int (zI (i 4)), .int (zI (i 5)), .int (zI (i 6)), .int (zI (i 7)), .int (zI (i 8)), .int (zI (i 9)), .int (zI (i 10)), .ref (q 1), .int (zI (i 11)), .int (zI (i 12)), .ref (q 2), .ref (q 3), .ref (q 4), .ref (q 5), .ref (q 6), .ref (q 7), .ref (q 8), .ref (q 9), .ref (q 10), .ref (q 11), .ref (q 12), .ref (q 13), .ref (q 14), .ref (q 15), .ref (q 16), .int (zI (i 13)), .int (zI (i 14)), .int (zI (i 15)), .int (zI (i 16)), .int (zI (i 17)), .int (zI (i 18)), .ref (q 17), .ref (q 18), .ref (q 19), .ref (q 20)])), ((q 1), .inl (cI, 8, .inl (fun k => zI (g_letters k))))]) := by
  refine bw_Ci.of (cc := cX9_isWord) (maxL := 4) (ty := .boolean) (by decide) rfl (Nat.le_of_ble_eq_true rfl) ?_
  intro p e s m below meth c A Q hx hb hml hts hown hin hK hA hS hP hD hE ret ls hl
  have F : CallFix p m c cX9_isWord 4 s ([.ref y, .ref sa] : List Value).toArray bw_T RX9 := ⟨hx, hb, hml, hown, fun w h => hts w (List.mem_cons_of_mem _ h)⟩
  replace hl : lv_has ls 4 [(0, .ref y), (1, .ref sa)] := hl
  have hN9 := hT.1
  have hM2 : _ → _ := hM.2
  have hf1 := hM.1.1
  refine lv_aload_n hx hb dX9_isWord_0 rfl (lv_at hl 0 rfl) ?_
  refine r_get F hK hP 0 13 rfl rfl in_X9 (by decide) k_1176 rfl dX9_isWord_1 ?_
  refine rz_ifb_ne (tgt := 26) F (by omega) dX9_isWord_4 (by decide) (fun h4_1 => ?_) (fun h4_1 => ?_)
  · refine lv_iconst (v := zI 0) hx hb dX9_isWord_26 rfl ?_
    exact ret (zI 0) (fun k => [((fun _ => 0), fun _ _ => 0)].getD k (fun _ => 0, fun _ _ => 0)) _ _ _ _ _ _ rfl ⟨0, rfl, ⟨(show (0 : Int) ≤ 0 ∧ (0 : Int) ≤ 1 from by omega), (show Imp ((0 : Int) = 1) (i 11 = 0 ∧ tKd f n c9 = (ix : Int)) from fun q9 => absurd q9 (by decide)), (show Imp ((0 : Int) = 0) (i 11 = 0 → tKd f n c9 ≠ (ix : Int)) from fun _ q8 q7 => by have q6 := (TkR.isw hR hN8 (fun j hj => (hfb j hj).2) hix hrv).mpr q7; omega)⟩⟩ (bw_subP (isC := [0, 1]) hP rfl) (hD.sub [0, 1] (by decide) rfl) hS (Nat.le_of_ble_eq_true rfl) (Nat.le_of_ble_eq_true rfl) dX9_isWord_27
  · refine lv_aload_n hx hb dX9_isWord_7 rfl (lv_at hl 0 rfl) ?_
    refine r_get F hK hP 0 6 rfl rfl in_X9 (by decide) k_1169 rfl dX9_isWord_8 ?_
    refine lv_iconst (v := zI 2) hx hb dX9_isWord_11 rfl ?_
    refine rz_icmp_ne (tgt := 26) F (by omega) (by omega) dX9_isWord_12 (by decide) (fun h12_2 => ?_) (fun h12_2 => ?_)
    · refine lv_iconst (v := zI 0) hx hb dX9_isWord_26 rfl ?_
      exact ret (zI 0) (fun k => [((fun _ => 0), fun _ _ => 0)].getD k (fun _ => 0, fun _ _ => 0)) _ _ _ _ _ _ rfl ⟨0, rfl, ⟨(show (0 : Int) ≤ 0 ∧ (0 : Int) ≤ 1 from by omega), (show Imp ((0 : Int) = 1) (i 11 = 0 ∧ tKd f n c9 = (ix : Int)) from fun q9 => absurd q9 (by decide)), (show Imp ((0 : Int) = 0) (i 11 = 0 → tKd f n c9 ≠ (ix : Int)) from fun _ q8 q7 => by have q6 := (TkR.isw hR hN8 (fun j hj => (hfb j hj).2) hix hrv).mpr q7; omega)⟩⟩ (bw_subP (isC := [0, 1]) hP rfl) (hD.sub [0, 1] (by decide) rfl) hS (Nat.le_of_ble_eq_true rfl) (Nat.le_of_ble_eq_true rfl) dX9_isWord_27
    · refine lv_aload_n hx hb dX9_isWord_15 rfl (lv_at hl 0 rfl) ?_
      refine r_get F hK hP 0 8 rfl rfl in_X9 (by decide) k_1171 rfl dX9_isWord_16 ?_
      refine lv_aload_n hx hb dX9_isWord_19 rfl (lv_at hl 1 rfl) ?_
      refine r_callR (As := []) (rest := [.int (zI (i 7))]) F hK hP hD hS hA hO hE (c_J0_length hO hT) k_1330 kv_J0_length_8abf5 0 rfl (by decide +kernel) ⟨Nat.le_of_ble_eq_true rfl, Nat.le_of_ble_eq_true rfl⟩ [0, 1] rfl (by decide) (by obtain ⟨cell, h1, h2, h3, _⟩ := ((hT.2 _ _ hE).2.1.1).kept hS.2.1; exact ⟨cell, h1, h2, h3⟩) hl.1 rfl (Nat.le_of_ble_eq_true rfl) dX9_isWord_20 ⟨Nat.le_of_ble_eq_true rfl, Nat.le_of_ble_eq_true rfl⟩ (fun r4 u5 H locs hp6 hP hD hS => ?_)
      subst hp6
      refine rz_eq (z := (N : Int)) rfl ?_
      refine rz_icmp_eq (tgt := 28) F (by omega) (by omega) dX9_isWord_23 (by decide) (fun h23_6 => ?_) (fun h23_6 => ?_)
      · refine lv_iconst (v := zI 1) hx hb dX9_isWord_28 rfl ?_
        refine lv_istore_n (lv' := [(2, .int (zI 1)), (0, .ref y), (1, .ref sa)]) hx hb dX9_isWord_29 rfl hl (by decide) rfl (fun ls hl => ?_)
        refine lv_iconst (v := zI 0) hx hb dX9_isWord_30 rfl ?_
        refine lv_istore_n (lv' := [(3, .int (zI 0)), (2, .int (zI 1)), (0, .ref y), (1, .ref sa)]) hx hb dX9_isWord_31 rfl hl (by decide) rfl (fun ls hl => ?_)
        refine W.widen (k := 0) (n := 0) (Nat.le_of_ble_eq_true rfl) (Nat.le_of_ble_eq_true rfl) ?_
        refine (?_ : ∀ (n9_1 : Nat) (v2 : Int) (v3 : Int) (H : Heap) (locs : List Loc), (0 ≤ v3 ∧ v3 ≤ i 7 ∧ 0 ≤ v2 ∧ v2 ≤ 1) → (i 7 - v3 : Int).toNat < n9_1 → (SmW g_letters wf v2 v3) → va_P G vwCl [(y, .inr (9, [.int (zI (i 0)), .ref (q 0), .int (zI (i 1)), .int (zI (i 2)), .int (zI (i 3)), .int (zI (i 4)), .int (zI (i 5)), .int (zI (i 6)), .int (zI (i 7)), .int (zI (i 8)), .int (zI (i 9)), .int (zI (i 10)), .ref (q 1), .int (zI (i 11)), .int (zI (i 12)), .ref (q 2), .ref (q 3), .ref (q 4), .ref (q 5), .ref (q 6), .ref (q 7), .ref (q 8), .ref (q 9), .ref (q 10), .ref (q 11), .ref (q 12), .ref (q 13), .ref (q 14), .ref (q 15), .ref (q 16), .int (zI (i 13)), .int (zI (i 14)), .int (zI (i 15)), .int (zI (i 16)), .int (zI (i 17)), .int (zI (i 18)), .ref (q 17), .ref (q 18), .ref (q 19), .ref (q 20)])), ((q 1), .inl (cI, 8, .inl (fun k => zI (g_letters k))))] H → va_D A [(y, .inr (9, [.int (zI (i 0)), .ref (q 0), .int (zI (i 1)), .int (zI (i 2)), .int (zI (i 3)), .int (zI (i 4)), .int (zI (i 5)), .int (zI (i 6)), .int (zI (i 7)), .int (zI (i 8)), .int (zI (i 9)), .int (zI (i 10)), .ref (q 1), .int (zI (i 11)), .int (zI (i 12)), .ref (q 2), .ref (q 3), .ref (q 4), .ref (q 5), .ref (q 6), .ref (q 7), .ref (q 8), .ref (q 9), .ref (q 10), .ref (q 11), .ref (q 12), .ref (q 13), .ref (q 14), .ref (q 15), .ref (q 16), .int (zI (i 13)), .int (zI (i 14)), .int (zI (i 15)), .int (zI (i 16)), .int (zI (i 17)), .int (zI (i 18)), .ref (q 17), .ref (q 18), .ref (q 19), .ref (q 20)])), ((q 1), .inl (cI, 8, .inl (fun k => zI (g_letters k))))] → va_S A s.heap H locs → ∀ ls : Array Slot, lv_has ls 4 [(3, .int (zI v3)), (2, .int (zI v2)), (0, .ref y), (1, .ref sa)] → W p l e rm_X9_isWordX s m ([.ref y, .ref sa] : List Value).toArray below meth c H locs 0 0 Q (F0 m 32 ls [])) ((i 7 - 0 : Int).toNat + 1) 1 0 _ _ (by omega) (by omega) (Or.inl ⟨rfl, fun j hj => absurd hj (by omega)⟩) hP hD hS ls hl
        clear hP hD hS hl ls
        intro n9_1
        induction n9_1 with
        | zero =>
          intro v2 v3 H locs hI hM
          exact absurd hM (by omega)
        | succ n9_1 ih1 =>
          intro v2 v3 H locs hI1 hM1 hsm hP hD hS ls hl
          refine lv_iload_n hx hb dX9_isWord_32 rfl (lv_at hl 0 rfl) ?_
          refine lv_aload_n hx hb dX9_isWord_33 rfl (lv_at hl 2 rfl) ?_
          refine r_get F hK hP 0 8 rfl rfl in_X9 (by decide) k_1171 rfl dX9_isWord_34 ?_
          refine rz_icmp_ge (tgt := 70) F (by omega) (by omega) dX9_isWord_37 (by decide) (fun h37_7 => ?_) (fun h37_7 => ?_)
          · refine lv_iload_n hx hb dX9_isWord_70 rfl (lv_at hl 1 rfl) ?_
            exact ret (zI v2) (fun k => [((fun _ => 0), fun _ _ => 0)].getD k (fun _ => 0, fun _ _ => 0)) _ _ _ _ _ _ (zI_nz (by omega)) ⟨v2, rfl, ⟨(show 0 ≤ v2 ∧ v2 ≤ 1 from by omega), (show Imp (v2 = 1) (i 11 = 0 ∧ tKd f n c9 = (ix : Int)) from fun q9 => ⟨by omega, (TkR.isw hR hN8 (fun j hj => (hfb j hj).2) hix hrv).mp ⟨by omega, by omega, fun j hj => hsm.elim (fun q8 => q8.2 j (by omega)) (fun q8 => absurd q8.1 (by omega))⟩⟩), (show Imp (v2 = 0) (i 11 = 0 → tKd f n c9 ≠ (ix : Int)) from fun q9 q8 q7 => hsm.elim (fun q6 => absurd q6.1 (by omega)) (fun q6 => by obtain ⟨j, h1, h2⟩ := q6.2; exact h2 (((TkR.isw hR hN8 (fun j hj => (hfb j hj).2) hix hrv).mpr q7).2.2 j (by omega))))⟩⟩ (bw_subP (isC := [0, 1]) hP rfl) (hD.sub [0, 1] (by decide) rfl) hS (Nat.le_of_ble_eq_true rfl) (Nat.le_of_ble_eq_true rfl) dX9_isWord_71
          · refine lv_iload_n hx hb dX9_isWord_40 rfl (lv_at hl 1 rfl) ?_
            refine rz_if_eq (tgt := 62) F (by omega) dX9_isWord_41 (by decide) (fun h41_8 => ?_) (fun h41_8 => ?_)
            · refine lv_iconst (v := zI 0) hx hb dX9_isWord_62 rfl ?_
              refine lv_istore_n (lv' := [(2, .int (zI 0)), (3, .int (zI v3)), (0, .ref y), (1, .ref sa)]) hx hb dX9_isWord_63 rfl hl (by decide) rfl (fun ls hl => ?_)
              refine lv_iinc (v := zI (v3 + 1)) (lv' := [(3, .int (zI (v3 + 1))), (2, .int (zI 0)), (0, .ref y), (1, .ref sa)]) hx hb dX9_isWord_64 hl (k := 1) rfl (zI_add _ _) (by decide) rfl (fun ls hl => ?_)
              refine lv_goto (tgt := 32) hx hb dX9_isWord_67 (by decide) ?_
              exact ih1 0 (v3 + 1) _ _ (by omega) (by omega) (SmW.no hsm (by omega)) hP hD hS ls (lv_sub hl [0, 1, 2, 3] rfl)
            · refine lv_aload_n hx hb dX9_isWord_44 rfl (lv_at hl 2 rfl) ?_
              refine r_get F hK hP 0 12 rfl rfl in_X9 (by decide) k_1175 rfl dX9_isWord_45 ?_
              refine lv_iload_n hx hb dX9_isWord_48 rfl (lv_at hl 0 rfl) ?_
              refine rz_iald F hK hP 1 0 rfl rfl (by omega) (by omega) dX9_isWord_49 ?_
              refine lv_aload_n hx hb dX9_isWord_50 rfl (lv_at hl 3 rfl) ?_
              refine lv_iload_n hx hb dX9_isWord_51 rfl (lv_at hl 0 rfl) ?_
              refine r_callR (As := [.int (zI v3)]) (rest := [.int (zI (g_letters (v3).toNat))]) F hK hP hD hS hA hO hE (c_J0_charAtX hO hT (zI v3) (zI_nn (by omega)) (zI_ltN (by omega) hT.1)) k_1331 kv_J0_charAt_5068e 1 rfl (by decide +kernel) ⟨Nat.le_of_ble_eq_true rfl, Nat.le_of_ble_eq_true rfl⟩ [0, 1] rfl (by decide) (by obtain ⟨cell, h1, h2, h3, _⟩ := ((hT.2 _ _ hE).2.1.1).kept hS.2.1; exact ⟨cell, h1, h2, h3⟩) hl.1 rfl (Nat.le_of_ble_eq_true rfl) dX9_isWord_52 ⟨Nat.le_of_ble_eq_true rfl, Nat.le_of_ble_eq_true rfl⟩ (fun r10 u11 H locs hp12 hP hD hS => ?_)
              have hlr := hr_letters (v3).toNat (by omega)
              have hWr := (hfb (v3).toNat (by omega)).2
              refine rz_eq (z := wf (v3).toNat) (ch_of (hfb (v3).toNat (by omega)).1 hWr (by rw [hp12.2, zI_clamp (by omega)])) ?_
              refine rz_icmp_ne (tgt := 62) F (by omega) (by omega) dX9_isWord_55 (by decide) (fun h55_12 => ?_) (fun h55_12 => ?_)
              · refine lv_iconst (v := zI 0) hx hb dX9_isWord_62 rfl ?_
                refine lv_istore_n (lv' := [(2, .int (zI 0)), (3, .int (zI v3)), (0, .ref y), (1, .ref sa)]) hx hb dX9_isWord_63 rfl hl (by decide) rfl (fun ls hl => ?_)
                refine lv_iinc (v := zI (v3 + 1)) (lv' := [(3, .int (zI (v3 + 1))), (2, .int (zI 0)), (0, .ref y), (1, .ref sa)]) hx hb dX9_isWord_64 hl (k := 1) rfl (zI_add _ _) (by decide) rfl (fun ls hl => ?_)
                refine lv_goto (tgt := 32) hx hb dX9_isWord_67 (by decide) ?_
                exact ih1 0 (v3 + 1) _ _ (by omega) (by omega) (SmW.ne (by omega) (by omega)) hP hD hS ls (lv_sub hl [0, 1, 2, 3] rfl)
              · refine lv_iconst (v := zI 1) hx hb dX9_isWord_58 rfl ?_
                refine lv_goto (tgt := 63) hx hb dX9_isWord_59 (by decide) ?_
                refine lv_istore_n (lv' := [(2, .int (zI 1)), (3, .int (zI v3)), (0, .ref y), (1, .ref sa)]) hx hb dX9_isWord_63 rfl hl (by decide) rfl (fun ls hl => ?_)
                refine lv_iinc (v := zI (v3 + 1)) (lv' := [(3, .int (zI (v3 + 1))), (2, .int (zI 1)), (0, .ref y), (1, .ref sa)]) hx hb dX9_isWord_64 hl (k := 1) rfl (zI_add _ _) (by decide) rfl (fun ls hl => ?_)
                refine lv_goto (tgt := 32) hx hb dX9_isWord_67 (by decide) ?_
                exact ih1 1 (v3 + 1) _ _ (by omega) (by omega) (SmW.eq hsm (by omega) (by omega) (by omega)) hP hD hS ls (lv_sub hl [0, 1, 2, 3] rfl)
      · refine lv_iconst (v := zI 0) hx hb dX9_isWord_26 rfl ?_
        exact ret (zI 0) (fun k => [((fun _ => 0), fun _ _ => 0)].getD k (fun _ => 0, fun _ _ => 0)) _ _ _ _ _ _ rfl ⟨0, rfl, ⟨(show (0 : Int) ≤ 0 ∧ (0 : Int) ≤ 1 from by omega), (show Imp ((0 : Int) = 1) (i 11 = 0 ∧ tKd f n c9 = (ix : Int)) from fun q9 => absurd q9 (by decide)), (show Imp ((0 : Int) = 0) (i 11 = 0 → tKd f n c9 ≠ (ix : Int)) from fun _ q8 q7 => by have q6 := (TkR.isw hR hN8 (fun j hj => (hfb j hj).2) hix hrv).mpr q7; omega)⟩⟩ (bw_subP (isC := [0, 1]) hP rfl) (hD.sub [0, 1] (by decide) rfl) hS (Nat.le_of_ble_eq_true rfl) (Nat.le_of_ble_eq_true rfl) dX9_isWord_27
