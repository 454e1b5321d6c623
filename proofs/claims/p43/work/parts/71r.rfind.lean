theorem TkR.wrd {f l : Nat → Int} {n b pl en tk sz wh : Int} (h : TkR f n b pl en tk sz wh l) (hk : tKd f n b ≤ 19) : tWd f n b = wrdN l sz.toNat ∧ (1 ≤ sz ∧ sz ≤ 8) ∧ ∀ j, j < sz.toNat → 97 ≤ l j ∧ l j ≤ 122 := by
  obtain ⟨⟨h1, h2, h3⟩, h4, -⟩ := h
  obtain ⟨⟨q4, q4a, q4b⟩, q5⟩ := h4 hk
  obtain ⟨-, -, q6, q7⟩ := tKd_word hk
  refine ⟨?_, ⟨q4a, q4b⟩, fun j hj => ?_⟩
  · unfold tWd enc
    rw [← h1, ← h2, show (en - pl).toNat = sz.toNat by omega]
    exact encN_wrd sz.toNat (fun j hj => q5 j (by omega))
  · have z := q7.2.1 (tPl f n b + (j : Int)) (by omega) (by rw [← h1, ← h2]; omega)
    have z2 : lk f n (tPl f n b + (j : Int)) = f (tPl f n b + (j : Int)).toNat := by
      rcases (show tPl f n b + (j : Int) < n ∨ n ≤ tPl f n b + (j : Int) by omega) with w | w
      · exact lk_lt w
      · rw [lk_ge w] at z; unfold sSm at z; omega
    rw [z2, ← h1] at z
    rw [q5 j (by omega)]
    exact z
/-- the names that were told: their letters, as the reference keeps them, and their numbers -/
def NmR (m : Int) (nm nn ns : Nat → Int) : Prop := ∀ k : Nat, (k : Int) < m → (1 ≤ ns k ∧ ns k ≤ 8) ∧ (∀ j : Nat, (j : Int) < ns k → 97 ≤ nn (8 * k + j) ∧ nn (8 * k + j) ≤ 122) ∧ nm k = wrdN (fun j => nn (8 * k + j)) (ns k).toNat
theorem wrdN_congr {a b : Nat → Int} : ∀ m : Nat, (∀ j, j < m → a j = b j) → wrdN a m = wrdN b m
  | 0, _ => rfl
  | m + 1, h => by
    show wrdN a m * 32 + (a m - 96) = wrdN b m * 32 + (b m - 96)
    rw [wrdN_congr m (fun j hj => h j (by omega)), h m (by omega)]
/-- name k against the letters, so far -/
def SmF (nn ns l : Nat → Int) (k : Nat) (sz v t : Int) : Prop := (v = 1 ∧ ns k = sz ∧ ∀ j : Nat, (j : Int) < t → nn (8 * k + j) = l j) ∨ (v = 0 ∧ (ns k ≠ sz ∨ ∃ j : Nat, (j : Int) < sz ∧ nn (8 * k + j) ≠ l j))
theorem SmF.eq {nn ns l : Nat → Int} {k : Nat} {sz v t : Int} (h : SmF nn ns l k sz v t) (ht : 0 ≤ t) (hv : v ≠ 0) (e : nn (8 * k + t.toNat) = l t.toNat) : SmF nn ns l k sz 1 (t + 1) := by
  rcases h with ⟨h1, h2, h3⟩ | ⟨h1, h2⟩
  · refine Or.inl ⟨rfl, h2, fun j hj => ?_⟩
    by_cases q : j = t.toNat
    · rw [q]; exact e
    · exact h3 j (by omega)
  · exact absurd h1 hv
theorem SmF.ne {nn ns l : Nat → Int} {k : Nat} {sz t : Int} (ht : 0 ≤ t ∧ t < sz) (e : nn (8 * k + t.toNat) ≠ l t.toNat) : SmF nn ns l k sz 0 (t + 1) := Or.inr ⟨rfl, Or.inr ⟨t.toNat, by omega, e⟩⟩
theorem SmF.yes {nm nn ns l : Nat → Int} {k : Nat} {m sz v t w : Int} (hN : NmR m nm nn ns) (hk : (k : Int) < m) (h : SmF nn ns l k sz v t) (hv : v ≠ 0) (ht : sz ≤ t) (hw : w = wrdN l sz.toNat) : nm k = w := by
  rcases h with ⟨h1, h2, h3⟩ | ⟨h1, h2⟩
  · rw [(hN k hk).2.2, hw, h2]
    exact wrdN_congr _ (fun j hj => h3 j (by omega))
  · exact absurd h1 hv
theorem SmF.not {nm nn ns l : Nat → Int} {k : Nat} {m sz v t w : Int} (hN : NmR m nm nn ns) (hk : (k : Int) < m) (h : SmF nn ns l k sz v t) (hv : v = 0) (hw : w = wrdN l sz.toNat) (hl : ∀ j, j < sz.toNat → 97 ≤ l j ∧ l j ≤ 122) (hs : 1 ≤ sz) : nm k ≠ w := by
  intro q
  obtain ⟨r1, r2, r3⟩ := hN k hk
  rw [r3, hw] at q
  obtain ⟨z1, z2⟩ := wrdN_inj _ _ (fun j hj => r2 j (by omega)) hl q
  rcases h with ⟨h1, h2, h3⟩ | ⟨h1, h2 | ⟨j, h3, h4⟩⟩
  · omega
  · omega
  · exact h4 (z2 j (by omega))
abbrev rm_X9_counterNameX : Room := { frames := 2, cells := 0, slots := 0, locals := 44 }
set_option maxRecDepth 100000 in
set_option maxHeartbeats 8000000 in
theorem c_X9_counterNameX {l : Launch} {E : (Nat → Prop) → State → Prop} (hO : bw_Ok E) {G : va_G} {cI cB cJ cN cW : ClassId} (y : Nat) (q : Nat → Nat) (i : Nat → Int) (hM : ModOk i) (g_tape : Nat → Int) (hr_tape : ∀ k, k < 900 → (-2147483648) ≤ g_tape k ∧ g_tape k ≤ 2147483647) (g_letters : Nat → Int) (hr_letters : ∀ k, k < 8 → (-2147483648) ≤ g_letters k ∧ g_letters k ≤ 2147483647) (h11 : i 11 = 0) (n9 c9 : Int) (hn2 : i 2 = n9) (hR : TkR g_tape n9 c9 (i 3) (i 4) (i 5) (i 7) (i 6) g_letters) : bw_Ci (S := zV) l yX9_counterName (bw_ws (Cond.code yX9_counterName cX9_counterName 2 (some .int))) rm_X9_counterNameX E G (bw_kt cI cB cJ cN cW) [.ref y] [(y, .inr (9, [.int (zI (i 0)), .ref (q 0), .int (zI (i 1)), .int (zI (i 2)), .int (zI (i 3)), .int (zI (i 4)), .int (zI (i 5)), .int (zI (i 6)), .int (zI (i 7)), .int (zI (i 8)), .int (zI (i 9)), .int (zI (i 10)), .ref (q 1), .int (zI (i 11)), .int (zI (i 12)), .ref (q 2), .ref (q 3), .ref (q 4), .ref (q 5), .ref (q 6), .ref (q 7), .ref (q 8), .ref (q 9), .ref (q 10), .ref (q 11), .ref (q 12), .ref (q 13), .ref (q 14), .ref (q 15), .ref (q 16), .int (zI (i 13)), .int (zI (i 14)), .int (zI (i 15)), .int (zI (i 16)), .int (zI (i 17)), .int (zI (i 18)), .ref (q 17), .ref (q 18), .ref (q 19), .ref (q 20)])), ((q 0), .inl (cI, 900, .inl (fun k => zI (g_tape k)))), ((q 1), .inl (cI, 8, .inl (fun k => zI (g_letters k))))] (fun r u => ∃ z : Int, r = zI z ∧ (ModOk (u 0).1) ∧ (∀ k, k < 8 → (-2147483648) ≤ ((u 1).2 0) k ∧ ((u 1).2 0) k ≤ 2147483647) ∧ (((u 0).1 0 = i 0 ∧ (u 0).1 1 = i 1 ∧ (u 0).1 2 = i 2 ∧ (u 0).1 10 = i 10 ∧ (u 0).1 12 = i 12 ∧ (u 0).1 13 = i 13 ∧ (u 0).1 14 = i 14 ∧ (u 0).1 15 = i 15 ∧ (u 0).1 16 = i 16 ∧ (u 0).1 17 = i 17 ∧ (u 0).1 18 = i 18 ∧ ((u 0).1 11 = 0 ∨ (u 0).1 11 = 1)) ∧ Imp ((u 0).1 11 = 0) (ctrS g_tape n9 c9 = .inr (z, (tEn g_tape n9 c9)) ∧ TkR g_tape n9 (tEn g_tape n9 c9) ((u 0).1 3) ((u 0).1 4) ((u 0).1 5) ((u 0).1 7) ((u 0).1 6) ((u 1).2 0) ∧ (u 0).1 8 = i 8 ∧ (u 0).1 9 = i 9 ∧ 0 ≤ z ∧ z ≤ 3) ∧ Imp ((u 0).1 11 = 1) (ctrS g_tape n9 c9 = .inl ((u 0).1 8, (u 0).1 9)))) (fun u => [(y, .inr (9, [.int (zI ((u 0).1 0)), .ref (q 0), .int (zI ((u 0).1 1)), .int (zI ((u 0).1 2)), .int (zI ((u 0).1 3)), .int (zI ((u 0).1 4)), .int (zI ((u 0).1 5)), .int (zI ((u 0).1 6)), .int (zI ((u 0).1 7)), .int (zI ((u 0).1 8)), .int (zI ((u 0).1 9)), .int (zI ((u 0).1 10)), .ref (q 1), .int (zI ((u 0).1 11)), .int (zI ((u 0).1 12)), .ref (q 2), .ref (q 3), .ref (q 4), .ref (q 5), .ref (q 6), .ref (q 7), .ref (q 8), .ref (q 9), .ref (q 10), .ref (q 11), .ref (q 12), .ref (q 13), .ref (q 14), .ref (q 15), .ref (q 16), .int (zI ((u 0).1 13)), .int (zI ((u 0).1 14)), .int (zI ((u 0).1 15)), .int (zI ((u 0).1 16)), .int (zI ((u 0).1 17)), .int (zI ((u 0).1 18)), .ref (q 17), .ref (q 18), .ref (q 19), .ref (q 20)])), ((q 0), .inl (cI, 900, .inl (fun k => zI (g_tape k)))), ((q 1), .inl (cI, 8, .inl (fun k => zI (((u 1).2 0) k))))]) := by
  refine bw_Ci.of (cc := cX9_counterName) (maxL := 2) (ty := .int) (by decide) rfl (Nat.le_of_ble_eq_true rfl) ?_
  intro p e s m below meth c A Q hx hb hml hts hown hin hK hA hS hP hD hE ret ls hl
  have F : CallFix p m c cX9_counterName 2 s ([.ref y] : List Value).toArray bw_T RX9 := ⟨hx, hb, hml, hown, fun w h => hts w (List.mem_cons_of_mem _ h)⟩
  replace hl : lv_has ls 2 [(0, .ref y)] := hl
  have hf1 := hM.1.1
  have hR1 := hR.1
  have hrg := tKd_rg g_tape n9 c9
  refine lv_aload_n hx hb dX9_counterName_0 rfl (lv_at hl 0 rfl) ?_
  refine r_get F hK hP 0 13 rfl rfl in_X9 (by decide) k_1176 rfl dX9_counterName_1 ?_
  refine rz_ifb_eq (tgt := 9) F (by omega) dX9_counterName_4 (by decide) (fun h4_1 => ?_) (fun h4_1 => by omega)
  refine lv_aload_n hx hb dX9_counterName_9 rfl (lv_at hl 0 rfl) ?_
  refine r_callVi (As := []) (rest := []) (wr := [((q 0), .inl (cI, 900, .inl (fun k => zI (g_tape k))))]) F hK hP hD hS hA hO hE (c_X9_isCounterX hO y q i hM g_letters hr_letters (by omega) g_tape n9 c9 hR) k_1344 kv_X9_isCounter 0 rfl (by decide +kernel) ⟨Nat.le_of_ble_eq_true rfl, Nat.le_of_ble_eq_true rfl⟩ [0, 2] [1] rfl rfl (by decide) (by decide) (by decide) 0 9 rfl rfl rfl hl.1 rfl (Nat.le_of_ble_eq_true rfl) dX9_counterName_10 ⟨Nat.le_of_ble_eq_true rfl, Nat.le_of_ble_eq_true rfl⟩ (w1 := fun u3 => [((q 0), .inl (cI, 900, .inl (fun k => zI (g_tape k)))), (y, .inr (9, [.int (zI (i 0)), .ref (q 0), .int (zI (i 1)), .int (zI (i 2)), .int (zI (i 3)), .int (zI (i 4)), .int (zI (i 5)), .int (zI (i 6)), .int (zI (i 7)), .int (zI (i 8)), .int (zI (i 9)), .int (zI (i 10)), .ref (q 1), .int (zI (i 11)), .int (zI (i 12)), .ref (q 2), .ref (q 3), .ref (q 4), .ref (q 5), .ref (q 6), .ref (q 7), .ref (q 8), .ref (q 9), .ref (q 10), .ref (q 11), .ref (q 12), .ref (q 13), .ref (q 14), .ref (q 15), .ref (q 16), .int (zI (i 13)), .int (zI (i 14)), .int (zI (i 15)), .int (zI (i 16)), .int (zI (i 17)), .int (zI (i 18)), .ref (q 17), .ref (q 18), .ref (q 19), .ref (q 20)])), ((q 1), .inl (cI, 8, .inl (fun k => zI (g_letters k))))]) (fun _ => rfl) (fun r4 u3 H locs hp5 hP hD hS => ?_)
  obtain ⟨z6, rfl, h_z6⟩ := hp5
  have hx7 := h_z6.1
  refine rz_ifb_ne (tgt := 25) F (by omega) dX9_counterName_13 (by decide) (fun h13_7 => ?_) (fun h13_7 => ?_)
  · have hq9 := h_z6.2.1 (by omega)
    refine lv_aload_n hx hb dX9_counterName_25 rfl (lv_at hl 0 rfl) ?_
    refine r_get F hK hP 1 12 rfl rfl in_X9 (by decide) k_1175 rfl dX9_counterName_26 ?_
    refine lv_iconst (v := zI 0) hx hb dX9_counterName_29 rfl ?_
    refine rz_ialdN F hK hP 2 0 rfl rfl (by omega) (by omega) dX9_counterName_30 0 rfl ?_
    refine lv_bipush (v := zI 97) hx hb dX9_counterName_31 (by decide) ?_
    refine r_isub (v := zI ((g_letters 0) - 97)) F dX9_counterName_33 (zI_sub _ _) ?_
    refine lv_istore_n (lv' := [(1, .int (zI ((g_letters 0) - 97))), (0, .ref y)]) hx hb dX9_counterName_34 rfl hl (by decide) rfl (fun ls hl => ?_)
    refine lv_aload_n hx hb dX9_counterName_35 rfl (lv_at hl 1 rfl) ?_
    refine r_get F hK hP 1 13 rfl rfl in_X9 (by decide) k_1176 rfl dX9_counterName_36 ?_
    refine rz_ifb_ne (tgt := 46) F (by omega) dX9_counterName_39 (by decide) (fun h39_9 => by omega) (fun h39_9 => ?_)
    refine lv_aload_n hx hb dX9_counterName_42 rfl (lv_at hl 1 rfl) ?_
    refine r_callVv (As := []) (rest := []) (wr := []) F hK hP hD hS hA hO hE (c_X9_nextX hO y q i hM.1 g_tape hr_tape g_letters hr_letters) k_1307 kv_X9_next 0 rfl (by decide +kernel) ⟨Nat.le_of_ble_eq_true rfl, Nat.le_of_ble_eq_true rfl⟩ [1, 0, 2] [] rfl rfl (by decide) (by decide) (by decide) 0 9 rfl rfl rfl hl.1 rfl (Nat.le_of_ble_eq_true rfl) dX9_counterName_43 ⟨Nat.le_of_ble_eq_true rfl, Nat.le_of_ble_eq_true rfl⟩ (w1 := fun u11 => [(y, .inr (9, [.int (zI ((u11 0).1 0)), .ref (q 0), .int (zI ((u11 0).1 1)), .int (zI ((u11 0).1 2)), .int (zI ((u11 0).1 3)), .int (zI ((u11 0).1 4)), .int (zI ((u11 0).1 5)), .int (zI ((u11 0).1 6)), .int (zI ((u11 0).1 7)), .int (zI ((u11 0).1 8)), .int (zI ((u11 0).1 9)), .int (zI ((u11 0).1 10)), .ref (q 1), .int (zI ((u11 0).1 11)), .int (zI ((u11 0).1 12)), .ref (q 2), .ref (q 3), .ref (q 4), .ref (q 5), .ref (q 6), .ref (q 7), .ref (q 8), .ref (q 9), .ref (q 10), .ref (q 11), .ref (q 12), .ref (q 13), .ref (q 14), .ref (q 15), .ref (q 16), .int (zI ((u11 0).1 13)), .int (zI ((u11 0).1 14)), .int (zI ((u11 0).1 15)), .int (zI ((u11 0).1 16)), .int (zI ((u11 0).1 17)), .int (zI ((u11 0).1 18)), .ref (q 17), .ref (q 18), .ref (q 19), .ref (q 20)])), ((q 0), .inl (cI, 900, .inl (fun k => zI (g_tape k)))), ((q 1), .inl (cI, 8, .inl (fun k => zI (((u11 1).2 0) k))))]) (fun _ => rfl) (fun  u11 H locs hp12 hP hD hS => ?_)
    have hf13 := hp12.1.1.1
    have hx14 := hp12.2.2.1
    have hx15 := hp12.2.2.2.2
    have hat16 : TkR g_tape n9 (tEn g_tape n9 c9) (((u11 0).1) 3) (((u11 0).1) 4) (((u11 0).1) 5) (((u11 0).1) 7) (((u11 0).1) 6) ((u11 1).2 0) := by have q8 := hp12.2.2.2.1; rwa [show i 2 = n9 by omega, show i 4 = (tEn g_tape n9 c9) by omega] at q8
    refine lv_iload_n hx hb dX9_counterName_46 rfl (lv_at hl 0 rfl) ?_
    exact ret (zI ((g_letters 0) - 97)) (fun k => [((u11 0).1, fun _ _ => 0), (fun _ => 0, fun _ => ((u11 1).2 0))].getD k (fun _ => 0, fun _ _ => 0)) _ _ _ _ _ _ rfl ⟨((g_letters 0) - 97), rfl, hp12.1, hp12.2.1, ⟨(show ((u11 0).1) 0 = i 0 ∧ ((u11 0).1) 1 = i 1 ∧ ((u11 0).1) 2 = i 2 ∧ ((u11 0).1) 10 = i 10 ∧ ((u11 0).1) 12 = i 12 ∧ ((u11 0).1) 13 = i 13 ∧ ((u11 0).1) 14 = i 14 ∧ ((u11 0).1) 15 = i 15 ∧ ((u11 0).1) 16 = i 16 ∧ ((u11 0).1) 17 = i 17 ∧ ((u11 0).1) 18 = i 18 ∧ (((u11 0).1) 11 = 0 ∨ ((u11 0).1) 11 = 1) from by omega), (show Imp (((u11 0).1) 11 = 0) (ctrS g_tape n9 c9 = .inr ((((g_letters 0) - 97) : Int), (tEn g_tape n9 c9)) ∧ TkR g_tape n9 (tEn g_tape n9 c9) (((u11 0).1) 3) (((u11 0).1) 4) (((u11 0).1) 5) (((u11 0).1) 7) (((u11 0).1) 6) ((u11 1).2 0) ∧ ((u11 0).1) 8 = i 8 ∧ ((u11 0).1) 9 = i 9 ∧ 0 ≤ (((g_letters 0) - 97) : Int) ∧ (((g_letters 0) - 97) : Int) ≤ 3) from fun q9 => ⟨(if_pos hq9.1).trans (by rw [show tKd g_tape n9 c9 - 15 = (((g_letters 0) - 97) : Int) by omega]), hat16, by omega⟩), (show Imp (((u11 0).1) 11 = 1) (ctrS g_tape n9 c9 = .inl (((u11 0).1) 8, ((u11 0).1) 9)) from fun q9 => absurd q9 (by omega))⟩⟩ (bw_subP (isC := [0, 1, 2]) hP rfl) (hD.sub [0, 1, 2] (by decide) rfl) hS (Nat.le_of_ble_eq_true rfl) (Nat.le_of_ble_eq_true rfl) dX9_counterName_47
  · have hq17 := h_z6.2.2 (by omega)
    refine lv_aload_n hx hb dX9_counterName_16 rfl (lv_at hl 0 rfl) ?_
    refine lv_iconst (v := zI 1) hx hb dX9_counterName_17 rfl ?_
    refine lv_aload_n hx hb dX9_counterName_18 rfl (lv_at hl 0 rfl) ?_
    refine r_get F hK hP 1 4 rfl rfl in_X9 (by decide) k_1167 rfl dX9_counterName_19 ?_
    refine r_callVv (As := [.int (zI 1), .int (zI (i 3))]) (rest := []) (wr := [((q 0), .inl (cI, 900, .inl (fun k => zI (g_tape k)))), ((q 1), .inl (cI, 8, .inl (fun k => zI (g_letters k))))]) F hK hP hD hS hA hO hE (c_X9_wrongX hO y q i hM 1 (i 3) (by omega)) k_1336 kv_X9_wrong 2 rfl (by decide +kernel) ⟨Nat.le_of_ble_eq_true rfl, Nat.le_of_ble_eq_true rfl⟩ [1] [0, 2] rfl rfl (by decide) (by decide) (by decide) 0 9 rfl rfl rfl hl.1 rfl (Nat.le_of_ble_eq_true rfl) dX9_counterName_22 ⟨Nat.le_of_ble_eq_true rfl, Nat.le_of_ble_eq_true rfl⟩ (w1 := fun u18 => [((q 0), .inl (cI, 900, .inl (fun k => zI (g_tape k)))), ((q 1), .inl (cI, 8, .inl (fun k => zI (g_letters k)))), (y, .inr (9, [.int (zI ((u18 0).1 0)), .ref (q 0), .int (zI ((u18 0).1 1)), .int (zI ((u18 0).1 2)), .int (zI ((u18 0).1 3)), .int (zI ((u18 0).1 4)), .int (zI ((u18 0).1 5)), .int (zI ((u18 0).1 6)), .int (zI ((u18 0).1 7)), .int (zI ((u18 0).1 8)), .int (zI ((u18 0).1 9)), .int (zI ((u18 0).1 10)), .ref (q 1), .int (zI ((u18 0).1 11)), .int (zI ((u18 0).1 12)), .ref (q 2), .ref (q 3), .ref (q 4), .ref (q 5), .ref (q 6), .ref (q 7), .ref (q 8), .ref (q 9), .ref (q 10), .ref (q 11), .ref (q 12), .ref (q 13), .ref (q 14), .ref (q 15), .ref (q 16), .int (zI ((u18 0).1 13)), .int (zI ((u18 0).1 14)), .int (zI ((u18 0).1 15)), .int (zI ((u18 0).1 16)), .int (zI ((u18 0).1 17)), .int (zI ((u18 0).1 18)), .ref (q 17), .ref (q 18), .ref (q 19), .ref (q 20)]))]) (fun _ => rfl) (fun  u18 H locs hp19 hP hD hS => ?_)
    have hf20 := hp19.1.1.1
    have hx21 := hp19.2
    refine lv_aload_n hx hb dX9_counterName_25 rfl (lv_at hl 0 rfl) ?_
    refine r_get F hK hP 2 12 rfl rfl in_X9 (by decide) k_1175 rfl dX9_counterName_26 ?_
    refine lv_iconst (v := zI 0) hx hb dX9_counterName_29 rfl ?_
    refine rz_ialdN F hK hP 1 0 rfl rfl (by omega) (by omega) dX9_counterName_30 0 rfl ?_
    refine lv_bipush (v := zI 97) hx hb dX9_counterName_31 (by decide) ?_
    refine r_isub (v := zI ((g_letters 0) - 97)) F dX9_counterName_33 (zI_sub _ _) ?_
    refine lv_istore_n (lv' := [(1, .int (zI ((g_letters 0) - 97))), (0, .ref y)]) hx hb dX9_counterName_34 rfl hl (by decide) rfl (fun ls hl => ?_)
    refine lv_aload_n hx hb dX9_counterName_35 rfl (lv_at hl 1 rfl) ?_
    refine r_get F hK hP 2 13 rfl rfl in_X9 (by decide) k_1176 rfl dX9_counterName_36 ?_
    refine rz_ifb_ne (tgt := 46) F (by omega) dX9_counterName_39 (by decide) (fun h39_21 => ?_) (fun h39_21 => by omega)
    refine lv_iload_n hx hb dX9_counterName_46 rfl (lv_at hl 0 rfl) ?_
    exact ret (zI ((g_letters 0) - 97)) (fun k => [((u18 0).1, fun _ _ => 0), (fun _ => 0, fun _ => g_letters)].getD k (fun _ => 0, fun _ _ => 0)) _ _ _ _ _ _ rfl ⟨((g_letters 0) - 97), rfl, hp19.1, hr_letters, ⟨(show ((u18 0).1) 0 = i 0 ∧ ((u18 0).1) 1 = i 1 ∧ ((u18 0).1) 2 = i 2 ∧ ((u18 0).1) 10 = i 10 ∧ ((u18 0).1) 12 = i 12 ∧ ((u18 0).1) 13 = i 13 ∧ ((u18 0).1) 14 = i 14 ∧ ((u18 0).1) 15 = i 15 ∧ ((u18 0).1) 16 = i 16 ∧ ((u18 0).1) 17 = i 17 ∧ ((u18 0).1) 18 = i 18 ∧ (((u18 0).1) 11 = 0 ∨ ((u18 0).1) 11 = 1) from by omega), (show Imp (((u18 0).1) 11 = 0) (ctrS g_tape n9 c9 = .inr ((((g_letters 0) - 97) : Int), (tEn g_tape n9 c9)) ∧ TkR g_tape n9 (tEn g_tape n9 c9) (((u18 0).1) 3) (((u18 0).1) 4) (((u18 0).1) 5) (((u18 0).1) 7) (((u18 0).1) 6) g_letters ∧ ((u18 0).1) 8 = i 8 ∧ ((u18 0).1) 9 = i 9 ∧ 0 ≤ (((g_letters 0) - 97) : Int) ∧ (((g_letters 0) - 97) : Int) ≤ 3) from fun q9 => absurd q9 (by omega)), (show Imp (((u18 0).1) 11 = 1) (ctrS g_tape n9 c9 = .inl (((u18 0).1) 8, ((u18 0).1) 9)) from fun q9 => (if_neg hq17).trans (by rw [show ((u18 0).1) 8 = 1 by omega, show ((u18 0).1) 9 = tPl g_tape n9 c9 by omega]))⟩⟩ (bw_subP (isC := [2, 0, 1]) hP rfl) (hD.sub [2, 0, 1] (by decide) rfl) hS (Nat.le_of_ble_eq_true rfl) (Nat.le_of_ble_eq_true rfl) dX9_counterName_47
abbrev rm_X9_mustCommaX : Room := { frames := 3, cells := 0, slots := 0, locals := 64 }
set_option maxRecDepth 100000 in
set_option maxHeartbeats 8000000 in
theorem c_X9_mustCommaX {l : Launch} {E : (Nat → Prop) → State → Prop} (hO : bw_Ok E) {G : va_G} {cI cB cJ cN cW : ClassId} (y : Nat) (q : Nat → Nat) (i : Nat → Int) (hM : ModOk i) (g_tape : Nat → Int) (hr_tape : ∀ k, k < 900 → (-2147483648) ≤ g_tape k ∧ g_tape k ≤ 2147483647) (g_letters : Nat → Int) (hr_letters : ∀ k, k < 8 → (-2147483648) ≤ g_letters k ∧ g_letters k ≤ 2147483647) (h11 : i 11 = 0) (n9 c9 : Int) (hn2 : i 2 = n9) (hR : TkR g_tape n9 c9 (i 3) (i 4) (i 5) (i 7) (i 6) g_letters) : bw_Cv (S := zV) l yX9_mustComma (bw_ws (Cond.code yX9_mustComma cX9_mustComma 1 none)) rm_X9_mustCommaX E G (bw_kt cI cB cJ cN cW) [.ref y] [(y, .inr (9, [.int (zI (i 0)), .ref (q 0), .int (zI (i 1)), .int (zI (i 2)), .int (zI (i 3)), .int (zI (i 4)), .int (zI (i 5)), .int (zI (i 6)), .int (zI (i 7)), .int (zI (i 8)), .int (zI (i 9)), .int (zI (i 10)), .ref (q 1), .int (zI (i 11)), .int (zI (i 12)), .ref (q 2), .ref (q 3), .ref (q 4), .ref (q 5), .ref (q 6), .ref (q 7), .ref (q 8), .ref (q 9), .ref (q 10), .ref (q 11), .ref (q 12), .ref (q 13), .ref (q 14), .ref (q 15), .ref (q 16), .int (zI (i 13)), .int (zI (i 14)), .int (zI (i 15)), .int (zI (i 16)), .int (zI (i 17)), .int (zI (i 18)), .ref (q 17), .ref (q 18), .ref (q 19), .ref (q 20)])), ((q 0), .inl (cI, 900, .inl (fun k => zI (g_tape k)))), ((q 1), .inl (cI, 8, .inl (fun k => zI (g_letters k))))] (fun u => (ModOk (u 0).1) ∧ (∀ k, k < 8 → (-2147483648) ≤ ((u 1).2 0) k ∧ ((u 1).2 0) k ≤ 2147483647) ∧ (((u 0).1 0 = i 0 ∧ (u 0).1 1 = i 1 ∧ (u 0).1 2 = i 2 ∧ (u 0).1 10 = i 10 ∧ (u 0).1 12 = i 12 ∧ (u 0).1 13 = i 13 ∧ (u 0).1 14 = i 14 ∧ (u 0).1 15 = i 15 ∧ (u 0).1 16 = i 16 ∧ (u 0).1 17 = i 17 ∧ (u 0).1 18 = i 18 ∧ ((u 0).1 11 = 0 ∨ (u 0).1 11 = 1)) ∧ Imp ((u 0).1 11 = 0) (tKd g_tape n9 c9 = 22 ∧ TkR g_tape n9 (tEn g_tape n9 c9) ((u 0).1 3) ((u 0).1 4) ((u 0).1 5) ((u 0).1 7) ((u 0).1 6) ((u 1).2 0) ∧ (u 0).1 8 = i 8 ∧ (u 0).1 9 = i 9) ∧ Imp ((u 0).1 11 = 1) (tKd g_tape n9 c9 ≠ 22 ∧ (u 0).1 8 = 1 ∧ (u 0).1 9 = tPl g_tape n9 c9))) (fun u => [(y, .inr (9, [.int (zI ((u 0).1 0)), .ref (q 0), .int (zI ((u 0).1 1)), .int (zI ((u 0).1 2)), .int (zI ((u 0).1 3)), .int (zI ((u 0).1 4)), .int (zI ((u 0).1 5)), .int (zI ((u 0).1 6)), .int (zI ((u 0).1 7)), .int (zI ((u 0).1 8)), .int (zI ((u 0).1 9)), .int (zI ((u 0).1 10)), .ref (q 1), .int (zI ((u 0).1 11)), .int (zI ((u 0).1 12)), .ref (q 2), .ref (q 3), .ref (q 4), .ref (q 5), .ref (q 6), .ref (q 7), .ref (q 8), .ref (q 9), .ref (q 10), .ref (q 11), .ref (q 12), .ref (q 13), .ref (q 14), .ref (q 15), .ref (q 16), .int (zI ((u 0).1 13)), .int (zI ((u 0).1 14)), .int (zI ((u 0).1 15)), .int (zI ((u 0).1 16)), .int (zI ((u 0).1 17)), .int (zI ((u 0).1 18)), .ref (q 17), .ref (q 18), .ref (q 19), .ref (q 20)])), ((q 0), .inl (cI, 900, .inl (fun k => zI (g_tape k)))), ((q 1), .inl (cI, 8, .inl (fun k => zI (((u 1).2 0) k))))]) := by
  refine bw_Cv.of (cc := cX9_mustComma) (maxL := 1) (by decide) rfl (Nat.le_of_ble_eq_true rfl) ?_
  intro p e s m below meth c A Q hx hb hml hts hown hin hK hA hS hP hD hE ret ls hl
  have F : CallFix p m c cX9_mustComma 1 s ([.ref y] : List Value).toArray bw_T RX9 := ⟨hx, hb, hml, hown, fun w h => hts w (List.mem_cons_of_mem _ h)⟩
  replace hl : lv_has ls 1 [(0, .ref y)] := hl
  have hf1 := hM.1.1
  have hR1 := hR.1
  have hrg := tKd_rg g_tape n9 c9
  refine lv_aload_n hx hb dX9_mustComma_0 rfl (lv_at hl 0 rfl) ?_
  refine r_get F hK hP 0 13 rfl rfl in_X9 (by decide) k_1176 rfl dX9_mustComma_1 ?_
  refine rz_ifb_ne (tgt := 23) F (by omega) dX9_mustComma_4 (by decide) (fun h4_1 => by omega) (fun h4_1 => ?_)
  refine lv_aload_n hx hb dX9_mustComma_7 rfl (lv_at hl 0 rfl) ?_
  refine r_callVi (As := []) (rest := []) (wr := []) F hK hP hD hS hA hO hE (c_X9_commaX hO y q i hM g_tape hr_tape g_letters hr_letters (by omega) n9 c9 (by omega) hR) k_1366 kv_X9_comma 0 rfl (by decide +kernel) ⟨Nat.le_of_ble_eq_true rfl, Nat.le_of_ble_eq_true rfl⟩ [0, 1, 2] [] rfl rfl (by decide) (by decide) (by decide) 0 9 rfl rfl rfl hl.1 rfl (Nat.le_of_ble_eq_true rfl) dX9_mustComma_8 ⟨Nat.le_of_ble_eq_true rfl, Nat.le_of_ble_eq_true rfl⟩ (w1 := fun u3 => [(y, .inr (9, [.int (zI ((u3 0).1 0)), .ref (q 0), .int (zI ((u3 0).1 1)), .int (zI ((u3 0).1 2)), .int (zI ((u3 0).1 3)), .int (zI ((u3 0).1 4)), .int (zI ((u3 0).1 5)), .int (zI ((u3 0).1 6)), .int (zI ((u3 0).1 7)), .int (zI ((u3 0).1 8)), .int (zI ((u3 0).1 9)), .int (zI ((u3 0).1 10)), .ref (q 1), .int (zI ((u3 0).1 11)), .int (zI ((u3 0).1 12)), .ref (q 2), .ref (q 3), .ref (q 4), .ref (q 5), .ref (q 6), .ref (q 7), .ref (q 8), .ref (q 9), .ref (q 10), .ref (q 11), .ref (q 12), .ref (q 13), .ref (q 14), .ref (q 15), .ref (q 16), .int (zI ((u3 0).1 13)), .int (zI ((u3 0).1 14)), .int (zI ((u3 0).1 15)), .int (zI ((u3 0).1 16)), .int (zI ((u3 0).1 17)), .int (zI ((u3 0).1 18)), .ref (q 17), .ref (q 18), .ref (q 19), .ref (q 20)])), ((q 0), .inl (cI, 900, .inl (fun k => zI (g_tape k)))), ((q 1), .inl (cI, 8, .inl (fun k => zI (((u3 1).2 0) k))))]) (fun _ => rfl) (fun r4 u3 H locs hp5 hP hD hS => ?_)
  obtain ⟨z6, rfl, h_z6⟩ := hp5
  have hf7 := h_z6.1.1.1
  have hx8 := h_z6.2.2.1
  have hx9 := h_z6.2.2.2.1
  refine rz_ifb_ne (tgt := 23) F (by omega) dX9_mustComma_11 (by decide) (fun h11_9 => ?_) (fun h11_9 => ?_)
  · have hq11 := h_z6.2.2.2.2.1 (by omega)
    exact ret (fun k => [((u3 0).1, fun _ _ => 0), (fun _ => 0, fun _ => ((u3 1).2 0))].getD k (fun _ => 0, fun _ _ => 0)) _ _ _ _ _ _ ⟨h_z6.1, h_z6.2.1, ⟨(show ((u3 0).1) 0 = i 0 ∧ ((u3 0).1) 1 = i 1 ∧ ((u3 0).1) 2 = i 2 ∧ ((u3 0).1) 10 = i 10 ∧ ((u3 0).1) 12 = i 12 ∧ ((u3 0).1) 13 = i 13 ∧ ((u3 0).1) 14 = i 14 ∧ ((u3 0).1) 15 = i 15 ∧ ((u3 0).1) 16 = i 16 ∧ ((u3 0).1) 17 = i 17 ∧ ((u3 0).1) 18 = i 18 ∧ (((u3 0).1) 11 = 0 ∨ ((u3 0).1) 11 = 1) from by omega), (show Imp (((u3 0).1) 11 = 0) (tKd g_tape n9 c9 = 22 ∧ TkR g_tape n9 (tEn g_tape n9 c9) (((u3 0).1) 3) (((u3 0).1) 4) (((u3 0).1) 5) (((u3 0).1) 7) (((u3 0).1) 6) ((u3 1).2 0) ∧ ((u3 0).1) 8 = i 8 ∧ ((u3 0).1) 9 = i 9) from fun q9 => ⟨hq11.1, hq11.2, by omega⟩), (show Imp (((u3 0).1) 11 = 1) (tKd g_tape n9 c9 ≠ 22 ∧ ((u3 0).1) 8 = 1 ∧ ((u3 0).1) 9 = tPl g_tape n9 c9) from fun q9 => absurd q9 (by omega))⟩⟩ (bw_subP (isC := [0, 1, 2]) hP rfl) (hD.sub [0, 1, 2] (by decide) rfl) hS (Nat.le_of_ble_eq_true rfl) (Nat.le_of_ble_eq_true rfl) dX9_mustComma_23
  · have hq12 := h_z6.2.2.2.2.2 (by omega)
    refine lv_aload_n hx hb dX9_mustComma_14 rfl (lv_at hl 0 rfl) ?_
    refine lv_iconst (v := zI 1) hx hb dX9_mustComma_15 rfl ?_
    refine lv_aload_n hx hb dX9_mustComma_16 rfl (lv_at hl 0 rfl) ?_
    refine r_get F hK hP 0 4 rfl rfl in_X9 (by decide) k_1167 rfl dX9_mustComma_17 ?_
    refine r_callVv (As := [.int (zI 1), .int (zI ((u3 0).1 3))]) (rest := []) (wr := [((q 0), .inl (cI, 900, .inl (fun k => zI (g_tape k)))), ((q 1), .inl (cI, 8, .inl (fun k => zI (((u3 1).2 0) k))))]) F hK hP hD hS hA hO hE (c_X9_wrongX hO y q ((u3 0).1) h_z6.1 1 ((u3 0).1 3) (by omega)) k_1336 kv_X9_wrong 2 rfl (by decide +kernel) ⟨Nat.le_of_ble_eq_true rfl, Nat.le_of_ble_eq_true rfl⟩ [0] [1, 2] rfl rfl (by decide) (by decide) (by decide) 0 9 rfl rfl rfl hl.1 rfl (Nat.le_of_ble_eq_true rfl) dX9_mustComma_20 ⟨Nat.le_of_ble_eq_true rfl, Nat.le_of_ble_eq_true rfl⟩ (w1 := fun u13 => [((q 0), .inl (cI, 900, .inl (fun k => zI (g_tape k)))), ((q 1), .inl (cI, 8, .inl (fun k => zI (((u3 1).2 0) k)))), (y, .inr (9, [.int (zI ((u13 0).1 0)), .ref (q 0), .int (zI ((u13 0).1 1)), .int (zI ((u13 0).1 2)), .int (zI ((u13 0).1 3)), .int (zI ((u13 0).1 4)), .int (zI ((u13 0).1 5)), .int (zI ((u13 0).1 6)), .int (zI ((u13 0).1 7)), .int (zI ((u13 0).1 8)), .int (zI ((u13 0).1 9)), .int (zI ((u13 0).1 10)), .ref (q 1), .int (zI ((u13 0).1 11)), .int (zI ((u13 0).1 12)), .ref (q 2), .ref (q 3), .ref (q 4), .ref (q 5), .ref (q 6), .ref (q 7), .ref (q 8), .ref (q 9), .ref (q 10), .ref (q 11), .ref (q 12), .ref (q 13), .ref (q 14), .ref (q 15), .ref (q 16), .int (zI ((u13 0).1 13)), .int (zI ((u13 0).1 14)), .int (zI ((u13 0).1 15)), .int (zI ((u13 0).1 16)), .int (zI ((u13 0).1 17)), .int (zI ((u13 0).1 18)), .ref (q 17), .ref (q 18), .ref (q 19), .ref (q 20)]))]) (fun _ => rfl) (fun  u13 H locs hp14 hP hD hS => ?_)
    have hf15 := hp14.1.1.1
    have hx16 := hp14.2
    exact ret (fun k => [((u13 0).1, fun _ _ => 0), (fun _ => 0, fun _ => ((u3 1).2 0))].getD k (fun _ => 0, fun _ _ => 0)) _ _ _ _ _ _ ⟨hp14.1, h_z6.2.1, ⟨(show ((u13 0).1) 0 = i 0 ∧ ((u13 0).1) 1 = i 1 ∧ ((u13 0).1) 2 = i 2 ∧ ((u13 0).1) 10 = i 10 ∧ ((u13 0).1) 12 = i 12 ∧ ((u13 0).1) 13 = i 13 ∧ ((u13 0).1) 14 = i 14 ∧ ((u13 0).1) 15 = i 15 ∧ ((u13 0).1) 16 = i 16 ∧ ((u13 0).1) 17 = i 17 ∧ ((u13 0).1) 18 = i 18 ∧ (((u13 0).1) 11 = 0 ∨ ((u13 0).1) 11 = 1) from by omega), (show Imp (((u13 0).1) 11 = 0) (tKd g_tape n9 c9 = 22 ∧ TkR g_tape n9 (tEn g_tape n9 c9) (((u13 0).1) 3) (((u13 0).1) 4) (((u13 0).1) 5) (((u13 0).1) 7) (((u13 0).1) 6) ((u3 1).2 0) ∧ ((u13 0).1) 8 = i 8 ∧ ((u13 0).1) 9 = i 9) from fun q9 => absurd q9 (by omega)), (show Imp (((u13 0).1) 11 = 1) (tKd g_tape n9 c9 ≠ 22 ∧ ((u13 0).1) 8 = 1 ∧ ((u13 0).1) 9 = tPl g_tape n9 c9) from fun q9 => ⟨hq12.1, by have q8 := hq12.2.1; omega⟩)⟩⟩ (bw_subP (isC := [2, 0, 1]) hP rfl) (hD.sub [2, 0, 1] (by decide) rfl) hS (Nat.le_of_ble_eq_true rfl) (Nat.le_of_ble_eq_true rfl) dX9_mustComma_23
abbrev rm_X9_findX : Room := { frames := 0, cells := 0, slots := 0, locals := 0 }
set_option maxRecDepth 100000 in
set_option maxHeartbeats 8000000 in
theorem c_X9_findX {l : Launch} {E : (Nat → Prop) → State → Prop} (hO : bw_Ok E) {G : va_G} {cI cB cJ cN cW : ClassId} (y : Nat) (q : Nat → Nat) (i : Nat → Int) (hM : ModOk i) (g_letters : Nat → Int) (hr_letters : ∀ k, k < 8 → (-2147483648) ≤ g_letters k ∧ g_letters k ≤ 2147483647) (g_newNames : Nat → Int) (g_newSizes : Nat → Int) (h11 : i 11 = 0) (f : Nat → Int) (n c9 : Int) (hR : TkR f n c9 (i 3) (i 4) (i 5) (i 7) (i 6) g_letters) (hk19 : tKd f n c9 ≤ 19) (m9 : Int) (hm14 : i 14 = m9) (nm : Nat → Int) (hNm : NmR m9 nm g_newNames g_newSizes) : bw_Ci (S := zV) l yX9_find (bw_ws (Cond.code yX9_find cX9_find 4 (some .int))) rm_X9_findX E G (bw_kt cI cB cJ cN cW) [.ref y] [(y, .inr (9, [.int (zI (i 0)), .ref (q 0), .int (zI (i 1)), .int (zI (i 2)), .int (zI (i 3)), .int (zI (i 4)), .int (zI (i 5)), .int (zI (i 6)), .int (zI (i 7)), .int (zI (i 8)), .int (zI (i 9)), .int (zI (i 10)), .ref (q 1), .int (zI (i 11)), .int (zI (i 12)), .ref (q 2), .ref (q 3), .ref (q 4), .ref (q 5), .ref (q 6), .ref (q 7), .ref (q 8), .ref (q 9), .ref (q 10), .ref (q 11), .ref (q 12), .ref (q 13), .ref (q 14), .ref (q 15), .ref (q 16), .int (zI (i 13)), .int (zI (i 14)), .int (zI (i 15)), .int (zI (i 16)), .int (zI (i 17)), .int (zI (i 18)), .ref (q 17), .ref (q 18), .ref (q 19), .ref (q 20)])), ((q 1), .inl (cI, 8, .inl (fun k => zI (g_letters k)))), ((q 9), .inl (cI, 80, .inl (fun k => zI (g_newNames k)))), ((q 10), .inl (cI, 10, .inl (fun k => zI (g_newSizes k))))] (fun r u => ∃ z : Int, r = zI z ∧ ((z = fnd m9 nm (tWd f n c9) ∧ (-1 ≤ z ∧ z < m9)))) (fun u => [(y, .inr (9, [.int (zI (i 0)), .ref (q 0), .int (zI (i 1)), .int (zI (i 2)), .int (zI (i 3)), .int (zI (i 4)), .int (zI (i 5)), .int (zI (i 6)), .int (zI (i 7)), .int (zI (i 8)), .int (zI (i 9)), .int (zI (i 10)), .ref (q 1), .int (zI (i 11)), .int (zI (i 12)), .ref (q 2), .ref (q 3), .ref (q 4), .ref (q 5), .ref (q 6), .ref (q 7), .ref (q 8), .ref (q 9), .ref (q 10), .ref (q 11), .ref (q 12), .ref (q 13), .ref (q 14), .ref (q 15), .ref (q 16), .int (zI (i 13)), .int (zI (i 14)), .int (zI (i 15)), .int (zI (i 16)), .int (zI (i 17)), .int (zI (i 18)), .ref (q 17), .ref (q 18), .ref (q 19), .ref (q 20)])), ((q 1), .inl (cI, 8, .inl (fun k => zI (g_letters k)))), ((q 9), .inl (cI, 80, .inl (fun k => zI (g_newNames k)))), ((q 10), .inl (cI, 10, .inl (fun k => zI (g_newSizes k))))]) := by
  refine bw_Ci.of (cc := cX9_find) (maxL := 4) (ty := .int) (by decide) rfl (Nat.le_of_ble_eq_true rfl) ?_
  intro p e s m below meth c A Q hx hb hml hts hown hin hK hA hS hP hD hE ret ls hl
  have F : CallFix p m c cX9_find 4 s ([.ref y] : List Value).toArray bw_T RX9 := ⟨hx, hb, hml, hown, fun w h => hts w (List.mem_cons_of_mem _ h)⟩
  replace hl : lv_has ls 4 [(0, .ref y)] := hl
  have hf1 := hM.1.1
  have hwr := hR.wrd hk19
  refine lv_iconst (v := zI 0) hx hb dX9_find_0 rfl ?_
  refine lv_istore_n (lv' := [(1, .int (zI 0)), (0, .ref y)]) hx hb dX9_find_1 rfl hl (by decide) rfl (fun ls hl => ?_)
  refine W.widen (k := 0) (n := 0) (Nat.le_of_ble_eq_true rfl) (Nat.le_of_ble_eq_true rfl) ?_
  refine (?_ : ∀ (n9_1 : Nat) (v1 : Int) (H : Heap) (locs : List Loc), (0 ≤ v1 ∧ v1 ≤ i 14) → (i 14 - v1 : Int).toNat < n9_1 → (∀ k : Nat, (k : Int) < v1 → nm k ≠ tWd f n c9) → va_P G vwCl [(y, .inr (9, [.int (zI (i 0)), .ref (q 0), .int (zI (i 1)), .int (zI (i 2)), .int (zI (i 3)), .int (zI (i 4)), .int (zI (i 5)), .int (zI (i 6)), .int (zI (i 7)), .int (zI (i 8)), .int (zI (i 9)), .int (zI (i 10)), .ref (q 1), .int (zI (i 11)), .int (zI (i 12)), .ref (q 2), .ref (q 3), .ref (q 4), .ref (q 5), .ref (q 6), .ref (q 7), .ref (q 8), .ref (q 9), .ref (q 10), .ref (q 11), .ref (q 12), .ref (q 13), .ref (q 14), .ref (q 15), .ref (q 16), .int (zI (i 13)), .int (zI (i 14)), .int (zI (i 15)), .int (zI (i 16)), .int (zI (i 17)), .int (zI (i 18)), .ref (q 17), .ref (q 18), .ref (q 19), .ref (q 20)])), ((q 1), .inl (cI, 8, .inl (fun k => zI (g_letters k)))), ((q 9), .inl (cI, 80, .inl (fun k => zI (g_newNames k)))), ((q 10), .inl (cI, 10, .inl (fun k => zI (g_newSizes k))))] H → va_D A [(y, .inr (9, [.int (zI (i 0)), .ref (q 0), .int (zI (i 1)), .int (zI (i 2)), .int (zI (i 3)), .int (zI (i 4)), .int (zI (i 5)), .int (zI (i 6)), .int (zI (i 7)), .int (zI (i 8)), .int (zI (i 9)), .int (zI (i 10)), .ref (q 1), .int (zI (i 11)), .int (zI (i 12)), .ref (q 2), .ref (q 3), .ref (q 4), .ref (q 5), .ref (q 6), .ref (q 7), .ref (q 8), .ref (q 9), .ref (q 10), .ref (q 11), .ref (q 12), .ref (q 13), .ref (q 14), .ref (q 15), .ref (q 16), .int (zI (i 13)), .int (zI (i 14)), .int (zI (i 15)), .int (zI (i 16)), .int (zI (i 17)), .int (zI (i 18)), .ref (q 17), .ref (q 18), .ref (q 19), .ref (q 20)])), ((q 1), .inl (cI, 8, .inl (fun k => zI (g_letters k)))), ((q 9), .inl (cI, 80, .inl (fun k => zI (g_newNames k)))), ((q 10), .inl (cI, 10, .inl (fun k => zI (g_newSizes k))))] → va_S A s.heap H locs → ∀ ls : Array Slot, lv_has ls 4 [(1, .int (zI v1)), (0, .ref y)] → W p l e rm_X9_findX s m ([.ref y] : List Value).toArray below meth c H locs 0 0 Q (F0 m 2 ls [])) ((i 14 - 0 : Int).toNat + 1) 0 _ _ (by omega) (by omega) (fun k hk => absurd hk (by omega)) hP hD hS ls hl
  clear hP hD hS hl ls
  intro n9_1
  induction n9_1 with
  | zero =>
    intro v1 H locs hI hM
    exact absurd hM (by omega)
  | succ n9_1 ih1 =>
    intro v1 H locs hI1 hM1 hnm hP hD hS ls hl
    refine lv_iload_n hx hb dX9_find_2 rfl (lv_at hl 0 rfl) ?_
    refine lv_aload_n hx hb dX9_find_3 rfl (lv_at hl 1 rfl) ?_
    refine r_get F hK hP 0 31 rfl rfl in_X9 (by decide) k_1194 rfl dX9_find_4 ?_
    refine rz_icmp_ge (tgt := 87) F (by omega) (by omega) dX9_find_7 (by decide) (fun h7_1 => ?_) (fun h7_1 => ?_)
    · refine lv_iconst (v := zI (-1)) hx hb dX9_find_87 rfl ?_
      exact ret (zI (-1)) (fun k => [((fun _ => 0), fun _ _ => 0)].getD k (fun _ => 0, fun _ _ => 0)) _ _ _ _ _ _ rfl ⟨(-1), rfl, (show ((-1) : Int) = fnd m9 nm (tWd f n c9) ∧ (-1 ≤ ((-1) : Int) ∧ ((-1) : Int) < m9) from ⟨(Fnd.eq (Or.inl ⟨rfl, fun k hk => hnm k (by omega)⟩)).symm, by omega⟩)⟩ (bw_subP (isC := [0, 1, 2, 3]) hP rfl) (hD.sub [0, 1, 2, 3] (by decide) rfl) hS (Nat.le_of_ble_eq_true rfl) (Nat.le_of_ble_eq_true rfl) dX9_find_88
    · refine lv_aload_n hx hb dX9_find_10 rfl (lv_at hl 1 rfl) ?_
      refine r_get F hK hP 0 23 rfl rfl in_X9 (by decide) k_1186 rfl dX9_find_11 ?_
      refine lv_iload_n hx hb dX9_find_14 rfl (lv_at hl 0 rfl) ?_
      refine rz_iald F hK hP 3 0 rfl rfl (by omega) (by omega) dX9_find_15 ?_
      have hs1 := (hNm (v1).toNat (by omega)).1
      refine lv_aload_n hx hb dX9_find_16 rfl (lv_at hl 1 rfl) ?_
      refine r_get F hK hP 0 8 rfl rfl in_X9 (by decide) k_1171 rfl dX9_find_17 ?_
      refine rz_icmp_ne (tgt := 27) F (by omega) (by omega) dX9_find_20 (by decide) (fun h20_2 => ?_) (fun h20_2 => ?_)
      · refine lv_iconst (v := zI 0) hx hb dX9_find_27 rfl ?_
        refine lv_istore_n (lv' := [(2, .int (zI 0)), (1, .int (zI v1)), (0, .ref y)]) hx hb dX9_find_28 rfl hl (by decide) rfl (fun ls hl => ?_)
        refine lv_iconst (v := zI 0) hx hb dX9_find_29 rfl ?_
        refine lv_istore_n (lv' := [(3, .int (zI 0)), (2, .int (zI 0)), (1, .int (zI v1)), (0, .ref y)]) hx hb dX9_find_30 rfl hl (by decide) rfl (fun ls hl => ?_)
        refine W.widen (k := 0) (n := 0) (Nat.le_of_ble_eq_true rfl) (Nat.le_of_ble_eq_true rfl) ?_
        refine (?_ : ∀ (n9_2 : Nat) (v2 : Int) (v3 : Int) (H : Heap) (locs : List Loc), (0 ≤ v3 ∧ v3 ≤ 8 ∧ 0 ≤ v2 ∧ v2 ≤ 1) → (9 - v3 : Int).toNat < n9_2 → (SmF g_newNames g_newSizes g_letters (v1).toNat (i 7) v2 v3) → va_P G vwCl [(y, .inr (9, [.int (zI (i 0)), .ref (q 0), .int (zI (i 1)), .int (zI (i 2)), .int (zI (i 3)), .int (zI (i 4)), .int (zI (i 5)), .int (zI (i 6)), .int (zI (i 7)), .int (zI (i 8)), .int (zI (i 9)), .int (zI (i 10)), .ref (q 1), .int (zI (i 11)), .int (zI (i 12)), .ref (q 2), .ref (q 3), .ref (q 4), .ref (q 5), .ref (q 6), .ref (q 7), .ref (q 8), .ref (q 9), .ref (q 10), .ref (q 11), .ref (q 12), .ref (q 13), .ref (q 14), .ref (q 15), .ref (q 16), .int (zI (i 13)), .int (zI (i 14)), .int (zI (i 15)), .int (zI (i 16)), .int (zI (i 17)), .int (zI (i 18)), .ref (q 17), .ref (q 18), .ref (q 19), .ref (q 20)])), ((q 1), .inl (cI, 8, .inl (fun k => zI (g_letters k)))), ((q 9), .inl (cI, 80, .inl (fun k => zI (g_newNames k)))), ((q 10), .inl (cI, 10, .inl (fun k => zI (g_newSizes k))))] H → va_D A [(y, .inr (9, [.int (zI (i 0)), .ref (q 0), .int (zI (i 1)), .int (zI (i 2)), .int (zI (i 3)), .int (zI (i 4)), .int (zI (i 5)), .int (zI (i 6)), .int (zI (i 7)), .int (zI (i 8)), .int (zI (i 9)), .int (zI (i 10)), .ref (q 1), .int (zI (i 11)), .int (zI (i 12)), .ref (q 2), .ref (q 3), .ref (q 4), .ref (q 5), .ref (q 6), .ref (q 7), .ref (q 8), .ref (q 9), .ref (q 10), .ref (q 11), .ref (q 12), .ref (q 13), .ref (q 14), .ref (q 15), .ref (q 16), .int (zI (i 13)), .int (zI (i 14)), .int (zI (i 15)), .int (zI (i 16)), .int (zI (i 17)), .int (zI (i 18)), .ref (q 17), .ref (q 18), .ref (q 19), .ref (q 20)])), ((q 1), .inl (cI, 8, .inl (fun k => zI (g_letters k)))), ((q 9), .inl (cI, 80, .inl (fun k => zI (g_newNames k)))), ((q 10), .inl (cI, 10, .inl (fun k => zI (g_newSizes k))))] → va_S A s.heap H locs → ∀ ls : Array Slot, lv_has ls 4 [(3, .int (zI v3)), (2, .int (zI v2)), (1, .int (zI v1)), (0, .ref y)] → W p l e rm_X9_findX s m ([.ref y] : List Value).toArray below meth c H locs 0 0 Q (F0 m 31 ls [])) ((9 - 0 : Int).toNat + 1) 0 0 _ _ (by omega) (by omega) (Or.inr ⟨rfl, Or.inl (by omega)⟩) hP hD hS ls hl
        clear hP hD hS hl ls
        intro n9_2
        induction n9_2 with
        | zero =>
          intro v2 v3 H locs hI hM
          exact absurd hM (by omega)
        | succ n9_2 ih2 =>
          intro v2 v3 H locs hI2 hM2 hsf hP hD hS ls hl
          refine lv_iload_n hx hb dX9_find_31 rfl (lv_at hl 0 rfl) ?_
          have hix8 : ((8 * v1) + v3).toNat = 8 * (v1).toNat + (v3).toNat := by omega
          refine lv_aload_n hx hb dX9_find_32 rfl (lv_at hl 3 rfl) ?_
          refine r_get F hK hP 0 8 rfl rfl in_X9 (by decide) k_1171 rfl dX9_find_33 ?_
          refine rz_icmp_ge (tgt := 75) F (by omega) (by omega) dX9_find_36 (by decide) (fun h36_3 => ?_) (fun h36_3 => ?_)
          · refine lv_iload_n hx hb dX9_find_75 rfl (lv_at hl 1 rfl) ?_
            refine rz_if_eq (tgt := 81) F (by omega) dX9_find_76 (by decide) (fun h76_4 => ?_) (fun h76_4 => ?_)
            · refine lv_iinc (v := zI (v1 + 1)) (lv' := [(1, .int (zI (v1 + 1))), (3, .int (zI v3)), (2, .int (zI v2)), (0, .ref y)]) hx hb dX9_find_81 hl (k := 2) rfl (zI_add _ _) (by decide) rfl (fun ls hl => ?_)
              refine lv_goto (tgt := 2) hx hb dX9_find_84 (by decide) ?_
              exact ih1 (v1 + 1) _ _ (by omega) (by omega) (nmx_step hnm (SmF.not hNm (by omega) hsf (by omega) hwr.1 hwr.2.2 (by omega))) hP hD hS ls (lv_sub hl [0, 3] rfl)
            · refine lv_iload_n hx hb dX9_find_79 rfl (lv_at hl 2 rfl) ?_
              exact ret (zI v1) (fun k => [((fun _ => 0), fun _ _ => 0)].getD k (fun _ => 0, fun _ _ => 0)) _ _ _ _ _ _ rfl ⟨v1, rfl, (show (v1 : Int) = fnd m9 nm (tWd f n c9) ∧ (-1 ≤ (v1 : Int) ∧ (v1 : Int) < m9) from ⟨(Fnd.eq (Or.inr ⟨by omega, SmF.yes hNm (by omega) hsf (by omega) (by omega) hwr.1, hnm⟩)).symm, by omega⟩)⟩ (bw_subP (isC := [0, 1, 2, 3]) hP rfl) (hD.sub [0, 1, 2, 3] (by decide) rfl) hS (Nat.le_of_ble_eq_true rfl) (Nat.le_of_ble_eq_true rfl) dX9_find_80
          · refine lv_iload_n hx hb dX9_find_39 rfl (lv_at hl 1 rfl) ?_
            refine rz_if_eq (tgt := 75) F (by omega) dX9_find_40 (by decide) (fun h40_5 => ?_) (fun h40_5 => ?_)
            · refine lv_iload_n hx hb dX9_find_75 rfl (lv_at hl 1 rfl) ?_
              refine rz_if_eq (tgt := 81) F (by omega) dX9_find_76 (by decide) (fun h76_6 => ?_) (fun h76_6 => by omega)
              refine lv_iinc (v := zI (v1 + 1)) (lv' := [(1, .int (zI (v1 + 1))), (3, .int (zI v3)), (2, .int (zI v2)), (0, .ref y)]) hx hb dX9_find_81 hl (k := 2) rfl (zI_add _ _) (by decide) rfl (fun ls hl => ?_)
              refine lv_goto (tgt := 2) hx hb dX9_find_84 (by decide) ?_
              exact ih1 (v1 + 1) _ _ (by omega) (by omega) (nmx_step hnm (SmF.not hNm (by omega) hsf (by omega) hwr.1 hwr.2.2 (by omega))) hP hD hS ls (lv_sub hl [0, 3] rfl)
            · refine lv_aload_n hx hb dX9_find_43 rfl (lv_at hl 3 rfl) ?_
              refine r_get F hK hP 0 22 rfl rfl in_X9 (by decide) k_1185 rfl dX9_find_44 ?_
              refine lv_bipush (v := zI 8) hx hb dX9_find_47 (by decide) ?_
              refine lv_iload_n hx hb dX9_find_49 rfl (lv_at hl 2 rfl) ?_
              refine r_imul (v := zI (8 * v1)) F dX9_find_50 (zI_mul _ _) ?_
              refine lv_iload_n hx hb dX9_find_51 rfl (lv_at hl 0 rfl) ?_
              refine r_iadd (v := zI ((8 * v1) + v3)) F dX9_find_52 (zI_add _ _) ?_
              refine rz_iald F hK hP 2 0 rfl rfl (by omega) (by omega) dX9_find_53 ?_
              have hsz : g_newSizes (v1).toNat = i 7 := hsf.elim (fun q8 => q8.2.1) (fun q8 => absurd q8.1 (by omega))
              have hnr := (hNm (v1).toNat (by omega)).2.1 (v3).toNat (by omega)
              rw [← hix8] at hnr
              refine lv_aload_n hx hb dX9_find_54 rfl (lv_at hl 3 rfl) ?_
              refine r_get F hK hP 0 12 rfl rfl in_X9 (by decide) k_1175 rfl dX9_find_55 ?_
              refine lv_iload_n hx hb dX9_find_58 rfl (lv_at hl 0 rfl) ?_
              refine rz_iald F hK hP 1 0 rfl rfl (by omega) (by omega) dX9_find_59 ?_
              have hlr := hwr.2.2 (v3).toNat (by omega)
              refine rz_icmp_ne (tgt := 67) F (by omega) (by omega) dX9_find_60 (by decide) (fun h60_7 => ?_) (fun h60_7 => ?_)
              · refine lv_iconst (v := zI 0) hx hb dX9_find_67 rfl ?_
                refine lv_istore_n (lv' := [(2, .int (zI 0)), (3, .int (zI v3)), (1, .int (zI v1)), (0, .ref y)]) hx hb dX9_find_68 rfl hl (by decide) rfl (fun ls hl => ?_)
                refine lv_iinc (v := zI (v3 + 1)) (lv' := [(3, .int (zI (v3 + 1))), (2, .int (zI 0)), (1, .int (zI v1)), (0, .ref y)]) hx hb dX9_find_69 hl (k := 1) rfl (zI_add _ _) (by decide) rfl (fun ls hl => ?_)
                refine lv_goto (tgt := 31) hx hb dX9_find_72 (by decide) ?_
                exact ih2 0 (v3 + 1) _ _ (by omega) (by omega) (SmF.ne (by omega) (by rw [← hix8]; omega)) hP hD hS ls (lv_sub hl [0, 1, 2, 3] rfl)
              · refine lv_iconst (v := zI 1) hx hb dX9_find_63 rfl ?_
                refine lv_goto (tgt := 68) hx hb dX9_find_64 (by decide) ?_
                refine lv_istore_n (lv' := [(2, .int (zI 1)), (3, .int (zI v3)), (1, .int (zI v1)), (0, .ref y)]) hx hb dX9_find_68 rfl hl (by decide) rfl (fun ls hl => ?_)
                refine lv_iinc (v := zI (v3 + 1)) (lv' := [(3, .int (zI (v3 + 1))), (2, .int (zI 1)), (1, .int (zI v1)), (0, .ref y)]) hx hb dX9_find_69 hl (k := 1) rfl (zI_add _ _) (by decide) rfl (fun ls hl => ?_)
                refine lv_goto (tgt := 31) hx hb dX9_find_72 (by decide) ?_
                exact ih2 1 (v3 + 1) _ _ (by omega) (by omega) (SmF.eq hsf (by omega) (by omega) (by rw [← hix8]; omega)) hP hD hS ls (lv_sub hl [0, 1, 2, 3] rfl)
      · refine lv_iconst (v := zI 1) hx hb dX9_find_23 rfl ?_
        refine lv_goto (tgt := 28) hx hb dX9_find_24 (by decide) ?_
        refine lv_istore_n (lv' := [(2, .int (zI 1)), (1, .int (zI v1)), (0, .ref y)]) hx hb dX9_find_28 rfl hl (by decide) rfl (fun ls hl => ?_)
        refine lv_iconst (v := zI 0) hx hb dX9_find_29 rfl ?_
        refine lv_istore_n (lv' := [(3, .int (zI 0)), (2, .int (zI 1)), (1, .int (zI v1)), (0, .ref y)]) hx hb dX9_find_30 rfl hl (by decide) rfl (fun ls hl => ?_)
        refine W.widen (k := 0) (n := 0) (Nat.le_of_ble_eq_true rfl) (Nat.le_of_ble_eq_true rfl) ?_
        refine (?_ : ∀ (n9_2 : Nat) (v2 : Int) (v3 : Int) (H : Heap) (locs : List Loc), (0 ≤ v3 ∧ v3 ≤ 8 ∧ 0 ≤ v2 ∧ v2 ≤ 1) → (9 - v3 : Int).toNat < n9_2 → (SmF g_newNames g_newSizes g_letters (v1).toNat (i 7) v2 v3) → va_P G vwCl [(y, .inr (9, [.int (zI (i 0)), .ref (q 0), .int (zI (i 1)), .int (zI (i 2)), .int (zI (i 3)), .int (zI (i 4)), .int (zI (i 5)), .int (zI (i 6)), .int (zI (i 7)), .int (zI (i 8)), .int (zI (i 9)), .int (zI (i 10)), .ref (q 1), .int (zI (i 11)), .int (zI (i 12)), .ref (q 2), .ref (q 3), .ref (q 4), .ref (q 5), .ref (q 6), .ref (q 7), .ref (q 8), .ref (q 9), .ref (q 10), .ref (q 11), .ref (q 12), .ref (q 13), .ref (q 14), .ref (q 15), .ref (q 16), .int (zI (i 13)), .int (zI (i 14)), .int (zI (i 15)), .int (zI (i 16)), .int (zI (i 17)), .int (zI (i 18)), .ref (q 17), .ref (q 18), .ref (q 19), .ref (q 20)])), ((q 1), .inl (cI, 8, .inl (fun k => zI (g_letters k)))), ((q 9), .inl (cI, 80, .inl (fun k => zI (g_newNames k)))), ((q 10), .inl (cI, 10, .inl (fun k => zI (g_newSizes k))))] H → va_D A [(y, .inr (9, [.int (zI (i 0)), .ref (q 0), .int (zI (i 1)), .int (zI (i 2)), .int (zI (i 3)), .int (zI (i 4)), .int (zI (i 5)), .int (zI (i 6)), .int (zI (i 7)), .int (zI (i 8)), .int (zI (i 9)), .int (zI (i 10)), .ref (q 1), .int (zI (i 11)), .int (zI (i 12)), .ref (q 2), .ref (q 3), .ref (q 4), .ref (q 5), .ref (q 6), .ref (q 7), .ref (q 8), .ref (q 9), .ref (q 10), .ref (q 11), .ref (q 12), .ref (q 13), .ref (q 14), .ref (q 15), .ref (q 16), .int (zI (i 13)), .int (zI (i 14)), .int (zI (i 15)), .int (zI (i 16)), .int (zI (i 17)), .int (zI (i 18)), .ref (q 17), .ref (q 18), .ref (q 19), .ref (q 20)])), ((q 1), .inl (cI, 8, .inl (fun k => zI (g_letters k)))), ((q 9), .inl (cI, 80, .inl (fun k => zI (g_newNames k)))), ((q 10), .inl (cI, 10, .inl (fun k => zI (g_newSizes k))))] → va_S A s.heap H locs → ∀ ls : Array Slot, lv_has ls 4 [(3, .int (zI v3)), (2, .int (zI v2)), (1, .int (zI v1)), (0, .ref y)] → W p l e rm_X9_findX s m ([.ref y] : List Value).toArray below meth c H locs 0 0 Q (F0 m 31 ls [])) ((9 - 0 : Int).toNat + 1) 1 0 _ _ (by omega) (by omega) (Or.inl ⟨rfl, by omega, fun j hj => absurd hj (by omega)⟩) hP hD hS ls hl
        clear hP hD hS hl ls
        intro n9_2
        induction n9_2 with
        | zero =>
          intro v2 v3 H locs hI hM
          exact absurd hM (by omega)
        | succ n9_2 ih2 =>
          intro v2 v3 H locs hI2 hM2 hsf hP hD hS ls hl
          refine lv_iload_n hx hb dX9_find_31 rfl (lv_at hl 0 rfl) ?_
          have hix8 : ((8 * v1) + v3).toNat = 8 * (v1).toNat + (v3).toNat := by omega
          refine lv_aload_n hx hb dX9_find_32 rfl (lv_at hl 3 rfl) ?_
          refine r_get F hK hP 0 8 rfl rfl in_X9 (by decide) k_1171 rfl dX9_find_33 ?_
          refine rz_icmp_ge (tgt := 75) F (by omega) (by omega) dX9_find_36 (by decide) (fun h36_8 => ?_) (fun h36_8 => ?_)
          · refine lv_iload_n hx hb dX9_find_75 rfl (lv_at hl 1 rfl) ?_
            refine rz_if_eq (tgt := 81) F (by omega) dX9_find_76 (by decide) (fun h76_9 => ?_) (fun h76_9 => ?_)
            · refine lv_iinc (v := zI (v1 + 1)) (lv' := [(1, .int (zI (v1 + 1))), (3, .int (zI v3)), (2, .int (zI v2)), (0, .ref y)]) hx hb dX9_find_81 hl (k := 2) rfl (zI_add _ _) (by decide) rfl (fun ls hl => ?_)
              refine lv_goto (tgt := 2) hx hb dX9_find_84 (by decide) ?_
              exact ih1 (v1 + 1) _ _ (by omega) (by omega) (nmx_step hnm (SmF.not hNm (by omega) hsf (by omega) hwr.1 hwr.2.2 (by omega))) hP hD hS ls (lv_sub hl [0, 3] rfl)
            · refine lv_iload_n hx hb dX9_find_79 rfl (lv_at hl 2 rfl) ?_
              exact ret (zI v1) (fun k => [((fun _ => 0), fun _ _ => 0)].getD k (fun _ => 0, fun _ _ => 0)) _ _ _ _ _ _ rfl ⟨v1, rfl, (show (v1 : Int) = fnd m9 nm (tWd f n c9) ∧ (-1 ≤ (v1 : Int) ∧ (v1 : Int) < m9) from ⟨(Fnd.eq (Or.inr ⟨by omega, SmF.yes hNm (by omega) hsf (by omega) (by omega) hwr.1, hnm⟩)).symm, by omega⟩)⟩ (bw_subP (isC := [0, 1, 2, 3]) hP rfl) (hD.sub [0, 1, 2, 3] (by decide) rfl) hS (Nat.le_of_ble_eq_true rfl) (Nat.le_of_ble_eq_true rfl) dX9_find_80
          · refine lv_iload_n hx hb dX9_find_39 rfl (lv_at hl 1 rfl) ?_
            refine rz_if_eq (tgt := 75) F (by omega) dX9_find_40 (by decide) (fun h40_10 => ?_) (fun h40_10 => ?_)
            · refine lv_iload_n hx hb dX9_find_75 rfl (lv_at hl 1 rfl) ?_
              refine rz_if_eq (tgt := 81) F (by omega) dX9_find_76 (by decide) (fun h76_11 => ?_) (fun h76_11 => by omega)
              refine lv_iinc (v := zI (v1 + 1)) (lv' := [(1, .int (zI (v1 + 1))), (3, .int (zI v3)), (2, .int (zI v2)), (0, .ref y)]) hx hb dX9_find_81 hl (k := 2) rfl (zI_add _ _) (by decide) rfl (fun ls hl => ?_)
              refine lv_goto (tgt := 2) hx hb dX9_find_84 (by decide) ?_
              exact ih1 (v1 + 1) _ _ (by omega) (by omega) (nmx_step hnm (SmF.not hNm (by omega) hsf (by omega) hwr.1 hwr.2.2 (by omega))) hP hD hS ls (lv_sub hl [0, 3] rfl)
            · refine lv_aload_n hx hb dX9_find_43 rfl (lv_at hl 3 rfl) ?_
              refine r_get F hK hP 0 22 rfl rfl in_X9 (by decide) k_1185 rfl dX9_find_44 ?_
              refine lv_bipush (v := zI 8) hx hb dX9_find_47 (by decide) ?_
              refine lv_iload_n hx hb dX9_find_49 rfl (lv_at hl 2 rfl) ?_
              refine r_imul (v := zI (8 * v1)) F dX9_find_50 (zI_mul _ _) ?_
              refine lv_iload_n hx hb dX9_find_51 rfl (lv_at hl 0 rfl) ?_
              refine r_iadd (v := zI ((8 * v1) + v3)) F dX9_find_52 (zI_add _ _) ?_
              refine rz_iald F hK hP 2 0 rfl rfl (by omega) (by omega) dX9_find_53 ?_
              have hsz : g_newSizes (v1).toNat = i 7 := hsf.elim (fun q8 => q8.2.1) (fun q8 => absurd q8.1 (by omega))
              have hnr := (hNm (v1).toNat (by omega)).2.1 (v3).toNat (by omega)
              rw [← hix8] at hnr
              refine lv_aload_n hx hb dX9_find_54 rfl (lv_at hl 3 rfl) ?_
              refine r_get F hK hP 0 12 rfl rfl in_X9 (by decide) k_1175 rfl dX9_find_55 ?_
              refine lv_iload_n hx hb dX9_find_58 rfl (lv_at hl 0 rfl) ?_
              refine rz_iald F hK hP 1 0 rfl rfl (by omega) (by omega) dX9_find_59 ?_
              have hlr := hwr.2.2 (v3).toNat (by omega)
              refine rz_icmp_ne (tgt := 67) F (by omega) (by omega) dX9_find_60 (by decide) (fun h60_12 => ?_) (fun h60_12 => ?_)
              · refine lv_iconst (v := zI 0) hx hb dX9_find_67 rfl ?_
                refine lv_istore_n (lv' := [(2, .int (zI 0)), (3, .int (zI v3)), (1, .int (zI v1)), (0, .ref y)]) hx hb dX9_find_68 rfl hl (by decide) rfl (fun ls hl => ?_)
                refine lv_iinc (v := zI (v3 + 1)) (lv' := [(3, .int (zI (v3 + 1))), (2, .int (zI 0)), (1, .int (zI v1)), (0, .ref y)]) hx hb dX9_find_69 hl (k := 1) rfl (zI_add _ _) (by decide) rfl (fun ls hl => ?_)
                refine lv_goto (tgt := 31) hx hb dX9_find_72 (by decide) ?_
                exact ih2 0 (v3 + 1) _ _ (by omega) (by omega) (SmF.ne (by omega) (by rw [← hix8]; omega)) hP hD hS ls (lv_sub hl [0, 1, 2, 3] rfl)
              · refine lv_iconst (v := zI 1) hx hb dX9_find_63 rfl ?_
                refine lv_goto (tgt := 68) hx hb dX9_find_64 (by decide) ?_
                refine lv_istore_n (lv' := [(2, .int (zI 1)), (3, .int (zI v3)), (1, .int (zI v1)), (0, .ref y)]) hx hb dX9_find_68 rfl hl (by decide) rfl (fun ls hl => ?_)
                refine lv_iinc (v := zI (v3 + 1)) (lv' := [(3, .int (zI (v3 + 1))), (2, .int (zI 1)), (1, .int (zI v1)), (0, .ref y)]) hx hb dX9_find_69 hl (k := 1) rfl (zI_add _ _) (by decide) rfl (fun ls hl => ?_)
                refine lv_goto (tgt := 31) hx hb dX9_find_72 (by decide) ?_
                exact ih2 1 (v3 + 1) _ _ (by omega) (by omega) (SmF.eq hsf (by omega) (by omega) (by rw [← hix8]; omega)) hP hD hS ls (lv_sub hl [0, 1, 2, 3] rfl)
