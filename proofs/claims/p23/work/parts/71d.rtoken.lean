theorem Kd.ex (w : Int) : Kd w (kdO w) := by
  apply Classical.epsilon_spec (p := fun k => Kd w k)
  by_cases h : ∃ j, j < 19 ∧ rsv j = w
  · obtain ⟨j, h1, h2⟩ := h
    exact ⟨(j : Int), Or.inr ⟨by omega, by rw [Int.toNat_natCast]; exact h2⟩⟩
  · exact ⟨19, Or.inl ⟨rfl, fun j hj e => h ⟨j, hj, e⟩⟩⟩
def rTk (k : Int) : Int := if k = 24 then 0 else if k = 23 then 1 else if k = 20 then 3 else if k = 21 then 59 else if k = 22 then 44 else 2
theorem rTk_w {k : Int} (h : k ≤ 19) : rTk k = 2 := by unfold rTk; rw [if_neg (by omega), if_neg (by omega), if_neg (by omega), if_neg (by omega), if_neg (by omega)]
theorem Stop.gt {S : Int → Prop} {f : Nat → Int} {n p k : Int} (h : Stop S f n p k) (h2 : S (lk f n p)) : p < k := by
  rcases (show p = k ∨ p < k by have q := h.1; omega) with q | q
  · subst q; exact absurd h2 h.2.2
  · exact q
/-- the token from b on, as the reference's fields tell it -/
def TkR (f : Nat → Int) (n b pl en tk sz wh : Int) (l : Nat → Int) : Prop := (pl = tPl f n b ∧ en = tEn f n b ∧ tk = rTk (tKd f n b)) ∧ (tKd f n b ≤ 19 → (sz = en - pl ∧ 1 ≤ sz ∧ sz ≤ 8) ∧ ∀ k : Nat, (k : Int) < sz → l k = f (pl + (k : Int)).toNat) ∧ (tKd f n b = 20 → wh = tNu f n b)
theorem TkR.to {f l : Nat → Int} {n b pl en tk sz wh pl' en' tk' sz' wh' : Int} (h : TkR f n b pl en tk sz wh l) (e1 : pl' = pl) (e2 : en' = en) (e3 : tk' = tk) (e4 : sz' = sz) (e5 : wh' = wh) : TkR f n b pl' en' tk' sz' wh' l := by
  subst e1 e2 e3 e4 e5; exact h
theorem TkR.over {f l : Nat → Int} {n b p sz wh : Int} (h1 : Stop sSp f n b p) (h2 : lk f n p = -1) : TkR f n b p p 0 sz wh l := by
  have h := tk_over h1 h2
  refine ⟨⟨h.1.symm, h.2.1.symm, by rw [h.2.2]; rfl⟩, fun q => ?_, fun q => ?_⟩ <;> omega
theorem TkR.word {f l : Nat → Int} {n b p k tk wh : Int} (h1 : Stop sSp f n b p) (h2 : sSm (lk f n p)) (h3 : Stop sSm f n p k) (h4 : ∀ j : Nat, (j : Int) < k - p → j < 8 → l j = f (p + (j : Int)).toNat) (h5 : (k - p ≤ 8 ∧ tk = 2) ∨ (8 < k - p ∧ tk = 1)) : TkR f n b p k tk (k - p) wh l := by
  have hg := h3.gt h2
  rcases h5 with ⟨h5, h6⟩ | ⟨h5, h6⟩
  · have h := tk_word (w := enc f p k) (d := kdO (enc f p k)) h1 h2 h3 (fun _ => ⟨rfl, Kd.ex _⟩) (fun q => by omega)
    have hle := (Kd.ex (enc f p k)).le
    refine ⟨⟨h.1.symm, h.2.1.symm, by rw [h.2.2.1, rTk_w hle.2, h6]⟩, fun _ => ⟨by omega, fun j hj => h4 j hj (by omega)⟩, fun q => ?_⟩
    omega
  · have h := tk_word (w := 0) (d := 23) h1 h2 h3 (fun q => by omega) (fun _ => rfl)
    refine ⟨⟨h.1.symm, h.2.1.symm, by rw [h.2.2.1, h6]; rfl⟩, fun q => ?_, fun q => ?_⟩ <;> omega
theorem TkR.whole {f l : Nat → Int} {n b p k tk sz wh : Int} (h1 : Stop sSp f n b p) (h2 : sDg (lk f n p)) (h3 : Stop sDg f n p k) (h4 : k - p ≤ 3 → wh = val f p k) (h5 : (k - p ≤ 3 ∧ tk = 3) ∨ (3 < k - p ∧ tk = 1)) : TkR f n b p k tk sz wh l := by
  rcases h5 with ⟨h5, h6⟩ | ⟨h5, h6⟩
  · have h := tk_whole (v := wh) (d := 20) h1 h2 h3 (fun q => ⟨h4 q, rfl⟩) (fun q => by omega)
    exact ⟨⟨h.1.symm, h.2.1.symm, by rw [h.2.2.1, h6]; rfl⟩, fun q => by omega, fun _ => (h.2.2.2 h5).symm⟩
  · have h := tk_whole (v := 0) (d := 23) h1 h2 h3 (fun q => by omega) (fun _ => rfl)
    refine ⟨⟨h.1.symm, h.2.1.symm, by rw [h.2.2.1, h6]; rfl⟩, fun q => ?_, fun q => ?_⟩ <;> omega
theorem TkR.sign {f l : Nat → Int} {n b p c tk sz wh : Int} (h1 : Stop sSp f n b p) (hc : lk f n p = c) (h2 : c ≠ -1) (h3 : ¬ sSm c) (h4 : ¬ sDg c) (h5 : ((c = 59 ∨ c = 44) ∧ tk = c) ∨ (c ≠ 59 ∧ c ≠ 44 ∧ tk = 1)) : TkR f n b p (p + 1) tk sz wh l := by
  rcases h5 with ⟨h5 | h5, h6⟩ | ⟨h5, h5', h6⟩
  · have h := tk_sign (d := 21) h1 hc h2 h3 h4 (by omega)
    refine ⟨⟨h.1.symm, h.2.1.symm, by rw [h.2.2, h6, h5]; rfl⟩, fun q => ?_, fun q => ?_⟩ <;> omega
  · have h := tk_sign (d := 22) h1 hc h2 h3 h4 (by omega)
    refine ⟨⟨h.1.symm, h.2.1.symm, by rw [h.2.2, h6, h5]; rfl⟩, fun q => ?_, fun q => ?_⟩ <;> omega
  · have h := tk_sign (d := 23) h1 hc h2 h3 h4 (by omega)
    refine ⟨⟨h.1.symm, h.2.1.symm, by rw [h.2.2, h6]; rfl⟩, fun q => ?_, fun q => ?_⟩ <;> omega
theorem let_step {f l l' : Nat → Int} {p v x : Int} (h0 : 0 ≤ v) (h : ∀ j : Nat, (j : Int) < v → j < 8 → l j = f (p + (j : Int)).toNat) (e : l' = uZ l v.toNat x) (hx : x = f (p + v).toNat) : ∀ j : Nat, (j : Int) < v + 1 → j < 8 → l' j = f (p + (j : Int)).toNat := by
  intro j hj h8
  by_cases q : j = v.toNat
  · rw [uZ_at e q, hx, show p + v = p + (j : Int) by omega]
  · rw [uZ_off e q]; exact h j (by omega) h8
theorem let_long {f l : Nat → Int} {p v : Int} (h : ∀ j : Nat, (j : Int) < v → j < 8 → l j = f (p + (j : Int)).toNat) (hv : 8 ≤ v) : ∀ j : Nat, (j : Int) < v + 1 → j < 8 → l j = f (p + (j : Int)).toNat := fun j hj h8 => h j (by omega) h8
abbrev rm_X9_nextX : Room := { frames := 1, cells := 0, slots := 0, locals := 21 }
set_option maxRecDepth 100000 in
set_option maxHeartbeats 8000000 in
theorem c_X9_nextX {l : Launch} {E : (Nat → Prop) → State → Prop} (hO : bw_Ok E) {G : va_G} {cI cB cJ cN cW : ClassId} (y : Nat) (q : Nat → Nat) (i : Nat → Int) (hM : ModS i) (g_tape : Nat → Int) (hr_tape : ∀ k, k < 900 → (-2147483648) ≤ g_tape k ∧ g_tape k ≤ 2147483647) (g_letters : Nat → Int) (hr_letters : ∀ k, k < 8 → (-2147483648) ≤ g_letters k ∧ g_letters k ≤ 2147483647)  : bw_Cv (S := zV) l yX9_next (bw_ws (Cond.code yX9_next cX9_next 4 none)) rm_X9_nextX E G (bw_kt cI cB cJ cN cW) [.ref y] [(y, .inr (9, [.int (zI (i 0)), .ref (q 0), .int (zI (i 1)), .int (zI (i 2)), .int (zI (i 3)), .int (zI (i 4)), .int (zI (i 5)), .int (zI (i 6)), .int (zI (i 7)), .int (zI (i 8)), .int (zI (i 9)), .int (zI (i 10)), .ref (q 1), .int (zI (i 11)), .int (zI (i 12)), .ref (q 2), .ref (q 3), .ref (q 4), .ref (q 5), .ref (q 6), .ref (q 7), .ref (q 8), .ref (q 9), .ref (q 10), .ref (q 11), .ref (q 12), .ref (q 13), .ref (q 14), .ref (q 15), .ref (q 16), .int (zI (i 13)), .int (zI (i 14)), .int (zI (i 15)), .int (zI (i 16)), .int (zI (i 17)), .int (zI (i 18)), .ref (q 17), .ref (q 18), .ref (q 19), .ref (q 20)])), ((q 0), .inl (cI, 900, .inl (fun k => zI (g_tape k)))), ((q 1), .inl (cI, 8, .inl (fun k => zI (g_letters k))))] (fun u => (ModOk (u 0).1) ∧ (∀ k, k < 8 → (-2147483648) ≤ ((u 1).2 0) k ∧ ((u 1).2 0) k ≤ 2147483647) ∧ (((u 0).1 11 = i 11 ∧ i 4 ≤ (u 0).1 4 ∧ (u 0).1 1 = i 1 ∧ ((u 0).1 5 ≠ 0 → i 4 < (u 0).1 4) ∧ (u 0).1 14 = i 14 ∧ (u 0).1 16 = i 16) ∧ TkR g_tape (i 2) (i 4) ((u 0).1 3) ((u 0).1 4) ((u 0).1 5) ((u 0).1 7) ((u 0).1 6) ((u 1).2 0) ∧ (u 0).1 0 = i 0 ∧ (u 0).1 2 = i 2 ∧ (u 0).1 8 = i 8 ∧ (u 0).1 9 = i 9 ∧ (u 0).1 10 = i 10 ∧ (u 0).1 12 = i 12 ∧ (u 0).1 13 = i 13 ∧ (u 0).1 15 = i 15 ∧ (u 0).1 17 = i 17 ∧ (u 0).1 18 = i 18)) (fun u => [(y, .inr (9, [.int (zI ((u 0).1 0)), .ref (q 0), .int (zI ((u 0).1 1)), .int (zI ((u 0).1 2)), .int (zI ((u 0).1 3)), .int (zI ((u 0).1 4)), .int (zI ((u 0).1 5)), .int (zI ((u 0).1 6)), .int (zI ((u 0).1 7)), .int (zI ((u 0).1 8)), .int (zI ((u 0).1 9)), .int (zI ((u 0).1 10)), .ref (q 1), .int (zI ((u 0).1 11)), .int (zI ((u 0).1 12)), .ref (q 2), .ref (q 3), .ref (q 4), .ref (q 5), .ref (q 6), .ref (q 7), .ref (q 8), .ref (q 9), .ref (q 10), .ref (q 11), .ref (q 12), .ref (q 13), .ref (q 14), .ref (q 15), .ref (q 16), .int (zI ((u 0).1 13)), .int (zI ((u 0).1 14)), .int (zI ((u 0).1 15)), .int (zI ((u 0).1 16)), .int (zI ((u 0).1 17)), .int (zI ((u 0).1 18)), .ref (q 17), .ref (q 18), .ref (q 19), .ref (q 20)])), ((q 0), .inl (cI, 900, .inl (fun k => zI (g_tape k)))), ((q 1), .inl (cI, 8, .inl (fun k => zI (((u 1).2 0) k))))]) := by
  refine bw_Cv.of (cc := cX9_next) (maxL := 4) (by decide) rfl (Nat.le_of_ble_eq_true rfl) ?_
  intro p e s m below meth c A Q hx hb hml hts hown hin hK hA hS hP hD hE ret ls hl
  have F : CallFix p m c cX9_next 4 s ([.ref y] : List Value).toArray bw_T RX9 := ⟨hx, hb, hml, hown, fun w h => hts w (List.mem_cons_of_mem _ h)⟩
  replace hl : lv_has ls 4 [(0, .ref y)] := hl
  have hf1 := hM
  refine lv_aload_n hx hb dX9_next_0 rfl (lv_at hl 0 rfl) ?_
  refine r_get F hK hP 0 5 rfl rfl in_X9 (by decide) k_1168 rfl dX9_next_1 ?_
  refine lv_istore_n (lv' := [(1, .int (zI (i 4))), (0, .ref y)]) hx hb dX9_next_4 rfl hl (by decide) rfl (fun ls hl => ?_)
  refine W.widen (k := 0) (n := 0) (Nat.le_of_ble_eq_true rfl) (Nat.le_of_ble_eq_true rfl) ?_
  refine (?_ : ∀ (n9_1 : Nat) (v1 : Int) (H : Heap) (locs : List Loc), (i 4 ≤ v1 ∧ v1 ≤ 900) → (901 - v1 : Int).toNat < n9_1 → (∀ j : Int, i 4 ≤ j → j < v1 → sSp (lk g_tape (i 2) j)) → va_P G vwCl [(y, .inr (9, [.int (zI (i 0)), .ref (q 0), .int (zI (i 1)), .int (zI (i 2)), .int (zI (i 3)), .int (zI (i 4)), .int (zI (i 5)), .int (zI (i 6)), .int (zI (i 7)), .int (zI (i 8)), .int (zI (i 9)), .int (zI (i 10)), .ref (q 1), .int (zI (i 11)), .int (zI (i 12)), .ref (q 2), .ref (q 3), .ref (q 4), .ref (q 5), .ref (q 6), .ref (q 7), .ref (q 8), .ref (q 9), .ref (q 10), .ref (q 11), .ref (q 12), .ref (q 13), .ref (q 14), .ref (q 15), .ref (q 16), .int (zI (i 13)), .int (zI (i 14)), .int (zI (i 15)), .int (zI (i 16)), .int (zI (i 17)), .int (zI (i 18)), .ref (q 17), .ref (q 18), .ref (q 19), .ref (q 20)])), ((q 0), .inl (cI, 900, .inl (fun k => zI (g_tape k)))), ((q 1), .inl (cI, 8, .inl (fun k => zI (g_letters k))))] H → va_D A [(y, .inr (9, [.int (zI (i 0)), .ref (q 0), .int (zI (i 1)), .int (zI (i 2)), .int (zI (i 3)), .int (zI (i 4)), .int (zI (i 5)), .int (zI (i 6)), .int (zI (i 7)), .int (zI (i 8)), .int (zI (i 9)), .int (zI (i 10)), .ref (q 1), .int (zI (i 11)), .int (zI (i 12)), .ref (q 2), .ref (q 3), .ref (q 4), .ref (q 5), .ref (q 6), .ref (q 7), .ref (q 8), .ref (q 9), .ref (q 10), .ref (q 11), .ref (q 12), .ref (q 13), .ref (q 14), .ref (q 15), .ref (q 16), .int (zI (i 13)), .int (zI (i 14)), .int (zI (i 15)), .int (zI (i 16)), .int (zI (i 17)), .int (zI (i 18)), .ref (q 17), .ref (q 18), .ref (q 19), .ref (q 20)])), ((q 0), .inl (cI, 900, .inl (fun k => zI (g_tape k)))), ((q 1), .inl (cI, 8, .inl (fun k => zI (g_letters k))))] → va_S A s.heap H locs → ∀ ls : Array Slot, lv_has ls 4 [(1, .int (zI v1)), (0, .ref y)] → W p l e rm_X9_nextX s m ([.ref y] : List Value).toArray below meth c H locs 0 0 Q (F0 m 5 ls [])) ((901 - (i 4) : Int).toNat + 1) (i 4) _ _ (by omega) (by omega) (fun j h1 h2 => absurd h2 (by omega)) hP hD hS ls hl
  clear hP hD hS hl ls
  intro n9_1
  induction n9_1 with
  | zero =>
    intro v1 H locs hI hM
    exact absurd hM (by omega)
  | succ n9_1 ih1 =>
    intro v1 H locs hI1 hM1 hrun hP hD hS ls hl
    refine lv_aload_n hx hb dX9_next_5 rfl (lv_at hl 1 rfl) ?_
    refine lv_iload_n hx hb dX9_next_6 rfl (lv_at hl 0 rfl) ?_
    refine r_callVi (As := [.int (zI v1)]) (rest := []) (wr := [((q 1), .inl (cI, 8, .inl (fun k => zI (g_letters k))))]) F hK hP hD hS hA hO hE (c_X9_look hO y q i hM g_tape hr_tape v1 (by omega) (by omega)) k_1307 kv_X9_look 1 rfl (by decide +kernel) ⟨Nat.le_of_ble_eq_true rfl, Nat.le_of_ble_eq_true rfl⟩ [0, 1] [2] rfl rfl (by decide) (by decide) (by decide) 0 9 rfl rfl rfl hl.1 rfl (Nat.le_of_ble_eq_true rfl) dX9_next_7 ⟨Nat.le_of_ble_eq_true rfl, Nat.le_of_ble_eq_true rfl⟩ (w1 := fun u2 => [((q 1), .inl (cI, 8, .inl (fun k => zI (g_letters k)))), (y, .inr (9, [.int (zI (i 0)), .ref (q 0), .int (zI (i 1)), .int (zI (i 2)), .int (zI (i 3)), .int (zI (i 4)), .int (zI (i 5)), .int (zI (i 6)), .int (zI (i 7)), .int (zI (i 8)), .int (zI (i 9)), .int (zI (i 10)), .ref (q 1), .int (zI (i 11)), .int (zI (i 12)), .ref (q 2), .ref (q 3), .ref (q 4), .ref (q 5), .ref (q 6), .ref (q 7), .ref (q 8), .ref (q 9), .ref (q 10), .ref (q 11), .ref (q 12), .ref (q 13), .ref (q 14), .ref (q 15), .ref (q 16), .int (zI (i 13)), .int (zI (i 14)), .int (zI (i 15)), .int (zI (i 16)), .int (zI (i 17)), .int (zI (i 18)), .ref (q 17), .ref (q 18), .ref (q 19), .ref (q 20)])), ((q 0), .inl (cI, 900, .inl (fun k => zI (g_tape k))))]) (fun _ => rfl) (fun r3 u2 H locs hp4 hP hD hS => ?_)
    obtain ⟨z5, rfl, h_z5⟩ := hp4
    have hl7 : z5 = lk g_tape (i 2) v1 := h_z5.1.trans (lk_congr (by omega) rfl)
    refine lv_bipush (v := zI 32) hx hb dX9_next_10 (by decide) ?_
    refine rz_icmp_ne (tgt := 21) F (by omega) (by omega) dX9_next_12 (by decide) (fun h12_5 => ?_) (fun h12_5 => ?_)
    · refine lv_aload_n hx hb dX9_next_21 rfl (lv_at hl 1 rfl) ?_
      have hst : Stop sSp g_tape (i 2) (i 4) v1 := ⟨by omega, hrun, by unfold sSp; rw [← hl7]; omega⟩
      refine lv_iload_n hx hb dX9_next_22 rfl (lv_at hl 0 rfl) ?_
      refine r_put F hK hP hD hS 1 4 rfl rfl in_X9 tyX9 tyX9_ok nmX9 (by decide) k_1167 rfl rfl rfl (Nat.le_of_ble_eq_true rfl) dX9_next_23 (w1 := [((q 1), .inl (cI, 8, .inl (fun k => zI (g_letters k)))), (y, .inr (9, [.int (zI (i 0)), .ref (q 0), .int (zI (i 1)), .int (zI (i 2)), .int (zI v1), .int (zI (i 4)), .int (zI (i 5)), .int (zI (i 6)), .int (zI (i 7)), .int (zI (i 8)), .int (zI (i 9)), .int (zI (i 10)), .ref (q 1), .int (zI (i 11)), .int (zI (i 12)), .ref (q 2), .ref (q 3), .ref (q 4), .ref (q 5), .ref (q 6), .ref (q 7), .ref (q 8), .ref (q 9), .ref (q 10), .ref (q 11), .ref (q 12), .ref (q 13), .ref (q 14), .ref (q 15), .ref (q 16), .int (zI (i 13)), .int (zI (i 14)), .int (zI (i 15)), .int (zI (i 16)), .int (zI (i 17)), .int (zI (i 18)), .ref (q 17), .ref (q 18), .ref (q 19), .ref (q 20)])), ((q 0), .inl (cI, 900, .inl (fun k => zI (g_tape k))))]) rfl (fun H locs hP hD hS => ?_)
      refine lv_aload_n hx hb dX9_next_26 rfl (lv_at hl 1 rfl) ?_
      refine lv_iload_n hx hb dX9_next_27 rfl (lv_at hl 0 rfl) ?_
      obtain ⟨i7, e_i7⟩ : ∃ i7 : Nat → Int, i7 = fun k => [(i 0), (i 1), (i 2), v1, (i 4), (i 5), (i 6), (i 7), (i 8), (i 9), (i 10), (i 11), (i 12), (i 13), (i 14), (i 15), (i 16), (i 17), (i 18)].getD k 0 := ⟨_, rfl⟩
      have e_i7_0 : i7 0 = (i 0) := by rw [e_i7]; rfl
      have e_i7_1 : i7 1 = (i 1) := by rw [e_i7]; rfl
      have e_i7_2 : i7 2 = (i 2) := by rw [e_i7]; rfl
      have e_i7_3 : i7 3 = v1 := by rw [e_i7]; rfl
      have e_i7_4 : i7 4 = (i 4) := by rw [e_i7]; rfl
      have e_i7_5 : i7 5 = (i 5) := by rw [e_i7]; rfl
      have e_i7_6 : i7 6 = (i 6) := by rw [e_i7]; rfl
      have e_i7_7 : i7 7 = (i 7) := by rw [e_i7]; rfl
      have e_i7_8 : i7 8 = (i 8) := by rw [e_i7]; rfl
      have e_i7_9 : i7 9 = (i 9) := by rw [e_i7]; rfl
      have e_i7_10 : i7 10 = (i 10) := by rw [e_i7]; rfl
      have e_i7_11 : i7 11 = (i 11) := by rw [e_i7]; rfl
      have e_i7_12 : i7 12 = (i 12) := by rw [e_i7]; rfl
      have e_i7_13 : i7 13 = (i 13) := by rw [e_i7]; rfl
      have e_i7_14 : i7 14 = (i 14) := by rw [e_i7]; rfl
      have e_i7_15 : i7 15 = (i 15) := by rw [e_i7]; rfl
      have e_i7_16 : i7 16 = (i 16) := by rw [e_i7]; rfl
      have e_i7_17 : i7 17 = (i 17) := by rw [e_i7]; rfl
      have e_i7_18 : i7 18 = (i 18) := by rw [e_i7]; rfl
      have hO8 : ModS i7 := by have hold9 := hM; refine ⟨⟨?_, ?_, ?_, ?_, ?_⟩, ⟨?_, ?_, ?_, ?_, ?_, ?_⟩, ⟨?_, ?_, ?_, ?_⟩⟩ <;> omega
      have hf9 := hO8
      have hP : va_P G vwCl [((q 1), .inl (cI, 8, .inl (fun k => zI (g_letters k)))), (y, .inr (9, [.int (zI (i7 0)), .ref (q 0), .int (zI (i7 1)), .int (zI (i7 2)), .int (zI (i7 3)), .int (zI (i7 4)), .int (zI (i7 5)), .int (zI (i7 6)), .int (zI (i7 7)), .int (zI (i7 8)), .int (zI (i7 9)), .int (zI (i7 10)), .ref (q 1), .int (zI (i7 11)), .int (zI (i7 12)), .ref (q 2), .ref (q 3), .ref (q 4), .ref (q 5), .ref (q 6), .ref (q 7), .ref (q 8), .ref (q 9), .ref (q 10), .ref (q 11), .ref (q 12), .ref (q 13), .ref (q 14), .ref (q 15), .ref (q 16), .int (zI (i7 13)), .int (zI (i7 14)), .int (zI (i7 15)), .int (zI (i7 16)), .int (zI (i7 17)), .int (zI (i7 18)), .ref (q 17), .ref (q 18), .ref (q 19), .ref (q 20)])), ((q 0), .inl (cI, 900, .inl (fun k => zI (g_tape k))))] H := by subst e_i7; exact hP
      have hD : va_D A [((q 1), .inl (cI, 8, .inl (fun k => zI (g_letters k)))), (y, .inr (9, [.int (zI (i7 0)), .ref (q 0), .int (zI (i7 1)), .int (zI (i7 2)), .int (zI (i7 3)), .int (zI (i7 4)), .int (zI (i7 5)), .int (zI (i7 6)), .int (zI (i7 7)), .int (zI (i7 8)), .int (zI (i7 9)), .int (zI (i7 10)), .ref (q 1), .int (zI (i7 11)), .int (zI (i7 12)), .ref (q 2), .ref (q 3), .ref (q 4), .ref (q 5), .ref (q 6), .ref (q 7), .ref (q 8), .ref (q 9), .ref (q 10), .ref (q 11), .ref (q 12), .ref (q 13), .ref (q 14), .ref (q 15), .ref (q 16), .int (zI (i7 13)), .int (zI (i7 14)), .int (zI (i7 15)), .int (zI (i7 16)), .int (zI (i7 17)), .int (zI (i7 18)), .ref (q 17), .ref (q 18), .ref (q 19), .ref (q 20)])), ((q 0), .inl (cI, 900, .inl (fun k => zI (g_tape k))))] := by subst e_i7; exact hD
      refine r_callVi (As := [.int (zI v1)]) (rest := []) (wr := [((q 1), .inl (cI, 8, .inl (fun k => zI (g_letters k))))]) F hK hP hD hS hA hO hE (c_X9_look hO y q i7 hO8 g_tape hr_tape v1 (by omega) (by omega)) k_1307 kv_X9_look 1 rfl (by decide +kernel) ⟨Nat.le_of_ble_eq_true rfl, Nat.le_of_ble_eq_true rfl⟩ [1, 2] [0] rfl rfl (by decide) (by decide) (by decide) 0 9 rfl rfl rfl hl.1 rfl (Nat.le_of_ble_eq_true rfl) dX9_next_28 ⟨Nat.le_of_ble_eq_true rfl, Nat.le_of_ble_eq_true rfl⟩ (w1 := fun u10 => [((q 1), .inl (cI, 8, .inl (fun k => zI (g_letters k)))), (y, .inr (9, [.int (zI (i7 0)), .ref (q 0), .int (zI (i7 1)), .int (zI (i7 2)), .int (zI (i7 3)), .int (zI (i7 4)), .int (zI (i7 5)), .int (zI (i7 6)), .int (zI (i7 7)), .int (zI (i7 8)), .int (zI (i7 9)), .int (zI (i7 10)), .ref (q 1), .int (zI (i7 11)), .int (zI (i7 12)), .ref (q 2), .ref (q 3), .ref (q 4), .ref (q 5), .ref (q 6), .ref (q 7), .ref (q 8), .ref (q 9), .ref (q 10), .ref (q 11), .ref (q 12), .ref (q 13), .ref (q 14), .ref (q 15), .ref (q 16), .int (zI (i7 13)), .int (zI (i7 14)), .int (zI (i7 15)), .int (zI (i7 16)), .int (zI (i7 17)), .int (zI (i7 18)), .ref (q 17), .ref (q 18), .ref (q 19), .ref (q 20)])), ((q 0), .inl (cI, 900, .inl (fun k => zI (g_tape k))))]) (fun _ => rfl) (fun r11 u10 H locs hp12 hP hD hS => ?_)
      obtain ⟨z13, rfl, h_z13⟩ := hp12
      have hcN : z13 = lk g_tape (i 2) v1 := h_z13.1.trans (lk_congr (by omega) rfl)
      refine lv_istore_n (lv' := [(2, .int (zI z13)), (1, .int (zI v1)), (0, .ref y)]) hx hb dX9_next_31 rfl hl (by decide) rfl (fun ls hl => ?_)
      refine lv_aload_n hx hb dX9_next_32 rfl (lv_at hl 2 rfl) ?_
      refine lv_iconst (v := zI 0) hx hb dX9_next_33 rfl ?_
      refine r_put F hK hP hD hS 1 8 rfl rfl in_X9 tyX9 tyX9_ok nmX9 (by decide) k_1171 rfl rfl rfl (Nat.le_of_ble_eq_true rfl) dX9_next_34 (w1 := [((q 1), .inl (cI, 8, .inl (fun k => zI (g_letters k)))), (y, .inr (9, [.int (zI (i7 0)), .ref (q 0), .int (zI (i7 1)), .int (zI (i7 2)), .int (zI (i7 3)), .int (zI (i7 4)), .int (zI (i7 5)), .int (zI (i7 6)), .int (zI 0), .int (zI (i7 8)), .int (zI (i7 9)), .int (zI (i7 10)), .ref (q 1), .int (zI (i7 11)), .int (zI (i7 12)), .ref (q 2), .ref (q 3), .ref (q 4), .ref (q 5), .ref (q 6), .ref (q 7), .ref (q 8), .ref (q 9), .ref (q 10), .ref (q 11), .ref (q 12), .ref (q 13), .ref (q 14), .ref (q 15), .ref (q 16), .int (zI (i7 13)), .int (zI (i7 14)), .int (zI (i7 15)), .int (zI (i7 16)), .int (zI (i7 17)), .int (zI (i7 18)), .ref (q 17), .ref (q 18), .ref (q 19), .ref (q 20)])), ((q 0), .inl (cI, 900, .inl (fun k => zI (g_tape k))))]) rfl (fun H locs hP hD hS => ?_)
      refine lv_aload_n hx hb dX9_next_37 rfl (lv_at hl 2 rfl) ?_
      refine lv_iconst (v := zI 0) hx hb dX9_next_38 rfl ?_
      refine r_put F hK hP hD hS 1 7 rfl rfl in_X9 tyX9 tyX9_ok nmX9 (by decide) k_1170 rfl rfl rfl (Nat.le_of_ble_eq_true rfl) dX9_next_39 (w1 := [((q 1), .inl (cI, 8, .inl (fun k => zI (g_letters k)))), (y, .inr (9, [.int (zI (i7 0)), .ref (q 0), .int (zI (i7 1)), .int (zI (i7 2)), .int (zI (i7 3)), .int (zI (i7 4)), .int (zI (i7 5)), .int (zI 0), .int (zI 0), .int (zI (i7 8)), .int (zI (i7 9)), .int (zI (i7 10)), .ref (q 1), .int (zI (i7 11)), .int (zI (i7 12)), .ref (q 2), .ref (q 3), .ref (q 4), .ref (q 5), .ref (q 6), .ref (q 7), .ref (q 8), .ref (q 9), .ref (q 10), .ref (q 11), .ref (q 12), .ref (q 13), .ref (q 14), .ref (q 15), .ref (q 16), .int (zI (i7 13)), .int (zI (i7 14)), .int (zI (i7 15)), .int (zI (i7 16)), .int (zI (i7 17)), .int (zI (i7 18)), .ref (q 17), .ref (q 18), .ref (q 19), .ref (q 20)])), ((q 0), .inl (cI, 900, .inl (fun k => zI (g_tape k))))]) rfl (fun H locs hP hD hS => ?_)
      refine lv_iload_n hx hb dX9_next_42 rfl (lv_at hl 0 rfl) ?_
      refine lv_iconst (v := zI (-1)) hx hb dX9_next_43 rfl ?_
      refine rz_icmp_ne (tgt := 60) F (by omega) (by omega) dX9_next_44 (by decide) (fun h44_13 => ?_) (fun h44_13 => ?_)
      · refine lv_iload_n hx hb dX9_next_60 rfl (lv_at hl 0 rfl) ?_
        refine r_callSi (As := [.int (zI z13)]) (rest := []) (wr := [((q 1), .inl (cI, 8, .inl (fun k => zI (g_letters k)))), (y, .inr (9, [.int (zI (i7 0)), .ref (q 0), .int (zI (i7 1)), .int (zI (i7 2)), .int (zI (i7 3)), .int (zI (i7 4)), .int (zI (i7 5)), .int (zI 0), .int (zI 0), .int (zI (i7 8)), .int (zI (i7 9)), .int (zI (i7 10)), .ref (q 1), .int (zI (i7 11)), .int (zI (i7 12)), .ref (q 2), .ref (q 3), .ref (q 4), .ref (q 5), .ref (q 6), .ref (q 7), .ref (q 8), .ref (q 9), .ref (q 10), .ref (q 11), .ref (q 12), .ref (q 13), .ref (q 14), .ref (q 15), .ref (q 16), .int (zI (i7 13)), .int (zI (i7 14)), .int (zI (i7 15)), .int (zI (i7 16)), .int (zI (i7 17)), .int (zI (i7 18)), .ref (q 17), .ref (q 18), .ref (q 19), .ref (q 20)])), ((q 0), .inl (cI, 900, .inl (fun k => zI (g_tape k))))]) F hK hP hD hS hA hO hE (c_X9_isSmall hO z13 (by omega)) k_1311 ks_X9_isSmall 1 rfl (by decide +kernel) ⟨Nat.le_of_ble_eq_true rfl, Nat.le_of_ble_eq_true rfl⟩ [] [0, 1, 2] rfl rfl (by decide) (by decide) (by decide) hl.1 rfl (Nat.le_of_ble_eq_true rfl) dX9_next_61 ⟨Nat.le_of_ble_eq_true rfl, Nat.le_of_ble_eq_true rfl⟩ (w1 := fun u15 => [((q 1), .inl (cI, 8, .inl (fun k => zI (g_letters k)))), (y, .inr (9, [.int (zI (i7 0)), .ref (q 0), .int (zI (i7 1)), .int (zI (i7 2)), .int (zI (i7 3)), .int (zI (i7 4)), .int (zI (i7 5)), .int (zI 0), .int (zI 0), .int (zI (i7 8)), .int (zI (i7 9)), .int (zI (i7 10)), .ref (q 1), .int (zI (i7 11)), .int (zI (i7 12)), .ref (q 2), .ref (q 3), .ref (q 4), .ref (q 5), .ref (q 6), .ref (q 7), .ref (q 8), .ref (q 9), .ref (q 10), .ref (q 11), .ref (q 12), .ref (q 13), .ref (q 14), .ref (q 15), .ref (q 16), .int (zI (i7 13)), .int (zI (i7 14)), .int (zI (i7 15)), .int (zI (i7 16)), .int (zI (i7 17)), .int (zI (i7 18)), .ref (q 17), .ref (q 18), .ref (q 19), .ref (q 20)])), ((q 0), .inl (cI, 900, .inl (fun k => zI (g_tape k))))]) (fun _ => rfl) (fun r16 u15 H locs hp17 hP hD hS => ?_)
        obtain ⟨z18, rfl, h_z18⟩ := hp17
        refine rz_ifb_eq (tgt := 143) F (by omega) dX9_next_64 (by decide) (fun h64_18 => ?_) (fun h64_18 => ?_)
        · refine lv_iload_n hx hb dX9_next_143 rfl (lv_at hl 0 rfl) ?_
          refine r_callSi (As := [.int (zI z13)]) (rest := []) (wr := [((q 1), .inl (cI, 8, .inl (fun k => zI (g_letters k)))), (y, .inr (9, [.int (zI (i7 0)), .ref (q 0), .int (zI (i7 1)), .int (zI (i7 2)), .int (zI (i7 3)), .int (zI (i7 4)), .int (zI (i7 5)), .int (zI 0), .int (zI 0), .int (zI (i7 8)), .int (zI (i7 9)), .int (zI (i7 10)), .ref (q 1), .int (zI (i7 11)), .int (zI (i7 12)), .ref (q 2), .ref (q 3), .ref (q 4), .ref (q 5), .ref (q 6), .ref (q 7), .ref (q 8), .ref (q 9), .ref (q 10), .ref (q 11), .ref (q 12), .ref (q 13), .ref (q 14), .ref (q 15), .ref (q 16), .int (zI (i7 13)), .int (zI (i7 14)), .int (zI (i7 15)), .int (zI (i7 16)), .int (zI (i7 17)), .int (zI (i7 18)), .ref (q 17), .ref (q 18), .ref (q 19), .ref (q 20)])), ((q 0), .inl (cI, 900, .inl (fun k => zI (g_tape k))))]) F hK hP hD hS hA hO hE (c_X9_isDigit hO z13 (by omega)) k_1314 ks_X9_isDigit 1 rfl (by decide +kernel) ⟨Nat.le_of_ble_eq_true rfl, Nat.le_of_ble_eq_true rfl⟩ [] [0, 1, 2] rfl rfl (by decide) (by decide) (by decide) hl.1 rfl (Nat.le_of_ble_eq_true rfl) dX9_next_144 ⟨Nat.le_of_ble_eq_true rfl, Nat.le_of_ble_eq_true rfl⟩ (w1 := fun u20 => [((q 1), .inl (cI, 8, .inl (fun k => zI (g_letters k)))), (y, .inr (9, [.int (zI (i7 0)), .ref (q 0), .int (zI (i7 1)), .int (zI (i7 2)), .int (zI (i7 3)), .int (zI (i7 4)), .int (zI (i7 5)), .int (zI 0), .int (zI 0), .int (zI (i7 8)), .int (zI (i7 9)), .int (zI (i7 10)), .ref (q 1), .int (zI (i7 11)), .int (zI (i7 12)), .ref (q 2), .ref (q 3), .ref (q 4), .ref (q 5), .ref (q 6), .ref (q 7), .ref (q 8), .ref (q 9), .ref (q 10), .ref (q 11), .ref (q 12), .ref (q 13), .ref (q 14), .ref (q 15), .ref (q 16), .int (zI (i7 13)), .int (zI (i7 14)), .int (zI (i7 15)), .int (zI (i7 16)), .int (zI (i7 17)), .int (zI (i7 18)), .ref (q 17), .ref (q 18), .ref (q 19), .ref (q 20)])), ((q 0), .inl (cI, 900, .inl (fun k => zI (g_tape k))))]) (fun _ => rfl) (fun r21 u20 H locs hp22 hP hD hS => ?_)
          obtain ⟨z23, rfl, h_z23⟩ := hp22
          refine rz_ifb_eq (tgt := 219) F (by omega) dX9_next_147 (by decide) (fun h147_23 => ?_) (fun h147_23 => ?_)
          · refine lv_aload_n hx hb dX9_next_219 rfl (lv_at hl 2 rfl) ?_
            refine lv_iload_n hx hb dX9_next_220 rfl (lv_at hl 1 rfl) ?_
            refine lv_iconst (v := zI 1) hx hb dX9_next_221 rfl ?_
            refine r_iadd (v := zI (v1 + 1)) F dX9_next_222 (zI_add _ _) ?_
            refine r_put F hK hP hD hS 1 5 rfl rfl in_X9 tyX9 tyX9_ok nmX9 (by decide) k_1168 rfl rfl rfl (Nat.le_of_ble_eq_true rfl) dX9_next_223 (w1 := [((q 1), .inl (cI, 8, .inl (fun k => zI (g_letters k)))), (y, .inr (9, [.int (zI (i7 0)), .ref (q 0), .int (zI (i7 1)), .int (zI (i7 2)), .int (zI (i7 3)), .int (zI (v1 + 1)), .int (zI (i7 5)), .int (zI 0), .int (zI 0), .int (zI (i7 8)), .int (zI (i7 9)), .int (zI (i7 10)), .ref (q 1), .int (zI (i7 11)), .int (zI (i7 12)), .ref (q 2), .ref (q 3), .ref (q 4), .ref (q 5), .ref (q 6), .ref (q 7), .ref (q 8), .ref (q 9), .ref (q 10), .ref (q 11), .ref (q 12), .ref (q 13), .ref (q 14), .ref (q 15), .ref (q 16), .int (zI (i7 13)), .int (zI (i7 14)), .int (zI (i7 15)), .int (zI (i7 16)), .int (zI (i7 17)), .int (zI (i7 18)), .ref (q 17), .ref (q 18), .ref (q 19), .ref (q 20)])), ((q 0), .inl (cI, 900, .inl (fun k => zI (g_tape k))))]) rfl (fun H locs hP hD hS => ?_)
            refine lv_aload_n hx hb dX9_next_226 rfl (lv_at hl 2 rfl) ?_
            refine lv_iload_n hx hb dX9_next_227 rfl (lv_at hl 0 rfl) ?_
            refine lv_bipush (v := zI 59) hx hb dX9_next_228 (by decide) ?_
            refine rz_icmp_eq (tgt := 239) F (by omega) (by omega) dX9_next_230 (by decide) (fun h230_24 => ?_) (fun h230_24 => ?_)
            · refine lv_iload_n hx hb dX9_next_239 rfl (lv_at hl 0 rfl) ?_
              refine lv_goto (tgt := 244) hx hb dX9_next_240 (by decide) ?_
              refine r_put F hK hP hD hS 1 6 rfl rfl in_X9 tyX9 tyX9_ok nmX9 (by decide) k_1169 rfl rfl rfl (Nat.le_of_ble_eq_true rfl) dX9_next_244 (w1 := [((q 1), .inl (cI, 8, .inl (fun k => zI (g_letters k)))), (y, .inr (9, [.int (zI (i7 0)), .ref (q 0), .int (zI (i7 1)), .int (zI (i7 2)), .int (zI (i7 3)), .int (zI (v1 + 1)), .int (zI z13), .int (zI 0), .int (zI 0), .int (zI (i7 8)), .int (zI (i7 9)), .int (zI (i7 10)), .ref (q 1), .int (zI (i7 11)), .int (zI (i7 12)), .ref (q 2), .ref (q 3), .ref (q 4), .ref (q 5), .ref (q 6), .ref (q 7), .ref (q 8), .ref (q 9), .ref (q 10), .ref (q 11), .ref (q 12), .ref (q 13), .ref (q 14), .ref (q 15), .ref (q 16), .int (zI (i7 13)), .int (zI (i7 14)), .int (zI (i7 15)), .int (zI (i7 16)), .int (zI (i7 17)), .int (zI (i7 18)), .ref (q 17), .ref (q 18), .ref (q 19), .ref (q 20)])), ((q 0), .inl (cI, 900, .inl (fun k => zI (g_tape k))))]) rfl (fun H locs hP hD hS => ?_)
              obtain ⟨i26, e_i26⟩ : ∃ i26 : Nat → Int, i26 = fun k => [(i7 0), (i7 1), (i7 2), (i7 3), (v1 + 1), z13, 0, 0, (i7 8), (i7 9), (i7 10), (i7 11), (i7 12), (i7 13), (i7 14), (i7 15), (i7 16), (i7 17), (i7 18)].getD k 0 := ⟨_, rfl⟩
              have e_i26_0 : i26 0 = (i7 0) := by rw [e_i26]; rfl
              have e_i26_1 : i26 1 = (i7 1) := by rw [e_i26]; rfl
              have e_i26_2 : i26 2 = (i7 2) := by rw [e_i26]; rfl
              have e_i26_3 : i26 3 = (i7 3) := by rw [e_i26]; rfl
              have e_i26_4 : i26 4 = (v1 + 1) := by rw [e_i26]; rfl
              have e_i26_5 : i26 5 = z13 := by rw [e_i26]; rfl
              have e_i26_6 : i26 6 = 0 := by rw [e_i26]; rfl
              have e_i26_7 : i26 7 = 0 := by rw [e_i26]; rfl
              have e_i26_8 : i26 8 = (i7 8) := by rw [e_i26]; rfl
              have e_i26_9 : i26 9 = (i7 9) := by rw [e_i26]; rfl
              have e_i26_10 : i26 10 = (i7 10) := by rw [e_i26]; rfl
              have e_i26_11 : i26 11 = (i7 11) := by rw [e_i26]; rfl
              have e_i26_12 : i26 12 = (i7 12) := by rw [e_i26]; rfl
              have e_i26_13 : i26 13 = (i7 13) := by rw [e_i26]; rfl
              have e_i26_14 : i26 14 = (i7 14) := by rw [e_i26]; rfl
              have e_i26_15 : i26 15 = (i7 15) := by rw [e_i26]; rfl
              have e_i26_16 : i26 16 = (i7 16) := by rw [e_i26]; rfl
              have e_i26_17 : i26 17 = (i7 17) := by rw [e_i26]; rfl
              have e_i26_18 : i26 18 = (i7 18) := by rw [e_i26]; rfl
              have hO27 : ModS i26 := by have hold9 := hO8; refine ⟨⟨?_, ?_, ?_, ?_, ?_⟩, ⟨?_, ?_, ?_, ?_, ?_, ?_⟩, ⟨?_, ?_, ?_, ?_⟩⟩ <;> omega
              have hf28 := hO27
              have hP : va_P G vwCl [((q 1), .inl (cI, 8, .inl (fun k => zI (g_letters k)))), (y, .inr (9, [.int (zI (i26 0)), .ref (q 0), .int (zI (i26 1)), .int (zI (i26 2)), .int (zI (i26 3)), .int (zI (i26 4)), .int (zI (i26 5)), .int (zI (i26 6)), .int (zI (i26 7)), .int (zI (i26 8)), .int (zI (i26 9)), .int (zI (i26 10)), .ref (q 1), .int (zI (i26 11)), .int (zI (i26 12)), .ref (q 2), .ref (q 3), .ref (q 4), .ref (q 5), .ref (q 6), .ref (q 7), .ref (q 8), .ref (q 9), .ref (q 10), .ref (q 11), .ref (q 12), .ref (q 13), .ref (q 14), .ref (q 15), .ref (q 16), .int (zI (i26 13)), .int (zI (i26 14)), .int (zI (i26 15)), .int (zI (i26 16)), .int (zI (i26 17)), .int (zI (i26 18)), .ref (q 17), .ref (q 18), .ref (q 19), .ref (q 20)])), ((q 0), .inl (cI, 900, .inl (fun k => zI (g_tape k))))] H := by subst e_i26; exact hP
              have hD : va_D A [((q 1), .inl (cI, 8, .inl (fun k => zI (g_letters k)))), (y, .inr (9, [.int (zI (i26 0)), .ref (q 0), .int (zI (i26 1)), .int (zI (i26 2)), .int (zI (i26 3)), .int (zI (i26 4)), .int (zI (i26 5)), .int (zI (i26 6)), .int (zI (i26 7)), .int (zI (i26 8)), .int (zI (i26 9)), .int (zI (i26 10)), .ref (q 1), .int (zI (i26 11)), .int (zI (i26 12)), .ref (q 2), .ref (q 3), .ref (q 4), .ref (q 5), .ref (q 6), .ref (q 7), .ref (q 8), .ref (q 9), .ref (q 10), .ref (q 11), .ref (q 12), .ref (q 13), .ref (q 14), .ref (q 15), .ref (q 16), .int (zI (i26 13)), .int (zI (i26 14)), .int (zI (i26 15)), .int (zI (i26 16)), .int (zI (i26 17)), .int (zI (i26 18)), .ref (q 17), .ref (q 18), .ref (q 19), .ref (q 20)])), ((q 0), .inl (cI, 900, .inl (fun k => zI (g_tape k))))] := by subst e_i26; exact hD
              exact ret (fun k => [(i26, fun _ _ => 0), (fun _ => 0, fun _ => g_letters)].getD k (fun _ => 0, fun _ _ => 0)) _ _ _ _ _ _ ⟨⟨hO27, (show i26 5 = 2 → i26 7 ≤ 8 from fun q5 => by omega)⟩, hr_letters, ⟨(show i26 11 = i 11 ∧ i 4 ≤ i26 4 ∧ i26 1 = i 1 ∧ (i26 5 ≠ 0 → i 4 < i26 4) ∧ i26 14 = i 14 ∧ i26 16 = i 16 from by omega), (show TkR g_tape (i 2) (i 4) (i26 3) (i26 4) (i26 5) (i26 7) (i26 6) g_letters from TkR.to (TkR.sign (tk := i26 5) (sz := i26 7) (wh := i26 6) hst hcN.symm (by omega) (by unfold sSm; omega) (by unfold sDg; omega) (by omega)) (by omega) (by omega) (by omega) (by omega) (by omega)), (show i26 0 = i 0 ∧ i26 2 = i 2 ∧ i26 8 = i 8 ∧ i26 9 = i 9 ∧ i26 10 = i 10 ∧ i26 12 = i 12 ∧ i26 13 = i 13 ∧ i26 15 = i 15 ∧ i26 17 = i 17 ∧ i26 18 = i 18 from by omega)⟩⟩ (bw_subP (isC := [1, 2, 0]) hP rfl) (hD.sub [1, 2, 0] (by decide) rfl) hS (Nat.le_of_ble_eq_true rfl) (Nat.le_of_ble_eq_true rfl) dX9_next_247
            · refine lv_iload_n hx hb dX9_next_233 rfl (lv_at hl 0 rfl) ?_
              refine lv_bipush (v := zI 44) hx hb dX9_next_234 (by decide) ?_
              refine rz_icmp_ne (tgt := 243) F (by omega) (by omega) dX9_next_236 (by decide) (fun h236_28 => ?_) (fun h236_28 => ?_)
              · refine lv_iconst (v := zI 1) hx hb dX9_next_243 rfl ?_
                refine r_put F hK hP hD hS 1 6 rfl rfl in_X9 tyX9 tyX9_ok nmX9 (by decide) k_1169 rfl rfl rfl (Nat.le_of_ble_eq_true rfl) dX9_next_244 (w1 := [((q 1), .inl (cI, 8, .inl (fun k => zI (g_letters k)))), (y, .inr (9, [.int (zI (i7 0)), .ref (q 0), .int (zI (i7 1)), .int (zI (i7 2)), .int (zI (i7 3)), .int (zI (v1 + 1)), .int (zI 1), .int (zI 0), .int (zI 0), .int (zI (i7 8)), .int (zI (i7 9)), .int (zI (i7 10)), .ref (q 1), .int (zI (i7 11)), .int (zI (i7 12)), .ref (q 2), .ref (q 3), .ref (q 4), .ref (q 5), .ref (q 6), .ref (q 7), .ref (q 8), .ref (q 9), .ref (q 10), .ref (q 11), .ref (q 12), .ref (q 13), .ref (q 14), .ref (q 15), .ref (q 16), .int (zI (i7 13)), .int (zI (i7 14)), .int (zI (i7 15)), .int (zI (i7 16)), .int (zI (i7 17)), .int (zI (i7 18)), .ref (q 17), .ref (q 18), .ref (q 19), .ref (q 20)])), ((q 0), .inl (cI, 900, .inl (fun k => zI (g_tape k))))]) rfl (fun H locs hP hD hS => ?_)
                obtain ⟨i30, e_i30⟩ : ∃ i30 : Nat → Int, i30 = fun k => [(i7 0), (i7 1), (i7 2), (i7 3), (v1 + 1), 1, 0, 0, (i7 8), (i7 9), (i7 10), (i7 11), (i7 12), (i7 13), (i7 14), (i7 15), (i7 16), (i7 17), (i7 18)].getD k 0 := ⟨_, rfl⟩
                have e_i30_0 : i30 0 = (i7 0) := by rw [e_i30]; rfl
                have e_i30_1 : i30 1 = (i7 1) := by rw [e_i30]; rfl
                have e_i30_2 : i30 2 = (i7 2) := by rw [e_i30]; rfl
                have e_i30_3 : i30 3 = (i7 3) := by rw [e_i30]; rfl
                have e_i30_4 : i30 4 = (v1 + 1) := by rw [e_i30]; rfl
                have e_i30_5 : i30 5 = 1 := by rw [e_i30]; rfl
                have e_i30_6 : i30 6 = 0 := by rw [e_i30]; rfl
                have e_i30_7 : i30 7 = 0 := by rw [e_i30]; rfl
                have e_i30_8 : i30 8 = (i7 8) := by rw [e_i30]; rfl
                have e_i30_9 : i30 9 = (i7 9) := by rw [e_i30]; rfl
                have e_i30_10 : i30 10 = (i7 10) := by rw [e_i30]; rfl
                have e_i30_11 : i30 11 = (i7 11) := by rw [e_i30]; rfl
                have e_i30_12 : i30 12 = (i7 12) := by rw [e_i30]; rfl
                have e_i30_13 : i30 13 = (i7 13) := by rw [e_i30]; rfl
                have e_i30_14 : i30 14 = (i7 14) := by rw [e_i30]; rfl
                have e_i30_15 : i30 15 = (i7 15) := by rw [e_i30]; rfl
                have e_i30_16 : i30 16 = (i7 16) := by rw [e_i30]; rfl
                have e_i30_17 : i30 17 = (i7 17) := by rw [e_i30]; rfl
                have e_i30_18 : i30 18 = (i7 18) := by rw [e_i30]; rfl
                have hO31 : ModS i30 := by have hold9 := hO8; refine ⟨⟨?_, ?_, ?_, ?_, ?_⟩, ⟨?_, ?_, ?_, ?_, ?_, ?_⟩, ⟨?_, ?_, ?_, ?_⟩⟩ <;> omega
                have hf32 := hO31
                have hP : va_P G vwCl [((q 1), .inl (cI, 8, .inl (fun k => zI (g_letters k)))), (y, .inr (9, [.int (zI (i30 0)), .ref (q 0), .int (zI (i30 1)), .int (zI (i30 2)), .int (zI (i30 3)), .int (zI (i30 4)), .int (zI (i30 5)), .int (zI (i30 6)), .int (zI (i30 7)), .int (zI (i30 8)), .int (zI (i30 9)), .int (zI (i30 10)), .ref (q 1), .int (zI (i30 11)), .int (zI (i30 12)), .ref (q 2), .ref (q 3), .ref (q 4), .ref (q 5), .ref (q 6), .ref (q 7), .ref (q 8), .ref (q 9), .ref (q 10), .ref (q 11), .ref (q 12), .ref (q 13), .ref (q 14), .ref (q 15), .ref (q 16), .int (zI (i30 13)), .int (zI (i30 14)), .int (zI (i30 15)), .int (zI (i30 16)), .int (zI (i30 17)), .int (zI (i30 18)), .ref (q 17), .ref (q 18), .ref (q 19), .ref (q 20)])), ((q 0), .inl (cI, 900, .inl (fun k => zI (g_tape k))))] H := by subst e_i30; exact hP
                have hD : va_D A [((q 1), .inl (cI, 8, .inl (fun k => zI (g_letters k)))), (y, .inr (9, [.int (zI (i30 0)), .ref (q 0), .int (zI (i30 1)), .int (zI (i30 2)), .int (zI (i30 3)), .int (zI (i30 4)), .int (zI (i30 5)), .int (zI (i30 6)), .int (zI (i30 7)), .int (zI (i30 8)), .int (zI (i30 9)), .int (zI (i30 10)), .ref (q 1), .int (zI (i30 11)), .int (zI (i30 12)), .ref (q 2), .ref (q 3), .ref (q 4), .ref (q 5), .ref (q 6), .ref (q 7), .ref (q 8), .ref (q 9), .ref (q 10), .ref (q 11), .ref (q 12), .ref (q 13), .ref (q 14), .ref (q 15), .ref (q 16), .int (zI (i30 13)), .int (zI (i30 14)), .int (zI (i30 15)), .int (zI (i30 16)), .int (zI (i30 17)), .int (zI (i30 18)), .ref (q 17), .ref (q 18), .ref (q 19), .ref (q 20)])), ((q 0), .inl (cI, 900, .inl (fun k => zI (g_tape k))))] := by subst e_i30; exact hD
                exact ret (fun k => [(i30, fun _ _ => 0), (fun _ => 0, fun _ => g_letters)].getD k (fun _ => 0, fun _ _ => 0)) _ _ _ _ _ _ ⟨⟨hO31, (show i30 5 = 2 → i30 7 ≤ 8 from fun q5 => by omega)⟩, hr_letters, ⟨(show i30 11 = i 11 ∧ i 4 ≤ i30 4 ∧ i30 1 = i 1 ∧ (i30 5 ≠ 0 → i 4 < i30 4) ∧ i30 14 = i 14 ∧ i30 16 = i 16 from by omega), (show TkR g_tape (i 2) (i 4) (i30 3) (i30 4) (i30 5) (i30 7) (i30 6) g_letters from TkR.to (TkR.sign (tk := i30 5) (sz := i30 7) (wh := i30 6) hst hcN.symm (by omega) (by unfold sSm; omega) (by unfold sDg; omega) (by omega)) (by omega) (by omega) (by omega) (by omega) (by omega)), (show i30 0 = i 0 ∧ i30 2 = i 2 ∧ i30 8 = i 8 ∧ i30 9 = i 9 ∧ i30 10 = i 10 ∧ i30 12 = i 12 ∧ i30 13 = i 13 ∧ i30 15 = i 15 ∧ i30 17 = i 17 ∧ i30 18 = i 18 from by omega)⟩⟩ (bw_subP (isC := [1, 2, 0]) hP rfl) (hD.sub [1, 2, 0] (by decide) rfl) hS (Nat.le_of_ble_eq_true rfl) (Nat.le_of_ble_eq_true rfl) dX9_next_247
              · refine lv_iload_n hx hb dX9_next_239 rfl (lv_at hl 0 rfl) ?_
                refine lv_goto (tgt := 244) hx hb dX9_next_240 (by decide) ?_
                refine r_put F hK hP hD hS 1 6 rfl rfl in_X9 tyX9 tyX9_ok nmX9 (by decide) k_1169 rfl rfl rfl (Nat.le_of_ble_eq_true rfl) dX9_next_244 (w1 := [((q 1), .inl (cI, 8, .inl (fun k => zI (g_letters k)))), (y, .inr (9, [.int (zI (i7 0)), .ref (q 0), .int (zI (i7 1)), .int (zI (i7 2)), .int (zI (i7 3)), .int (zI (v1 + 1)), .int (zI z13), .int (zI 0), .int (zI 0), .int (zI (i7 8)), .int (zI (i7 9)), .int (zI (i7 10)), .ref (q 1), .int (zI (i7 11)), .int (zI (i7 12)), .ref (q 2), .ref (q 3), .ref (q 4), .ref (q 5), .ref (q 6), .ref (q 7), .ref (q 8), .ref (q 9), .ref (q 10), .ref (q 11), .ref (q 12), .ref (q 13), .ref (q 14), .ref (q 15), .ref (q 16), .int (zI (i7 13)), .int (zI (i7 14)), .int (zI (i7 15)), .int (zI (i7 16)), .int (zI (i7 17)), .int (zI (i7 18)), .ref (q 17), .ref (q 18), .ref (q 19), .ref (q 20)])), ((q 0), .inl (cI, 900, .inl (fun k => zI (g_tape k))))]) rfl (fun H locs hP hD hS => ?_)
                obtain ⟨i33, e_i33⟩ : ∃ i33 : Nat → Int, i33 = fun k => [(i7 0), (i7 1), (i7 2), (i7 3), (v1 + 1), z13, 0, 0, (i7 8), (i7 9), (i7 10), (i7 11), (i7 12), (i7 13), (i7 14), (i7 15), (i7 16), (i7 17), (i7 18)].getD k 0 := ⟨_, rfl⟩
                have e_i33_0 : i33 0 = (i7 0) := by rw [e_i33]; rfl
                have e_i33_1 : i33 1 = (i7 1) := by rw [e_i33]; rfl
                have e_i33_2 : i33 2 = (i7 2) := by rw [e_i33]; rfl
                have e_i33_3 : i33 3 = (i7 3) := by rw [e_i33]; rfl
                have e_i33_4 : i33 4 = (v1 + 1) := by rw [e_i33]; rfl
                have e_i33_5 : i33 5 = z13 := by rw [e_i33]; rfl
                have e_i33_6 : i33 6 = 0 := by rw [e_i33]; rfl
                have e_i33_7 : i33 7 = 0 := by rw [e_i33]; rfl
                have e_i33_8 : i33 8 = (i7 8) := by rw [e_i33]; rfl
                have e_i33_9 : i33 9 = (i7 9) := by rw [e_i33]; rfl
                have e_i33_10 : i33 10 = (i7 10) := by rw [e_i33]; rfl
                have e_i33_11 : i33 11 = (i7 11) := by rw [e_i33]; rfl
                have e_i33_12 : i33 12 = (i7 12) := by rw [e_i33]; rfl
                have e_i33_13 : i33 13 = (i7 13) := by rw [e_i33]; rfl
                have e_i33_14 : i33 14 = (i7 14) := by rw [e_i33]; rfl
                have e_i33_15 : i33 15 = (i7 15) := by rw [e_i33]; rfl
                have e_i33_16 : i33 16 = (i7 16) := by rw [e_i33]; rfl
                have e_i33_17 : i33 17 = (i7 17) := by rw [e_i33]; rfl
                have e_i33_18 : i33 18 = (i7 18) := by rw [e_i33]; rfl
                have hO34 : ModS i33 := by have hold9 := hO8; refine ⟨⟨?_, ?_, ?_, ?_, ?_⟩, ⟨?_, ?_, ?_, ?_, ?_, ?_⟩, ⟨?_, ?_, ?_, ?_⟩⟩ <;> omega
                have hf35 := hO34
                have hP : va_P G vwCl [((q 1), .inl (cI, 8, .inl (fun k => zI (g_letters k)))), (y, .inr (9, [.int (zI (i33 0)), .ref (q 0), .int (zI (i33 1)), .int (zI (i33 2)), .int (zI (i33 3)), .int (zI (i33 4)), .int (zI (i33 5)), .int (zI (i33 6)), .int (zI (i33 7)), .int (zI (i33 8)), .int (zI (i33 9)), .int (zI (i33 10)), .ref (q 1), .int (zI (i33 11)), .int (zI (i33 12)), .ref (q 2), .ref (q 3), .ref (q 4), .ref (q 5), .ref (q 6), .ref (q 7), .ref (q 8), .ref (q 9), .ref (q 10), .ref (q 11), .ref (q 12), .ref (q 13), .ref (q 14), .ref (q 15), .ref (q 16), .int (zI (i33 13)), .int (zI (i33 14)), .int (zI (i33 15)), .int (zI (i33 16)), .int (zI (i33 17)), .int (zI (i33 18)), .ref (q 17), .ref (q 18), .ref (q 19), .ref (q 20)])), ((q 0), .inl (cI, 900, .inl (fun k => zI (g_tape k))))] H := by subst e_i33; exact hP
                have hD : va_D A [((q 1), .inl (cI, 8, .inl (fun k => zI (g_letters k)))), (y, .inr (9, [.int (zI (i33 0)), .ref (q 0), .int (zI (i33 1)), .int (zI (i33 2)), .int (zI (i33 3)), .int (zI (i33 4)), .int (zI (i33 5)), .int (zI (i33 6)), .int (zI (i33 7)), .int (zI (i33 8)), .int (zI (i33 9)), .int (zI (i33 10)), .ref (q 1), .int (zI (i33 11)), .int (zI (i33 12)), .ref (q 2), .ref (q 3), .ref (q 4), .ref (q 5), .ref (q 6), .ref (q 7), .ref (q 8), .ref (q 9), .ref (q 10), .ref (q 11), .ref (q 12), .ref (q 13), .ref (q 14), .ref (q 15), .ref (q 16), .int (zI (i33 13)), .int (zI (i33 14)), .int (zI (i33 15)), .int (zI (i33 16)), .int (zI (i33 17)), .int (zI (i33 18)), .ref (q 17), .ref (q 18), .ref (q 19), .ref (q 20)])), ((q 0), .inl (cI, 900, .inl (fun k => zI (g_tape k))))] := by subst e_i33; exact hD
                exact ret (fun k => [(i33, fun _ _ => 0), (fun _ => 0, fun _ => g_letters)].getD k (fun _ => 0, fun _ _ => 0)) _ _ _ _ _ _ ⟨⟨hO34, (show i33 5 = 2 → i33 7 ≤ 8 from fun q5 => by omega)⟩, hr_letters, ⟨(show i33 11 = i 11 ∧ i 4 ≤ i33 4 ∧ i33 1 = i 1 ∧ (i33 5 ≠ 0 → i 4 < i33 4) ∧ i33 14 = i 14 ∧ i33 16 = i 16 from by omega), (show TkR g_tape (i 2) (i 4) (i33 3) (i33 4) (i33 5) (i33 7) (i33 6) g_letters from TkR.to (TkR.sign (tk := i33 5) (sz := i33 7) (wh := i33 6) hst hcN.symm (by omega) (by unfold sSm; omega) (by unfold sDg; omega) (by omega)) (by omega) (by omega) (by omega) (by omega) (by omega)), (show i33 0 = i 0 ∧ i33 2 = i 2 ∧ i33 8 = i 8 ∧ i33 9 = i 9 ∧ i33 10 = i 10 ∧ i33 12 = i 12 ∧ i33 13 = i 13 ∧ i33 15 = i 15 ∧ i33 17 = i 17 ∧ i33 18 = i 18 from by omega)⟩⟩ (bw_subP (isC := [1, 2, 0]) hP rfl) (hD.sub [1, 2, 0] (by decide) rfl) hS (Nat.le_of_ble_eq_true rfl) (Nat.le_of_ble_eq_true rfl) dX9_next_247
          · refine lv_iconst (v := zI 0) hx hb dX9_next_150 rfl ?_
            refine lv_istore_n (lv' := [(3, .int (zI 0)), (2, .int (zI z13)), (1, .int (zI v1)), (0, .ref y)]) hx hb dX9_next_151 rfl hl (by decide) rfl (fun ls hl => ?_)
            obtain ⟨i36, e_i36⟩ : ∃ i36 : Nat → Int, i36 = fun k => [(i7 0), (i7 1), (i7 2), (i7 3), (i7 4), (i7 5), 0, 0, (i7 8), (i7 9), (i7 10), (i7 11), (i7 12), (i7 13), (i7 14), (i7 15), (i7 16), (i7 17), (i7 18)].getD k 0 := ⟨_, rfl⟩
            have e_i36_0 : i36 0 = (i7 0) := by rw [e_i36]; rfl
            have e_i36_1 : i36 1 = (i7 1) := by rw [e_i36]; rfl
            have e_i36_2 : i36 2 = (i7 2) := by rw [e_i36]; rfl
            have e_i36_3 : i36 3 = (i7 3) := by rw [e_i36]; rfl
            have e_i36_4 : i36 4 = (i7 4) := by rw [e_i36]; rfl
            have e_i36_5 : i36 5 = (i7 5) := by rw [e_i36]; rfl
            have e_i36_6 : i36 6 = 0 := by rw [e_i36]; rfl
            have e_i36_7 : i36 7 = 0 := by rw [e_i36]; rfl
            have e_i36_8 : i36 8 = (i7 8) := by rw [e_i36]; rfl
            have e_i36_9 : i36 9 = (i7 9) := by rw [e_i36]; rfl
            have e_i36_10 : i36 10 = (i7 10) := by rw [e_i36]; rfl
            have e_i36_11 : i36 11 = (i7 11) := by rw [e_i36]; rfl
            have e_i36_12 : i36 12 = (i7 12) := by rw [e_i36]; rfl
            have e_i36_13 : i36 13 = (i7 13) := by rw [e_i36]; rfl
            have e_i36_14 : i36 14 = (i7 14) := by rw [e_i36]; rfl
            have e_i36_15 : i36 15 = (i7 15) := by rw [e_i36]; rfl
            have e_i36_16 : i36 16 = (i7 16) := by rw [e_i36]; rfl
            have e_i36_17 : i36 17 = (i7 17) := by rw [e_i36]; rfl
            have e_i36_18 : i36 18 = (i7 18) := by rw [e_i36]; rfl
            have hO37 : ModS i36 := by have hold9 := hO8; refine ⟨⟨?_, ?_, ?_, ?_, ?_⟩, ⟨?_, ?_, ?_, ?_, ?_, ?_⟩, ⟨?_, ?_, ?_, ?_⟩⟩ <;> omega
            have hf38 := hO37
            have hP : va_P G vwCl [((q 1), .inl (cI, 8, .inl (fun k => zI (g_letters k)))), (y, .inr (9, [.int (zI (i36 0)), .ref (q 0), .int (zI (i36 1)), .int (zI (i36 2)), .int (zI (i36 3)), .int (zI (i36 4)), .int (zI (i36 5)), .int (zI (i36 6)), .int (zI (i36 7)), .int (zI (i36 8)), .int (zI (i36 9)), .int (zI (i36 10)), .ref (q 1), .int (zI (i36 11)), .int (zI (i36 12)), .ref (q 2), .ref (q 3), .ref (q 4), .ref (q 5), .ref (q 6), .ref (q 7), .ref (q 8), .ref (q 9), .ref (q 10), .ref (q 11), .ref (q 12), .ref (q 13), .ref (q 14), .ref (q 15), .ref (q 16), .int (zI (i36 13)), .int (zI (i36 14)), .int (zI (i36 15)), .int (zI (i36 16)), .int (zI (i36 17)), .int (zI (i36 18)), .ref (q 17), .ref (q 18), .ref (q 19), .ref (q 20)])), ((q 0), .inl (cI, 900, .inl (fun k => zI (g_tape k))))] H := by subst e_i36; exact hP
            have hD : va_D A [((q 1), .inl (cI, 8, .inl (fun k => zI (g_letters k)))), (y, .inr (9, [.int (zI (i36 0)), .ref (q 0), .int (zI (i36 1)), .int (zI (i36 2)), .int (zI (i36 3)), .int (zI (i36 4)), .int (zI (i36 5)), .int (zI (i36 6)), .int (zI (i36 7)), .int (zI (i36 8)), .int (zI (i36 9)), .int (zI (i36 10)), .ref (q 1), .int (zI (i36 11)), .int (zI (i36 12)), .ref (q 2), .ref (q 3), .ref (q 4), .ref (q 5), .ref (q 6), .ref (q 7), .ref (q 8), .ref (q 9), .ref (q 10), .ref (q 11), .ref (q 12), .ref (q 13), .ref (q 14), .ref (q 15), .ref (q 16), .int (zI (i36 13)), .int (zI (i36 14)), .int (zI (i36 15)), .int (zI (i36 16)), .int (zI (i36 17)), .int (zI (i36 18)), .ref (q 17), .ref (q 18), .ref (q 19), .ref (q 20)])), ((q 0), .inl (cI, 900, .inl (fun k => zI (g_tape k))))] := by subst e_i36; exact hD
            refine W.widen (k := 0) (n := 0) (Nat.le_of_ble_eq_true rfl) (Nat.le_of_ble_eq_true rfl) ?_
            refine (?_ : ∀ (n9_2 : Nat) (w1 : Int) (w3 : Int) (ii : Nat → Int) (H : Heap) (locs : List Loc), (0 ≤ w3 ∧ w3 ≤ w1 ∧ w3 = w1 - v1 ∧ ii 7 = 0 ∧ i 4 ≤ v1 ∧ v1 ≤ w1 ∧ w1 ≤ 900 ∧ ii 11 = i 11 ∧ ii 1 = i 1 ∧ ii 2 = i 2 ∧ ii 14 = i 14 ∧ ii 16 = i 16 ∧ ii 3 = v1 ∧ ii 0 = i 0 ∧ ii 8 = i 8 ∧ ii 9 = i 9 ∧ ii 10 = i 10 ∧ ii 12 = i 12 ∧ ii 13 = i 13 ∧ ii 15 = i 15 ∧ ii 17 = i 17 ∧ ii 18 = i 18) → (901 - w1 : Int).toNat < n9_2 → (ModS ii) → (∀ j : Int, v1 ≤ j → j < w1 → sDg (lk g_tape (i 2) j)) → (w1 - v1 ≤ 3 → ii 6 = val g_tape v1 w1) → va_P G vwCl [((q 1), .inl (cI, 8, .inl (fun k => zI (g_letters k)))), (y, .inr (9, [.int (zI (ii 0)), .ref (q 0), .int (zI (ii 1)), .int (zI (ii 2)), .int (zI (ii 3)), .int (zI (ii 4)), .int (zI (ii 5)), .int (zI (ii 6)), .int (zI (ii 7)), .int (zI (ii 8)), .int (zI (ii 9)), .int (zI (ii 10)), .ref (q 1), .int (zI (ii 11)), .int (zI (ii 12)), .ref (q 2), .ref (q 3), .ref (q 4), .ref (q 5), .ref (q 6), .ref (q 7), .ref (q 8), .ref (q 9), .ref (q 10), .ref (q 11), .ref (q 12), .ref (q 13), .ref (q 14), .ref (q 15), .ref (q 16), .int (zI (ii 13)), .int (zI (ii 14)), .int (zI (ii 15)), .int (zI (ii 16)), .int (zI (ii 17)), .int (zI (ii 18)), .ref (q 17), .ref (q 18), .ref (q 19), .ref (q 20)])), ((q 0), .inl (cI, 900, .inl (fun k => zI (g_tape k))))] H → va_D A [((q 1), .inl (cI, 8, .inl (fun k => zI (g_letters k)))), (y, .inr (9, [.int (zI (ii 0)), .ref (q 0), .int (zI (ii 1)), .int (zI (ii 2)), .int (zI (ii 3)), .int (zI (ii 4)), .int (zI (ii 5)), .int (zI (ii 6)), .int (zI (ii 7)), .int (zI (ii 8)), .int (zI (ii 9)), .int (zI (ii 10)), .ref (q 1), .int (zI (ii 11)), .int (zI (ii 12)), .ref (q 2), .ref (q 3), .ref (q 4), .ref (q 5), .ref (q 6), .ref (q 7), .ref (q 8), .ref (q 9), .ref (q 10), .ref (q 11), .ref (q 12), .ref (q 13), .ref (q 14), .ref (q 15), .ref (q 16), .int (zI (ii 13)), .int (zI (ii 14)), .int (zI (ii 15)), .int (zI (ii 16)), .int (zI (ii 17)), .int (zI (ii 18)), .ref (q 17), .ref (q 18), .ref (q 19), .ref (q 20)])), ((q 0), .inl (cI, 900, .inl (fun k => zI (g_tape k))))] → va_S A s.heap H locs → ∀ ls : Array Slot, lv_has ls 4 [(3, .int (zI w3)), (2, .int (zI z13)), (1, .int (zI w1)), (0, .ref y)] → W p l e rm_X9_nextX s m ([.ref y] : List Value).toArray below meth c H locs 0 0 Q (F0 m 152 ls [])) ((901 - v1 : Int).toNat + 1) v1 0 i36 _ _ (by omega) (by omega) hO37 (fun j h1 h2 => absurd h2 (by omega)) (fun _ => by rw [val_0]; omega) hP hD hS ls hl
            clear hP hD hS hl ls
            intro n9_2
            induction n9_2 with
            | zero =>
              intro w1 w3 ii H locs hI hM
              exact absurd hM (by omega)
            | succ n9_2 ih2 =>
              intro w1 w3 ii H locs hI2 hM2 hG hrun2 hv hP hD hS ls hl
              have hf39 := hG
              refine lv_aload_n hx hb dX9_next_152 rfl (lv_at hl 3 rfl) ?_
              refine lv_iload_n hx hb dX9_next_153 rfl (lv_at hl 2 rfl) ?_
              refine r_callVi (As := [.int (zI w1)]) (rest := []) (wr := [((q 1), .inl (cI, 8, .inl (fun k => zI (g_letters k))))]) F hK hP hD hS hA hO hE (c_X9_look hO y q ii hG g_tape hr_tape w1 (by omega) (by omega)) k_1307 kv_X9_look 1 rfl (by decide +kernel) ⟨Nat.le_of_ble_eq_true rfl, Nat.le_of_ble_eq_true rfl⟩ [1, 2] [0] rfl rfl (by decide) (by decide) (by decide) 0 9 rfl rfl rfl hl.1 rfl (Nat.le_of_ble_eq_true rfl) dX9_next_154 ⟨Nat.le_of_ble_eq_true rfl, Nat.le_of_ble_eq_true rfl⟩ (w1 := fun u40 => [((q 1), .inl (cI, 8, .inl (fun k => zI (g_letters k)))), (y, .inr (9, [.int (zI (ii 0)), .ref (q 0), .int (zI (ii 1)), .int (zI (ii 2)), .int (zI (ii 3)), .int (zI (ii 4)), .int (zI (ii 5)), .int (zI (ii 6)), .int (zI (ii 7)), .int (zI (ii 8)), .int (zI (ii 9)), .int (zI (ii 10)), .ref (q 1), .int (zI (ii 11)), .int (zI (ii 12)), .ref (q 2), .ref (q 3), .ref (q 4), .ref (q 5), .ref (q 6), .ref (q 7), .ref (q 8), .ref (q 9), .ref (q 10), .ref (q 11), .ref (q 12), .ref (q 13), .ref (q 14), .ref (q 15), .ref (q 16), .int (zI (ii 13)), .int (zI (ii 14)), .int (zI (ii 15)), .int (zI (ii 16)), .int (zI (ii 17)), .int (zI (ii 18)), .ref (q 17), .ref (q 18), .ref (q 19), .ref (q 20)])), ((q 0), .inl (cI, 900, .inl (fun k => zI (g_tape k))))]) (fun _ => rfl) (fun r41 u40 H locs hp42 hP hD hS => ?_)
              obtain ⟨z43, rfl, h_z43⟩ := hp42
              have hlk9 : w1 = v1 → z43 = z13 := fun q9 => (h_z43.1).trans ((lk_congr (by omega) q9).trans (h_z13.1).symm)
              have hl8 : z43 = lk g_tape (i 2) w1 := h_z43.1.trans (lk_congr (by omega) rfl)
              refine r_callSi (As := [.int (zI z43)]) (rest := []) (wr := [((q 1), .inl (cI, 8, .inl (fun k => zI (g_letters k)))), (y, .inr (9, [.int (zI (ii 0)), .ref (q 0), .int (zI (ii 1)), .int (zI (ii 2)), .int (zI (ii 3)), .int (zI (ii 4)), .int (zI (ii 5)), .int (zI (ii 6)), .int (zI (ii 7)), .int (zI (ii 8)), .int (zI (ii 9)), .int (zI (ii 10)), .ref (q 1), .int (zI (ii 11)), .int (zI (ii 12)), .ref (q 2), .ref (q 3), .ref (q 4), .ref (q 5), .ref (q 6), .ref (q 7), .ref (q 8), .ref (q 9), .ref (q 10), .ref (q 11), .ref (q 12), .ref (q 13), .ref (q 14), .ref (q 15), .ref (q 16), .int (zI (ii 13)), .int (zI (ii 14)), .int (zI (ii 15)), .int (zI (ii 16)), .int (zI (ii 17)), .int (zI (ii 18)), .ref (q 17), .ref (q 18), .ref (q 19), .ref (q 20)])), ((q 0), .inl (cI, 900, .inl (fun k => zI (g_tape k))))]) F hK hP hD hS hA hO hE (c_X9_isDigit hO z43 (by omega)) k_1314 ks_X9_isDigit 1 rfl (by decide +kernel) ⟨Nat.le_of_ble_eq_true rfl, Nat.le_of_ble_eq_true rfl⟩ [] [0, 1, 2] rfl rfl (by decide) (by decide) (by decide) hl.1 rfl (Nat.le_of_ble_eq_true rfl) dX9_next_157 ⟨Nat.le_of_ble_eq_true rfl, Nat.le_of_ble_eq_true rfl⟩ (w1 := fun u44 => [((q 1), .inl (cI, 8, .inl (fun k => zI (g_letters k)))), (y, .inr (9, [.int (zI (ii 0)), .ref (q 0), .int (zI (ii 1)), .int (zI (ii 2)), .int (zI (ii 3)), .int (zI (ii 4)), .int (zI (ii 5)), .int (zI (ii 6)), .int (zI (ii 7)), .int (zI (ii 8)), .int (zI (ii 9)), .int (zI (ii 10)), .ref (q 1), .int (zI (ii 11)), .int (zI (ii 12)), .ref (q 2), .ref (q 3), .ref (q 4), .ref (q 5), .ref (q 6), .ref (q 7), .ref (q 8), .ref (q 9), .ref (q 10), .ref (q 11), .ref (q 12), .ref (q 13), .ref (q 14), .ref (q 15), .ref (q 16), .int (zI (ii 13)), .int (zI (ii 14)), .int (zI (ii 15)), .int (zI (ii 16)), .int (zI (ii 17)), .int (zI (ii 18)), .ref (q 17), .ref (q 18), .ref (q 19), .ref (q 20)])), ((q 0), .inl (cI, 900, .inl (fun k => zI (g_tape k))))]) (fun _ => rfl) (fun r45 u44 H locs hp46 hP hD hS => ?_)
              obtain ⟨z47, rfl, h_z47⟩ := hp46
              refine rz_ifb_eq (tgt := 197) F (by omega) dX9_next_160 (by decide) (fun h160_47 => ?_) (fun h160_47 => ?_)
              · refine lv_aload_n hx hb dX9_next_197 rfl (lv_at hl 3 rfl) ?_
                have hst2 : Stop sDg g_tape (i 2) v1 w1 := ⟨by omega, hrun2, by unfold sDg; rw [← hl8]; omega⟩
                have hdgC : sDg (lk g_tape (i 2) v1) := by unfold sDg; rw [← hcN]; omega
                refine lv_iload_n hx hb dX9_next_198 rfl (lv_at hl 2 rfl) ?_
                refine r_put F hK hP hD hS 1 5 rfl rfl in_X9 tyX9 tyX9_ok nmX9 (by decide) k_1168 rfl rfl rfl (Nat.le_of_ble_eq_true rfl) dX9_next_199 (w1 := [((q 1), .inl (cI, 8, .inl (fun k => zI (g_letters k)))), (y, .inr (9, [.int (zI (ii 0)), .ref (q 0), .int (zI (ii 1)), .int (zI (ii 2)), .int (zI (ii 3)), .int (zI w1), .int (zI (ii 5)), .int (zI (ii 6)), .int (zI (ii 7)), .int (zI (ii 8)), .int (zI (ii 9)), .int (zI (ii 10)), .ref (q 1), .int (zI (ii 11)), .int (zI (ii 12)), .ref (q 2), .ref (q 3), .ref (q 4), .ref (q 5), .ref (q 6), .ref (q 7), .ref (q 8), .ref (q 9), .ref (q 10), .ref (q 11), .ref (q 12), .ref (q 13), .ref (q 14), .ref (q 15), .ref (q 16), .int (zI (ii 13)), .int (zI (ii 14)), .int (zI (ii 15)), .int (zI (ii 16)), .int (zI (ii 17)), .int (zI (ii 18)), .ref (q 17), .ref (q 18), .ref (q 19), .ref (q 20)])), ((q 0), .inl (cI, 900, .inl (fun k => zI (g_tape k))))]) rfl (fun H locs hP hD hS => ?_)
                refine lv_aload_n hx hb dX9_next_202 rfl (lv_at hl 3 rfl) ?_
                refine lv_iload_n hx hb dX9_next_203 rfl (lv_at hl 0 rfl) ?_
                refine lv_iconst (v := zI 3) hx hb dX9_next_204 rfl ?_
                refine rz_icmp_le (tgt := 212) F (by omega) (by omega) dX9_next_205 (by decide) (fun h205_48 => ?_) (fun h205_48 => ?_)
                · refine lv_iconst (v := zI 3) hx hb dX9_next_212 rfl ?_
                  refine r_put F hK hP hD hS 1 6 rfl rfl in_X9 tyX9 tyX9_ok nmX9 (by decide) k_1169 rfl rfl rfl (Nat.le_of_ble_eq_true rfl) dX9_next_213 (w1 := [((q 1), .inl (cI, 8, .inl (fun k => zI (g_letters k)))), (y, .inr (9, [.int (zI (ii 0)), .ref (q 0), .int (zI (ii 1)), .int (zI (ii 2)), .int (zI (ii 3)), .int (zI w1), .int (zI 3), .int (zI (ii 6)), .int (zI (ii 7)), .int (zI (ii 8)), .int (zI (ii 9)), .int (zI (ii 10)), .ref (q 1), .int (zI (ii 11)), .int (zI (ii 12)), .ref (q 2), .ref (q 3), .ref (q 4), .ref (q 5), .ref (q 6), .ref (q 7), .ref (q 8), .ref (q 9), .ref (q 10), .ref (q 11), .ref (q 12), .ref (q 13), .ref (q 14), .ref (q 15), .ref (q 16), .int (zI (ii 13)), .int (zI (ii 14)), .int (zI (ii 15)), .int (zI (ii 16)), .int (zI (ii 17)), .int (zI (ii 18)), .ref (q 17), .ref (q 18), .ref (q 19), .ref (q 20)])), ((q 0), .inl (cI, 900, .inl (fun k => zI (g_tape k))))]) rfl (fun H locs hP hD hS => ?_)
                  refine lv_goto (tgt := 247) hx hb dX9_next_216 (by decide) ?_
                  obtain ⟨i50, e_i50⟩ : ∃ i50 : Nat → Int, i50 = fun k => [(ii 0), (ii 1), (ii 2), (ii 3), w1, 3, (ii 6), (ii 7), (ii 8), (ii 9), (ii 10), (ii 11), (ii 12), (ii 13), (ii 14), (ii 15), (ii 16), (ii 17), (ii 18)].getD k 0 := ⟨_, rfl⟩
                  have e_i50_0 : i50 0 = (ii 0) := by rw [e_i50]; rfl
                  have e_i50_1 : i50 1 = (ii 1) := by rw [e_i50]; rfl
                  have e_i50_2 : i50 2 = (ii 2) := by rw [e_i50]; rfl
                  have e_i50_3 : i50 3 = (ii 3) := by rw [e_i50]; rfl
                  have e_i50_4 : i50 4 = w1 := by rw [e_i50]; rfl
                  have e_i50_5 : i50 5 = 3 := by rw [e_i50]; rfl
                  have e_i50_6 : i50 6 = (ii 6) := by rw [e_i50]; rfl
                  have e_i50_7 : i50 7 = (ii 7) := by rw [e_i50]; rfl
                  have e_i50_8 : i50 8 = (ii 8) := by rw [e_i50]; rfl
                  have e_i50_9 : i50 9 = (ii 9) := by rw [e_i50]; rfl
                  have e_i50_10 : i50 10 = (ii 10) := by rw [e_i50]; rfl
                  have e_i50_11 : i50 11 = (ii 11) := by rw [e_i50]; rfl
                  have e_i50_12 : i50 12 = (ii 12) := by rw [e_i50]; rfl
                  have e_i50_13 : i50 13 = (ii 13) := by rw [e_i50]; rfl
                  have e_i50_14 : i50 14 = (ii 14) := by rw [e_i50]; rfl
                  have e_i50_15 : i50 15 = (ii 15) := by rw [e_i50]; rfl
                  have e_i50_16 : i50 16 = (ii 16) := by rw [e_i50]; rfl
                  have e_i50_17 : i50 17 = (ii 17) := by rw [e_i50]; rfl
                  have e_i50_18 : i50 18 = (ii 18) := by rw [e_i50]; rfl
                  have hO51 : ModS i50 := by have hold9 := hG; refine ⟨⟨?_, ?_, ?_, ?_, ?_⟩, ⟨?_, ?_, ?_, ?_, ?_, ?_⟩, ⟨?_, ?_, ?_, ?_⟩⟩ <;> omega
                  have hf52 := hO51
                  have hP : va_P G vwCl [((q 1), .inl (cI, 8, .inl (fun k => zI (g_letters k)))), (y, .inr (9, [.int (zI (i50 0)), .ref (q 0), .int (zI (i50 1)), .int (zI (i50 2)), .int (zI (i50 3)), .int (zI (i50 4)), .int (zI (i50 5)), .int (zI (i50 6)), .int (zI (i50 7)), .int (zI (i50 8)), .int (zI (i50 9)), .int (zI (i50 10)), .ref (q 1), .int (zI (i50 11)), .int (zI (i50 12)), .ref (q 2), .ref (q 3), .ref (q 4), .ref (q 5), .ref (q 6), .ref (q 7), .ref (q 8), .ref (q 9), .ref (q 10), .ref (q 11), .ref (q 12), .ref (q 13), .ref (q 14), .ref (q 15), .ref (q 16), .int (zI (i50 13)), .int (zI (i50 14)), .int (zI (i50 15)), .int (zI (i50 16)), .int (zI (i50 17)), .int (zI (i50 18)), .ref (q 17), .ref (q 18), .ref (q 19), .ref (q 20)])), ((q 0), .inl (cI, 900, .inl (fun k => zI (g_tape k))))] H := by subst e_i50; exact hP
                  have hD : va_D A [((q 1), .inl (cI, 8, .inl (fun k => zI (g_letters k)))), (y, .inr (9, [.int (zI (i50 0)), .ref (q 0), .int (zI (i50 1)), .int (zI (i50 2)), .int (zI (i50 3)), .int (zI (i50 4)), .int (zI (i50 5)), .int (zI (i50 6)), .int (zI (i50 7)), .int (zI (i50 8)), .int (zI (i50 9)), .int (zI (i50 10)), .ref (q 1), .int (zI (i50 11)), .int (zI (i50 12)), .ref (q 2), .ref (q 3), .ref (q 4), .ref (q 5), .ref (q 6), .ref (q 7), .ref (q 8), .ref (q 9), .ref (q 10), .ref (q 11), .ref (q 12), .ref (q 13), .ref (q 14), .ref (q 15), .ref (q 16), .int (zI (i50 13)), .int (zI (i50 14)), .int (zI (i50 15)), .int (zI (i50 16)), .int (zI (i50 17)), .int (zI (i50 18)), .ref (q 17), .ref (q 18), .ref (q 19), .ref (q 20)])), ((q 0), .inl (cI, 900, .inl (fun k => zI (g_tape k))))] := by subst e_i50; exact hD
                  exact ret (fun k => [(i50, fun _ _ => 0), (fun _ => 0, fun _ => g_letters)].getD k (fun _ => 0, fun _ _ => 0)) _ _ _ _ _ _ ⟨⟨hO51, (show i50 5 = 2 → i50 7 ≤ 8 from fun q5 => by omega)⟩, hr_letters, ⟨(show i50 11 = i 11 ∧ i 4 ≤ i50 4 ∧ i50 1 = i 1 ∧ (i50 5 ≠ 0 → i 4 < i50 4) ∧ i50 14 = i 14 ∧ i50 16 = i 16 from by omega), (show TkR g_tape (i 2) (i 4) (i50 3) (i50 4) (i50 5) (i50 7) (i50 6) g_letters from TkR.to (TkR.whole (tk := i50 5) (sz := i50 7) (wh := i50 6) hst hdgC hst2 (fun q9 => by rw [show i50 6 = ii 6 by omega]; exact hv q9) (by omega)) (by omega) (by omega) (by omega) (by omega) (by omega)), (show i50 0 = i 0 ∧ i50 2 = i 2 ∧ i50 8 = i 8 ∧ i50 9 = i 9 ∧ i50 10 = i 10 ∧ i50 12 = i 12 ∧ i50 13 = i 13 ∧ i50 15 = i 15 ∧ i50 17 = i 17 ∧ i50 18 = i 18 from by omega)⟩⟩ (bw_subP (isC := [1, 2, 0]) hP rfl) (hD.sub [1, 2, 0] (by decide) rfl) hS (Nat.le_of_ble_eq_true rfl) (Nat.le_of_ble_eq_true rfl) dX9_next_247
                · refine lv_iconst (v := zI 1) hx hb dX9_next_208 rfl ?_
                  refine lv_goto (tgt := 213) hx hb dX9_next_209 (by decide) ?_
                  refine r_put F hK hP hD hS 1 6 rfl rfl in_X9 tyX9 tyX9_ok nmX9 (by decide) k_1169 rfl rfl rfl (Nat.le_of_ble_eq_true rfl) dX9_next_213 (w1 := [((q 1), .inl (cI, 8, .inl (fun k => zI (g_letters k)))), (y, .inr (9, [.int (zI (ii 0)), .ref (q 0), .int (zI (ii 1)), .int (zI (ii 2)), .int (zI (ii 3)), .int (zI w1), .int (zI 1), .int (zI (ii 6)), .int (zI (ii 7)), .int (zI (ii 8)), .int (zI (ii 9)), .int (zI (ii 10)), .ref (q 1), .int (zI (ii 11)), .int (zI (ii 12)), .ref (q 2), .ref (q 3), .ref (q 4), .ref (q 5), .ref (q 6), .ref (q 7), .ref (q 8), .ref (q 9), .ref (q 10), .ref (q 11), .ref (q 12), .ref (q 13), .ref (q 14), .ref (q 15), .ref (q 16), .int (zI (ii 13)), .int (zI (ii 14)), .int (zI (ii 15)), .int (zI (ii 16)), .int (zI (ii 17)), .int (zI (ii 18)), .ref (q 17), .ref (q 18), .ref (q 19), .ref (q 20)])), ((q 0), .inl (cI, 900, .inl (fun k => zI (g_tape k))))]) rfl (fun H locs hP hD hS => ?_)
                  refine lv_goto (tgt := 247) hx hb dX9_next_216 (by decide) ?_
                  obtain ⟨i53, e_i53⟩ : ∃ i53 : Nat → Int, i53 = fun k => [(ii 0), (ii 1), (ii 2), (ii 3), w1, 1, (ii 6), (ii 7), (ii 8), (ii 9), (ii 10), (ii 11), (ii 12), (ii 13), (ii 14), (ii 15), (ii 16), (ii 17), (ii 18)].getD k 0 := ⟨_, rfl⟩
                  have e_i53_0 : i53 0 = (ii 0) := by rw [e_i53]; rfl
                  have e_i53_1 : i53 1 = (ii 1) := by rw [e_i53]; rfl
                  have e_i53_2 : i53 2 = (ii 2) := by rw [e_i53]; rfl
                  have e_i53_3 : i53 3 = (ii 3) := by rw [e_i53]; rfl
                  have e_i53_4 : i53 4 = w1 := by rw [e_i53]; rfl
                  have e_i53_5 : i53 5 = 1 := by rw [e_i53]; rfl
                  have e_i53_6 : i53 6 = (ii 6) := by rw [e_i53]; rfl
                  have e_i53_7 : i53 7 = (ii 7) := by rw [e_i53]; rfl
                  have e_i53_8 : i53 8 = (ii 8) := by rw [e_i53]; rfl
                  have e_i53_9 : i53 9 = (ii 9) := by rw [e_i53]; rfl
                  have e_i53_10 : i53 10 = (ii 10) := by rw [e_i53]; rfl
                  have e_i53_11 : i53 11 = (ii 11) := by rw [e_i53]; rfl
                  have e_i53_12 : i53 12 = (ii 12) := by rw [e_i53]; rfl
                  have e_i53_13 : i53 13 = (ii 13) := by rw [e_i53]; rfl
                  have e_i53_14 : i53 14 = (ii 14) := by rw [e_i53]; rfl
                  have e_i53_15 : i53 15 = (ii 15) := by rw [e_i53]; rfl
                  have e_i53_16 : i53 16 = (ii 16) := by rw [e_i53]; rfl
                  have e_i53_17 : i53 17 = (ii 17) := by rw [e_i53]; rfl
                  have e_i53_18 : i53 18 = (ii 18) := by rw [e_i53]; rfl
                  have hO54 : ModS i53 := by have hold9 := hG; refine ⟨⟨?_, ?_, ?_, ?_, ?_⟩, ⟨?_, ?_, ?_, ?_, ?_, ?_⟩, ⟨?_, ?_, ?_, ?_⟩⟩ <;> omega
                  have hf55 := hO54
                  have hP : va_P G vwCl [((q 1), .inl (cI, 8, .inl (fun k => zI (g_letters k)))), (y, .inr (9, [.int (zI (i53 0)), .ref (q 0), .int (zI (i53 1)), .int (zI (i53 2)), .int (zI (i53 3)), .int (zI (i53 4)), .int (zI (i53 5)), .int (zI (i53 6)), .int (zI (i53 7)), .int (zI (i53 8)), .int (zI (i53 9)), .int (zI (i53 10)), .ref (q 1), .int (zI (i53 11)), .int (zI (i53 12)), .ref (q 2), .ref (q 3), .ref (q 4), .ref (q 5), .ref (q 6), .ref (q 7), .ref (q 8), .ref (q 9), .ref (q 10), .ref (q 11), .ref (q 12), .ref (q 13), .ref (q 14), .ref (q 15), .ref (q 16), .int (zI (i53 13)), .int (zI (i53 14)), .int (zI (i53 15)), .int (zI (i53 16)), .int (zI (i53 17)), .int (zI (i53 18)), .ref (q 17), .ref (q 18), .ref (q 19), .ref (q 20)])), ((q 0), .inl (cI, 900, .inl (fun k => zI (g_tape k))))] H := by subst e_i53; exact hP
                  have hD : va_D A [((q 1), .inl (cI, 8, .inl (fun k => zI (g_letters k)))), (y, .inr (9, [.int (zI (i53 0)), .ref (q 0), .int (zI (i53 1)), .int (zI (i53 2)), .int (zI (i53 3)), .int (zI (i53 4)), .int (zI (i53 5)), .int (zI (i53 6)), .int (zI (i53 7)), .int (zI (i53 8)), .int (zI (i53 9)), .int (zI (i53 10)), .ref (q 1), .int (zI (i53 11)), .int (zI (i53 12)), .ref (q 2), .ref (q 3), .ref (q 4), .ref (q 5), .ref (q 6), .ref (q 7), .ref (q 8), .ref (q 9), .ref (q 10), .ref (q 11), .ref (q 12), .ref (q 13), .ref (q 14), .ref (q 15), .ref (q 16), .int (zI (i53 13)), .int (zI (i53 14)), .int (zI (i53 15)), .int (zI (i53 16)), .int (zI (i53 17)), .int (zI (i53 18)), .ref (q 17), .ref (q 18), .ref (q 19), .ref (q 20)])), ((q 0), .inl (cI, 900, .inl (fun k => zI (g_tape k))))] := by subst e_i53; exact hD
                  exact ret (fun k => [(i53, fun _ _ => 0), (fun _ => 0, fun _ => g_letters)].getD k (fun _ => 0, fun _ _ => 0)) _ _ _ _ _ _ ⟨⟨hO54, (show i53 5 = 2 → i53 7 ≤ 8 from fun q5 => by omega)⟩, hr_letters, ⟨(show i53 11 = i 11 ∧ i 4 ≤ i53 4 ∧ i53 1 = i 1 ∧ (i53 5 ≠ 0 → i 4 < i53 4) ∧ i53 14 = i 14 ∧ i53 16 = i 16 from by omega), (show TkR g_tape (i 2) (i 4) (i53 3) (i53 4) (i53 5) (i53 7) (i53 6) g_letters from TkR.to (TkR.whole (tk := i53 5) (sz := i53 7) (wh := i53 6) hst hdgC hst2 (fun q9 => by rw [show i53 6 = ii 6 by omega]; exact hv q9) (by omega)) (by omega) (by omega) (by omega) (by omega) (by omega)), (show i53 0 = i 0 ∧ i53 2 = i 2 ∧ i53 8 = i 8 ∧ i53 9 = i 9 ∧ i53 10 = i 10 ∧ i53 12 = i 12 ∧ i53 13 = i 13 ∧ i53 15 = i 15 ∧ i53 17 = i 17 ∧ i53 18 = i 18 from by omega)⟩⟩ (bw_subP (isC := [1, 2, 0]) hP rfl) (hD.sub [1, 2, 0] (by decide) rfl) hS (Nat.le_of_ble_eq_true rfl) (Nat.le_of_ble_eq_true rfl) dX9_next_247
              · refine lv_iload_n hx hb dX9_next_163 rfl (lv_at hl 0 rfl) ?_
                have hS1 : sDg (lk g_tape (i 2) w1) := by unfold sDg; rw [← hl8]; omega
                refine lv_iconst (v := zI 3) hx hb dX9_next_164 rfl ?_
                refine rz_icmp_ge (tgt := 188) F (by omega) (by omega) dX9_next_165 (by decide) (fun h165_55 => ?_) (fun h165_55 => ?_)
                · refine lv_iinc (v := zI (w3 + 1)) (lv' := [(3, .int (zI (w3 + 1))), (2, .int (zI z13)), (1, .int (zI w1)), (0, .ref y)]) hx hb dX9_next_188 hl (k := 0) rfl (zI_add _ _) (by decide) rfl (fun ls hl => ?_)
                  refine lv_iinc (v := zI (w1 + 1)) (lv' := [(1, .int (zI (w1 + 1))), (3, .int (zI (w3 + 1))), (2, .int (zI z13)), (0, .ref y)]) hx hb dX9_next_191 hl (k := 2) rfl (zI_add _ _) (by decide) rfl (fun ls hl => ?_)
                  refine lv_goto (tgt := 152) hx hb dX9_next_194 (by decide) ?_
                  exact ih2 (w1 + 1) (w3 + 1) ii _ _ (by omega) (by omega) hG (run_step hrun2 hS1) (fun q9 => absurd q9 (by omega)) hP hD hS ls (lv_sub hl [1, 2, 0, 3] rfl)
                · refine lv_aload_n hx hb dX9_next_168 rfl (lv_at hl 3 rfl) ?_
                  refine lv_bipush (v := zI 10) hx hb dX9_next_169 (by decide) ?_
                  refine lv_aload_n hx hb dX9_next_171 rfl (lv_at hl 3 rfl) ?_
                  refine r_get F hK hP 1 7 rfl rfl in_X9 (by decide) k_1170 rfl dX9_next_172 ?_
                  refine r_imul (v := zI (10 * (ii 6))) F dX9_next_175 (zI_mul _ _) ?_
                  refine lv_aload_n hx hb dX9_next_176 rfl (lv_at hl 3 rfl) ?_
                  refine lv_iload_n hx hb dX9_next_177 rfl (lv_at hl 2 rfl) ?_
                  refine r_callVi (As := [.int (zI w1)]) (rest := [.int (zI (10 * (ii 6))), .ref y]) (wr := [((q 1), .inl (cI, 8, .inl (fun k => zI (g_letters k))))]) F hK hP hD hS hA hO hE (c_X9_look hO y q ii hG g_tape hr_tape w1 (by omega) (by omega)) k_1307 kv_X9_look 1 rfl (by decide +kernel) ⟨Nat.le_of_ble_eq_true rfl, Nat.le_of_ble_eq_true rfl⟩ [1, 2] [0] rfl rfl (by decide) (by decide) (by decide) 0 9 rfl rfl rfl hl.1 rfl (Nat.le_of_ble_eq_true rfl) dX9_next_178 ⟨Nat.le_of_ble_eq_true rfl, Nat.le_of_ble_eq_true rfl⟩ (w1 := fun u57 => [((q 1), .inl (cI, 8, .inl (fun k => zI (g_letters k)))), (y, .inr (9, [.int (zI (ii 0)), .ref (q 0), .int (zI (ii 1)), .int (zI (ii 2)), .int (zI (ii 3)), .int (zI (ii 4)), .int (zI (ii 5)), .int (zI (ii 6)), .int (zI (ii 7)), .int (zI (ii 8)), .int (zI (ii 9)), .int (zI (ii 10)), .ref (q 1), .int (zI (ii 11)), .int (zI (ii 12)), .ref (q 2), .ref (q 3), .ref (q 4), .ref (q 5), .ref (q 6), .ref (q 7), .ref (q 8), .ref (q 9), .ref (q 10), .ref (q 11), .ref (q 12), .ref (q 13), .ref (q 14), .ref (q 15), .ref (q 16), .int (zI (ii 13)), .int (zI (ii 14)), .int (zI (ii 15)), .int (zI (ii 16)), .int (zI (ii 17)), .int (zI (ii 18)), .ref (q 17), .ref (q 18), .ref (q 19), .ref (q 20)])), ((q 0), .inl (cI, 900, .inl (fun k => zI (g_tape k))))]) (fun _ => rfl) (fun r58 u57 H locs hp59 hP hD hS => ?_)
                  obtain ⟨z60, rfl, h_z60⟩ := hp59
                  have hl9 : z60 = g_tape (w1).toNat := by rw [h_z60.1, lk_lt (by omega)]
                  refine r_iadd (v := zI ((10 * (ii 6)) + z60)) F dX9_next_181 (zI_add _ _) ?_
                  refine lv_bipush (v := zI 48) hx hb dX9_next_182 (by decide) ?_
                  refine r_isub (v := zI (((10 * (ii 6)) + z60) - 48)) F dX9_next_184 (zI_sub _ _) ?_
                  have hX : w1 + 1 - v1 ≤ 3 → (((10 * (ii 6)) + z60) - 48) = val g_tape v1 (w1 + 1) := fun q9 => by rw [val_step (by omega), ← hv (by omega)]; omega
                  have hX3 : w1 + 1 - v1 ≤ 3 → 0 ≤ val g_tape v1 (w1 + 1) ∧ val g_tape v1 (w1 + 1) ≤ 999 := fun q9 => val_bd (n := i 2) (by omega) (run_step hrun2 hS1) q9
                  refine rz_wrap (fun z61 h_z61 hw_z61 => ?_)
                  have hvN : w1 + 1 - v1 ≤ 3 → z61 = val g_tape v1 (w1 + 1) := fun q9 => (hw_z61 (by have q8 := hX q9; have q7 := hX3 q9; omega)).trans (hX q9)
                  clear hX hX3 hw_z61
                  refine r_put F hK hP hD hS 1 7 rfl rfl in_X9 tyX9 tyX9_ok nmX9 (by decide) k_1170 rfl rfl rfl (Nat.le_of_ble_eq_true rfl) dX9_next_185 (w1 := [((q 1), .inl (cI, 8, .inl (fun k => zI (g_letters k)))), (y, .inr (9, [.int (zI (ii 0)), .ref (q 0), .int (zI (ii 1)), .int (zI (ii 2)), .int (zI (ii 3)), .int (zI (ii 4)), .int (zI (ii 5)), .int (zI z61), .int (zI (ii 7)), .int (zI (ii 8)), .int (zI (ii 9)), .int (zI (ii 10)), .ref (q 1), .int (zI (ii 11)), .int (zI (ii 12)), .ref (q 2), .ref (q 3), .ref (q 4), .ref (q 5), .ref (q 6), .ref (q 7), .ref (q 8), .ref (q 9), .ref (q 10), .ref (q 11), .ref (q 12), .ref (q 13), .ref (q 14), .ref (q 15), .ref (q 16), .int (zI (ii 13)), .int (zI (ii 14)), .int (zI (ii 15)), .int (zI (ii 16)), .int (zI (ii 17)), .int (zI (ii 18)), .ref (q 17), .ref (q 18), .ref (q 19), .ref (q 20)])), ((q 0), .inl (cI, 900, .inl (fun k => zI (g_tape k))))]) rfl (fun H locs hP hD hS => ?_)
                  refine lv_iinc (v := zI (w3 + 1)) (lv' := [(3, .int (zI (w3 + 1))), (2, .int (zI z13)), (1, .int (zI w1)), (0, .ref y)]) hx hb dX9_next_188 hl (k := 0) rfl (zI_add _ _) (by decide) rfl (fun ls hl => ?_)
                  refine lv_iinc (v := zI (w1 + 1)) (lv' := [(1, .int (zI (w1 + 1))), (3, .int (zI (w3 + 1))), (2, .int (zI z13)), (0, .ref y)]) hx hb dX9_next_191 hl (k := 2) rfl (zI_add _ _) (by decide) rfl (fun ls hl => ?_)
                  refine lv_goto (tgt := 152) hx hb dX9_next_194 (by decide) ?_
                  obtain ⟨i62, e_i62⟩ : ∃ i62 : Nat → Int, i62 = fun k => [(ii 0), (ii 1), (ii 2), (ii 3), (ii 4), (ii 5), z61, (ii 7), (ii 8), (ii 9), (ii 10), (ii 11), (ii 12), (ii 13), (ii 14), (ii 15), (ii 16), (ii 17), (ii 18)].getD k 0 := ⟨_, rfl⟩
                  have e_i62_0 : i62 0 = (ii 0) := by rw [e_i62]; rfl
                  have e_i62_1 : i62 1 = (ii 1) := by rw [e_i62]; rfl
                  have e_i62_2 : i62 2 = (ii 2) := by rw [e_i62]; rfl
                  have e_i62_3 : i62 3 = (ii 3) := by rw [e_i62]; rfl
                  have e_i62_4 : i62 4 = (ii 4) := by rw [e_i62]; rfl
                  have e_i62_5 : i62 5 = (ii 5) := by rw [e_i62]; rfl
                  have e_i62_6 : i62 6 = z61 := by rw [e_i62]; rfl
                  have e_i62_7 : i62 7 = (ii 7) := by rw [e_i62]; rfl
                  have e_i62_8 : i62 8 = (ii 8) := by rw [e_i62]; rfl
                  have e_i62_9 : i62 9 = (ii 9) := by rw [e_i62]; rfl
                  have e_i62_10 : i62 10 = (ii 10) := by rw [e_i62]; rfl
                  have e_i62_11 : i62 11 = (ii 11) := by rw [e_i62]; rfl
                  have e_i62_12 : i62 12 = (ii 12) := by rw [e_i62]; rfl
                  have e_i62_13 : i62 13 = (ii 13) := by rw [e_i62]; rfl
                  have e_i62_14 : i62 14 = (ii 14) := by rw [e_i62]; rfl
                  have e_i62_15 : i62 15 = (ii 15) := by rw [e_i62]; rfl
                  have e_i62_16 : i62 16 = (ii 16) := by rw [e_i62]; rfl
                  have e_i62_17 : i62 17 = (ii 17) := by rw [e_i62]; rfl
                  have e_i62_18 : i62 18 = (ii 18) := by rw [e_i62]; rfl
                  have hO63 : ModS i62 := by have hold9 := hG; refine ⟨⟨?_, ?_, ?_, ?_, ?_⟩, ⟨?_, ?_, ?_, ?_, ?_, ?_⟩, ⟨?_, ?_, ?_, ?_⟩⟩ <;> omega
                  have hf64 := hO63
                  have hP : va_P G vwCl [((q 1), .inl (cI, 8, .inl (fun k => zI (g_letters k)))), (y, .inr (9, [.int (zI (i62 0)), .ref (q 0), .int (zI (i62 1)), .int (zI (i62 2)), .int (zI (i62 3)), .int (zI (i62 4)), .int (zI (i62 5)), .int (zI (i62 6)), .int (zI (i62 7)), .int (zI (i62 8)), .int (zI (i62 9)), .int (zI (i62 10)), .ref (q 1), .int (zI (i62 11)), .int (zI (i62 12)), .ref (q 2), .ref (q 3), .ref (q 4), .ref (q 5), .ref (q 6), .ref (q 7), .ref (q 8), .ref (q 9), .ref (q 10), .ref (q 11), .ref (q 12), .ref (q 13), .ref (q 14), .ref (q 15), .ref (q 16), .int (zI (i62 13)), .int (zI (i62 14)), .int (zI (i62 15)), .int (zI (i62 16)), .int (zI (i62 17)), .int (zI (i62 18)), .ref (q 17), .ref (q 18), .ref (q 19), .ref (q 20)])), ((q 0), .inl (cI, 900, .inl (fun k => zI (g_tape k))))] H := by subst e_i62; exact hP
                  have hD : va_D A [((q 1), .inl (cI, 8, .inl (fun k => zI (g_letters k)))), (y, .inr (9, [.int (zI (i62 0)), .ref (q 0), .int (zI (i62 1)), .int (zI (i62 2)), .int (zI (i62 3)), .int (zI (i62 4)), .int (zI (i62 5)), .int (zI (i62 6)), .int (zI (i62 7)), .int (zI (i62 8)), .int (zI (i62 9)), .int (zI (i62 10)), .ref (q 1), .int (zI (i62 11)), .int (zI (i62 12)), .ref (q 2), .ref (q 3), .ref (q 4), .ref (q 5), .ref (q 6), .ref (q 7), .ref (q 8), .ref (q 9), .ref (q 10), .ref (q 11), .ref (q 12), .ref (q 13), .ref (q 14), .ref (q 15), .ref (q 16), .int (zI (i62 13)), .int (zI (i62 14)), .int (zI (i62 15)), .int (zI (i62 16)), .int (zI (i62 17)), .int (zI (i62 18)), .ref (q 17), .ref (q 18), .ref (q 19), .ref (q 20)])), ((q 0), .inl (cI, 900, .inl (fun k => zI (g_tape k))))] := by subst e_i62; exact hD
                  exact ih2 (w1 + 1) (w3 + 1) i62 _ _ (by omega) (by omega) hO63 (run_step hrun2 hS1) (fun q9 => by rw [show i62 6 = z61 by omega]; exact hvN (by omega)) hP hD hS ls (lv_sub hl [1, 2, 0, 3] rfl)
        · obtain ⟨i65, e_i65⟩ : ∃ i65 : Nat → Int, i65 = fun k => [(i7 0), (i7 1), (i7 2), (i7 3), (i7 4), (i7 5), 0, 0, (i7 8), (i7 9), (i7 10), (i7 11), (i7 12), (i7 13), (i7 14), (i7 15), (i7 16), (i7 17), (i7 18)].getD k 0 := ⟨_, rfl⟩
          have e_i65_0 : i65 0 = (i7 0) := by rw [e_i65]; rfl
          have e_i65_1 : i65 1 = (i7 1) := by rw [e_i65]; rfl
          have e_i65_2 : i65 2 = (i7 2) := by rw [e_i65]; rfl
          have e_i65_3 : i65 3 = (i7 3) := by rw [e_i65]; rfl
          have e_i65_4 : i65 4 = (i7 4) := by rw [e_i65]; rfl
          have e_i65_5 : i65 5 = (i7 5) := by rw [e_i65]; rfl
          have e_i65_6 : i65 6 = 0 := by rw [e_i65]; rfl
          have e_i65_7 : i65 7 = 0 := by rw [e_i65]; rfl
          have e_i65_8 : i65 8 = (i7 8) := by rw [e_i65]; rfl
          have e_i65_9 : i65 9 = (i7 9) := by rw [e_i65]; rfl
          have e_i65_10 : i65 10 = (i7 10) := by rw [e_i65]; rfl
          have e_i65_11 : i65 11 = (i7 11) := by rw [e_i65]; rfl
          have e_i65_12 : i65 12 = (i7 12) := by rw [e_i65]; rfl
          have e_i65_13 : i65 13 = (i7 13) := by rw [e_i65]; rfl
          have e_i65_14 : i65 14 = (i7 14) := by rw [e_i65]; rfl
          have e_i65_15 : i65 15 = (i7 15) := by rw [e_i65]; rfl
          have e_i65_16 : i65 16 = (i7 16) := by rw [e_i65]; rfl
          have e_i65_17 : i65 17 = (i7 17) := by rw [e_i65]; rfl
          have e_i65_18 : i65 18 = (i7 18) := by rw [e_i65]; rfl
          have hO66 : ModS i65 := by have hold9 := hO8; refine ⟨⟨?_, ?_, ?_, ?_, ?_⟩, ⟨?_, ?_, ?_, ?_, ?_, ?_⟩, ⟨?_, ?_, ?_, ?_⟩⟩ <;> omega
          have hf67 := hO66
          have hP : va_P G vwCl [((q 1), .inl (cI, 8, .inl (fun k => zI (g_letters k)))), (y, .inr (9, [.int (zI (i65 0)), .ref (q 0), .int (zI (i65 1)), .int (zI (i65 2)), .int (zI (i65 3)), .int (zI (i65 4)), .int (zI (i65 5)), .int (zI (i65 6)), .int (zI (i65 7)), .int (zI (i65 8)), .int (zI (i65 9)), .int (zI (i65 10)), .ref (q 1), .int (zI (i65 11)), .int (zI (i65 12)), .ref (q 2), .ref (q 3), .ref (q 4), .ref (q 5), .ref (q 6), .ref (q 7), .ref (q 8), .ref (q 9), .ref (q 10), .ref (q 11), .ref (q 12), .ref (q 13), .ref (q 14), .ref (q 15), .ref (q 16), .int (zI (i65 13)), .int (zI (i65 14)), .int (zI (i65 15)), .int (zI (i65 16)), .int (zI (i65 17)), .int (zI (i65 18)), .ref (q 17), .ref (q 18), .ref (q 19), .ref (q 20)])), ((q 0), .inl (cI, 900, .inl (fun k => zI (g_tape k))))] H := by subst e_i65; exact hP
          have hD : va_D A [((q 1), .inl (cI, 8, .inl (fun k => zI (g_letters k)))), (y, .inr (9, [.int (zI (i65 0)), .ref (q 0), .int (zI (i65 1)), .int (zI (i65 2)), .int (zI (i65 3)), .int (zI (i65 4)), .int (zI (i65 5)), .int (zI (i65 6)), .int (zI (i65 7)), .int (zI (i65 8)), .int (zI (i65 9)), .int (zI (i65 10)), .ref (q 1), .int (zI (i65 11)), .int (zI (i65 12)), .ref (q 2), .ref (q 3), .ref (q 4), .ref (q 5), .ref (q 6), .ref (q 7), .ref (q 8), .ref (q 9), .ref (q 10), .ref (q 11), .ref (q 12), .ref (q 13), .ref (q 14), .ref (q 15), .ref (q 16), .int (zI (i65 13)), .int (zI (i65 14)), .int (zI (i65 15)), .int (zI (i65 16)), .int (zI (i65 17)), .int (zI (i65 18)), .ref (q 17), .ref (q 18), .ref (q 19), .ref (q 20)])), ((q 0), .inl (cI, 900, .inl (fun k => zI (g_tape k))))] := by subst e_i65; exact hD
          refine W.widen (k := 0) (n := 0) (Nat.le_of_ble_eq_true rfl) (Nat.le_of_ble_eq_true rfl) ?_
          refine (?_ : ∀ (n9_2 : Nat) (w1 : Int) (gl9 : Nat → Int) (ii : Nat → Int) (H : Heap) (locs : List Loc), (ii 7 ≤ w1 ∧ ii 7 = w1 - v1 ∧ i 4 ≤ v1 ∧ v1 ≤ w1 ∧ w1 ≤ 900 ∧ ii 11 = i 11 ∧ ii 1 = i 1 ∧ ii 2 = i 2 ∧ ii 14 = i 14 ∧ ii 16 = i 16 ∧ ii 3 = v1 ∧ ii 0 = i 0 ∧ ii 8 = i 8 ∧ ii 9 = i 9 ∧ ii 10 = i 10 ∧ ii 12 = i 12 ∧ ii 13 = i 13 ∧ ii 15 = i 15 ∧ ii 17 = i 17 ∧ ii 18 = i 18) → (901 - w1 : Int).toNat < n9_2 → (ModS ii) → (∀ k, k < 8 → (-2147483648) ≤ gl9 k ∧ gl9 k ≤ 2147483647) → (∀ j : Int, v1 ≤ j → j < w1 → sSm (lk g_tape (i 2) j)) → (∀ j : Nat, (j : Int) < ii 7 → j < 8 → gl9 j = g_tape (v1 + (j : Int)).toNat) → va_P G vwCl [((q 1), .inl (cI, 8, .inl (fun k => zI (gl9 k)))), (y, .inr (9, [.int (zI (ii 0)), .ref (q 0), .int (zI (ii 1)), .int (zI (ii 2)), .int (zI (ii 3)), .int (zI (ii 4)), .int (zI (ii 5)), .int (zI (ii 6)), .int (zI (ii 7)), .int (zI (ii 8)), .int (zI (ii 9)), .int (zI (ii 10)), .ref (q 1), .int (zI (ii 11)), .int (zI (ii 12)), .ref (q 2), .ref (q 3), .ref (q 4), .ref (q 5), .ref (q 6), .ref (q 7), .ref (q 8), .ref (q 9), .ref (q 10), .ref (q 11), .ref (q 12), .ref (q 13), .ref (q 14), .ref (q 15), .ref (q 16), .int (zI (ii 13)), .int (zI (ii 14)), .int (zI (ii 15)), .int (zI (ii 16)), .int (zI (ii 17)), .int (zI (ii 18)), .ref (q 17), .ref (q 18), .ref (q 19), .ref (q 20)])), ((q 0), .inl (cI, 900, .inl (fun k => zI (g_tape k))))] H → va_D A [((q 1), .inl (cI, 8, .inl (fun k => zI (gl9 k)))), (y, .inr (9, [.int (zI (ii 0)), .ref (q 0), .int (zI (ii 1)), .int (zI (ii 2)), .int (zI (ii 3)), .int (zI (ii 4)), .int (zI (ii 5)), .int (zI (ii 6)), .int (zI (ii 7)), .int (zI (ii 8)), .int (zI (ii 9)), .int (zI (ii 10)), .ref (q 1), .int (zI (ii 11)), .int (zI (ii 12)), .ref (q 2), .ref (q 3), .ref (q 4), .ref (q 5), .ref (q 6), .ref (q 7), .ref (q 8), .ref (q 9), .ref (q 10), .ref (q 11), .ref (q 12), .ref (q 13), .ref (q 14), .ref (q 15), .ref (q 16), .int (zI (ii 13)), .int (zI (ii 14)), .int (zI (ii 15)), .int (zI (ii 16)), .int (zI (ii 17)), .int (zI (ii 18)), .ref (q 17), .ref (q 18), .ref (q 19), .ref (q 20)])), ((q 0), .inl (cI, 900, .inl (fun k => zI (g_tape k))))] → va_S A s.heap H locs → ∀ ls : Array Slot, lv_has ls 4 [(2, .int (zI z13)), (1, .int (zI w1)), (0, .ref y)] → W p l e rm_X9_nextX s m ([.ref y] : List Value).toArray below meth c H locs 0 0 Q (F0 m 67 ls [])) ((901 - v1 : Int).toNat + 1) v1 g_letters i65 _ _ (by omega) (by omega) hO66 hr_letters (fun j h1 h2 => absurd h2 (by omega)) (fun j hj => absurd hj (by omega)) hP hD hS ls hl
          clear hP hD hS hl ls
          intro n9_2
          induction n9_2 with
          | zero =>
            intro w1 gl9 ii H locs hI hM
            exact absurd hM (by omega)
          | succ n9_2 ih2 =>
            intro w1 gl9 ii H locs hI2 hM2 hG h_gl9 hrun2 hlet hP hD hS ls hl
            have hf68 := hG
            refine lv_aload_n hx hb dX9_next_67 rfl (lv_at hl 2 rfl) ?_
            refine lv_iload_n hx hb dX9_next_68 rfl (lv_at hl 1 rfl) ?_
            refine r_callVi (As := [.int (zI w1)]) (rest := []) (wr := [((q 1), .inl (cI, 8, .inl (fun k => zI (gl9 k))))]) F hK hP hD hS hA hO hE (c_X9_look hO y q ii hG g_tape hr_tape w1 (by omega) (by omega)) k_1307 kv_X9_look 1 rfl (by decide +kernel) ⟨Nat.le_of_ble_eq_true rfl, Nat.le_of_ble_eq_true rfl⟩ [1, 2] [0] rfl rfl (by decide) (by decide) (by decide) 0 9 rfl rfl rfl hl.1 rfl (Nat.le_of_ble_eq_true rfl) dX9_next_69 ⟨Nat.le_of_ble_eq_true rfl, Nat.le_of_ble_eq_true rfl⟩ (w1 := fun u69 => [((q 1), .inl (cI, 8, .inl (fun k => zI (gl9 k)))), (y, .inr (9, [.int (zI (ii 0)), .ref (q 0), .int (zI (ii 1)), .int (zI (ii 2)), .int (zI (ii 3)), .int (zI (ii 4)), .int (zI (ii 5)), .int (zI (ii 6)), .int (zI (ii 7)), .int (zI (ii 8)), .int (zI (ii 9)), .int (zI (ii 10)), .ref (q 1), .int (zI (ii 11)), .int (zI (ii 12)), .ref (q 2), .ref (q 3), .ref (q 4), .ref (q 5), .ref (q 6), .ref (q 7), .ref (q 8), .ref (q 9), .ref (q 10), .ref (q 11), .ref (q 12), .ref (q 13), .ref (q 14), .ref (q 15), .ref (q 16), .int (zI (ii 13)), .int (zI (ii 14)), .int (zI (ii 15)), .int (zI (ii 16)), .int (zI (ii 17)), .int (zI (ii 18)), .ref (q 17), .ref (q 18), .ref (q 19), .ref (q 20)])), ((q 0), .inl (cI, 900, .inl (fun k => zI (g_tape k))))]) (fun _ => rfl) (fun r70 u69 H locs hp71 hP hD hS => ?_)
            obtain ⟨z72, rfl, h_z72⟩ := hp71
            have hlk9 : w1 = v1 → z72 = z13 := fun q9 => (h_z72.1).trans ((lk_congr (by omega) q9).trans (h_z13.1).symm)
            have hl8 : z72 = lk g_tape (i 2) w1 := h_z72.1.trans (lk_congr (by omega) rfl)
            refine r_callSi (As := [.int (zI z72)]) (rest := []) (wr := [((q 1), .inl (cI, 8, .inl (fun k => zI (gl9 k)))), (y, .inr (9, [.int (zI (ii 0)), .ref (q 0), .int (zI (ii 1)), .int (zI (ii 2)), .int (zI (ii 3)), .int (zI (ii 4)), .int (zI (ii 5)), .int (zI (ii 6)), .int (zI (ii 7)), .int (zI (ii 8)), .int (zI (ii 9)), .int (zI (ii 10)), .ref (q 1), .int (zI (ii 11)), .int (zI (ii 12)), .ref (q 2), .ref (q 3), .ref (q 4), .ref (q 5), .ref (q 6), .ref (q 7), .ref (q 8), .ref (q 9), .ref (q 10), .ref (q 11), .ref (q 12), .ref (q 13), .ref (q 14), .ref (q 15), .ref (q 16), .int (zI (ii 13)), .int (zI (ii 14)), .int (zI (ii 15)), .int (zI (ii 16)), .int (zI (ii 17)), .int (zI (ii 18)), .ref (q 17), .ref (q 18), .ref (q 19), .ref (q 20)])), ((q 0), .inl (cI, 900, .inl (fun k => zI (g_tape k))))]) F hK hP hD hS hA hO hE (c_X9_isSmall hO z72 (by omega)) k_1311 ks_X9_isSmall 1 rfl (by decide +kernel) ⟨Nat.le_of_ble_eq_true rfl, Nat.le_of_ble_eq_true rfl⟩ [] [0, 1, 2] rfl rfl (by decide) (by decide) (by decide) hl.1 rfl (Nat.le_of_ble_eq_true rfl) dX9_next_72 ⟨Nat.le_of_ble_eq_true rfl, Nat.le_of_ble_eq_true rfl⟩ (w1 := fun u73 => [((q 1), .inl (cI, 8, .inl (fun k => zI (gl9 k)))), (y, .inr (9, [.int (zI (ii 0)), .ref (q 0), .int (zI (ii 1)), .int (zI (ii 2)), .int (zI (ii 3)), .int (zI (ii 4)), .int (zI (ii 5)), .int (zI (ii 6)), .int (zI (ii 7)), .int (zI (ii 8)), .int (zI (ii 9)), .int (zI (ii 10)), .ref (q 1), .int (zI (ii 11)), .int (zI (ii 12)), .ref (q 2), .ref (q 3), .ref (q 4), .ref (q 5), .ref (q 6), .ref (q 7), .ref (q 8), .ref (q 9), .ref (q 10), .ref (q 11), .ref (q 12), .ref (q 13), .ref (q 14), .ref (q 15), .ref (q 16), .int (zI (ii 13)), .int (zI (ii 14)), .int (zI (ii 15)), .int (zI (ii 16)), .int (zI (ii 17)), .int (zI (ii 18)), .ref (q 17), .ref (q 18), .ref (q 19), .ref (q 20)])), ((q 0), .inl (cI, 900, .inl (fun k => zI (g_tape k))))]) (fun _ => rfl) (fun r74 u73 H locs hp75 hP hD hS => ?_)
            obtain ⟨z76, rfl, h_z76⟩ := hp75
            refine rz_ifb_eq (tgt := 117) F (by omega) dX9_next_75 (by decide) (fun h75_76 => ?_) (fun h75_76 => ?_)
            · refine lv_aload_n hx hb dX9_next_117 rfl (lv_at hl 2 rfl) ?_
              have hst2 : Stop sSm g_tape (i 2) v1 w1 := ⟨by omega, hrun2, by unfold sSm; rw [← hl8]; omega⟩
              have hsmC : sSm (lk g_tape (i 2) v1) := by unfold sSm; rw [← hcN]; omega
              refine lv_iload_n hx hb dX9_next_118 rfl (lv_at hl 1 rfl) ?_
              refine r_put F hK hP hD hS 1 5 rfl rfl in_X9 tyX9 tyX9_ok nmX9 (by decide) k_1168 rfl rfl rfl (Nat.le_of_ble_eq_true rfl) dX9_next_119 (w1 := [((q 1), .inl (cI, 8, .inl (fun k => zI (gl9 k)))), (y, .inr (9, [.int (zI (ii 0)), .ref (q 0), .int (zI (ii 1)), .int (zI (ii 2)), .int (zI (ii 3)), .int (zI w1), .int (zI (ii 5)), .int (zI (ii 6)), .int (zI (ii 7)), .int (zI (ii 8)), .int (zI (ii 9)), .int (zI (ii 10)), .ref (q 1), .int (zI (ii 11)), .int (zI (ii 12)), .ref (q 2), .ref (q 3), .ref (q 4), .ref (q 5), .ref (q 6), .ref (q 7), .ref (q 8), .ref (q 9), .ref (q 10), .ref (q 11), .ref (q 12), .ref (q 13), .ref (q 14), .ref (q 15), .ref (q 16), .int (zI (ii 13)), .int (zI (ii 14)), .int (zI (ii 15)), .int (zI (ii 16)), .int (zI (ii 17)), .int (zI (ii 18)), .ref (q 17), .ref (q 18), .ref (q 19), .ref (q 20)])), ((q 0), .inl (cI, 900, .inl (fun k => zI (g_tape k))))]) rfl (fun H locs hP hD hS => ?_)
              refine lv_aload_n hx hb dX9_next_122 rfl (lv_at hl 2 rfl) ?_
              refine lv_aload_n hx hb dX9_next_123 rfl (lv_at hl 2 rfl) ?_
              refine r_get F hK hP 1 8 rfl rfl in_X9 (by decide) k_1171 rfl dX9_next_124 ?_
              refine lv_bipush (v := zI 8) hx hb dX9_next_127 (by decide) ?_
              refine rz_icmp_le (tgt := 136) F (by omega) (by omega) dX9_next_129 (by decide) (fun h129_77 => ?_) (fun h129_77 => ?_)
              · refine lv_iconst (v := zI 2) hx hb dX9_next_136 rfl ?_
                refine r_put F hK hP hD hS 1 6 rfl rfl in_X9 tyX9 tyX9_ok nmX9 (by decide) k_1169 rfl rfl rfl (Nat.le_of_ble_eq_true rfl) dX9_next_137 (w1 := [((q 1), .inl (cI, 8, .inl (fun k => zI (gl9 k)))), (y, .inr (9, [.int (zI (ii 0)), .ref (q 0), .int (zI (ii 1)), .int (zI (ii 2)), .int (zI (ii 3)), .int (zI w1), .int (zI 2), .int (zI (ii 6)), .int (zI (ii 7)), .int (zI (ii 8)), .int (zI (ii 9)), .int (zI (ii 10)), .ref (q 1), .int (zI (ii 11)), .int (zI (ii 12)), .ref (q 2), .ref (q 3), .ref (q 4), .ref (q 5), .ref (q 6), .ref (q 7), .ref (q 8), .ref (q 9), .ref (q 10), .ref (q 11), .ref (q 12), .ref (q 13), .ref (q 14), .ref (q 15), .ref (q 16), .int (zI (ii 13)), .int (zI (ii 14)), .int (zI (ii 15)), .int (zI (ii 16)), .int (zI (ii 17)), .int (zI (ii 18)), .ref (q 17), .ref (q 18), .ref (q 19), .ref (q 20)])), ((q 0), .inl (cI, 900, .inl (fun k => zI (g_tape k))))]) rfl (fun H locs hP hD hS => ?_)
                refine lv_goto (tgt := 247) hx hb dX9_next_140 (by decide) ?_
                obtain ⟨i79, e_i79⟩ : ∃ i79 : Nat → Int, i79 = fun k => [(ii 0), (ii 1), (ii 2), (ii 3), w1, 2, (ii 6), (ii 7), (ii 8), (ii 9), (ii 10), (ii 11), (ii 12), (ii 13), (ii 14), (ii 15), (ii 16), (ii 17), (ii 18)].getD k 0 := ⟨_, rfl⟩
                have e_i79_0 : i79 0 = (ii 0) := by rw [e_i79]; rfl
                have e_i79_1 : i79 1 = (ii 1) := by rw [e_i79]; rfl
                have e_i79_2 : i79 2 = (ii 2) := by rw [e_i79]; rfl
                have e_i79_3 : i79 3 = (ii 3) := by rw [e_i79]; rfl
                have e_i79_4 : i79 4 = w1 := by rw [e_i79]; rfl
                have e_i79_5 : i79 5 = 2 := by rw [e_i79]; rfl
                have e_i79_6 : i79 6 = (ii 6) := by rw [e_i79]; rfl
                have e_i79_7 : i79 7 = (ii 7) := by rw [e_i79]; rfl
                have e_i79_8 : i79 8 = (ii 8) := by rw [e_i79]; rfl
                have e_i79_9 : i79 9 = (ii 9) := by rw [e_i79]; rfl
                have e_i79_10 : i79 10 = (ii 10) := by rw [e_i79]; rfl
                have e_i79_11 : i79 11 = (ii 11) := by rw [e_i79]; rfl
                have e_i79_12 : i79 12 = (ii 12) := by rw [e_i79]; rfl
                have e_i79_13 : i79 13 = (ii 13) := by rw [e_i79]; rfl
                have e_i79_14 : i79 14 = (ii 14) := by rw [e_i79]; rfl
                have e_i79_15 : i79 15 = (ii 15) := by rw [e_i79]; rfl
                have e_i79_16 : i79 16 = (ii 16) := by rw [e_i79]; rfl
                have e_i79_17 : i79 17 = (ii 17) := by rw [e_i79]; rfl
                have e_i79_18 : i79 18 = (ii 18) := by rw [e_i79]; rfl
                have hO80 : ModS i79 := by have hold9 := hG; refine ⟨⟨?_, ?_, ?_, ?_, ?_⟩, ⟨?_, ?_, ?_, ?_, ?_, ?_⟩, ⟨?_, ?_, ?_, ?_⟩⟩ <;> omega
                have hf81 := hO80
                have hP : va_P G vwCl [((q 1), .inl (cI, 8, .inl (fun k => zI (gl9 k)))), (y, .inr (9, [.int (zI (i79 0)), .ref (q 0), .int (zI (i79 1)), .int (zI (i79 2)), .int (zI (i79 3)), .int (zI (i79 4)), .int (zI (i79 5)), .int (zI (i79 6)), .int (zI (i79 7)), .int (zI (i79 8)), .int (zI (i79 9)), .int (zI (i79 10)), .ref (q 1), .int (zI (i79 11)), .int (zI (i79 12)), .ref (q 2), .ref (q 3), .ref (q 4), .ref (q 5), .ref (q 6), .ref (q 7), .ref (q 8), .ref (q 9), .ref (q 10), .ref (q 11), .ref (q 12), .ref (q 13), .ref (q 14), .ref (q 15), .ref (q 16), .int (zI (i79 13)), .int (zI (i79 14)), .int (zI (i79 15)), .int (zI (i79 16)), .int (zI (i79 17)), .int (zI (i79 18)), .ref (q 17), .ref (q 18), .ref (q 19), .ref (q 20)])), ((q 0), .inl (cI, 900, .inl (fun k => zI (g_tape k))))] H := by subst e_i79; exact hP
                have hD : va_D A [((q 1), .inl (cI, 8, .inl (fun k => zI (gl9 k)))), (y, .inr (9, [.int (zI (i79 0)), .ref (q 0), .int (zI (i79 1)), .int (zI (i79 2)), .int (zI (i79 3)), .int (zI (i79 4)), .int (zI (i79 5)), .int (zI (i79 6)), .int (zI (i79 7)), .int (zI (i79 8)), .int (zI (i79 9)), .int (zI (i79 10)), .ref (q 1), .int (zI (i79 11)), .int (zI (i79 12)), .ref (q 2), .ref (q 3), .ref (q 4), .ref (q 5), .ref (q 6), .ref (q 7), .ref (q 8), .ref (q 9), .ref (q 10), .ref (q 11), .ref (q 12), .ref (q 13), .ref (q 14), .ref (q 15), .ref (q 16), .int (zI (i79 13)), .int (zI (i79 14)), .int (zI (i79 15)), .int (zI (i79 16)), .int (zI (i79 17)), .int (zI (i79 18)), .ref (q 17), .ref (q 18), .ref (q 19), .ref (q 20)])), ((q 0), .inl (cI, 900, .inl (fun k => zI (g_tape k))))] := by subst e_i79; exact hD
                exact ret (fun k => [(i79, fun _ _ => 0), (fun _ => 0, fun _ => gl9)].getD k (fun _ => 0, fun _ _ => 0)) _ _ _ _ _ _ ⟨⟨hO80, (show i79 5 = 2 → i79 7 ≤ 8 from fun q5 => by omega)⟩, h_gl9, ⟨(show i79 11 = i 11 ∧ i 4 ≤ i79 4 ∧ i79 1 = i 1 ∧ (i79 5 ≠ 0 → i 4 < i79 4) ∧ i79 14 = i 14 ∧ i79 16 = i 16 from by omega), (show TkR g_tape (i 2) (i 4) (i79 3) (i79 4) (i79 5) (i79 7) (i79 6) gl9 from TkR.to (TkR.word (tk := i79 5) (wh := i79 6) hst hsmC hst2 (fun j hj h8 => hlet j (by omega) h8) (by omega)) (by omega) (by omega) (by omega) (by omega) (by omega)), (show i79 0 = i 0 ∧ i79 2 = i 2 ∧ i79 8 = i 8 ∧ i79 9 = i 9 ∧ i79 10 = i 10 ∧ i79 12 = i 12 ∧ i79 13 = i 13 ∧ i79 15 = i 15 ∧ i79 17 = i 17 ∧ i79 18 = i 18 from by omega)⟩⟩ (bw_subP (isC := [1, 2, 0]) hP rfl) (hD.sub [1, 2, 0] (by decide) rfl) hS (Nat.le_of_ble_eq_true rfl) (Nat.le_of_ble_eq_true rfl) dX9_next_247
              · refine lv_iconst (v := zI 1) hx hb dX9_next_132 rfl ?_
                refine lv_goto (tgt := 137) hx hb dX9_next_133 (by decide) ?_
                refine r_put F hK hP hD hS 1 6 rfl rfl in_X9 tyX9 tyX9_ok nmX9 (by decide) k_1169 rfl rfl rfl (Nat.le_of_ble_eq_true rfl) dX9_next_137 (w1 := [((q 1), .inl (cI, 8, .inl (fun k => zI (gl9 k)))), (y, .inr (9, [.int (zI (ii 0)), .ref (q 0), .int (zI (ii 1)), .int (zI (ii 2)), .int (zI (ii 3)), .int (zI w1), .int (zI 1), .int (zI (ii 6)), .int (zI (ii 7)), .int (zI (ii 8)), .int (zI (ii 9)), .int (zI (ii 10)), .ref (q 1), .int (zI (ii 11)), .int (zI (ii 12)), .ref (q 2), .ref (q 3), .ref (q 4), .ref (q 5), .ref (q 6), .ref (q 7), .ref (q 8), .ref (q 9), .ref (q 10), .ref (q 11), .ref (q 12), .ref (q 13), .ref (q 14), .ref (q 15), .ref (q 16), .int (zI (ii 13)), .int (zI (ii 14)), .int (zI (ii 15)), .int (zI (ii 16)), .int (zI (ii 17)), .int (zI (ii 18)), .ref (q 17), .ref (q 18), .ref (q 19), .ref (q 20)])), ((q 0), .inl (cI, 900, .inl (fun k => zI (g_tape k))))]) rfl (fun H locs hP hD hS => ?_)
                refine lv_goto (tgt := 247) hx hb dX9_next_140 (by decide) ?_
                obtain ⟨i82, e_i82⟩ : ∃ i82 : Nat → Int, i82 = fun k => [(ii 0), (ii 1), (ii 2), (ii 3), w1, 1, (ii 6), (ii 7), (ii 8), (ii 9), (ii 10), (ii 11), (ii 12), (ii 13), (ii 14), (ii 15), (ii 16), (ii 17), (ii 18)].getD k 0 := ⟨_, rfl⟩
                have e_i82_0 : i82 0 = (ii 0) := by rw [e_i82]; rfl
                have e_i82_1 : i82 1 = (ii 1) := by rw [e_i82]; rfl
                have e_i82_2 : i82 2 = (ii 2) := by rw [e_i82]; rfl
                have e_i82_3 : i82 3 = (ii 3) := by rw [e_i82]; rfl
                have e_i82_4 : i82 4 = w1 := by rw [e_i82]; rfl
                have e_i82_5 : i82 5 = 1 := by rw [e_i82]; rfl
                have e_i82_6 : i82 6 = (ii 6) := by rw [e_i82]; rfl
                have e_i82_7 : i82 7 = (ii 7) := by rw [e_i82]; rfl
                have e_i82_8 : i82 8 = (ii 8) := by rw [e_i82]; rfl
                have e_i82_9 : i82 9 = (ii 9) := by rw [e_i82]; rfl
                have e_i82_10 : i82 10 = (ii 10) := by rw [e_i82]; rfl
                have e_i82_11 : i82 11 = (ii 11) := by rw [e_i82]; rfl
                have e_i82_12 : i82 12 = (ii 12) := by rw [e_i82]; rfl
                have e_i82_13 : i82 13 = (ii 13) := by rw [e_i82]; rfl
                have e_i82_14 : i82 14 = (ii 14) := by rw [e_i82]; rfl
                have e_i82_15 : i82 15 = (ii 15) := by rw [e_i82]; rfl
                have e_i82_16 : i82 16 = (ii 16) := by rw [e_i82]; rfl
                have e_i82_17 : i82 17 = (ii 17) := by rw [e_i82]; rfl
                have e_i82_18 : i82 18 = (ii 18) := by rw [e_i82]; rfl
                have hO83 : ModS i82 := by have hold9 := hG; refine ⟨⟨?_, ?_, ?_, ?_, ?_⟩, ⟨?_, ?_, ?_, ?_, ?_, ?_⟩, ⟨?_, ?_, ?_, ?_⟩⟩ <;> omega
                have hf84 := hO83
                have hP : va_P G vwCl [((q 1), .inl (cI, 8, .inl (fun k => zI (gl9 k)))), (y, .inr (9, [.int (zI (i82 0)), .ref (q 0), .int (zI (i82 1)), .int (zI (i82 2)), .int (zI (i82 3)), .int (zI (i82 4)), .int (zI (i82 5)), .int (zI (i82 6)), .int (zI (i82 7)), .int (zI (i82 8)), .int (zI (i82 9)), .int (zI (i82 10)), .ref (q 1), .int (zI (i82 11)), .int (zI (i82 12)), .ref (q 2), .ref (q 3), .ref (q 4), .ref (q 5), .ref (q 6), .ref (q 7), .ref (q 8), .ref (q 9), .ref (q 10), .ref (q 11), .ref (q 12), .ref (q 13), .ref (q 14), .ref (q 15), .ref (q 16), .int (zI (i82 13)), .int (zI (i82 14)), .int (zI (i82 15)), .int (zI (i82 16)), .int (zI (i82 17)), .int (zI (i82 18)), .ref (q 17), .ref (q 18), .ref (q 19), .ref (q 20)])), ((q 0), .inl (cI, 900, .inl (fun k => zI (g_tape k))))] H := by subst e_i82; exact hP
                have hD : va_D A [((q 1), .inl (cI, 8, .inl (fun k => zI (gl9 k)))), (y, .inr (9, [.int (zI (i82 0)), .ref (q 0), .int (zI (i82 1)), .int (zI (i82 2)), .int (zI (i82 3)), .int (zI (i82 4)), .int (zI (i82 5)), .int (zI (i82 6)), .int (zI (i82 7)), .int (zI (i82 8)), .int (zI (i82 9)), .int (zI (i82 10)), .ref (q 1), .int (zI (i82 11)), .int (zI (i82 12)), .ref (q 2), .ref (q 3), .ref (q 4), .ref (q 5), .ref (q 6), .ref (q 7), .ref (q 8), .ref (q 9), .ref (q 10), .ref (q 11), .ref (q 12), .ref (q 13), .ref (q 14), .ref (q 15), .ref (q 16), .int (zI (i82 13)), .int (zI (i82 14)), .int (zI (i82 15)), .int (zI (i82 16)), .int (zI (i82 17)), .int (zI (i82 18)), .ref (q 17), .ref (q 18), .ref (q 19), .ref (q 20)])), ((q 0), .inl (cI, 900, .inl (fun k => zI (g_tape k))))] := by subst e_i82; exact hD
                exact ret (fun k => [(i82, fun _ _ => 0), (fun _ => 0, fun _ => gl9)].getD k (fun _ => 0, fun _ _ => 0)) _ _ _ _ _ _ ⟨⟨hO83, (show i82 5 = 2 → i82 7 ≤ 8 from fun q5 => by omega)⟩, h_gl9, ⟨(show i82 11 = i 11 ∧ i 4 ≤ i82 4 ∧ i82 1 = i 1 ∧ (i82 5 ≠ 0 → i 4 < i82 4) ∧ i82 14 = i 14 ∧ i82 16 = i 16 from by omega), (show TkR g_tape (i 2) (i 4) (i82 3) (i82 4) (i82 5) (i82 7) (i82 6) gl9 from TkR.to (TkR.word (tk := i82 5) (wh := i82 6) hst hsmC hst2 (fun j hj h8 => hlet j (by omega) h8) (by omega)) (by omega) (by omega) (by omega) (by omega) (by omega)), (show i82 0 = i 0 ∧ i82 2 = i 2 ∧ i82 8 = i 8 ∧ i82 9 = i 9 ∧ i82 10 = i 10 ∧ i82 12 = i 12 ∧ i82 13 = i 13 ∧ i82 15 = i 15 ∧ i82 17 = i 17 ∧ i82 18 = i 18 from by omega)⟩⟩ (bw_subP (isC := [1, 2, 0]) hP rfl) (hD.sub [1, 2, 0] (by decide) rfl) hS (Nat.le_of_ble_eq_true rfl) (Nat.le_of_ble_eq_true rfl) dX9_next_247
            · refine lv_aload_n hx hb dX9_next_78 rfl (lv_at hl 2 rfl) ?_
              have hS1 : sSm (lk g_tape (i 2) w1) := by unfold sSm; rw [← hl8]; omega
              refine r_get F hK hP 1 8 rfl rfl in_X9 (by decide) k_1171 rfl dX9_next_79 ?_
              refine lv_bipush (v := zI 8) hx hb dX9_next_82 (by decide) ?_
              refine rz_icmp_ge (tgt := 101) F (by omega) (by omega) dX9_next_84 (by decide) (fun h84_84 => ?_) (fun h84_84 => ?_)
              · refine lv_aload_n hx hb dX9_next_101 rfl (lv_at hl 2 rfl) ?_
                refine lv_dup hx hb dX9_next_102 rfl ?_
                refine r_get F hK hP 1 8 rfl rfl in_X9 (by decide) k_1171 rfl dX9_next_103 ?_
                refine lv_iconst (v := zI 1) hx hb dX9_next_106 rfl ?_
                refine r_iadd (v := zI ((ii 7) + 1)) F dX9_next_107 (zI_add _ _) ?_
                refine r_put F hK hP hD hS 1 8 rfl rfl in_X9 tyX9 tyX9_ok nmX9 (by decide) k_1171 rfl rfl rfl (Nat.le_of_ble_eq_true rfl) dX9_next_108 (w1 := [((q 1), .inl (cI, 8, .inl (fun k => zI (gl9 k)))), (y, .inr (9, [.int (zI (ii 0)), .ref (q 0), .int (zI (ii 1)), .int (zI (ii 2)), .int (zI (ii 3)), .int (zI (ii 4)), .int (zI (ii 5)), .int (zI (ii 6)), .int (zI ((ii 7) + 1)), .int (zI (ii 8)), .int (zI (ii 9)), .int (zI (ii 10)), .ref (q 1), .int (zI (ii 11)), .int (zI (ii 12)), .ref (q 2), .ref (q 3), .ref (q 4), .ref (q 5), .ref (q 6), .ref (q 7), .ref (q 8), .ref (q 9), .ref (q 10), .ref (q 11), .ref (q 12), .ref (q 13), .ref (q 14), .ref (q 15), .ref (q 16), .int (zI (ii 13)), .int (zI (ii 14)), .int (zI (ii 15)), .int (zI (ii 16)), .int (zI (ii 17)), .int (zI (ii 18)), .ref (q 17), .ref (q 18), .ref (q 19), .ref (q 20)])), ((q 0), .inl (cI, 900, .inl (fun k => zI (g_tape k))))]) rfl (fun H locs hP hD hS => ?_)
                refine lv_iinc (v := zI (w1 + 1)) (lv' := [(1, .int (zI (w1 + 1))), (2, .int (zI z13)), (0, .ref y)]) hx hb dX9_next_111 hl (k := 1) rfl (zI_add _ _) (by decide) rfl (fun ls hl => ?_)
                refine lv_goto (tgt := 67) hx hb dX9_next_114 (by decide) ?_
                obtain ⟨i86, e_i86⟩ : ∃ i86 : Nat → Int, i86 = fun k => [(ii 0), (ii 1), (ii 2), (ii 3), (ii 4), (ii 5), (ii 6), ((ii 7) + 1), (ii 8), (ii 9), (ii 10), (ii 11), (ii 12), (ii 13), (ii 14), (ii 15), (ii 16), (ii 17), (ii 18)].getD k 0 := ⟨_, rfl⟩
                have e_i86_0 : i86 0 = (ii 0) := by rw [e_i86]; rfl
                have e_i86_1 : i86 1 = (ii 1) := by rw [e_i86]; rfl
                have e_i86_2 : i86 2 = (ii 2) := by rw [e_i86]; rfl
                have e_i86_3 : i86 3 = (ii 3) := by rw [e_i86]; rfl
                have e_i86_4 : i86 4 = (ii 4) := by rw [e_i86]; rfl
                have e_i86_5 : i86 5 = (ii 5) := by rw [e_i86]; rfl
                have e_i86_6 : i86 6 = (ii 6) := by rw [e_i86]; rfl
                have e_i86_7 : i86 7 = ((ii 7) + 1) := by rw [e_i86]; rfl
                have e_i86_8 : i86 8 = (ii 8) := by rw [e_i86]; rfl
                have e_i86_9 : i86 9 = (ii 9) := by rw [e_i86]; rfl
                have e_i86_10 : i86 10 = (ii 10) := by rw [e_i86]; rfl
                have e_i86_11 : i86 11 = (ii 11) := by rw [e_i86]; rfl
                have e_i86_12 : i86 12 = (ii 12) := by rw [e_i86]; rfl
                have e_i86_13 : i86 13 = (ii 13) := by rw [e_i86]; rfl
                have e_i86_14 : i86 14 = (ii 14) := by rw [e_i86]; rfl
                have e_i86_15 : i86 15 = (ii 15) := by rw [e_i86]; rfl
                have e_i86_16 : i86 16 = (ii 16) := by rw [e_i86]; rfl
                have e_i86_17 : i86 17 = (ii 17) := by rw [e_i86]; rfl
                have e_i86_18 : i86 18 = (ii 18) := by rw [e_i86]; rfl
                have hO87 : ModS i86 := by have hold9 := hG; refine ⟨⟨?_, ?_, ?_, ?_, ?_⟩, ⟨?_, ?_, ?_, ?_, ?_, ?_⟩, ⟨?_, ?_, ?_, ?_⟩⟩ <;> omega
                have hf88 := hO87
                have hP : va_P G vwCl [((q 1), .inl (cI, 8, .inl (fun k => zI (gl9 k)))), (y, .inr (9, [.int (zI (i86 0)), .ref (q 0), .int (zI (i86 1)), .int (zI (i86 2)), .int (zI (i86 3)), .int (zI (i86 4)), .int (zI (i86 5)), .int (zI (i86 6)), .int (zI (i86 7)), .int (zI (i86 8)), .int (zI (i86 9)), .int (zI (i86 10)), .ref (q 1), .int (zI (i86 11)), .int (zI (i86 12)), .ref (q 2), .ref (q 3), .ref (q 4), .ref (q 5), .ref (q 6), .ref (q 7), .ref (q 8), .ref (q 9), .ref (q 10), .ref (q 11), .ref (q 12), .ref (q 13), .ref (q 14), .ref (q 15), .ref (q 16), .int (zI (i86 13)), .int (zI (i86 14)), .int (zI (i86 15)), .int (zI (i86 16)), .int (zI (i86 17)), .int (zI (i86 18)), .ref (q 17), .ref (q 18), .ref (q 19), .ref (q 20)])), ((q 0), .inl (cI, 900, .inl (fun k => zI (g_tape k))))] H := by subst e_i86; exact hP
                have hD : va_D A [((q 1), .inl (cI, 8, .inl (fun k => zI (gl9 k)))), (y, .inr (9, [.int (zI (i86 0)), .ref (q 0), .int (zI (i86 1)), .int (zI (i86 2)), .int (zI (i86 3)), .int (zI (i86 4)), .int (zI (i86 5)), .int (zI (i86 6)), .int (zI (i86 7)), .int (zI (i86 8)), .int (zI (i86 9)), .int (zI (i86 10)), .ref (q 1), .int (zI (i86 11)), .int (zI (i86 12)), .ref (q 2), .ref (q 3), .ref (q 4), .ref (q 5), .ref (q 6), .ref (q 7), .ref (q 8), .ref (q 9), .ref (q 10), .ref (q 11), .ref (q 12), .ref (q 13), .ref (q 14), .ref (q 15), .ref (q 16), .int (zI (i86 13)), .int (zI (i86 14)), .int (zI (i86 15)), .int (zI (i86 16)), .int (zI (i86 17)), .int (zI (i86 18)), .ref (q 17), .ref (q 18), .ref (q 19), .ref (q 20)])), ((q 0), .inl (cI, 900, .inl (fun k => zI (g_tape k))))] := by subst e_i86; exact hD
                exact ih2 (w1 + 1) gl9 i86 _ _ (by omega) (by omega) hO87 h_gl9 (run_step hrun2 hS1) (show ∀ j : Nat, (j : Int) < i86 7 → j < 8 → gl9 j = g_tape (v1 + (j : Int)).toNat from by rw [show i86 7 = ii 7 + 1 by omega]; exact let_long hlet (by omega)) hP hD hS ls (lv_sub hl [1, 0, 2] rfl)
              · refine lv_aload_n hx hb dX9_next_87 rfl (lv_at hl 2 rfl) ?_
                refine r_get F hK hP 1 12 rfl rfl in_X9 (by decide) k_1175 rfl dX9_next_88 ?_
                refine lv_aload_n hx hb dX9_next_91 rfl (lv_at hl 2 rfl) ?_
                refine r_get F hK hP 1 8 rfl rfl in_X9 (by decide) k_1171 rfl dX9_next_92 ?_
                refine lv_aload_n hx hb dX9_next_95 rfl (lv_at hl 2 rfl) ?_
                refine lv_iload_n hx hb dX9_next_96 rfl (lv_at hl 1 rfl) ?_
                refine r_callVi (As := [.int (zI w1)]) (rest := [.int (zI (ii 7)), .ref (q 1)]) (wr := [((q 1), .inl (cI, 8, .inl (fun k => zI (gl9 k))))]) F hK hP hD hS hA hO hE (c_X9_look hO y q ii hG g_tape hr_tape w1 (by omega) (by omega)) k_1307 kv_X9_look 1 rfl (by decide +kernel) ⟨Nat.le_of_ble_eq_true rfl, Nat.le_of_ble_eq_true rfl⟩ [1, 2] [0] rfl rfl (by decide) (by decide) (by decide) 0 9 rfl rfl rfl hl.1 rfl (Nat.le_of_ble_eq_true rfl) dX9_next_97 ⟨Nat.le_of_ble_eq_true rfl, Nat.le_of_ble_eq_true rfl⟩ (w1 := fun u89 => [((q 1), .inl (cI, 8, .inl (fun k => zI (gl9 k)))), (y, .inr (9, [.int (zI (ii 0)), .ref (q 0), .int (zI (ii 1)), .int (zI (ii 2)), .int (zI (ii 3)), .int (zI (ii 4)), .int (zI (ii 5)), .int (zI (ii 6)), .int (zI (ii 7)), .int (zI (ii 8)), .int (zI (ii 9)), .int (zI (ii 10)), .ref (q 1), .int (zI (ii 11)), .int (zI (ii 12)), .ref (q 2), .ref (q 3), .ref (q 4), .ref (q 5), .ref (q 6), .ref (q 7), .ref (q 8), .ref (q 9), .ref (q 10), .ref (q 11), .ref (q 12), .ref (q 13), .ref (q 14), .ref (q 15), .ref (q 16), .int (zI (ii 13)), .int (zI (ii 14)), .int (zI (ii 15)), .int (zI (ii 16)), .int (zI (ii 17)), .int (zI (ii 18)), .ref (q 17), .ref (q 18), .ref (q 19), .ref (q 20)])), ((q 0), .inl (cI, 900, .inl (fun k => zI (g_tape k))))]) (fun _ => rfl) (fun r90 u89 H locs hp91 hP hD hS => ?_)
                obtain ⟨z92, rfl, h_z92⟩ := hp91
                have hl9 : z92 = g_tape (v1 + ii 7).toNat := by rw [h_z92.1, lk_lt (by omega), show v1 + ii 7 = w1 by omega]
                refine rz_iastG F hK hP hD hS 0 0 rfl rfl (by omega) (by omega) dX9_next_100 (w1 := fun g93 => [((q 1), .inl (cI, 8, .inl (fun k => zI (g93 k)))), (y, .inr (9, [.int (zI (ii 0)), .ref (q 0), .int (zI (ii 1)), .int (zI (ii 2)), .int (zI (ii 3)), .int (zI (ii 4)), .int (zI (ii 5)), .int (zI (ii 6)), .int (zI (ii 7)), .int (zI (ii 8)), .int (zI (ii 9)), .int (zI (ii 10)), .ref (q 1), .int (zI (ii 11)), .int (zI (ii 12)), .ref (q 2), .ref (q 3), .ref (q 4), .ref (q 5), .ref (q 6), .ref (q 7), .ref (q 8), .ref (q 9), .ref (q 10), .ref (q 11), .ref (q 12), .ref (q 13), .ref (q 14), .ref (q 15), .ref (q 16), .int (zI (ii 13)), .int (zI (ii 14)), .int (zI (ii 15)), .int (zI (ii 16)), .int (zI (ii 17)), .int (zI (ii 18)), .ref (q 17), .ref (q 18), .ref (q 19), .ref (q 20)])), ((q 0), .inl (cI, 900, .inl (fun k => zI (g_tape k))))]) (fun _ => rfl) (fun g93 e_g93 H locs hP hD hS => ?_)
                have h_g93 : ∀ k, k < 8 → (-2147483648) ≤ g93 k ∧ g93 k ≤ 2147483647 := by rw [e_g93]; exact uZ_all (P := fun _ y9 => (-2147483648) ≤ y9 ∧ y9 ≤ 2147483647) h_gl9 (fun _ => by omega)
                refine lv_aload_n hx hb dX9_next_101 rfl (lv_at hl 2 rfl) ?_
                refine lv_dup hx hb dX9_next_102 rfl ?_
                refine r_get F hK hP 1 8 rfl rfl in_X9 (by decide) k_1171 rfl dX9_next_103 ?_
                refine lv_iconst (v := zI 1) hx hb dX9_next_106 rfl ?_
                refine r_iadd (v := zI ((ii 7) + 1)) F dX9_next_107 (zI_add _ _) ?_
                refine r_put F hK hP hD hS 1 8 rfl rfl in_X9 tyX9 tyX9_ok nmX9 (by decide) k_1171 rfl rfl rfl (Nat.le_of_ble_eq_true rfl) dX9_next_108 (w1 := [((q 1), .inl (cI, 8, .inl (fun k => zI (g93 k)))), (y, .inr (9, [.int (zI (ii 0)), .ref (q 0), .int (zI (ii 1)), .int (zI (ii 2)), .int (zI (ii 3)), .int (zI (ii 4)), .int (zI (ii 5)), .int (zI (ii 6)), .int (zI ((ii 7) + 1)), .int (zI (ii 8)), .int (zI (ii 9)), .int (zI (ii 10)), .ref (q 1), .int (zI (ii 11)), .int (zI (ii 12)), .ref (q 2), .ref (q 3), .ref (q 4), .ref (q 5), .ref (q 6), .ref (q 7), .ref (q 8), .ref (q 9), .ref (q 10), .ref (q 11), .ref (q 12), .ref (q 13), .ref (q 14), .ref (q 15), .ref (q 16), .int (zI (ii 13)), .int (zI (ii 14)), .int (zI (ii 15)), .int (zI (ii 16)), .int (zI (ii 17)), .int (zI (ii 18)), .ref (q 17), .ref (q 18), .ref (q 19), .ref (q 20)])), ((q 0), .inl (cI, 900, .inl (fun k => zI (g_tape k))))]) rfl (fun H locs hP hD hS => ?_)
                refine lv_iinc (v := zI (w1 + 1)) (lv' := [(1, .int (zI (w1 + 1))), (2, .int (zI z13)), (0, .ref y)]) hx hb dX9_next_111 hl (k := 1) rfl (zI_add _ _) (by decide) rfl (fun ls hl => ?_)
                refine lv_goto (tgt := 67) hx hb dX9_next_114 (by decide) ?_
                obtain ⟨i94, e_i94⟩ : ∃ i94 : Nat → Int, i94 = fun k => [(ii 0), (ii 1), (ii 2), (ii 3), (ii 4), (ii 5), (ii 6), ((ii 7) + 1), (ii 8), (ii 9), (ii 10), (ii 11), (ii 12), (ii 13), (ii 14), (ii 15), (ii 16), (ii 17), (ii 18)].getD k 0 := ⟨_, rfl⟩
                have e_i94_0 : i94 0 = (ii 0) := by rw [e_i94]; rfl
                have e_i94_1 : i94 1 = (ii 1) := by rw [e_i94]; rfl
                have e_i94_2 : i94 2 = (ii 2) := by rw [e_i94]; rfl
                have e_i94_3 : i94 3 = (ii 3) := by rw [e_i94]; rfl
                have e_i94_4 : i94 4 = (ii 4) := by rw [e_i94]; rfl
                have e_i94_5 : i94 5 = (ii 5) := by rw [e_i94]; rfl
                have e_i94_6 : i94 6 = (ii 6) := by rw [e_i94]; rfl
                have e_i94_7 : i94 7 = ((ii 7) + 1) := by rw [e_i94]; rfl
                have e_i94_8 : i94 8 = (ii 8) := by rw [e_i94]; rfl
                have e_i94_9 : i94 9 = (ii 9) := by rw [e_i94]; rfl
                have e_i94_10 : i94 10 = (ii 10) := by rw [e_i94]; rfl
                have e_i94_11 : i94 11 = (ii 11) := by rw [e_i94]; rfl
                have e_i94_12 : i94 12 = (ii 12) := by rw [e_i94]; rfl
                have e_i94_13 : i94 13 = (ii 13) := by rw [e_i94]; rfl
                have e_i94_14 : i94 14 = (ii 14) := by rw [e_i94]; rfl
                have e_i94_15 : i94 15 = (ii 15) := by rw [e_i94]; rfl
                have e_i94_16 : i94 16 = (ii 16) := by rw [e_i94]; rfl
                have e_i94_17 : i94 17 = (ii 17) := by rw [e_i94]; rfl
                have e_i94_18 : i94 18 = (ii 18) := by rw [e_i94]; rfl
                have hO95 : ModS i94 := by have hold9 := hG; refine ⟨⟨?_, ?_, ?_, ?_, ?_⟩, ⟨?_, ?_, ?_, ?_, ?_, ?_⟩, ⟨?_, ?_, ?_, ?_⟩⟩ <;> omega
                have hf96 := hO95
                have hP : va_P G vwCl [((q 1), .inl (cI, 8, .inl (fun k => zI (g93 k)))), (y, .inr (9, [.int (zI (i94 0)), .ref (q 0), .int (zI (i94 1)), .int (zI (i94 2)), .int (zI (i94 3)), .int (zI (i94 4)), .int (zI (i94 5)), .int (zI (i94 6)), .int (zI (i94 7)), .int (zI (i94 8)), .int (zI (i94 9)), .int (zI (i94 10)), .ref (q 1), .int (zI (i94 11)), .int (zI (i94 12)), .ref (q 2), .ref (q 3), .ref (q 4), .ref (q 5), .ref (q 6), .ref (q 7), .ref (q 8), .ref (q 9), .ref (q 10), .ref (q 11), .ref (q 12), .ref (q 13), .ref (q 14), .ref (q 15), .ref (q 16), .int (zI (i94 13)), .int (zI (i94 14)), .int (zI (i94 15)), .int (zI (i94 16)), .int (zI (i94 17)), .int (zI (i94 18)), .ref (q 17), .ref (q 18), .ref (q 19), .ref (q 20)])), ((q 0), .inl (cI, 900, .inl (fun k => zI (g_tape k))))] H := by subst e_i94; exact hP
                have hD : va_D A [((q 1), .inl (cI, 8, .inl (fun k => zI (g93 k)))), (y, .inr (9, [.int (zI (i94 0)), .ref (q 0), .int (zI (i94 1)), .int (zI (i94 2)), .int (zI (i94 3)), .int (zI (i94 4)), .int (zI (i94 5)), .int (zI (i94 6)), .int (zI (i94 7)), .int (zI (i94 8)), .int (zI (i94 9)), .int (zI (i94 10)), .ref (q 1), .int (zI (i94 11)), .int (zI (i94 12)), .ref (q 2), .ref (q 3), .ref (q 4), .ref (q 5), .ref (q 6), .ref (q 7), .ref (q 8), .ref (q 9), .ref (q 10), .ref (q 11), .ref (q 12), .ref (q 13), .ref (q 14), .ref (q 15), .ref (q 16), .int (zI (i94 13)), .int (zI (i94 14)), .int (zI (i94 15)), .int (zI (i94 16)), .int (zI (i94 17)), .int (zI (i94 18)), .ref (q 17), .ref (q 18), .ref (q 19), .ref (q 20)])), ((q 0), .inl (cI, 900, .inl (fun k => zI (g_tape k))))] := by subst e_i94; exact hD
                exact ih2 (w1 + 1) g93 i94 _ _ (by omega) (by omega) hO95 h_g93 (run_step hrun2 hS1) (show ∀ j : Nat, (j : Int) < i94 7 → j < 8 → g93 j = g_tape (v1 + (j : Int)).toNat from by rw [show i94 7 = ii 7 + 1 by omega]; exact let_step (by omega) hlet e_g93 hl9) hP hD hS ls (lv_sub hl [1, 0, 2] rfl)
      · refine lv_aload_n hx hb dX9_next_47 rfl (lv_at hl 2 rfl) ?_
        refine lv_iconst (v := zI 0) hx hb dX9_next_48 rfl ?_
        refine r_put F hK hP hD hS 1 6 rfl rfl in_X9 tyX9 tyX9_ok nmX9 (by decide) k_1169 rfl rfl rfl (Nat.le_of_ble_eq_true rfl) dX9_next_49 (w1 := [((q 1), .inl (cI, 8, .inl (fun k => zI (g_letters k)))), (y, .inr (9, [.int (zI (i7 0)), .ref (q 0), .int (zI (i7 1)), .int (zI (i7 2)), .int (zI (i7 3)), .int (zI (i7 4)), .int (zI 0), .int (zI 0), .int (zI 0), .int (zI (i7 8)), .int (zI (i7 9)), .int (zI (i7 10)), .ref (q 1), .int (zI (i7 11)), .int (zI (i7 12)), .ref (q 2), .ref (q 3), .ref (q 4), .ref (q 5), .ref (q 6), .ref (q 7), .ref (q 8), .ref (q 9), .ref (q 10), .ref (q 11), .ref (q 12), .ref (q 13), .ref (q 14), .ref (q 15), .ref (q 16), .int (zI (i7 13)), .int (zI (i7 14)), .int (zI (i7 15)), .int (zI (i7 16)), .int (zI (i7 17)), .int (zI (i7 18)), .ref (q 17), .ref (q 18), .ref (q 19), .ref (q 20)])), ((q 0), .inl (cI, 900, .inl (fun k => zI (g_tape k))))]) rfl (fun H locs hP hD hS => ?_)
        refine lv_aload_n hx hb dX9_next_52 rfl (lv_at hl 2 rfl) ?_
        refine lv_iload_n hx hb dX9_next_53 rfl (lv_at hl 1 rfl) ?_
        refine r_put F hK hP hD hS 1 5 rfl rfl in_X9 tyX9 tyX9_ok nmX9 (by decide) k_1168 rfl rfl rfl (Nat.le_of_ble_eq_true rfl) dX9_next_54 (w1 := [((q 1), .inl (cI, 8, .inl (fun k => zI (g_letters k)))), (y, .inr (9, [.int (zI (i7 0)), .ref (q 0), .int (zI (i7 1)), .int (zI (i7 2)), .int (zI (i7 3)), .int (zI v1), .int (zI 0), .int (zI 0), .int (zI 0), .int (zI (i7 8)), .int (zI (i7 9)), .int (zI (i7 10)), .ref (q 1), .int (zI (i7 11)), .int (zI (i7 12)), .ref (q 2), .ref (q 3), .ref (q 4), .ref (q 5), .ref (q 6), .ref (q 7), .ref (q 8), .ref (q 9), .ref (q 10), .ref (q 11), .ref (q 12), .ref (q 13), .ref (q 14), .ref (q 15), .ref (q 16), .int (zI (i7 13)), .int (zI (i7 14)), .int (zI (i7 15)), .int (zI (i7 16)), .int (zI (i7 17)), .int (zI (i7 18)), .ref (q 17), .ref (q 18), .ref (q 19), .ref (q 20)])), ((q 0), .inl (cI, 900, .inl (fun k => zI (g_tape k))))]) rfl (fun H locs hP hD hS => ?_)
        refine lv_goto (tgt := 247) hx hb dX9_next_57 (by decide) ?_
        obtain ⟨i97, e_i97⟩ : ∃ i97 : Nat → Int, i97 = fun k => [(i7 0), (i7 1), (i7 2), (i7 3), v1, 0, 0, 0, (i7 8), (i7 9), (i7 10), (i7 11), (i7 12), (i7 13), (i7 14), (i7 15), (i7 16), (i7 17), (i7 18)].getD k 0 := ⟨_, rfl⟩
        have e_i97_0 : i97 0 = (i7 0) := by rw [e_i97]; rfl
        have e_i97_1 : i97 1 = (i7 1) := by rw [e_i97]; rfl
        have e_i97_2 : i97 2 = (i7 2) := by rw [e_i97]; rfl
        have e_i97_3 : i97 3 = (i7 3) := by rw [e_i97]; rfl
        have e_i97_4 : i97 4 = v1 := by rw [e_i97]; rfl
        have e_i97_5 : i97 5 = 0 := by rw [e_i97]; rfl
        have e_i97_6 : i97 6 = 0 := by rw [e_i97]; rfl
        have e_i97_7 : i97 7 = 0 := by rw [e_i97]; rfl
        have e_i97_8 : i97 8 = (i7 8) := by rw [e_i97]; rfl
        have e_i97_9 : i97 9 = (i7 9) := by rw [e_i97]; rfl
        have e_i97_10 : i97 10 = (i7 10) := by rw [e_i97]; rfl
        have e_i97_11 : i97 11 = (i7 11) := by rw [e_i97]; rfl
        have e_i97_12 : i97 12 = (i7 12) := by rw [e_i97]; rfl
        have e_i97_13 : i97 13 = (i7 13) := by rw [e_i97]; rfl
        have e_i97_14 : i97 14 = (i7 14) := by rw [e_i97]; rfl
        have e_i97_15 : i97 15 = (i7 15) := by rw [e_i97]; rfl
        have e_i97_16 : i97 16 = (i7 16) := by rw [e_i97]; rfl
        have e_i97_17 : i97 17 = (i7 17) := by rw [e_i97]; rfl
        have e_i97_18 : i97 18 = (i7 18) := by rw [e_i97]; rfl
        have hO98 : ModS i97 := by have hold9 := hO8; refine ⟨⟨?_, ?_, ?_, ?_, ?_⟩, ⟨?_, ?_, ?_, ?_, ?_, ?_⟩, ⟨?_, ?_, ?_, ?_⟩⟩ <;> omega
        have hf99 := hO98
        have hP : va_P G vwCl [((q 1), .inl (cI, 8, .inl (fun k => zI (g_letters k)))), (y, .inr (9, [.int (zI (i97 0)), .ref (q 0), .int (zI (i97 1)), .int (zI (i97 2)), .int (zI (i97 3)), .int (zI (i97 4)), .int (zI (i97 5)), .int (zI (i97 6)), .int (zI (i97 7)), .int (zI (i97 8)), .int (zI (i97 9)), .int (zI (i97 10)), .ref (q 1), .int (zI (i97 11)), .int (zI (i97 12)), .ref (q 2), .ref (q 3), .ref (q 4), .ref (q 5), .ref (q 6), .ref (q 7), .ref (q 8), .ref (q 9), .ref (q 10), .ref (q 11), .ref (q 12), .ref (q 13), .ref (q 14), .ref (q 15), .ref (q 16), .int (zI (i97 13)), .int (zI (i97 14)), .int (zI (i97 15)), .int (zI (i97 16)), .int (zI (i97 17)), .int (zI (i97 18)), .ref (q 17), .ref (q 18), .ref (q 19), .ref (q 20)])), ((q 0), .inl (cI, 900, .inl (fun k => zI (g_tape k))))] H := by subst e_i97; exact hP
        have hD : va_D A [((q 1), .inl (cI, 8, .inl (fun k => zI (g_letters k)))), (y, .inr (9, [.int (zI (i97 0)), .ref (q 0), .int (zI (i97 1)), .int (zI (i97 2)), .int (zI (i97 3)), .int (zI (i97 4)), .int (zI (i97 5)), .int (zI (i97 6)), .int (zI (i97 7)), .int (zI (i97 8)), .int (zI (i97 9)), .int (zI (i97 10)), .ref (q 1), .int (zI (i97 11)), .int (zI (i97 12)), .ref (q 2), .ref (q 3), .ref (q 4), .ref (q 5), .ref (q 6), .ref (q 7), .ref (q 8), .ref (q 9), .ref (q 10), .ref (q 11), .ref (q 12), .ref (q 13), .ref (q 14), .ref (q 15), .ref (q 16), .int (zI (i97 13)), .int (zI (i97 14)), .int (zI (i97 15)), .int (zI (i97 16)), .int (zI (i97 17)), .int (zI (i97 18)), .ref (q 17), .ref (q 18), .ref (q 19), .ref (q 20)])), ((q 0), .inl (cI, 900, .inl (fun k => zI (g_tape k))))] := by subst e_i97; exact hD
        exact ret (fun k => [(i97, fun _ _ => 0), (fun _ => 0, fun _ => g_letters)].getD k (fun _ => 0, fun _ _ => 0)) _ _ _ _ _ _ ⟨⟨hO98, (show i97 5 = 2 → i97 7 ≤ 8 from fun q5 => by omega)⟩, hr_letters, ⟨(show i97 11 = i 11 ∧ i 4 ≤ i97 4 ∧ i97 1 = i 1 ∧ (i97 5 ≠ 0 → i 4 < i97 4) ∧ i97 14 = i 14 ∧ i97 16 = i 16 from by omega), (show TkR g_tape (i 2) (i 4) (i97 3) (i97 4) (i97 5) (i97 7) (i97 6) g_letters from TkR.to (TkR.over (sz := i97 7) (wh := i97 6) hst (by omega)) (by omega) (by omega) (by omega) (by omega) (by omega)), (show i97 0 = i 0 ∧ i97 2 = i 2 ∧ i97 8 = i 8 ∧ i97 9 = i 9 ∧ i97 10 = i 10 ∧ i97 12 = i 12 ∧ i97 13 = i 13 ∧ i97 15 = i 15 ∧ i97 17 = i 17 ∧ i97 18 = i 18 from by omega)⟩⟩ (bw_subP (isC := [1, 2, 0]) hP rfl) (hD.sub [1, 2, 0] (by decide) rfl) hS (Nat.le_of_ble_eq_true rfl) (Nat.le_of_ble_eq_true rfl) dX9_next_247
    · refine lv_iinc (v := zI (v1 + 1)) (lv' := [(1, .int (zI (v1 + 1))), (0, .ref y)]) hx hb dX9_next_15 hl (k := 0) rfl (zI_add _ _) (by decide) rfl (fun ls hl => ?_)
      have hS1 : sSp (lk g_tape (i 2) v1) := by unfold sSp; rw [← hl7]; omega
      refine lv_goto (tgt := 5) hx hb dX9_next_18 (by decide) ?_
      have hP := bw_subP (isC := [1, 2, 0]) (wc := [(y, .inr (9, [.int (zI (i 0)), .ref (q 0), .int (zI (i 1)), .int (zI (i 2)), .int (zI (i 3)), .int (zI (i 4)), .int (zI (i 5)), .int (zI (i 6)), .int (zI (i 7)), .int (zI (i 8)), .int (zI (i 9)), .int (zI (i 10)), .ref (q 1), .int (zI (i 11)), .int (zI (i 12)), .ref (q 2), .ref (q 3), .ref (q 4), .ref (q 5), .ref (q 6), .ref (q 7), .ref (q 8), .ref (q 9), .ref (q 10), .ref (q 11), .ref (q 12), .ref (q 13), .ref (q 14), .ref (q 15), .ref (q 16), .int (zI (i 13)), .int (zI (i 14)), .int (zI (i 15)), .int (zI (i 16)), .int (zI (i 17)), .int (zI (i 18)), .ref (q 17), .ref (q 18), .ref (q 19), .ref (q 20)])), ((q 0), .inl (cI, 900, .inl (fun k => zI (g_tape k)))), ((q 1), .inl (cI, 8, .inl (fun k => zI (g_letters k))))]) hP rfl
      have hD := hD.sub (ws' := [(y, .inr (9, [.int (zI (i 0)), .ref (q 0), .int (zI (i 1)), .int (zI (i 2)), .int (zI (i 3)), .int (zI (i 4)), .int (zI (i 5)), .int (zI (i 6)), .int (zI (i 7)), .int (zI (i 8)), .int (zI (i 9)), .int (zI (i 10)), .ref (q 1), .int (zI (i 11)), .int (zI (i 12)), .ref (q 2), .ref (q 3), .ref (q 4), .ref (q 5), .ref (q 6), .ref (q 7), .ref (q 8), .ref (q 9), .ref (q 10), .ref (q 11), .ref (q 12), .ref (q 13), .ref (q 14), .ref (q 15), .ref (q 16), .int (zI (i 13)), .int (zI (i 14)), .int (zI (i 15)), .int (zI (i 16)), .int (zI (i 17)), .int (zI (i 18)), .ref (q 17), .ref (q 18), .ref (q 19), .ref (q 20)])), ((q 0), .inl (cI, 900, .inl (fun k => zI (g_tape k)))), ((q 1), .inl (cI, 8, .inl (fun k => zI (g_letters k))))]) [1, 2, 0] (by decide) rfl
      exact ih1 (v1 + 1) _ _ (by omega) (by omega) (run_step hrun hS1) hP hD hS ls (lv_sub hl [0, 1] rfl)
