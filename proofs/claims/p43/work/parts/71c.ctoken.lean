theorem run_step {S : Int → Prop} {f : Nat → Int} {n p k : Int} (h : ∀ j : Int, p ≤ j → j < k → S (lk f n j)) (hk : S (lk f n k)) : ∀ j : Int, p ≤ j → j < k + 1 → S (lk f n j) := by
  intro j h1 h2
  by_cases q : j = k
  · rw [q]; exact hk
  · exact h j h1 (by omega)
theorem valN_bd {f : Nat → Int} {n p : Int} {m : Nat} (h : ∀ j : Int, p ≤ j → j < p + (m : Int) → sDg (lk f n j)) : 0 ≤ valN f p m ∧ valN f p m < (10 : Int) ^ m := by
  induction m with
  | zero => exact ⟨Int.le_refl _, by show (0 : Int) < 1; decide⟩
  | succ m ih =>
    have h1 := ih (fun j h2 h3 => h j h2 (by omega))
    have h2 := h (p + (m : Int)) (by omega) (by omega)
    have h3 : f (p + (m : Int)).toNat = lk f n (p + (m : Int)) := by
      by_cases q : p + (m : Int) < n
      · rw [lk_lt q]
      · rw [lk_ge (by omega)] at h2; unfold sDg at h2; omega
    rw [← h3] at h2
    unfold sDg at h2
    have h4 : (10 : Int) ^ (m + 1) = 10 ^ m * 10 := Int.pow_succ 10 m
    constructor
    · show 0 ≤ valN f p m * 10 + (f (p + (m : Int)).toNat - 48); omega
    · show valN f p m * 10 + (f (p + (m : Int)).toNat - 48) < 10 ^ (m + 1); omega
theorem val_bd {f : Nat → Int} {n p k : Int} (h0 : p ≤ k) (h : ∀ j : Int, p ≤ j → j < k → sDg (lk f n j)) (h3 : k - p ≤ 3) : 0 ≤ val f p k ∧ val f p k ≤ 999 := by
  have h1 := valN_bd (f := f) (n := n) (p := p) (m := (k - p).toNat) (fun j h2 h3 => h j h2 (by omega))
  have h2 : (10 : Int) ^ (k - p).toNat ≤ 1000 := by
    have q : ∀ m : Nat, m ≤ 3 → (10 : Int) ^ m ≤ 1000 := by decide
    exact q _ (by omega)
  unfold val
  omega
theorem rz_wrap {p : Program} {l : Launch} {e : Env} {R : Room} {s : State} {m : MethodId} {args : Array Value} {below : List Frame} {meth : Method} {c : Code} {H : Heap} {locs : List Loc} {cells slots : Nat} {Q : State → Prop} {rest : List Value} {pc : Nat} {ls : Array Slot} {x : Int} (kk : ∀ z : Int, zR z → (zR x → z = x) → W p l e R s m args below meth c H locs cells slots Q (F0 m pc ls (.int (zI z) :: rest))) : W p l e R s m args below meth c H locs cells slots Q (F0 m pc ls (.int (zI x) :: rest)) := by
  obtain ⟨z, h1, h2⟩ := zI_of (zI x)
  rw [h2]
  exact kk z h1 (fun q => ((zI_eq h1 q).mp h2.symm))
theorem Kd.step {w : Int} {v : Int} (h0 : 0 ≤ v) (h : ∀ j : Nat, (j : Int) < v → rsv j ≠ w) (e : rsv v.toNat ≠ w) : ∀ j : Nat, (j : Int) < v + 1 → rsv j ≠ w := by
  intro j hj
  by_cases q : j = v.toNat
  · rw [q]; exact e
  · exact h j (by omega)
theorem rsv_bd : ∀ j, j < 19 → 0 ≤ rsv j ∧ rsv j < 1099511627776 := by decide +kernel
abbrev rm_X3x_lookAtWhole : Room := { frames := 0, cells := 0, slots := 0, locals := 0 }
set_option maxRecDepth 100000 in
set_option maxHeartbeats 8000000 in
theorem c_X3x_lookAtWhole {l : Launch} {E : (Nat → Prop) → State → Prop} (hO : bw_Ok E) {G : va_G} {cI cB cJ cN cW : ClassId} (b : Nat) (q : Nat → Nat) (i : Nat → Int) (g : Nat → Nat → Int) (hY : ReaderOk i) (f : Nat → Int) (n : Int) (hTx : TxR f (g 0)) (hRs : ∀ j, j < 19 → g 1 j = rsv j) (hn3 : i 3 = n) (p9 : Int) (hp5 : i 5 = p9) (hp6 : i 6 = p9) : bw_Cv (S := zU) l yX3_lookAtWhole (bw_ws (Cond.code yX3_lookAtWhole cX3_lookAtWhole 1 none)) rm_X3x_lookAtWhole E G (bw_kt cI cB cJ cN cW) [.ref b] [(b, .inr (3, [.ref (q 0), .int (zI (i 0)), .ref (q 3), .ref (q 4), .int (zI (i 1)), .int (zI (i 2)), .ref (q 1), .ref (q 2), .int (zI (i 3)), .int (zI (i 4)), .int (zI (i 5)), .int (zI (i 6)), .long (zL (i 7)), .int (zI (i 8))])), ((q 0), .inl (cB, 900, .inl (fun k => zI ((g 0) k)))), ((q 1), .inl (cJ, 19, .inr (.inl (fun k => zL ((g 1) k))))), ((q 2), .inl (cJ, 10, .inr (.inl (fun k => zL ((g 2) k)))))] (fun u => ReaderOk u.1 ∧ ((u.1 5 = p9 ∧ Stop sDg f n p9 (u.1 6)) ∧ ((u.1 6 - p9 ≤ 3 → u.1 8 = val f p9 (u.1 6) ∧ u.1 4 = 20) ∧ (3 < u.1 6 - p9 → u.1 4 = 23)) ∧ u.1 0 = i 0 ∧ u.1 1 = i 1 ∧ u.1 2 = i 2 ∧ u.1 3 = i 3)) (fun u => [(b, .inr (3, [.ref (q 0), .int (zI (u.1 0)), .ref (q 3), .ref (q 4), .int (zI (u.1 1)), .int (zI (u.1 2)), .ref (q 1), .ref (q 2), .int (zI (u.1 3)), .int (zI (u.1 4)), .int (zI (u.1 5)), .int (zI (u.1 6)), .long (zL (u.1 7)), .int (zI (u.1 8))])), ((q 0), .inl (cB, 900, .inl (fun k => zI ((g 0) k)))), ((q 1), .inl (cJ, 19, .inr (.inl (fun k => zL ((g 1) k))))), ((q 2), .inl (cJ, 10, .inr (.inl (fun k => zL ((g 2) k)))))]) := by
  refine bw_Cv.of (cc := cX3_lookAtWhole) (maxL := 1) (by decide) rfl (Nat.le_of_ble_eq_true rfl) ?_
  intro p e s m below meth c A Q hx hb hml hts hown hin hK hA hS hP hD hE ret ls hl
  have F : CallFix p m c cX3_lookAtWhole 1 s ([.ref b] : List Value).toArray bw_T RX3 := ⟨hx, hb, hml, hown, fun w h => hts w (List.mem_cons_of_mem _ h)⟩
  replace hl : lv_has ls 1 [(0, .ref b)] := hl
  refine lv_aload_n hx hb dX3_lookAtWhole_0 rfl (lv_at hl 0 rfl) ?_
  refine lv_iconst (v := zI 0) hx hb dX3_lookAtWhole_1 rfl ?_
  refine r_put F hK hP hD hS 0 13 rfl rfl in_X3 tyX3 tyX3_ok nmX3 (by decide) k_279 rfl rfl rfl (Nat.le_of_ble_eq_true rfl) dX3_lookAtWhole_2 (w1 := [(b, .inr (3, [.ref (q 0), .int (zI (i 0)), .ref (q 3), .ref (q 4), .int (zI (i 1)), .int (zI (i 2)), .ref (q 1), .ref (q 2), .int (zI (i 3)), .int (zI (i 4)), .int (zI (i 5)), .int (zI (i 6)), .long (zL (i 7)), .int (zI 0)])), ((q 0), .inl (cB, 900, .inl (fun k => zI ((g 0) k)))), ((q 1), .inl (cJ, 19, .inr (.inl (fun k => zL ((g 1) k))))), ((q 2), .inl (cJ, 10, .inr (.inl (fun k => zL ((g 2) k)))))]) rfl (fun H locs hP hD hS => ?_)
  obtain ⟨i1, e_i1⟩ : ∃ i1 : Nat → Int, i1 = fun k => [(i 0), (i 1), (i 2), (i 3), (i 4), (i 5), (i 6), (i 7), 0].getD k 0 := ⟨_, rfl⟩
  have e_i1_0 : i1 0 = (i 0) := congrFun e_i1 0
  have e_i1_1 : i1 1 = (i 1) := congrFun e_i1 1
  have e_i1_2 : i1 2 = (i 2) := congrFun e_i1 2
  have e_i1_3 : i1 3 = (i 3) := congrFun e_i1 3
  have e_i1_4 : i1 4 = (i 4) := congrFun e_i1 4
  have e_i1_5 : i1 5 = (i 5) := congrFun e_i1 5
  have e_i1_6 : i1 6 = (i 6) := congrFun e_i1 6
  have e_i1_7 : i1 7 = (i 7) := congrFun e_i1 7
  have e_i1_8 : i1 8 = 0 := congrFun e_i1 8
  have hO2 : ReaderOk i1 := by refine ⟨?_, ?_, ?_, ?_, ?_, ?_⟩ <;> omega
  have hf3 := hO2
  have hP : va_P G vwCl [(b, .inr (3, [.ref (q 0), .int (zI (i1 0)), .ref (q 3), .ref (q 4), .int (zI (i1 1)), .int (zI (i1 2)), .ref (q 1), .ref (q 2), .int (zI (i1 3)), .int (zI (i1 4)), .int (zI (i1 5)), .int (zI (i1 6)), .long (zL (i1 7)), .int (zI (i1 8))])), ((q 0), .inl (cB, 900, .inl (fun k => zI ((g 0) k)))), ((q 1), .inl (cJ, 19, .inr (.inl (fun k => zL ((g 1) k))))), ((q 2), .inl (cJ, 10, .inr (.inl (fun k => zL ((g 2) k)))))] H := by subst e_i1; exact hP
  have hD : va_D A [(b, .inr (3, [.ref (q 0), .int (zI (i1 0)), .ref (q 3), .ref (q 4), .int (zI (i1 1)), .int (zI (i1 2)), .ref (q 1), .ref (q 2), .int (zI (i1 3)), .int (zI (i1 4)), .int (zI (i1 5)), .int (zI (i1 6)), .long (zL (i1 7)), .int (zI (i1 8))])), ((q 0), .inl (cB, 900, .inl (fun k => zI ((g 0) k)))), ((q 1), .inl (cJ, 19, .inr (.inl (fun k => zL ((g 1) k))))), ((q 2), .inl (cJ, 10, .inr (.inl (fun k => zL ((g 2) k)))))] := by subst e_i1; exact hD
  refine W.widen (k := 0) (n := 0) (Nat.le_of_ble_eq_true rfl) (Nat.le_of_ble_eq_true rfl) ?_
  refine (?_ : ∀ (n9_1 : Nat) (ii : Nat → Int) (H : Heap) (locs : List Loc), (ii 0 = i 0 ∧ ii 1 = i 1 ∧ ii 2 = i 2 ∧ ii 3 = n ∧ ii 5 = p9 ∧ p9 ≤ ii 6 ∧ zR (ii 8)) → (901 - ii 6 : Int).toNat < n9_1 → (ReaderOk ii) → (∀ j : Int, p9 ≤ j → j < ii 6 → sDg (lk f n j)) → (ii 6 - p9 ≤ 3 → ii 8 = val f p9 (ii 6)) → va_P G vwCl [(b, .inr (3, [.ref (q 0), .int (zI (ii 0)), .ref (q 3), .ref (q 4), .int (zI (ii 1)), .int (zI (ii 2)), .ref (q 1), .ref (q 2), .int (zI (ii 3)), .int (zI (ii 4)), .int (zI (ii 5)), .int (zI (ii 6)), .long (zL (ii 7)), .int (zI (ii 8))])), ((q 0), .inl (cB, 900, .inl (fun k => zI ((g 0) k)))), ((q 1), .inl (cJ, 19, .inr (.inl (fun k => zL ((g 1) k))))), ((q 2), .inl (cJ, 10, .inr (.inl (fun k => zL ((g 2) k)))))] H → va_D A [(b, .inr (3, [.ref (q 0), .int (zI (ii 0)), .ref (q 3), .ref (q 4), .int (zI (ii 1)), .int (zI (ii 2)), .ref (q 1), .ref (q 2), .int (zI (ii 3)), .int (zI (ii 4)), .int (zI (ii 5)), .int (zI (ii 6)), .long (zL (ii 7)), .int (zI (ii 8))])), ((q 0), .inl (cB, 900, .inl (fun k => zI ((g 0) k)))), ((q 1), .inl (cJ, 19, .inr (.inl (fun k => zL ((g 1) k))))), ((q 2), .inl (cJ, 10, .inr (.inl (fun k => zL ((g 2) k)))))] → va_S A s.heap H locs → ∀ ls : Array Slot, lv_has ls 1 [(0, .ref b)] → W p l e rm_X3x_lookAtWhole s m ([.ref b] : List Value).toArray below meth c H locs 0 0 Q (F0 m 5 ls [])) ((901 - i1 6 : Int).toNat + 1) i1 _ _ (by omega) (by omega) hO2 (fun j h1 h2 => absurd h2 (by omega)) (fun _ => by rw [show i1 6 = p9 by omega, val_0]; omega) hP hD hS ls hl
  clear hP hD hS hl ls
  intro n9_1
  induction n9_1 with
  | zero =>
    intro ii H locs hI hM
    exact absurd hM (by omega)
  | succ n9_1 ih1 =>
    intro ii H locs hI1 hM1 hG hrun hv hP hD hS ls hl
    have hf4 := hG
    refine lv_aload_n hx hb dX3_lookAtWhole_5 rfl (lv_at hl 0 rfl) ?_
    refine r_get F hK hP 0 11 rfl rfl in_X3 (by decide) k_277 rfl dX3_lookAtWhole_6 ?_
    refine lv_aload_n hx hb dX3_lookAtWhole_9 rfl (lv_at hl 0 rfl) ?_
    refine r_get F hK hP 0 8 rfl rfl in_X3 (by decide) k_274 rfl dX3_lookAtWhole_10 ?_
    refine rz_icmp_ge (tgt := 81) F (by omega) (by omega) dX3_lookAtWhole_13 (by decide) (fun h13_4 => ?_) (fun h13_4 => ?_)
    · refine lv_aload_n hx hb dX3_lookAtWhole_81 rfl (lv_at hl 0 rfl) ?_
      have hlk6 : lk f n (ii 6) = -1 := lk_ge (by omega)
      have hst : Stop sDg f n p9 (ii 6) := ⟨by omega, hrun, by unfold sDg; rw [hlk6]; omega⟩
      refine lv_aload_n hx hb dX3_lookAtWhole_82 rfl (lv_at hl 0 rfl) ?_
      refine r_get F hK hP 0 11 rfl rfl in_X3 (by decide) k_277 rfl dX3_lookAtWhole_83 ?_
      refine lv_aload_n hx hb dX3_lookAtWhole_86 rfl (lv_at hl 0 rfl) ?_
      refine r_get F hK hP 0 10 rfl rfl in_X3 (by decide) k_276 rfl dX3_lookAtWhole_87 ?_
      refine r_isub (v := zI ((ii 6) - (ii 5))) F dX3_lookAtWhole_90 (zI_sub _ _) ?_
      refine lv_iconst (v := zI 3) hx hb dX3_lookAtWhole_91 rfl ?_
      refine rz_icmp_gt (tgt := 100) F (by omega) (by omega) dX3_lookAtWhole_92 (by decide) (fun h92_6 => ?_) (fun h92_6 => ?_)
      · refine lv_bipush (v := zI 23) hx hb dX3_lookAtWhole_100 (by decide) ?_
        refine r_put F hK hP hD hS 0 9 rfl rfl in_X3 tyX3 tyX3_ok nmX3 (by decide) k_275 rfl rfl rfl (Nat.le_of_ble_eq_true rfl) dX3_lookAtWhole_102 (w1 := [(b, .inr (3, [.ref (q 0), .int (zI (ii 0)), .ref (q 3), .ref (q 4), .int (zI (ii 1)), .int (zI (ii 2)), .ref (q 1), .ref (q 2), .int (zI (ii 3)), .int (zI 23), .int (zI (ii 5)), .int (zI (ii 6)), .long (zL (ii 7)), .int (zI (ii 8))])), ((q 0), .inl (cB, 900, .inl (fun k => zI ((g 0) k)))), ((q 1), .inl (cJ, 19, .inr (.inl (fun k => zL ((g 1) k))))), ((q 2), .inl (cJ, 10, .inr (.inl (fun k => zL ((g 2) k)))))]) rfl (fun H locs hP hD hS => ?_)
        obtain ⟨i8, e_i8⟩ : ∃ i8 : Nat → Int, i8 = fun k => [(ii 0), (ii 1), (ii 2), (ii 3), 23, (ii 5), (ii 6), (ii 7), (ii 8)].getD k 0 := ⟨_, rfl⟩
        have e_i8_0 : i8 0 = (ii 0) := congrFun e_i8 0
        have e_i8_1 : i8 1 = (ii 1) := congrFun e_i8 1
        have e_i8_2 : i8 2 = (ii 2) := congrFun e_i8 2
        have e_i8_3 : i8 3 = (ii 3) := congrFun e_i8 3
        have e_i8_4 : i8 4 = 23 := congrFun e_i8 4
        have e_i8_5 : i8 5 = (ii 5) := congrFun e_i8 5
        have e_i8_6 : i8 6 = (ii 6) := congrFun e_i8 6
        have e_i8_7 : i8 7 = (ii 7) := congrFun e_i8 7
        have e_i8_8 : i8 8 = (ii 8) := congrFun e_i8 8
        have hO9 : ReaderOk i8 := by refine ⟨?_, ?_, ?_, ?_, ?_, ?_⟩ <;> omega
        have hf10 := hO9
        have hP : va_P G vwCl [(b, .inr (3, [.ref (q 0), .int (zI (i8 0)), .ref (q 3), .ref (q 4), .int (zI (i8 1)), .int (zI (i8 2)), .ref (q 1), .ref (q 2), .int (zI (i8 3)), .int (zI (i8 4)), .int (zI (i8 5)), .int (zI (i8 6)), .long (zL (i8 7)), .int (zI (i8 8))])), ((q 0), .inl (cB, 900, .inl (fun k => zI ((g 0) k)))), ((q 1), .inl (cJ, 19, .inr (.inl (fun k => zL ((g 1) k))))), ((q 2), .inl (cJ, 10, .inr (.inl (fun k => zL ((g 2) k)))))] H := by subst e_i8; exact hP
        have hD : va_D A [(b, .inr (3, [.ref (q 0), .int (zI (i8 0)), .ref (q 3), .ref (q 4), .int (zI (i8 1)), .int (zI (i8 2)), .ref (q 1), .ref (q 2), .int (zI (i8 3)), .int (zI (i8 4)), .int (zI (i8 5)), .int (zI (i8 6)), .long (zL (i8 7)), .int (zI (i8 8))])), ((q 0), .inl (cB, 900, .inl (fun k => zI ((g 0) k)))), ((q 1), .inl (cJ, 19, .inr (.inl (fun k => zL ((g 1) k))))), ((q 2), .inl (cJ, 10, .inr (.inl (fun k => zL ((g 2) k)))))] := by subst e_i8; exact hD
        exact ret (i8, fun _ _ => 0) _ _ _ _ _ _ ⟨hO9, (show (i8 5 = p9 ∧ Stop sDg f n p9 (i8 6)) ∧ ((i8 6 - p9 ≤ 3 → i8 8 = val f p9 (i8 6) ∧ i8 4 = 20) ∧ (3 < i8 6 - p9 → i8 4 = 23)) ∧ i8 0 = i 0 ∧ i8 1 = i 1 ∧ i8 2 = i 2 ∧ i8 3 = i 3 from ⟨⟨by omega, (show i8 6 = ii 6 by omega) ▸ hst⟩, ⟨fun q9 => ⟨by have q8 := hv (by omega); rw [show i8 8 = ii 8 by omega, show i8 6 = ii 6 by omega]; exact q8, by omega⟩, fun q9 => by omega⟩, by omega⟩)⟩ (bw_subP (isC := [0, 1, 2, 3]) hP rfl) (hD.sub [0, 1, 2, 3] (by decide) rfl) hS (Nat.le_of_ble_eq_true rfl) (Nat.le_of_ble_eq_true rfl) dX3_lookAtWhole_105
      · refine lv_bipush (v := zI 20) hx hb dX3_lookAtWhole_95 (by decide) ?_
        refine lv_goto (tgt := 102) hx hb dX3_lookAtWhole_97 (by decide) ?_
        refine r_put F hK hP hD hS 0 9 rfl rfl in_X3 tyX3 tyX3_ok nmX3 (by decide) k_275 rfl rfl rfl (Nat.le_of_ble_eq_true rfl) dX3_lookAtWhole_102 (w1 := [(b, .inr (3, [.ref (q 0), .int (zI (ii 0)), .ref (q 3), .ref (q 4), .int (zI (ii 1)), .int (zI (ii 2)), .ref (q 1), .ref (q 2), .int (zI (ii 3)), .int (zI 20), .int (zI (ii 5)), .int (zI (ii 6)), .long (zL (ii 7)), .int (zI (ii 8))])), ((q 0), .inl (cB, 900, .inl (fun k => zI ((g 0) k)))), ((q 1), .inl (cJ, 19, .inr (.inl (fun k => zL ((g 1) k))))), ((q 2), .inl (cJ, 10, .inr (.inl (fun k => zL ((g 2) k)))))]) rfl (fun H locs hP hD hS => ?_)
        obtain ⟨i11, e_i11⟩ : ∃ i11 : Nat → Int, i11 = fun k => [(ii 0), (ii 1), (ii 2), (ii 3), 20, (ii 5), (ii 6), (ii 7), (ii 8)].getD k 0 := ⟨_, rfl⟩
        have e_i11_0 : i11 0 = (ii 0) := congrFun e_i11 0
        have e_i11_1 : i11 1 = (ii 1) := congrFun e_i11 1
        have e_i11_2 : i11 2 = (ii 2) := congrFun e_i11 2
        have e_i11_3 : i11 3 = (ii 3) := congrFun e_i11 3
        have e_i11_4 : i11 4 = 20 := congrFun e_i11 4
        have e_i11_5 : i11 5 = (ii 5) := congrFun e_i11 5
        have e_i11_6 : i11 6 = (ii 6) := congrFun e_i11 6
        have e_i11_7 : i11 7 = (ii 7) := congrFun e_i11 7
        have e_i11_8 : i11 8 = (ii 8) := congrFun e_i11 8
        have hO12 : ReaderOk i11 := by refine ⟨?_, ?_, ?_, ?_, ?_, ?_⟩ <;> omega
        have hf13 := hO12
        have hP : va_P G vwCl [(b, .inr (3, [.ref (q 0), .int (zI (i11 0)), .ref (q 3), .ref (q 4), .int (zI (i11 1)), .int (zI (i11 2)), .ref (q 1), .ref (q 2), .int (zI (i11 3)), .int (zI (i11 4)), .int (zI (i11 5)), .int (zI (i11 6)), .long (zL (i11 7)), .int (zI (i11 8))])), ((q 0), .inl (cB, 900, .inl (fun k => zI ((g 0) k)))), ((q 1), .inl (cJ, 19, .inr (.inl (fun k => zL ((g 1) k))))), ((q 2), .inl (cJ, 10, .inr (.inl (fun k => zL ((g 2) k)))))] H := by subst e_i11; exact hP
        have hD : va_D A [(b, .inr (3, [.ref (q 0), .int (zI (i11 0)), .ref (q 3), .ref (q 4), .int (zI (i11 1)), .int (zI (i11 2)), .ref (q 1), .ref (q 2), .int (zI (i11 3)), .int (zI (i11 4)), .int (zI (i11 5)), .int (zI (i11 6)), .long (zL (i11 7)), .int (zI (i11 8))])), ((q 0), .inl (cB, 900, .inl (fun k => zI ((g 0) k)))), ((q 1), .inl (cJ, 19, .inr (.inl (fun k => zL ((g 1) k))))), ((q 2), .inl (cJ, 10, .inr (.inl (fun k => zL ((g 2) k)))))] := by subst e_i11; exact hD
        exact ret (i11, fun _ _ => 0) _ _ _ _ _ _ ⟨hO12, (show (i11 5 = p9 ∧ Stop sDg f n p9 (i11 6)) ∧ ((i11 6 - p9 ≤ 3 → i11 8 = val f p9 (i11 6) ∧ i11 4 = 20) ∧ (3 < i11 6 - p9 → i11 4 = 23)) ∧ i11 0 = i 0 ∧ i11 1 = i 1 ∧ i11 2 = i 2 ∧ i11 3 = i 3 from ⟨⟨by omega, (show i11 6 = ii 6 by omega) ▸ hst⟩, ⟨fun q9 => ⟨by have q8 := hv (by omega); rw [show i11 8 = ii 8 by omega, show i11 6 = ii 6 by omega]; exact q8, by omega⟩, fun q9 => by omega⟩, by omega⟩)⟩ (bw_subP (isC := [0, 1, 2, 3]) hP rfl) (hD.sub [0, 1, 2, 3] (by decide) rfl) hS (Nat.le_of_ble_eq_true rfl) (Nat.le_of_ble_eq_true rfl) dX3_lookAtWhole_105
    · refine lv_aload_n hx hb dX3_lookAtWhole_16 rfl (lv_at hl 0 rfl) ?_
      refine r_get F hK hP 0 0 rfl rfl in_X3 (by decide) k_261 rfl dX3_lookAtWhole_17 ?_
      refine lv_aload_n hx hb dX3_lookAtWhole_20 rfl (lv_at hl 0 rfl) ?_
      refine r_get F hK hP 0 11 rfl rfl in_X3 (by decide) k_277 rfl dX3_lookAtWhole_21 ?_
      refine rz_baldE F hK hP 1 1 rfl rfl (by omega) (by omega) dX3_lookAtWhole_24 ?_
      have hb15 := hTx ((ii 6)).toNat (by omega)
      have hlk16 : lk f n (ii 6) = f ((ii 6)).toNat := lk_lt (by omega)
      refine lv_bipush (v := zI 48) hx hb dX3_lookAtWhole_25 (by decide) ?_
      refine rz_icmp_lt (tgt := 81) F (by omega) (by omega) dX3_lookAtWhole_27 (by decide) (fun h27_16 => ?_) (fun h27_16 => ?_)
      · refine lv_aload_n hx hb dX3_lookAtWhole_81 rfl (lv_at hl 0 rfl) ?_
        have hst : Stop sDg f n p9 (ii 6) := ⟨by omega, hrun, by unfold sDg; rw [hlk16]; omega⟩
        refine lv_aload_n hx hb dX3_lookAtWhole_82 rfl (lv_at hl 0 rfl) ?_
        refine r_get F hK hP 0 11 rfl rfl in_X3 (by decide) k_277 rfl dX3_lookAtWhole_83 ?_
        refine lv_aload_n hx hb dX3_lookAtWhole_86 rfl (lv_at hl 0 rfl) ?_
        refine r_get F hK hP 0 10 rfl rfl in_X3 (by decide) k_276 rfl dX3_lookAtWhole_87 ?_
        refine r_isub (v := zI ((ii 6) - (ii 5))) F dX3_lookAtWhole_90 (zI_sub _ _) ?_
        refine lv_iconst (v := zI 3) hx hb dX3_lookAtWhole_91 rfl ?_
        refine rz_icmp_gt (tgt := 100) F (by omega) (by omega) dX3_lookAtWhole_92 (by decide) (fun h92_17 => ?_) (fun h92_17 => ?_)
        · refine lv_bipush (v := zI 23) hx hb dX3_lookAtWhole_100 (by decide) ?_
          refine r_put F hK hP hD hS 0 9 rfl rfl in_X3 tyX3 tyX3_ok nmX3 (by decide) k_275 rfl rfl rfl (Nat.le_of_ble_eq_true rfl) dX3_lookAtWhole_102 (w1 := [(b, .inr (3, [.ref (q 0), .int (zI (ii 0)), .ref (q 3), .ref (q 4), .int (zI (ii 1)), .int (zI (ii 2)), .ref (q 1), .ref (q 2), .int (zI (ii 3)), .int (zI 23), .int (zI (ii 5)), .int (zI (ii 6)), .long (zL (ii 7)), .int (zI (ii 8))])), ((q 0), .inl (cB, 900, .inl (fun k => zI ((g 0) k)))), ((q 1), .inl (cJ, 19, .inr (.inl (fun k => zL ((g 1) k))))), ((q 2), .inl (cJ, 10, .inr (.inl (fun k => zL ((g 2) k)))))]) rfl (fun H locs hP hD hS => ?_)
          obtain ⟨i19, e_i19⟩ : ∃ i19 : Nat → Int, i19 = fun k => [(ii 0), (ii 1), (ii 2), (ii 3), 23, (ii 5), (ii 6), (ii 7), (ii 8)].getD k 0 := ⟨_, rfl⟩
          have e_i19_0 : i19 0 = (ii 0) := congrFun e_i19 0
          have e_i19_1 : i19 1 = (ii 1) := congrFun e_i19 1
          have e_i19_2 : i19 2 = (ii 2) := congrFun e_i19 2
          have e_i19_3 : i19 3 = (ii 3) := congrFun e_i19 3
          have e_i19_4 : i19 4 = 23 := congrFun e_i19 4
          have e_i19_5 : i19 5 = (ii 5) := congrFun e_i19 5
          have e_i19_6 : i19 6 = (ii 6) := congrFun e_i19 6
          have e_i19_7 : i19 7 = (ii 7) := congrFun e_i19 7
          have e_i19_8 : i19 8 = (ii 8) := congrFun e_i19 8
          have hO20 : ReaderOk i19 := by refine ⟨?_, ?_, ?_, ?_, ?_, ?_⟩ <;> omega
          have hf21 := hO20
          have hP : va_P G vwCl [(b, .inr (3, [.ref (q 0), .int (zI (i19 0)), .ref (q 3), .ref (q 4), .int (zI (i19 1)), .int (zI (i19 2)), .ref (q 1), .ref (q 2), .int (zI (i19 3)), .int (zI (i19 4)), .int (zI (i19 5)), .int (zI (i19 6)), .long (zL (i19 7)), .int (zI (i19 8))])), ((q 0), .inl (cB, 900, .inl (fun k => zI ((g 0) k)))), ((q 1), .inl (cJ, 19, .inr (.inl (fun k => zL ((g 1) k))))), ((q 2), .inl (cJ, 10, .inr (.inl (fun k => zL ((g 2) k)))))] H := by subst e_i19; exact hP
          have hD : va_D A [(b, .inr (3, [.ref (q 0), .int (zI (i19 0)), .ref (q 3), .ref (q 4), .int (zI (i19 1)), .int (zI (i19 2)), .ref (q 1), .ref (q 2), .int (zI (i19 3)), .int (zI (i19 4)), .int (zI (i19 5)), .int (zI (i19 6)), .long (zL (i19 7)), .int (zI (i19 8))])), ((q 0), .inl (cB, 900, .inl (fun k => zI ((g 0) k)))), ((q 1), .inl (cJ, 19, .inr (.inl (fun k => zL ((g 1) k))))), ((q 2), .inl (cJ, 10, .inr (.inl (fun k => zL ((g 2) k)))))] := by subst e_i19; exact hD
          exact ret (i19, fun _ _ => 0) _ _ _ _ _ _ ⟨hO20, (show (i19 5 = p9 ∧ Stop sDg f n p9 (i19 6)) ∧ ((i19 6 - p9 ≤ 3 → i19 8 = val f p9 (i19 6) ∧ i19 4 = 20) ∧ (3 < i19 6 - p9 → i19 4 = 23)) ∧ i19 0 = i 0 ∧ i19 1 = i 1 ∧ i19 2 = i 2 ∧ i19 3 = i 3 from ⟨⟨by omega, (show i19 6 = ii 6 by omega) ▸ hst⟩, ⟨fun q9 => ⟨by have q8 := hv (by omega); rw [show i19 8 = ii 8 by omega, show i19 6 = ii 6 by omega]; exact q8, by omega⟩, fun q9 => by omega⟩, by omega⟩)⟩ (bw_subP (isC := [0, 1, 2, 3]) hP rfl) (hD.sub [0, 1, 2, 3] (by decide) rfl) hS (Nat.le_of_ble_eq_true rfl) (Nat.le_of_ble_eq_true rfl) dX3_lookAtWhole_105
        · refine lv_bipush (v := zI 20) hx hb dX3_lookAtWhole_95 (by decide) ?_
          refine lv_goto (tgt := 102) hx hb dX3_lookAtWhole_97 (by decide) ?_
          refine r_put F hK hP hD hS 0 9 rfl rfl in_X3 tyX3 tyX3_ok nmX3 (by decide) k_275 rfl rfl rfl (Nat.le_of_ble_eq_true rfl) dX3_lookAtWhole_102 (w1 := [(b, .inr (3, [.ref (q 0), .int (zI (ii 0)), .ref (q 3), .ref (q 4), .int (zI (ii 1)), .int (zI (ii 2)), .ref (q 1), .ref (q 2), .int (zI (ii 3)), .int (zI 20), .int (zI (ii 5)), .int (zI (ii 6)), .long (zL (ii 7)), .int (zI (ii 8))])), ((q 0), .inl (cB, 900, .inl (fun k => zI ((g 0) k)))), ((q 1), .inl (cJ, 19, .inr (.inl (fun k => zL ((g 1) k))))), ((q 2), .inl (cJ, 10, .inr (.inl (fun k => zL ((g 2) k)))))]) rfl (fun H locs hP hD hS => ?_)
          obtain ⟨i22, e_i22⟩ : ∃ i22 : Nat → Int, i22 = fun k => [(ii 0), (ii 1), (ii 2), (ii 3), 20, (ii 5), (ii 6), (ii 7), (ii 8)].getD k 0 := ⟨_, rfl⟩
          have e_i22_0 : i22 0 = (ii 0) := congrFun e_i22 0
          have e_i22_1 : i22 1 = (ii 1) := congrFun e_i22 1
          have e_i22_2 : i22 2 = (ii 2) := congrFun e_i22 2
          have e_i22_3 : i22 3 = (ii 3) := congrFun e_i22 3
          have e_i22_4 : i22 4 = 20 := congrFun e_i22 4
          have e_i22_5 : i22 5 = (ii 5) := congrFun e_i22 5
          have e_i22_6 : i22 6 = (ii 6) := congrFun e_i22 6
          have e_i22_7 : i22 7 = (ii 7) := congrFun e_i22 7
          have e_i22_8 : i22 8 = (ii 8) := congrFun e_i22 8
          have hO23 : ReaderOk i22 := by refine ⟨?_, ?_, ?_, ?_, ?_, ?_⟩ <;> omega
          have hf24 := hO23
          have hP : va_P G vwCl [(b, .inr (3, [.ref (q 0), .int (zI (i22 0)), .ref (q 3), .ref (q 4), .int (zI (i22 1)), .int (zI (i22 2)), .ref (q 1), .ref (q 2), .int (zI (i22 3)), .int (zI (i22 4)), .int (zI (i22 5)), .int (zI (i22 6)), .long (zL (i22 7)), .int (zI (i22 8))])), ((q 0), .inl (cB, 900, .inl (fun k => zI ((g 0) k)))), ((q 1), .inl (cJ, 19, .inr (.inl (fun k => zL ((g 1) k))))), ((q 2), .inl (cJ, 10, .inr (.inl (fun k => zL ((g 2) k)))))] H := by subst e_i22; exact hP
          have hD : va_D A [(b, .inr (3, [.ref (q 0), .int (zI (i22 0)), .ref (q 3), .ref (q 4), .int (zI (i22 1)), .int (zI (i22 2)), .ref (q 1), .ref (q 2), .int (zI (i22 3)), .int (zI (i22 4)), .int (zI (i22 5)), .int (zI (i22 6)), .long (zL (i22 7)), .int (zI (i22 8))])), ((q 0), .inl (cB, 900, .inl (fun k => zI ((g 0) k)))), ((q 1), .inl (cJ, 19, .inr (.inl (fun k => zL ((g 1) k))))), ((q 2), .inl (cJ, 10, .inr (.inl (fun k => zL ((g 2) k)))))] := by subst e_i22; exact hD
          exact ret (i22, fun _ _ => 0) _ _ _ _ _ _ ⟨hO23, (show (i22 5 = p9 ∧ Stop sDg f n p9 (i22 6)) ∧ ((i22 6 - p9 ≤ 3 → i22 8 = val f p9 (i22 6) ∧ i22 4 = 20) ∧ (3 < i22 6 - p9 → i22 4 = 23)) ∧ i22 0 = i 0 ∧ i22 1 = i 1 ∧ i22 2 = i 2 ∧ i22 3 = i 3 from ⟨⟨by omega, (show i22 6 = ii 6 by omega) ▸ hst⟩, ⟨fun q9 => ⟨by have q8 := hv (by omega); rw [show i22 8 = ii 8 by omega, show i22 6 = ii 6 by omega]; exact q8, by omega⟩, fun q9 => by omega⟩, by omega⟩)⟩ (bw_subP (isC := [0, 1, 2, 3]) hP rfl) (hD.sub [0, 1, 2, 3] (by decide) rfl) hS (Nat.le_of_ble_eq_true rfl) (Nat.le_of_ble_eq_true rfl) dX3_lookAtWhole_105
      · refine lv_aload_n hx hb dX3_lookAtWhole_30 rfl (lv_at hl 0 rfl) ?_
        refine r_get F hK hP 0 0 rfl rfl in_X3 (by decide) k_261 rfl dX3_lookAtWhole_31 ?_
        refine lv_aload_n hx hb dX3_lookAtWhole_34 rfl (lv_at hl 0 rfl) ?_
        refine r_get F hK hP 0 11 rfl rfl in_X3 (by decide) k_277 rfl dX3_lookAtWhole_35 ?_
        refine rz_baldE F hK hP 1 1 rfl rfl (by omega) (by omega) dX3_lookAtWhole_38 ?_
        have hb26 := hTx ((ii 6)).toNat (by omega)
        have hlk27 : lk f n (ii 6) = f ((ii 6)).toNat := lk_lt (by omega)
        refine lv_bipush (v := zI 57) hx hb dX3_lookAtWhole_39 (by decide) ?_
        refine rz_icmp_gt (tgt := 81) F (by omega) (by omega) dX3_lookAtWhole_41 (by decide) (fun h41_27 => ?_) (fun h41_27 => ?_)
        · refine lv_aload_n hx hb dX3_lookAtWhole_81 rfl (lv_at hl 0 rfl) ?_
          have hst : Stop sDg f n p9 (ii 6) := ⟨by omega, hrun, by unfold sDg; rw [hlk27]; omega⟩
          refine lv_aload_n hx hb dX3_lookAtWhole_82 rfl (lv_at hl 0 rfl) ?_
          refine r_get F hK hP 0 11 rfl rfl in_X3 (by decide) k_277 rfl dX3_lookAtWhole_83 ?_
          refine lv_aload_n hx hb dX3_lookAtWhole_86 rfl (lv_at hl 0 rfl) ?_
          refine r_get F hK hP 0 10 rfl rfl in_X3 (by decide) k_276 rfl dX3_lookAtWhole_87 ?_
          refine r_isub (v := zI ((ii 6) - (ii 5))) F dX3_lookAtWhole_90 (zI_sub _ _) ?_
          refine lv_iconst (v := zI 3) hx hb dX3_lookAtWhole_91 rfl ?_
          refine rz_icmp_gt (tgt := 100) F (by omega) (by omega) dX3_lookAtWhole_92 (by decide) (fun h92_28 => ?_) (fun h92_28 => ?_)
          · refine lv_bipush (v := zI 23) hx hb dX3_lookAtWhole_100 (by decide) ?_
            refine r_put F hK hP hD hS 0 9 rfl rfl in_X3 tyX3 tyX3_ok nmX3 (by decide) k_275 rfl rfl rfl (Nat.le_of_ble_eq_true rfl) dX3_lookAtWhole_102 (w1 := [(b, .inr (3, [.ref (q 0), .int (zI (ii 0)), .ref (q 3), .ref (q 4), .int (zI (ii 1)), .int (zI (ii 2)), .ref (q 1), .ref (q 2), .int (zI (ii 3)), .int (zI 23), .int (zI (ii 5)), .int (zI (ii 6)), .long (zL (ii 7)), .int (zI (ii 8))])), ((q 0), .inl (cB, 900, .inl (fun k => zI ((g 0) k)))), ((q 1), .inl (cJ, 19, .inr (.inl (fun k => zL ((g 1) k))))), ((q 2), .inl (cJ, 10, .inr (.inl (fun k => zL ((g 2) k)))))]) rfl (fun H locs hP hD hS => ?_)
            obtain ⟨i30, e_i30⟩ : ∃ i30 : Nat → Int, i30 = fun k => [(ii 0), (ii 1), (ii 2), (ii 3), 23, (ii 5), (ii 6), (ii 7), (ii 8)].getD k 0 := ⟨_, rfl⟩
            have e_i30_0 : i30 0 = (ii 0) := congrFun e_i30 0
            have e_i30_1 : i30 1 = (ii 1) := congrFun e_i30 1
            have e_i30_2 : i30 2 = (ii 2) := congrFun e_i30 2
            have e_i30_3 : i30 3 = (ii 3) := congrFun e_i30 3
            have e_i30_4 : i30 4 = 23 := congrFun e_i30 4
            have e_i30_5 : i30 5 = (ii 5) := congrFun e_i30 5
            have e_i30_6 : i30 6 = (ii 6) := congrFun e_i30 6
            have e_i30_7 : i30 7 = (ii 7) := congrFun e_i30 7
            have e_i30_8 : i30 8 = (ii 8) := congrFun e_i30 8
            have hO31 : ReaderOk i30 := by refine ⟨?_, ?_, ?_, ?_, ?_, ?_⟩ <;> omega
            have hf32 := hO31
            have hP : va_P G vwCl [(b, .inr (3, [.ref (q 0), .int (zI (i30 0)), .ref (q 3), .ref (q 4), .int (zI (i30 1)), .int (zI (i30 2)), .ref (q 1), .ref (q 2), .int (zI (i30 3)), .int (zI (i30 4)), .int (zI (i30 5)), .int (zI (i30 6)), .long (zL (i30 7)), .int (zI (i30 8))])), ((q 0), .inl (cB, 900, .inl (fun k => zI ((g 0) k)))), ((q 1), .inl (cJ, 19, .inr (.inl (fun k => zL ((g 1) k))))), ((q 2), .inl (cJ, 10, .inr (.inl (fun k => zL ((g 2) k)))))] H := by subst e_i30; exact hP
            have hD : va_D A [(b, .inr (3, [.ref (q 0), .int (zI (i30 0)), .ref (q 3), .ref (q 4), .int (zI (i30 1)), .int (zI (i30 2)), .ref (q 1), .ref (q 2), .int (zI (i30 3)), .int (zI (i30 4)), .int (zI (i30 5)), .int (zI (i30 6)), .long (zL (i30 7)), .int (zI (i30 8))])), ((q 0), .inl (cB, 900, .inl (fun k => zI ((g 0) k)))), ((q 1), .inl (cJ, 19, .inr (.inl (fun k => zL ((g 1) k))))), ((q 2), .inl (cJ, 10, .inr (.inl (fun k => zL ((g 2) k)))))] := by subst e_i30; exact hD
            exact ret (i30, fun _ _ => 0) _ _ _ _ _ _ ⟨hO31, (show (i30 5 = p9 ∧ Stop sDg f n p9 (i30 6)) ∧ ((i30 6 - p9 ≤ 3 → i30 8 = val f p9 (i30 6) ∧ i30 4 = 20) ∧ (3 < i30 6 - p9 → i30 4 = 23)) ∧ i30 0 = i 0 ∧ i30 1 = i 1 ∧ i30 2 = i 2 ∧ i30 3 = i 3 from ⟨⟨by omega, (show i30 6 = ii 6 by omega) ▸ hst⟩, ⟨fun q9 => ⟨by have q8 := hv (by omega); rw [show i30 8 = ii 8 by omega, show i30 6 = ii 6 by omega]; exact q8, by omega⟩, fun q9 => by omega⟩, by omega⟩)⟩ (bw_subP (isC := [0, 1, 2, 3]) hP rfl) (hD.sub [0, 1, 2, 3] (by decide) rfl) hS (Nat.le_of_ble_eq_true rfl) (Nat.le_of_ble_eq_true rfl) dX3_lookAtWhole_105
          · refine lv_bipush (v := zI 20) hx hb dX3_lookAtWhole_95 (by decide) ?_
            refine lv_goto (tgt := 102) hx hb dX3_lookAtWhole_97 (by decide) ?_
            refine r_put F hK hP hD hS 0 9 rfl rfl in_X3 tyX3 tyX3_ok nmX3 (by decide) k_275 rfl rfl rfl (Nat.le_of_ble_eq_true rfl) dX3_lookAtWhole_102 (w1 := [(b, .inr (3, [.ref (q 0), .int (zI (ii 0)), .ref (q 3), .ref (q 4), .int (zI (ii 1)), .int (zI (ii 2)), .ref (q 1), .ref (q 2), .int (zI (ii 3)), .int (zI 20), .int (zI (ii 5)), .int (zI (ii 6)), .long (zL (ii 7)), .int (zI (ii 8))])), ((q 0), .inl (cB, 900, .inl (fun k => zI ((g 0) k)))), ((q 1), .inl (cJ, 19, .inr (.inl (fun k => zL ((g 1) k))))), ((q 2), .inl (cJ, 10, .inr (.inl (fun k => zL ((g 2) k)))))]) rfl (fun H locs hP hD hS => ?_)
            obtain ⟨i33, e_i33⟩ : ∃ i33 : Nat → Int, i33 = fun k => [(ii 0), (ii 1), (ii 2), (ii 3), 20, (ii 5), (ii 6), (ii 7), (ii 8)].getD k 0 := ⟨_, rfl⟩
            have e_i33_0 : i33 0 = (ii 0) := congrFun e_i33 0
            have e_i33_1 : i33 1 = (ii 1) := congrFun e_i33 1
            have e_i33_2 : i33 2 = (ii 2) := congrFun e_i33 2
            have e_i33_3 : i33 3 = (ii 3) := congrFun e_i33 3
            have e_i33_4 : i33 4 = 20 := congrFun e_i33 4
            have e_i33_5 : i33 5 = (ii 5) := congrFun e_i33 5
            have e_i33_6 : i33 6 = (ii 6) := congrFun e_i33 6
            have e_i33_7 : i33 7 = (ii 7) := congrFun e_i33 7
            have e_i33_8 : i33 8 = (ii 8) := congrFun e_i33 8
            have hO34 : ReaderOk i33 := by refine ⟨?_, ?_, ?_, ?_, ?_, ?_⟩ <;> omega
            have hf35 := hO34
            have hP : va_P G vwCl [(b, .inr (3, [.ref (q 0), .int (zI (i33 0)), .ref (q 3), .ref (q 4), .int (zI (i33 1)), .int (zI (i33 2)), .ref (q 1), .ref (q 2), .int (zI (i33 3)), .int (zI (i33 4)), .int (zI (i33 5)), .int (zI (i33 6)), .long (zL (i33 7)), .int (zI (i33 8))])), ((q 0), .inl (cB, 900, .inl (fun k => zI ((g 0) k)))), ((q 1), .inl (cJ, 19, .inr (.inl (fun k => zL ((g 1) k))))), ((q 2), .inl (cJ, 10, .inr (.inl (fun k => zL ((g 2) k)))))] H := by subst e_i33; exact hP
            have hD : va_D A [(b, .inr (3, [.ref (q 0), .int (zI (i33 0)), .ref (q 3), .ref (q 4), .int (zI (i33 1)), .int (zI (i33 2)), .ref (q 1), .ref (q 2), .int (zI (i33 3)), .int (zI (i33 4)), .int (zI (i33 5)), .int (zI (i33 6)), .long (zL (i33 7)), .int (zI (i33 8))])), ((q 0), .inl (cB, 900, .inl (fun k => zI ((g 0) k)))), ((q 1), .inl (cJ, 19, .inr (.inl (fun k => zL ((g 1) k))))), ((q 2), .inl (cJ, 10, .inr (.inl (fun k => zL ((g 2) k)))))] := by subst e_i33; exact hD
            exact ret (i33, fun _ _ => 0) _ _ _ _ _ _ ⟨hO34, (show (i33 5 = p9 ∧ Stop sDg f n p9 (i33 6)) ∧ ((i33 6 - p9 ≤ 3 → i33 8 = val f p9 (i33 6) ∧ i33 4 = 20) ∧ (3 < i33 6 - p9 → i33 4 = 23)) ∧ i33 0 = i 0 ∧ i33 1 = i 1 ∧ i33 2 = i 2 ∧ i33 3 = i 3 from ⟨⟨by omega, (show i33 6 = ii 6 by omega) ▸ hst⟩, ⟨fun q9 => ⟨by have q8 := hv (by omega); rw [show i33 8 = ii 8 by omega, show i33 6 = ii 6 by omega]; exact q8, by omega⟩, fun q9 => by omega⟩, by omega⟩)⟩ (bw_subP (isC := [0, 1, 2, 3]) hP rfl) (hD.sub [0, 1, 2, 3] (by decide) rfl) hS (Nat.le_of_ble_eq_true rfl) (Nat.le_of_ble_eq_true rfl) dX3_lookAtWhole_105
        · refine lv_aload_n hx hb dX3_lookAtWhole_44 rfl (lv_at hl 0 rfl) ?_
          refine lv_aload_n hx hb dX3_lookAtWhole_45 rfl (lv_at hl 0 rfl) ?_
          refine r_get F hK hP 0 13 rfl rfl in_X3 (by decide) k_279 rfl dX3_lookAtWhole_46 ?_
          refine lv_bipush (v := zI 10) hx hb dX3_lookAtWhole_49 (by decide) ?_
          refine r_imul (v := zI ((ii 8) * 10)) F dX3_lookAtWhole_51 (zI_mul _ _) ?_
          refine lv_aload_n hx hb dX3_lookAtWhole_52 rfl (lv_at hl 0 rfl) ?_
          refine r_get F hK hP 0 0 rfl rfl in_X3 (by decide) k_261 rfl dX3_lookAtWhole_53 ?_
          refine lv_aload_n hx hb dX3_lookAtWhole_56 rfl (lv_at hl 0 rfl) ?_
          refine r_get F hK hP 0 11 rfl rfl in_X3 (by decide) k_277 rfl dX3_lookAtWhole_57 ?_
          refine rz_baldE F hK hP 1 1 rfl rfl (by omega) (by omega) dX3_lookAtWhole_60 ?_
          have hb37 := hTx ((ii 6)).toNat (by omega)
          have hlk38 : lk f n (ii 6) = f ((ii 6)).toNat := lk_lt (by omega)
          refine lv_bipush (v := zI 48) hx hb dX3_lookAtWhole_61 (by decide) ?_
          refine r_isub (v := zI (((g 0) ((ii 6)).toNat) - 48)) F dX3_lookAtWhole_63 (zI_sub _ _) ?_
          refine r_iadd (v := zI (((ii 8) * 10) + (((g 0) ((ii 6)).toNat) - 48))) F dX3_lookAtWhole_64 (zI_add _ _) ?_
          have hS1 : sDg (lk f n (ii 6)) := by unfold sDg; rw [hlk38]; omega
          have hX : ii 6 + 1 - p9 ≤ 3 → (((ii 8) * 10) + (((g 0) ((ii 6)).toNat) - 48)) = val f p9 (ii 6 + 1) := fun q9 => by rw [val_step (by omega), ← hv (by omega)]; omega
          have hX3 : ii 6 + 1 - p9 ≤ 3 → 0 ≤ val f p9 (ii 6 + 1) ∧ val f p9 (ii 6 + 1) ≤ 999 := fun q9 => val_bd (n := n) (by omega) (run_step hrun hS1) q9
          refine rz_wrap (fun z39 h_z39 hw_z39 => ?_)
          have hvN : ii 6 + 1 - p9 ≤ 3 → z39 = val f p9 (ii 6 + 1) := fun q9 => (hw_z39 (by have q8 := hX q9; have q7 := hX3 q9; omega)).trans (hX q9)
          clear hX hX3 hw_z39
          refine r_put F hK hP hD hS 0 13 rfl rfl in_X3 tyX3 tyX3_ok nmX3 (by decide) k_279 rfl rfl rfl (Nat.le_of_ble_eq_true rfl) dX3_lookAtWhole_65 (w1 := [(b, .inr (3, [.ref (q 0), .int (zI (ii 0)), .ref (q 3), .ref (q 4), .int (zI (ii 1)), .int (zI (ii 2)), .ref (q 1), .ref (q 2), .int (zI (ii 3)), .int (zI (ii 4)), .int (zI (ii 5)), .int (zI (ii 6)), .long (zL (ii 7)), .int (zI z39)])), ((q 0), .inl (cB, 900, .inl (fun k => zI ((g 0) k)))), ((q 1), .inl (cJ, 19, .inr (.inl (fun k => zL ((g 1) k))))), ((q 2), .inl (cJ, 10, .inr (.inl (fun k => zL ((g 2) k)))))]) rfl (fun H locs hP hD hS => ?_)
          refine lv_aload_n hx hb dX3_lookAtWhole_68 rfl (lv_at hl 0 rfl) ?_
          refine lv_dup hx hb dX3_lookAtWhole_69 rfl ?_
          refine r_get F hK hP 0 11 rfl rfl in_X3 (by decide) k_277 rfl dX3_lookAtWhole_70 ?_
          refine lv_iconst (v := zI 1) hx hb dX3_lookAtWhole_73 rfl ?_
          refine r_iadd (v := zI ((ii 6) + 1)) F dX3_lookAtWhole_74 (zI_add _ _) ?_
          refine r_put F hK hP hD hS 0 11 rfl rfl in_X3 tyX3 tyX3_ok nmX3 (by decide) k_277 rfl rfl rfl (Nat.le_of_ble_eq_true rfl) dX3_lookAtWhole_75 (w1 := [(b, .inr (3, [.ref (q 0), .int (zI (ii 0)), .ref (q 3), .ref (q 4), .int (zI (ii 1)), .int (zI (ii 2)), .ref (q 1), .ref (q 2), .int (zI (ii 3)), .int (zI (ii 4)), .int (zI (ii 5)), .int (zI ((ii 6) + 1)), .long (zL (ii 7)), .int (zI z39)])), ((q 0), .inl (cB, 900, .inl (fun k => zI ((g 0) k)))), ((q 1), .inl (cJ, 19, .inr (.inl (fun k => zL ((g 1) k))))), ((q 2), .inl (cJ, 10, .inr (.inl (fun k => zL ((g 2) k)))))]) rfl (fun H locs hP hD hS => ?_)
          refine lv_goto (tgt := 5) hx hb dX3_lookAtWhole_78 (by decide) ?_
          obtain ⟨i40, e_i40⟩ : ∃ i40 : Nat → Int, i40 = fun k => [(ii 0), (ii 1), (ii 2), (ii 3), (ii 4), (ii 5), ((ii 6) + 1), (ii 7), z39].getD k 0 := ⟨_, rfl⟩
          have e_i40_0 : i40 0 = (ii 0) := congrFun e_i40 0
          have e_i40_1 : i40 1 = (ii 1) := congrFun e_i40 1
          have e_i40_2 : i40 2 = (ii 2) := congrFun e_i40 2
          have e_i40_3 : i40 3 = (ii 3) := congrFun e_i40 3
          have e_i40_4 : i40 4 = (ii 4) := congrFun e_i40 4
          have e_i40_5 : i40 5 = (ii 5) := congrFun e_i40 5
          have e_i40_6 : i40 6 = ((ii 6) + 1) := congrFun e_i40 6
          have e_i40_7 : i40 7 = (ii 7) := congrFun e_i40 7
          have e_i40_8 : i40 8 = z39 := congrFun e_i40 8
          have hO41 : ReaderOk i40 := by refine ⟨?_, ?_, ?_, ?_, ?_, ?_⟩ <;> omega
          have hf42 := hO41
          have hP : va_P G vwCl [(b, .inr (3, [.ref (q 0), .int (zI (i40 0)), .ref (q 3), .ref (q 4), .int (zI (i40 1)), .int (zI (i40 2)), .ref (q 1), .ref (q 2), .int (zI (i40 3)), .int (zI (i40 4)), .int (zI (i40 5)), .int (zI (i40 6)), .long (zL (i40 7)), .int (zI (i40 8))])), ((q 0), .inl (cB, 900, .inl (fun k => zI ((g 0) k)))), ((q 1), .inl (cJ, 19, .inr (.inl (fun k => zL ((g 1) k))))), ((q 2), .inl (cJ, 10, .inr (.inl (fun k => zL ((g 2) k)))))] H := by subst e_i40; exact hP
          have hD : va_D A [(b, .inr (3, [.ref (q 0), .int (zI (i40 0)), .ref (q 3), .ref (q 4), .int (zI (i40 1)), .int (zI (i40 2)), .ref (q 1), .ref (q 2), .int (zI (i40 3)), .int (zI (i40 4)), .int (zI (i40 5)), .int (zI (i40 6)), .long (zL (i40 7)), .int (zI (i40 8))])), ((q 0), .inl (cB, 900, .inl (fun k => zI ((g 0) k)))), ((q 1), .inl (cJ, 19, .inr (.inl (fun k => zL ((g 1) k))))), ((q 2), .inl (cJ, 10, .inr (.inl (fun k => zL ((g 2) k)))))] := by subst e_i40; exact hD
          exact ih1 i40 _ _ (by omega) (by omega) hO41 (show ∀ j : Int, p9 ≤ j → j < i40 6 → sDg (lk f n j) from by rw [show i40 6 = ii 6 + 1 by omega]; exact run_step hrun hS1) (fun q9 => by rw [show i40 8 = z39 by omega, show i40 6 = ii 6 + 1 by omega]; exact hvN (by omega)) hP hD hS ls (lv_sub hl [0] rfl)
/-- the search for a reserved word: so far none of the first v, or found -/
def KdS (w v k : Int) : Prop := (k = 19 ∧ ∀ j : Nat, (j : Int) < v → rsv j ≠ w) ∨ ((0 ≤ k ∧ k < 19) ∧ rsv k.toNat = w)
theorem Kd.done {w v k : Int} (h : KdS w v k) (hv : v ≤ 19) (hend : v = 19 ∨ k ≠ 19) : Kd w k := by
  rcases h with ⟨h1, h2⟩ | h1
  · exact Or.inl ⟨h1, fun j hj => h2 j (by omega)⟩
  · exact Or.inr h1
theorem KdS.no {w v k : Int} (h : KdS w v k) (h0 : 0 ≤ v) (hk : k = 19) (e : rsv v.toNat ≠ w) : KdS w (v + 1) k := by
  rcases h with ⟨h1, h2⟩ | ⟨h1, h2⟩
  · exact Or.inl ⟨h1, Kd.step h0 h2 e⟩
  · omega
theorem KdS.yes {w v k : Int} (h0 : 0 ≤ v ∧ v < 19) (hk : k = v) (e : rsv v.toNat = w) : KdS w (v + 1) k := Or.inr ⟨by omega, by rw [hk]; exact e⟩
abbrev rm_X3x_lookAtWord : Room := { frames := 0, cells := 0, slots := 0, locals := 0 }
set_option maxRecDepth 100000 in
set_option maxHeartbeats 8000000 in
theorem c_X3x_lookAtWord {l : Launch} {E : (Nat → Prop) → State → Prop} (hO : bw_Ok E) {G : va_G} {cI cB cJ cN cW : ClassId} (b : Nat) (q : Nat → Nat) (i : Nat → Int) (g : Nat → Nat → Int) (hY : ReaderOk i) (f : Nat → Int) (n : Int) (hTx : TxR f (g 0)) (hRs : ∀ j, j < 19 → g 1 j = rsv j) (hn3 : i 3 = n) (p9 : Int) (hp5 : i 5 = p9) (hp6 : i 6 = p9) (hp0 : 0 ≤ p9) : bw_Cv (S := zU) l yX3_lookAtWord (bw_ws (Cond.code yX3_lookAtWord cX3_lookAtWord 2 none)) rm_X3x_lookAtWord E G (bw_kt cI cB cJ cN cW) [.ref b] [(b, .inr (3, [.ref (q 0), .int (zI (i 0)), .ref (q 3), .ref (q 4), .int (zI (i 1)), .int (zI (i 2)), .ref (q 1), .ref (q 2), .int (zI (i 3)), .int (zI (i 4)), .int (zI (i 5)), .int (zI (i 6)), .long (zL (i 7)), .int (zI (i 8))])), ((q 0), .inl (cB, 900, .inl (fun k => zI ((g 0) k)))), ((q 1), .inl (cJ, 19, .inr (.inl (fun k => zL ((g 1) k))))), ((q 2), .inl (cJ, 10, .inr (.inl (fun k => zL ((g 2) k)))))] (fun u => ReaderOk u.1 ∧ ((u.1 5 = p9 ∧ Stop sSm f n p9 (u.1 6)) ∧ ((u.1 6 - p9 ≤ 8 → u.1 7 = enc f p9 (u.1 6) ∧ Kd (u.1 7) (u.1 4)) ∧ (8 < u.1 6 - p9 → u.1 4 = 23)) ∧ u.1 0 = i 0 ∧ u.1 1 = i 1 ∧ u.1 2 = i 2 ∧ u.1 3 = i 3)) (fun u => [(b, .inr (3, [.ref (q 0), .int (zI (u.1 0)), .ref (q 3), .ref (q 4), .int (zI (u.1 1)), .int (zI (u.1 2)), .ref (q 1), .ref (q 2), .int (zI (u.1 3)), .int (zI (u.1 4)), .int (zI (u.1 5)), .int (zI (u.1 6)), .long (zL (u.1 7)), .int (zI (u.1 8))])), ((q 0), .inl (cB, 900, .inl (fun k => zI ((g 0) k)))), ((q 1), .inl (cJ, 19, .inr (.inl (fun k => zL ((g 1) k))))), ((q 2), .inl (cJ, 10, .inr (.inl (fun k => zL ((g 2) k)))))]) := by
  refine bw_Cv.of (cc := cX3_lookAtWord) (maxL := 2) (by decide) rfl (Nat.le_of_ble_eq_true rfl) ?_
  intro p e s m below meth c A Q hx hb hml hts hown hin hK hA hS hP hD hE ret ls hl
  have F : CallFix p m c cX3_lookAtWord 2 s ([.ref b] : List Value).toArray bw_T RX3 := ⟨hx, hb, hml, hown, fun w h => hts w (List.mem_cons_of_mem _ h)⟩
  replace hl : lv_has ls 2 [(0, .ref b)] := hl
  refine lv_aload_n hx hb dX3_lookAtWord_0 rfl (lv_at hl 0 rfl) ?_
  refine lv_lconst (v := (zL 0)) hx hb dX3_lookAtWord_1 rfl ?_
  refine r_put F hK hP hD hS 0 12 rfl rfl in_X3 tyX3 tyX3_ok nmX3 (by decide) k_278 rfl rfl rfl (Nat.le_of_ble_eq_true rfl) dX3_lookAtWord_2 (w1 := [(b, .inr (3, [.ref (q 0), .int (zI (i 0)), .ref (q 3), .ref (q 4), .int (zI (i 1)), .int (zI (i 2)), .ref (q 1), .ref (q 2), .int (zI (i 3)), .int (zI (i 4)), .int (zI (i 5)), .int (zI (i 6)), .long (zL 0), .int (zI (i 8))])), ((q 0), .inl (cB, 900, .inl (fun k => zI ((g 0) k)))), ((q 1), .inl (cJ, 19, .inr (.inl (fun k => zL ((g 1) k))))), ((q 2), .inl (cJ, 10, .inr (.inl (fun k => zL ((g 2) k)))))]) rfl (fun H locs hP hD hS => ?_)
  obtain ⟨i1, e_i1⟩ : ∃ i1 : Nat → Int, i1 = fun k => [(i 0), (i 1), (i 2), (i 3), (i 4), (i 5), (i 6), 0, (i 8)].getD k 0 := ⟨_, rfl⟩
  have e_i1_0 : i1 0 = (i 0) := congrFun e_i1 0
  have e_i1_1 : i1 1 = (i 1) := congrFun e_i1 1
  have e_i1_2 : i1 2 = (i 2) := congrFun e_i1 2
  have e_i1_3 : i1 3 = (i 3) := congrFun e_i1 3
  have e_i1_4 : i1 4 = (i 4) := congrFun e_i1 4
  have e_i1_5 : i1 5 = (i 5) := congrFun e_i1 5
  have e_i1_6 : i1 6 = (i 6) := congrFun e_i1 6
  have e_i1_7 : i1 7 = 0 := congrFun e_i1 7
  have e_i1_8 : i1 8 = (i 8) := congrFun e_i1 8
  have hO2 : ReaderOk i1 := by refine ⟨?_, ?_, ?_, ?_, ?_, ?_⟩ <;> omega
  have hf3 := hO2
  have hP : va_P G vwCl [(b, .inr (3, [.ref (q 0), .int (zI (i1 0)), .ref (q 3), .ref (q 4), .int (zI (i1 1)), .int (zI (i1 2)), .ref (q 1), .ref (q 2), .int (zI (i1 3)), .int (zI (i1 4)), .int (zI (i1 5)), .int (zI (i1 6)), .long (zL (i1 7)), .int (zI (i1 8))])), ((q 0), .inl (cB, 900, .inl (fun k => zI ((g 0) k)))), ((q 1), .inl (cJ, 19, .inr (.inl (fun k => zL ((g 1) k))))), ((q 2), .inl (cJ, 10, .inr (.inl (fun k => zL ((g 2) k)))))] H := by subst e_i1; exact hP
  have hD : va_D A [(b, .inr (3, [.ref (q 0), .int (zI (i1 0)), .ref (q 3), .ref (q 4), .int (zI (i1 1)), .int (zI (i1 2)), .ref (q 1), .ref (q 2), .int (zI (i1 3)), .int (zI (i1 4)), .int (zI (i1 5)), .int (zI (i1 6)), .long (zL (i1 7)), .int (zI (i1 8))])), ((q 0), .inl (cB, 900, .inl (fun k => zI ((g 0) k)))), ((q 1), .inl (cJ, 19, .inr (.inl (fun k => zL ((g 1) k))))), ((q 2), .inl (cJ, 10, .inr (.inl (fun k => zL ((g 2) k)))))] := by subst e_i1; exact hD
  refine W.widen (k := 0) (n := 0) (Nat.le_of_ble_eq_true rfl) (Nat.le_of_ble_eq_true rfl) ?_
  refine (?_ : ∀ (n9_1 : Nat) (ii : Nat → Int) (H : Heap) (locs : List Loc), (ii 0 = i 0 ∧ ii 1 = i 1 ∧ ii 2 = i 2 ∧ ii 3 = n ∧ ii 5 = p9 ∧ p9 ≤ ii 6) → (901 - ii 6 : Int).toNat < n9_1 → (ReaderOk ii) → (∀ j : Int, p9 ≤ j → j < ii 6 → sSm (lk f n j)) → (ii 7 = enc f p9 (ii 6)) → va_P G vwCl [(b, .inr (3, [.ref (q 0), .int (zI (ii 0)), .ref (q 3), .ref (q 4), .int (zI (ii 1)), .int (zI (ii 2)), .ref (q 1), .ref (q 2), .int (zI (ii 3)), .int (zI (ii 4)), .int (zI (ii 5)), .int (zI (ii 6)), .long (zL (ii 7)), .int (zI (ii 8))])), ((q 0), .inl (cB, 900, .inl (fun k => zI ((g 0) k)))), ((q 1), .inl (cJ, 19, .inr (.inl (fun k => zL ((g 1) k))))), ((q 2), .inl (cJ, 10, .inr (.inl (fun k => zL ((g 2) k)))))] H → va_D A [(b, .inr (3, [.ref (q 0), .int (zI (ii 0)), .ref (q 3), .ref (q 4), .int (zI (ii 1)), .int (zI (ii 2)), .ref (q 1), .ref (q 2), .int (zI (ii 3)), .int (zI (ii 4)), .int (zI (ii 5)), .int (zI (ii 6)), .long (zL (ii 7)), .int (zI (ii 8))])), ((q 0), .inl (cB, 900, .inl (fun k => zI ((g 0) k)))), ((q 1), .inl (cJ, 19, .inr (.inl (fun k => zL ((g 1) k))))), ((q 2), .inl (cJ, 10, .inr (.inl (fun k => zL ((g 2) k)))))] → va_S A s.heap H locs → ∀ ls : Array Slot, lv_has ls 2 [(0, .ref b)] → W p l e rm_X3x_lookAtWord s m ([.ref b] : List Value).toArray below meth c H locs 0 0 Q (F0 m 5 ls [])) ((901 - i1 6 : Int).toNat + 1) i1 _ _ (by omega) (by omega) hO2 (fun j h1 h2 => absurd h2 (by omega)) (by rw [show i1 6 = p9 by omega, enc_0]; omega) hP hD hS ls hl
  clear hP hD hS hl ls
  intro n9_1
  induction n9_1 with
  | zero =>
    intro ii H locs hI hM
    exact absurd hM (by omega)
  | succ n9_1 ih1 =>
    intro ii H locs hI1 hM1 hG hrun hv hP hD hS ls hl
    have hf4 := hG
    refine lv_aload_n hx hb dX3_lookAtWord_5 rfl (lv_at hl 0 rfl) ?_
    refine r_get F hK hP 0 11 rfl rfl in_X3 (by decide) k_277 rfl dX3_lookAtWord_6 ?_
    refine lv_aload_n hx hb dX3_lookAtWord_9 rfl (lv_at hl 0 rfl) ?_
    refine r_get F hK hP 0 8 rfl rfl in_X3 (by decide) k_274 rfl dX3_lookAtWord_10 ?_
    refine rz_icmp_ge (tgt := 83) F (by omega) (by omega) dX3_lookAtWord_13 (by decide) (fun h13_4 => ?_) (fun h13_4 => ?_)
    · refine lv_aload_n hx hb dX3_lookAtWord_83 rfl (lv_at hl 0 rfl) ?_
      have hlk6 : lk f n (ii 6) = -1 := lk_ge (by omega)
      have hst : Stop sSm f n p9 (ii 6) := ⟨by omega, hrun, by unfold sSm; rw [hlk6]; omega⟩
      refine lv_aload_n hx hb dX3_lookAtWord_84 rfl (lv_at hl 0 rfl) ?_
      refine r_get F hK hP 0 11 rfl rfl in_X3 (by decide) k_277 rfl dX3_lookAtWord_85 ?_
      refine lv_aload_n hx hb dX3_lookAtWord_88 rfl (lv_at hl 0 rfl) ?_
      refine r_get F hK hP 0 10 rfl rfl in_X3 (by decide) k_276 rfl dX3_lookAtWord_89 ?_
      refine r_isub (v := zI ((ii 6) - (ii 5))) F dX3_lookAtWord_92 (zI_sub _ _) ?_
      refine lv_bipush (v := zI 8) hx hb dX3_lookAtWord_93 (by decide) ?_
      refine rz_icmp_gt (tgt := 103) F (by omega) (by omega) dX3_lookAtWord_95 (by decide) (fun h95_6 => ?_) (fun h95_6 => ?_)
      · refine lv_bipush (v := zI 23) hx hb dX3_lookAtWord_103 (by decide) ?_
        refine r_put F hK hP hD hS 0 9 rfl rfl in_X3 tyX3 tyX3_ok nmX3 (by decide) k_275 rfl rfl rfl (Nat.le_of_ble_eq_true rfl) dX3_lookAtWord_105 (w1 := [(b, .inr (3, [.ref (q 0), .int (zI (ii 0)), .ref (q 3), .ref (q 4), .int (zI (ii 1)), .int (zI (ii 2)), .ref (q 1), .ref (q 2), .int (zI (ii 3)), .int (zI 23), .int (zI (ii 5)), .int (zI (ii 6)), .long (zL (ii 7)), .int (zI (ii 8))])), ((q 0), .inl (cB, 900, .inl (fun k => zI ((g 0) k)))), ((q 1), .inl (cJ, 19, .inr (.inl (fun k => zL ((g 1) k))))), ((q 2), .inl (cJ, 10, .inr (.inl (fun k => zL ((g 2) k)))))]) rfl (fun H locs hP hD hS => ?_)
        refine lv_iconst (v := zI 0) hx hb dX3_lookAtWord_108 rfl ?_
        refine lv_istore_n (lv' := [(1, .int (zI 0)), (0, .ref b)]) hx hb dX3_lookAtWord_109 rfl hl (by decide) rfl (fun ls hl => ?_)
        obtain ⟨i8, e_i8⟩ : ∃ i8 : Nat → Int, i8 = fun k => [(ii 0), (ii 1), (ii 2), (ii 3), 23, (ii 5), (ii 6), (ii 7), (ii 8)].getD k 0 := ⟨_, rfl⟩
        have e_i8_0 : i8 0 = (ii 0) := congrFun e_i8 0
        have e_i8_1 : i8 1 = (ii 1) := congrFun e_i8 1
        have e_i8_2 : i8 2 = (ii 2) := congrFun e_i8 2
        have e_i8_3 : i8 3 = (ii 3) := congrFun e_i8 3
        have e_i8_4 : i8 4 = 23 := congrFun e_i8 4
        have e_i8_5 : i8 5 = (ii 5) := congrFun e_i8 5
        have e_i8_6 : i8 6 = (ii 6) := congrFun e_i8 6
        have e_i8_7 : i8 7 = (ii 7) := congrFun e_i8 7
        have e_i8_8 : i8 8 = (ii 8) := congrFun e_i8 8
        have hO9 : ReaderOk i8 := by refine ⟨?_, ?_, ?_, ?_, ?_, ?_⟩ <;> omega
        have hf10 := hO9
        have hP : va_P G vwCl [(b, .inr (3, [.ref (q 0), .int (zI (i8 0)), .ref (q 3), .ref (q 4), .int (zI (i8 1)), .int (zI (i8 2)), .ref (q 1), .ref (q 2), .int (zI (i8 3)), .int (zI (i8 4)), .int (zI (i8 5)), .int (zI (i8 6)), .long (zL (i8 7)), .int (zI (i8 8))])), ((q 0), .inl (cB, 900, .inl (fun k => zI ((g 0) k)))), ((q 1), .inl (cJ, 19, .inr (.inl (fun k => zL ((g 1) k))))), ((q 2), .inl (cJ, 10, .inr (.inl (fun k => zL ((g 2) k)))))] H := by subst e_i8; exact hP
        have hD : va_D A [(b, .inr (3, [.ref (q 0), .int (zI (i8 0)), .ref (q 3), .ref (q 4), .int (zI (i8 1)), .int (zI (i8 2)), .ref (q 1), .ref (q 2), .int (zI (i8 3)), .int (zI (i8 4)), .int (zI (i8 5)), .int (zI (i8 6)), .long (zL (i8 7)), .int (zI (i8 8))])), ((q 0), .inl (cB, 900, .inl (fun k => zI ((g 0) k)))), ((q 1), .inl (cJ, 19, .inr (.inl (fun k => zL ((g 1) k))))), ((q 2), .inl (cJ, 10, .inr (.inl (fun k => zL ((g 2) k)))))] := by subst e_i8; exact hD
        refine W.widen (k := 0) (n := 0) (Nat.le_of_ble_eq_true rfl) (Nat.le_of_ble_eq_true rfl) ?_
        refine (?_ : ∀ (n9_2 : Nat) (v1 : Int) (jj : Nat → Int) (H : Heap) (locs : List Loc), (0 ≤ v1 ∧ v1 ≤ 19 ∧ jj 0 = i 0 ∧ jj 1 = i 1 ∧ jj 2 = i 2 ∧ jj 3 = n ∧ jj 5 = p9 ∧ jj 6 = ii 6 ∧ jj 7 = ii 7) → (19 - v1 : Int).toNat < n9_2 → (ReaderOk jj) → (jj 6 - p9 ≤ 8 → KdS (jj 7) v1 (jj 4)) → (8 < jj 6 - p9 → jj 4 = 23) → va_P G vwCl [(b, .inr (3, [.ref (q 0), .int (zI (jj 0)), .ref (q 3), .ref (q 4), .int (zI (jj 1)), .int (zI (jj 2)), .ref (q 1), .ref (q 2), .int (zI (jj 3)), .int (zI (jj 4)), .int (zI (jj 5)), .int (zI (jj 6)), .long (zL (jj 7)), .int (zI (jj 8))])), ((q 0), .inl (cB, 900, .inl (fun k => zI ((g 0) k)))), ((q 1), .inl (cJ, 19, .inr (.inl (fun k => zL ((g 1) k))))), ((q 2), .inl (cJ, 10, .inr (.inl (fun k => zL ((g 2) k)))))] H → va_D A [(b, .inr (3, [.ref (q 0), .int (zI (jj 0)), .ref (q 3), .ref (q 4), .int (zI (jj 1)), .int (zI (jj 2)), .ref (q 1), .ref (q 2), .int (zI (jj 3)), .int (zI (jj 4)), .int (zI (jj 5)), .int (zI (jj 6)), .long (zL (jj 7)), .int (zI (jj 8))])), ((q 0), .inl (cB, 900, .inl (fun k => zI ((g 0) k)))), ((q 1), .inl (cJ, 19, .inr (.inl (fun k => zL ((g 1) k))))), ((q 2), .inl (cJ, 10, .inr (.inl (fun k => zL ((g 2) k)))))] → va_S A s.heap H locs → ∀ ls : Array Slot, lv_has ls 2 [(1, .int (zI v1)), (0, .ref b)] → W p l e rm_X3x_lookAtWord s m ([.ref b] : List Value).toArray below meth c H locs 0 0 Q (F0 m 110 ls [])) ((19 - 0 : Int).toNat + 1) 0 i8 _ _ (by omega) (by omega) hO9 (fun q9 => Or.inl ⟨by omega, fun j hj => absurd hj (by omega)⟩) (fun q9 => by omega) hP hD hS ls hl
        clear hP hD hS hl ls
        intro n9_2
        induction n9_2 with
        | zero =>
          intro v1 jj H locs hI hM
          exact absurd hM (by omega)
        | succ n9_2 ih2 =>
          intro v1 jj H locs hI2 hM2 hG2 hk1 hk2 hP hD hS ls hl
          have hf11 := hG2
          refine lv_iload_n hx hb dX3_lookAtWord_110 rfl (lv_at hl 0 rfl) ?_
          refine lv_bipush (v := zI 19) hx hb dX3_lookAtWord_111 (by decide) ?_
          refine rz_icmp_ge (tgt := 157) F (by omega) (by omega) dX3_lookAtWord_113 (by decide) (fun h113_11 => ?_) (fun h113_11 => ?_)
          · exact ret (jj, fun _ _ => 0) _ _ _ _ _ _ ⟨hG2, (show (jj 5 = p9 ∧ Stop sSm f n p9 (jj 6)) ∧ ((jj 6 - p9 ≤ 8 → jj 7 = enc f p9 (jj 6) ∧ Kd (jj 7) (jj 4)) ∧ (8 < jj 6 - p9 → jj 4 = 23)) ∧ jj 0 = i 0 ∧ jj 1 = i 1 ∧ jj 2 = i 2 ∧ jj 3 = i 3 from ⟨⟨by omega, (show jj 6 = ii 6 by omega) ▸ hst⟩, ⟨fun q9 => ⟨by rw [show jj 7 = ii 7 by omega, show jj 6 = ii 6 by omega]; exact hv, Kd.done (hk1 (by omega)) (by omega) (by omega)⟩, fun q9 => hk2 (by omega)⟩, by omega⟩)⟩ (bw_subP (isC := [0, 1, 2, 3]) hP rfl) (hD.sub [0, 1, 2, 3] (by decide) rfl) hS (Nat.le_of_ble_eq_true rfl) (Nat.le_of_ble_eq_true rfl) dX3_lookAtWord_157
          · refine lv_aload_n hx hb dX3_lookAtWord_116 rfl (lv_at hl 1 rfl) ?_
            refine r_get F hK hP 0 9 rfl rfl in_X3 (by decide) k_275 rfl dX3_lookAtWord_117 ?_
            refine lv_bipush (v := zI 19) hx hb dX3_lookAtWord_120 (by decide) ?_
            refine rz_icmp_ne (tgt := 157) F (by omega) (by omega) dX3_lookAtWord_122 (by decide) (fun h122_12 => ?_) (fun h122_12 => ?_)
            · exact ret (jj, fun _ _ => 0) _ _ _ _ _ _ ⟨hG2, (show (jj 5 = p9 ∧ Stop sSm f n p9 (jj 6)) ∧ ((jj 6 - p9 ≤ 8 → jj 7 = enc f p9 (jj 6) ∧ Kd (jj 7) (jj 4)) ∧ (8 < jj 6 - p9 → jj 4 = 23)) ∧ jj 0 = i 0 ∧ jj 1 = i 1 ∧ jj 2 = i 2 ∧ jj 3 = i 3 from ⟨⟨by omega, (show jj 6 = ii 6 by omega) ▸ hst⟩, ⟨fun q9 => ⟨by rw [show jj 7 = ii 7 by omega, show jj 6 = ii 6 by omega]; exact hv, Kd.done (hk1 (by omega)) (by omega) (by omega)⟩, fun q9 => hk2 (by omega)⟩, by omega⟩)⟩ (bw_subP (isC := [0, 1, 2, 3]) hP rfl) (hD.sub [0, 1, 2, 3] (by decide) rfl) hS (Nat.le_of_ble_eq_true rfl) (Nat.le_of_ble_eq_true rfl) dX3_lookAtWord_157
            · refine lv_aload_n hx hb dX3_lookAtWord_125 rfl (lv_at hl 1 rfl) ?_
              refine lv_aload_n hx hb dX3_lookAtWord_126 rfl (lv_at hl 1 rfl) ?_
              refine r_get F hK hP 0 6 rfl rfl in_X3 (by decide) k_272 rfl dX3_lookAtWord_127 ?_
              refine lv_iload_n hx hb dX3_lookAtWord_130 rfl (lv_at hl 0 rfl) ?_
              refine rz_lald F hK hP 2 2 rfl rfl (by omega) (by omega) dX3_lookAtWord_131 ?_
              refine lv_aload_n hx hb dX3_lookAtWord_132 rfl (lv_at hl 1 rfl) ?_
              refine r_get F hK hP 0 12 rfl rfl in_X3 (by decide) k_278 rfl dX3_lookAtWord_133 ?_
              refine rz_lcmpE F dX3_lookAtWord_136 (fun z15 h_z15 hc_z15 => ?_)
              have hw8 : jj 6 - p9 ≤ 8 := by omega
              have hbd := enc_bd (n := n) hp0 (show p9 ≤ ii 6 by omega) hrun (by omega)
              have hrb := rsv_bd (v1).toNat (by omega)
              have hcw : z15 = 0 ↔ rsv (v1).toNat = jj 7 := ⟨fun q9 => zL_inj (by omega) (by omega) (by rw [← hRs (v1).toNat (by omega)]; exact hc_z15.mp q9), fun q9 => hc_z15.mpr (by rw [hRs (v1).toNat (by omega), q9])⟩
              refine rz_if_ne (tgt := 144) F (by omega) dX3_lookAtWord_137 (by decide) (fun h137_15 => ?_) (fun h137_15 => ?_)
              · refine lv_aload_n hx hb dX3_lookAtWord_144 rfl (lv_at hl 1 rfl) ?_
                refine r_get F hK hP 0 9 rfl rfl in_X3 (by decide) k_275 rfl dX3_lookAtWord_145 ?_
                refine r_put F hK hP hD hS 0 9 rfl rfl in_X3 tyX3 tyX3_ok nmX3 (by decide) k_275 rfl rfl rfl (Nat.le_of_ble_eq_true rfl) dX3_lookAtWord_148 (w1 := [(b, .inr (3, [.ref (q 0), .int (zI (jj 0)), .ref (q 3), .ref (q 4), .int (zI (jj 1)), .int (zI (jj 2)), .ref (q 1), .ref (q 2), .int (zI (jj 3)), .int (zI (jj 4)), .int (zI (jj 5)), .int (zI (jj 6)), .long (zL (jj 7)), .int (zI (jj 8))])), ((q 0), .inl (cB, 900, .inl (fun k => zI ((g 0) k)))), ((q 1), .inl (cJ, 19, .inr (.inl (fun k => zL ((g 1) k))))), ((q 2), .inl (cJ, 10, .inr (.inl (fun k => zL ((g 2) k)))))]) rfl (fun H locs hP hD hS => ?_)
                refine lv_iinc (v := zI (v1 + 1)) (lv' := [(1, .int (zI (v1 + 1))), (0, .ref b)]) hx hb dX3_lookAtWord_151 hl (k := 0) rfl (zI_add _ _) (by decide) rfl (fun ls hl => ?_)
                refine lv_goto (tgt := 110) hx hb dX3_lookAtWord_154 (by decide) ?_
                exact ih2 (v1 + 1) jj _ _ (by omega) (by omega) hG2 (fun q9 => by rw [show jj 7 = jj 7 by omega, show jj 4 = jj 4 by omega]; exact KdS.no (hk1 (by omega)) (by omega) (by omega) (fun q8 => absurd (hcw.mpr q8) (by omega))) (fun q9 => absurd (hk2 (by omega)) (by omega)) hP hD hS ls (lv_sub hl [0, 1] rfl)
              · refine lv_iload_n hx hb dX3_lookAtWord_140 rfl (lv_at hl 0 rfl) ?_
                refine lv_goto (tgt := 148) hx hb dX3_lookAtWord_141 (by decide) ?_
                refine r_put F hK hP hD hS 0 9 rfl rfl in_X3 tyX3 tyX3_ok nmX3 (by decide) k_275 rfl rfl rfl (Nat.le_of_ble_eq_true rfl) dX3_lookAtWord_148 (w1 := [(b, .inr (3, [.ref (q 0), .int (zI (jj 0)), .ref (q 3), .ref (q 4), .int (zI (jj 1)), .int (zI (jj 2)), .ref (q 1), .ref (q 2), .int (zI (jj 3)), .int (zI v1), .int (zI (jj 5)), .int (zI (jj 6)), .long (zL (jj 7)), .int (zI (jj 8))])), ((q 0), .inl (cB, 900, .inl (fun k => zI ((g 0) k)))), ((q 1), .inl (cJ, 19, .inr (.inl (fun k => zL ((g 1) k))))), ((q 2), .inl (cJ, 10, .inr (.inl (fun k => zL ((g 2) k)))))]) rfl (fun H locs hP hD hS => ?_)
                refine lv_iinc (v := zI (v1 + 1)) (lv' := [(1, .int (zI (v1 + 1))), (0, .ref b)]) hx hb dX3_lookAtWord_151 hl (k := 0) rfl (zI_add _ _) (by decide) rfl (fun ls hl => ?_)
                refine lv_goto (tgt := 110) hx hb dX3_lookAtWord_154 (by decide) ?_
                obtain ⟨i17, e_i17⟩ : ∃ i17 : Nat → Int, i17 = fun k => [(jj 0), (jj 1), (jj 2), (jj 3), v1, (jj 5), (jj 6), (jj 7), (jj 8)].getD k 0 := ⟨_, rfl⟩
                have e_i17_0 : i17 0 = (jj 0) := congrFun e_i17 0
                have e_i17_1 : i17 1 = (jj 1) := congrFun e_i17 1
                have e_i17_2 : i17 2 = (jj 2) := congrFun e_i17 2
                have e_i17_3 : i17 3 = (jj 3) := congrFun e_i17 3
                have e_i17_4 : i17 4 = v1 := congrFun e_i17 4
                have e_i17_5 : i17 5 = (jj 5) := congrFun e_i17 5
                have e_i17_6 : i17 6 = (jj 6) := congrFun e_i17 6
                have e_i17_7 : i17 7 = (jj 7) := congrFun e_i17 7
                have e_i17_8 : i17 8 = (jj 8) := congrFun e_i17 8
                have hO18 : ReaderOk i17 := by refine ⟨?_, ?_, ?_, ?_, ?_, ?_⟩ <;> omega
                have hf19 := hO18
                have hP : va_P G vwCl [(b, .inr (3, [.ref (q 0), .int (zI (i17 0)), .ref (q 3), .ref (q 4), .int (zI (i17 1)), .int (zI (i17 2)), .ref (q 1), .ref (q 2), .int (zI (i17 3)), .int (zI (i17 4)), .int (zI (i17 5)), .int (zI (i17 6)), .long (zL (i17 7)), .int (zI (i17 8))])), ((q 0), .inl (cB, 900, .inl (fun k => zI ((g 0) k)))), ((q 1), .inl (cJ, 19, .inr (.inl (fun k => zL ((g 1) k))))), ((q 2), .inl (cJ, 10, .inr (.inl (fun k => zL ((g 2) k)))))] H := by subst e_i17; exact hP
                have hD : va_D A [(b, .inr (3, [.ref (q 0), .int (zI (i17 0)), .ref (q 3), .ref (q 4), .int (zI (i17 1)), .int (zI (i17 2)), .ref (q 1), .ref (q 2), .int (zI (i17 3)), .int (zI (i17 4)), .int (zI (i17 5)), .int (zI (i17 6)), .long (zL (i17 7)), .int (zI (i17 8))])), ((q 0), .inl (cB, 900, .inl (fun k => zI ((g 0) k)))), ((q 1), .inl (cJ, 19, .inr (.inl (fun k => zL ((g 1) k))))), ((q 2), .inl (cJ, 10, .inr (.inl (fun k => zL ((g 2) k)))))] := by subst e_i17; exact hD
                exact ih2 (v1 + 1) i17 _ _ (by omega) (by omega) hO18 (fun q9 => KdS.yes (by omega) (by omega) ((hcw.mp (by omega)).trans (show jj 7 = i17 7 by omega))) (fun q9 => absurd (hk2 (by omega)) (by omega)) hP hD hS ls (lv_sub hl [0, 1] rfl)
      · refine lv_bipush (v := zI 19) hx hb dX3_lookAtWord_98 (by decide) ?_
        refine lv_goto (tgt := 105) hx hb dX3_lookAtWord_100 (by decide) ?_
        refine r_put F hK hP hD hS 0 9 rfl rfl in_X3 tyX3 tyX3_ok nmX3 (by decide) k_275 rfl rfl rfl (Nat.le_of_ble_eq_true rfl) dX3_lookAtWord_105 (w1 := [(b, .inr (3, [.ref (q 0), .int (zI (ii 0)), .ref (q 3), .ref (q 4), .int (zI (ii 1)), .int (zI (ii 2)), .ref (q 1), .ref (q 2), .int (zI (ii 3)), .int (zI 19), .int (zI (ii 5)), .int (zI (ii 6)), .long (zL (ii 7)), .int (zI (ii 8))])), ((q 0), .inl (cB, 900, .inl (fun k => zI ((g 0) k)))), ((q 1), .inl (cJ, 19, .inr (.inl (fun k => zL ((g 1) k))))), ((q 2), .inl (cJ, 10, .inr (.inl (fun k => zL ((g 2) k)))))]) rfl (fun H locs hP hD hS => ?_)
        refine lv_iconst (v := zI 0) hx hb dX3_lookAtWord_108 rfl ?_
        refine lv_istore_n (lv' := [(1, .int (zI 0)), (0, .ref b)]) hx hb dX3_lookAtWord_109 rfl hl (by decide) rfl (fun ls hl => ?_)
        obtain ⟨i20, e_i20⟩ : ∃ i20 : Nat → Int, i20 = fun k => [(ii 0), (ii 1), (ii 2), (ii 3), 19, (ii 5), (ii 6), (ii 7), (ii 8)].getD k 0 := ⟨_, rfl⟩
        have e_i20_0 : i20 0 = (ii 0) := congrFun e_i20 0
        have e_i20_1 : i20 1 = (ii 1) := congrFun e_i20 1
        have e_i20_2 : i20 2 = (ii 2) := congrFun e_i20 2
        have e_i20_3 : i20 3 = (ii 3) := congrFun e_i20 3
        have e_i20_4 : i20 4 = 19 := congrFun e_i20 4
        have e_i20_5 : i20 5 = (ii 5) := congrFun e_i20 5
        have e_i20_6 : i20 6 = (ii 6) := congrFun e_i20 6
        have e_i20_7 : i20 7 = (ii 7) := congrFun e_i20 7
        have e_i20_8 : i20 8 = (ii 8) := congrFun e_i20 8
        have hO21 : ReaderOk i20 := by refine ⟨?_, ?_, ?_, ?_, ?_, ?_⟩ <;> omega
        have hf22 := hO21
        have hP : va_P G vwCl [(b, .inr (3, [.ref (q 0), .int (zI (i20 0)), .ref (q 3), .ref (q 4), .int (zI (i20 1)), .int (zI (i20 2)), .ref (q 1), .ref (q 2), .int (zI (i20 3)), .int (zI (i20 4)), .int (zI (i20 5)), .int (zI (i20 6)), .long (zL (i20 7)), .int (zI (i20 8))])), ((q 0), .inl (cB, 900, .inl (fun k => zI ((g 0) k)))), ((q 1), .inl (cJ, 19, .inr (.inl (fun k => zL ((g 1) k))))), ((q 2), .inl (cJ, 10, .inr (.inl (fun k => zL ((g 2) k)))))] H := by subst e_i20; exact hP
        have hD : va_D A [(b, .inr (3, [.ref (q 0), .int (zI (i20 0)), .ref (q 3), .ref (q 4), .int (zI (i20 1)), .int (zI (i20 2)), .ref (q 1), .ref (q 2), .int (zI (i20 3)), .int (zI (i20 4)), .int (zI (i20 5)), .int (zI (i20 6)), .long (zL (i20 7)), .int (zI (i20 8))])), ((q 0), .inl (cB, 900, .inl (fun k => zI ((g 0) k)))), ((q 1), .inl (cJ, 19, .inr (.inl (fun k => zL ((g 1) k))))), ((q 2), .inl (cJ, 10, .inr (.inl (fun k => zL ((g 2) k)))))] := by subst e_i20; exact hD
        refine W.widen (k := 0) (n := 0) (Nat.le_of_ble_eq_true rfl) (Nat.le_of_ble_eq_true rfl) ?_
        refine (?_ : ∀ (n9_2 : Nat) (v1 : Int) (jj : Nat → Int) (H : Heap) (locs : List Loc), (0 ≤ v1 ∧ v1 ≤ 19 ∧ jj 0 = i 0 ∧ jj 1 = i 1 ∧ jj 2 = i 2 ∧ jj 3 = n ∧ jj 5 = p9 ∧ jj 6 = ii 6 ∧ jj 7 = ii 7) → (19 - v1 : Int).toNat < n9_2 → (ReaderOk jj) → (jj 6 - p9 ≤ 8 → KdS (jj 7) v1 (jj 4)) → (8 < jj 6 - p9 → jj 4 = 23) → va_P G vwCl [(b, .inr (3, [.ref (q 0), .int (zI (jj 0)), .ref (q 3), .ref (q 4), .int (zI (jj 1)), .int (zI (jj 2)), .ref (q 1), .ref (q 2), .int (zI (jj 3)), .int (zI (jj 4)), .int (zI (jj 5)), .int (zI (jj 6)), .long (zL (jj 7)), .int (zI (jj 8))])), ((q 0), .inl (cB, 900, .inl (fun k => zI ((g 0) k)))), ((q 1), .inl (cJ, 19, .inr (.inl (fun k => zL ((g 1) k))))), ((q 2), .inl (cJ, 10, .inr (.inl (fun k => zL ((g 2) k)))))] H → va_D A [(b, .inr (3, [.ref (q 0), .int (zI (jj 0)), .ref (q 3), .ref (q 4), .int (zI (jj 1)), .int (zI (jj 2)), .ref (q 1), .ref (q 2), .int (zI (jj 3)), .int (zI (jj 4)), .int (zI (jj 5)), .int (zI (jj 6)), .long (zL (jj 7)), .int (zI (jj 8))])), ((q 0), .inl (cB, 900, .inl (fun k => zI ((g 0) k)))), ((q 1), .inl (cJ, 19, .inr (.inl (fun k => zL ((g 1) k))))), ((q 2), .inl (cJ, 10, .inr (.inl (fun k => zL ((g 2) k)))))] → va_S A s.heap H locs → ∀ ls : Array Slot, lv_has ls 2 [(1, .int (zI v1)), (0, .ref b)] → W p l e rm_X3x_lookAtWord s m ([.ref b] : List Value).toArray below meth c H locs 0 0 Q (F0 m 110 ls [])) ((19 - 0 : Int).toNat + 1) 0 i20 _ _ (by omega) (by omega) hO21 (fun q9 => Or.inl ⟨by omega, fun j hj => absurd hj (by omega)⟩) (fun q9 => by omega) hP hD hS ls hl
        clear hP hD hS hl ls
        intro n9_2
        induction n9_2 with
        | zero =>
          intro v1 jj H locs hI hM
          exact absurd hM (by omega)
        | succ n9_2 ih2 =>
          intro v1 jj H locs hI2 hM2 hG2 hk1 hk2 hP hD hS ls hl
          have hf23 := hG2
          refine lv_iload_n hx hb dX3_lookAtWord_110 rfl (lv_at hl 0 rfl) ?_
          refine lv_bipush (v := zI 19) hx hb dX3_lookAtWord_111 (by decide) ?_
          refine rz_icmp_ge (tgt := 157) F (by omega) (by omega) dX3_lookAtWord_113 (by decide) (fun h113_23 => ?_) (fun h113_23 => ?_)
          · exact ret (jj, fun _ _ => 0) _ _ _ _ _ _ ⟨hG2, (show (jj 5 = p9 ∧ Stop sSm f n p9 (jj 6)) ∧ ((jj 6 - p9 ≤ 8 → jj 7 = enc f p9 (jj 6) ∧ Kd (jj 7) (jj 4)) ∧ (8 < jj 6 - p9 → jj 4 = 23)) ∧ jj 0 = i 0 ∧ jj 1 = i 1 ∧ jj 2 = i 2 ∧ jj 3 = i 3 from ⟨⟨by omega, (show jj 6 = ii 6 by omega) ▸ hst⟩, ⟨fun q9 => ⟨by rw [show jj 7 = ii 7 by omega, show jj 6 = ii 6 by omega]; exact hv, Kd.done (hk1 (by omega)) (by omega) (by omega)⟩, fun q9 => hk2 (by omega)⟩, by omega⟩)⟩ (bw_subP (isC := [0, 1, 2, 3]) hP rfl) (hD.sub [0, 1, 2, 3] (by decide) rfl) hS (Nat.le_of_ble_eq_true rfl) (Nat.le_of_ble_eq_true rfl) dX3_lookAtWord_157
          · refine lv_aload_n hx hb dX3_lookAtWord_116 rfl (lv_at hl 1 rfl) ?_
            refine r_get F hK hP 0 9 rfl rfl in_X3 (by decide) k_275 rfl dX3_lookAtWord_117 ?_
            refine lv_bipush (v := zI 19) hx hb dX3_lookAtWord_120 (by decide) ?_
            refine rz_icmp_ne (tgt := 157) F (by omega) (by omega) dX3_lookAtWord_122 (by decide) (fun h122_24 => ?_) (fun h122_24 => ?_)
            · exact ret (jj, fun _ _ => 0) _ _ _ _ _ _ ⟨hG2, (show (jj 5 = p9 ∧ Stop sSm f n p9 (jj 6)) ∧ ((jj 6 - p9 ≤ 8 → jj 7 = enc f p9 (jj 6) ∧ Kd (jj 7) (jj 4)) ∧ (8 < jj 6 - p9 → jj 4 = 23)) ∧ jj 0 = i 0 ∧ jj 1 = i 1 ∧ jj 2 = i 2 ∧ jj 3 = i 3 from ⟨⟨by omega, (show jj 6 = ii 6 by omega) ▸ hst⟩, ⟨fun q9 => ⟨by rw [show jj 7 = ii 7 by omega, show jj 6 = ii 6 by omega]; exact hv, Kd.done (hk1 (by omega)) (by omega) (by omega)⟩, fun q9 => hk2 (by omega)⟩, by omega⟩)⟩ (bw_subP (isC := [0, 1, 2, 3]) hP rfl) (hD.sub [0, 1, 2, 3] (by decide) rfl) hS (Nat.le_of_ble_eq_true rfl) (Nat.le_of_ble_eq_true rfl) dX3_lookAtWord_157
            · refine lv_aload_n hx hb dX3_lookAtWord_125 rfl (lv_at hl 1 rfl) ?_
              refine lv_aload_n hx hb dX3_lookAtWord_126 rfl (lv_at hl 1 rfl) ?_
              refine r_get F hK hP 0 6 rfl rfl in_X3 (by decide) k_272 rfl dX3_lookAtWord_127 ?_
              refine lv_iload_n hx hb dX3_lookAtWord_130 rfl (lv_at hl 0 rfl) ?_
              refine rz_lald F hK hP 2 2 rfl rfl (by omega) (by omega) dX3_lookAtWord_131 ?_
              refine lv_aload_n hx hb dX3_lookAtWord_132 rfl (lv_at hl 1 rfl) ?_
              refine r_get F hK hP 0 12 rfl rfl in_X3 (by decide) k_278 rfl dX3_lookAtWord_133 ?_
              refine rz_lcmpE F dX3_lookAtWord_136 (fun z27 h_z27 hc_z27 => ?_)
              have hw8 : jj 6 - p9 ≤ 8 := by omega
              have hbd := enc_bd (n := n) hp0 (show p9 ≤ ii 6 by omega) hrun (by omega)
              have hrb := rsv_bd (v1).toNat (by omega)
              have hcw : z27 = 0 ↔ rsv (v1).toNat = jj 7 := ⟨fun q9 => zL_inj (by omega) (by omega) (by rw [← hRs (v1).toNat (by omega)]; exact hc_z27.mp q9), fun q9 => hc_z27.mpr (by rw [hRs (v1).toNat (by omega), q9])⟩
              refine rz_if_ne (tgt := 144) F (by omega) dX3_lookAtWord_137 (by decide) (fun h137_27 => ?_) (fun h137_27 => ?_)
              · refine lv_aload_n hx hb dX3_lookAtWord_144 rfl (lv_at hl 1 rfl) ?_
                refine r_get F hK hP 0 9 rfl rfl in_X3 (by decide) k_275 rfl dX3_lookAtWord_145 ?_
                refine r_put F hK hP hD hS 0 9 rfl rfl in_X3 tyX3 tyX3_ok nmX3 (by decide) k_275 rfl rfl rfl (Nat.le_of_ble_eq_true rfl) dX3_lookAtWord_148 (w1 := [(b, .inr (3, [.ref (q 0), .int (zI (jj 0)), .ref (q 3), .ref (q 4), .int (zI (jj 1)), .int (zI (jj 2)), .ref (q 1), .ref (q 2), .int (zI (jj 3)), .int (zI (jj 4)), .int (zI (jj 5)), .int (zI (jj 6)), .long (zL (jj 7)), .int (zI (jj 8))])), ((q 0), .inl (cB, 900, .inl (fun k => zI ((g 0) k)))), ((q 1), .inl (cJ, 19, .inr (.inl (fun k => zL ((g 1) k))))), ((q 2), .inl (cJ, 10, .inr (.inl (fun k => zL ((g 2) k)))))]) rfl (fun H locs hP hD hS => ?_)
                refine lv_iinc (v := zI (v1 + 1)) (lv' := [(1, .int (zI (v1 + 1))), (0, .ref b)]) hx hb dX3_lookAtWord_151 hl (k := 0) rfl (zI_add _ _) (by decide) rfl (fun ls hl => ?_)
                refine lv_goto (tgt := 110) hx hb dX3_lookAtWord_154 (by decide) ?_
                exact ih2 (v1 + 1) jj _ _ (by omega) (by omega) hG2 (fun q9 => by rw [show jj 7 = jj 7 by omega, show jj 4 = jj 4 by omega]; exact KdS.no (hk1 (by omega)) (by omega) (by omega) (fun q8 => absurd (hcw.mpr q8) (by omega))) (fun q9 => absurd (hk2 (by omega)) (by omega)) hP hD hS ls (lv_sub hl [0, 1] rfl)
              · refine lv_iload_n hx hb dX3_lookAtWord_140 rfl (lv_at hl 0 rfl) ?_
                refine lv_goto (tgt := 148) hx hb dX3_lookAtWord_141 (by decide) ?_
                refine r_put F hK hP hD hS 0 9 rfl rfl in_X3 tyX3 tyX3_ok nmX3 (by decide) k_275 rfl rfl rfl (Nat.le_of_ble_eq_true rfl) dX3_lookAtWord_148 (w1 := [(b, .inr (3, [.ref (q 0), .int (zI (jj 0)), .ref (q 3), .ref (q 4), .int (zI (jj 1)), .int (zI (jj 2)), .ref (q 1), .ref (q 2), .int (zI (jj 3)), .int (zI v1), .int (zI (jj 5)), .int (zI (jj 6)), .long (zL (jj 7)), .int (zI (jj 8))])), ((q 0), .inl (cB, 900, .inl (fun k => zI ((g 0) k)))), ((q 1), .inl (cJ, 19, .inr (.inl (fun k => zL ((g 1) k))))), ((q 2), .inl (cJ, 10, .inr (.inl (fun k => zL ((g 2) k)))))]) rfl (fun H locs hP hD hS => ?_)
                refine lv_iinc (v := zI (v1 + 1)) (lv' := [(1, .int (zI (v1 + 1))), (0, .ref b)]) hx hb dX3_lookAtWord_151 hl (k := 0) rfl (zI_add _ _) (by decide) rfl (fun ls hl => ?_)
                refine lv_goto (tgt := 110) hx hb dX3_lookAtWord_154 (by decide) ?_
                obtain ⟨i29, e_i29⟩ : ∃ i29 : Nat → Int, i29 = fun k => [(jj 0), (jj 1), (jj 2), (jj 3), v1, (jj 5), (jj 6), (jj 7), (jj 8)].getD k 0 := ⟨_, rfl⟩
                have e_i29_0 : i29 0 = (jj 0) := congrFun e_i29 0
                have e_i29_1 : i29 1 = (jj 1) := congrFun e_i29 1
                have e_i29_2 : i29 2 = (jj 2) := congrFun e_i29 2
                have e_i29_3 : i29 3 = (jj 3) := congrFun e_i29 3
                have e_i29_4 : i29 4 = v1 := congrFun e_i29 4
                have e_i29_5 : i29 5 = (jj 5) := congrFun e_i29 5
                have e_i29_6 : i29 6 = (jj 6) := congrFun e_i29 6
                have e_i29_7 : i29 7 = (jj 7) := congrFun e_i29 7
                have e_i29_8 : i29 8 = (jj 8) := congrFun e_i29 8
                have hO30 : ReaderOk i29 := by refine ⟨?_, ?_, ?_, ?_, ?_, ?_⟩ <;> omega
                have hf31 := hO30
                have hP : va_P G vwCl [(b, .inr (3, [.ref (q 0), .int (zI (i29 0)), .ref (q 3), .ref (q 4), .int (zI (i29 1)), .int (zI (i29 2)), .ref (q 1), .ref (q 2), .int (zI (i29 3)), .int (zI (i29 4)), .int (zI (i29 5)), .int (zI (i29 6)), .long (zL (i29 7)), .int (zI (i29 8))])), ((q 0), .inl (cB, 900, .inl (fun k => zI ((g 0) k)))), ((q 1), .inl (cJ, 19, .inr (.inl (fun k => zL ((g 1) k))))), ((q 2), .inl (cJ, 10, .inr (.inl (fun k => zL ((g 2) k)))))] H := by subst e_i29; exact hP
                have hD : va_D A [(b, .inr (3, [.ref (q 0), .int (zI (i29 0)), .ref (q 3), .ref (q 4), .int (zI (i29 1)), .int (zI (i29 2)), .ref (q 1), .ref (q 2), .int (zI (i29 3)), .int (zI (i29 4)), .int (zI (i29 5)), .int (zI (i29 6)), .long (zL (i29 7)), .int (zI (i29 8))])), ((q 0), .inl (cB, 900, .inl (fun k => zI ((g 0) k)))), ((q 1), .inl (cJ, 19, .inr (.inl (fun k => zL ((g 1) k))))), ((q 2), .inl (cJ, 10, .inr (.inl (fun k => zL ((g 2) k)))))] := by subst e_i29; exact hD
                exact ih2 (v1 + 1) i29 _ _ (by omega) (by omega) hO30 (fun q9 => KdS.yes (by omega) (by omega) ((hcw.mp (by omega)).trans (show jj 7 = i29 7 by omega))) (fun q9 => absurd (hk2 (by omega)) (by omega)) hP hD hS ls (lv_sub hl [0, 1] rfl)
    · refine lv_aload_n hx hb dX3_lookAtWord_16 rfl (lv_at hl 0 rfl) ?_
      refine r_get F hK hP 0 0 rfl rfl in_X3 (by decide) k_261 rfl dX3_lookAtWord_17 ?_
      refine lv_aload_n hx hb dX3_lookAtWord_20 rfl (lv_at hl 0 rfl) ?_
      refine r_get F hK hP 0 11 rfl rfl in_X3 (by decide) k_277 rfl dX3_lookAtWord_21 ?_
      refine rz_baldE F hK hP 1 1 rfl rfl (by omega) (by omega) dX3_lookAtWord_24 ?_
      have hb33 := hTx ((ii 6)).toNat (by omega)
      have hlk34 : lk f n (ii 6) = f ((ii 6)).toNat := lk_lt (by omega)
      refine lv_bipush (v := zI 97) hx hb dX3_lookAtWord_25 (by decide) ?_
      refine rz_icmp_lt (tgt := 83) F (by omega) (by omega) dX3_lookAtWord_27 (by decide) (fun h27_34 => ?_) (fun h27_34 => ?_)
      · refine lv_aload_n hx hb dX3_lookAtWord_83 rfl (lv_at hl 0 rfl) ?_
        have hst : Stop sSm f n p9 (ii 6) := ⟨by omega, hrun, by unfold sSm; rw [hlk34]; omega⟩
        refine lv_aload_n hx hb dX3_lookAtWord_84 rfl (lv_at hl 0 rfl) ?_
        refine r_get F hK hP 0 11 rfl rfl in_X3 (by decide) k_277 rfl dX3_lookAtWord_85 ?_
        refine lv_aload_n hx hb dX3_lookAtWord_88 rfl (lv_at hl 0 rfl) ?_
        refine r_get F hK hP 0 10 rfl rfl in_X3 (by decide) k_276 rfl dX3_lookAtWord_89 ?_
        refine r_isub (v := zI ((ii 6) - (ii 5))) F dX3_lookAtWord_92 (zI_sub _ _) ?_
        refine lv_bipush (v := zI 8) hx hb dX3_lookAtWord_93 (by decide) ?_
        refine rz_icmp_gt (tgt := 103) F (by omega) (by omega) dX3_lookAtWord_95 (by decide) (fun h95_35 => ?_) (fun h95_35 => ?_)
        · refine lv_bipush (v := zI 23) hx hb dX3_lookAtWord_103 (by decide) ?_
          refine r_put F hK hP hD hS 0 9 rfl rfl in_X3 tyX3 tyX3_ok nmX3 (by decide) k_275 rfl rfl rfl (Nat.le_of_ble_eq_true rfl) dX3_lookAtWord_105 (w1 := [(b, .inr (3, [.ref (q 0), .int (zI (ii 0)), .ref (q 3), .ref (q 4), .int (zI (ii 1)), .int (zI (ii 2)), .ref (q 1), .ref (q 2), .int (zI (ii 3)), .int (zI 23), .int (zI (ii 5)), .int (zI (ii 6)), .long (zL (ii 7)), .int (zI (ii 8))])), ((q 0), .inl (cB, 900, .inl (fun k => zI ((g 0) k)))), ((q 1), .inl (cJ, 19, .inr (.inl (fun k => zL ((g 1) k))))), ((q 2), .inl (cJ, 10, .inr (.inl (fun k => zL ((g 2) k)))))]) rfl (fun H locs hP hD hS => ?_)
          refine lv_iconst (v := zI 0) hx hb dX3_lookAtWord_108 rfl ?_
          refine lv_istore_n (lv' := [(1, .int (zI 0)), (0, .ref b)]) hx hb dX3_lookAtWord_109 rfl hl (by decide) rfl (fun ls hl => ?_)
          obtain ⟨i37, e_i37⟩ : ∃ i37 : Nat → Int, i37 = fun k => [(ii 0), (ii 1), (ii 2), (ii 3), 23, (ii 5), (ii 6), (ii 7), (ii 8)].getD k 0 := ⟨_, rfl⟩
          have e_i37_0 : i37 0 = (ii 0) := congrFun e_i37 0
          have e_i37_1 : i37 1 = (ii 1) := congrFun e_i37 1
          have e_i37_2 : i37 2 = (ii 2) := congrFun e_i37 2
          have e_i37_3 : i37 3 = (ii 3) := congrFun e_i37 3
          have e_i37_4 : i37 4 = 23 := congrFun e_i37 4
          have e_i37_5 : i37 5 = (ii 5) := congrFun e_i37 5
          have e_i37_6 : i37 6 = (ii 6) := congrFun e_i37 6
          have e_i37_7 : i37 7 = (ii 7) := congrFun e_i37 7
          have e_i37_8 : i37 8 = (ii 8) := congrFun e_i37 8
          have hO38 : ReaderOk i37 := by refine ⟨?_, ?_, ?_, ?_, ?_, ?_⟩ <;> omega
          have hf39 := hO38
          have hP : va_P G vwCl [(b, .inr (3, [.ref (q 0), .int (zI (i37 0)), .ref (q 3), .ref (q 4), .int (zI (i37 1)), .int (zI (i37 2)), .ref (q 1), .ref (q 2), .int (zI (i37 3)), .int (zI (i37 4)), .int (zI (i37 5)), .int (zI (i37 6)), .long (zL (i37 7)), .int (zI (i37 8))])), ((q 0), .inl (cB, 900, .inl (fun k => zI ((g 0) k)))), ((q 1), .inl (cJ, 19, .inr (.inl (fun k => zL ((g 1) k))))), ((q 2), .inl (cJ, 10, .inr (.inl (fun k => zL ((g 2) k)))))] H := by subst e_i37; exact hP
          have hD : va_D A [(b, .inr (3, [.ref (q 0), .int (zI (i37 0)), .ref (q 3), .ref (q 4), .int (zI (i37 1)), .int (zI (i37 2)), .ref (q 1), .ref (q 2), .int (zI (i37 3)), .int (zI (i37 4)), .int (zI (i37 5)), .int (zI (i37 6)), .long (zL (i37 7)), .int (zI (i37 8))])), ((q 0), .inl (cB, 900, .inl (fun k => zI ((g 0) k)))), ((q 1), .inl (cJ, 19, .inr (.inl (fun k => zL ((g 1) k))))), ((q 2), .inl (cJ, 10, .inr (.inl (fun k => zL ((g 2) k)))))] := by subst e_i37; exact hD
          refine W.widen (k := 0) (n := 0) (Nat.le_of_ble_eq_true rfl) (Nat.le_of_ble_eq_true rfl) ?_
          refine (?_ : ∀ (n9_2 : Nat) (v1 : Int) (jj : Nat → Int) (H : Heap) (locs : List Loc), (0 ≤ v1 ∧ v1 ≤ 19 ∧ jj 0 = i 0 ∧ jj 1 = i 1 ∧ jj 2 = i 2 ∧ jj 3 = n ∧ jj 5 = p9 ∧ jj 6 = ii 6 ∧ jj 7 = ii 7) → (19 - v1 : Int).toNat < n9_2 → (ReaderOk jj) → (jj 6 - p9 ≤ 8 → KdS (jj 7) v1 (jj 4)) → (8 < jj 6 - p9 → jj 4 = 23) → va_P G vwCl [(b, .inr (3, [.ref (q 0), .int (zI (jj 0)), .ref (q 3), .ref (q 4), .int (zI (jj 1)), .int (zI (jj 2)), .ref (q 1), .ref (q 2), .int (zI (jj 3)), .int (zI (jj 4)), .int (zI (jj 5)), .int (zI (jj 6)), .long (zL (jj 7)), .int (zI (jj 8))])), ((q 0), .inl (cB, 900, .inl (fun k => zI ((g 0) k)))), ((q 1), .inl (cJ, 19, .inr (.inl (fun k => zL ((g 1) k))))), ((q 2), .inl (cJ, 10, .inr (.inl (fun k => zL ((g 2) k)))))] H → va_D A [(b, .inr (3, [.ref (q 0), .int (zI (jj 0)), .ref (q 3), .ref (q 4), .int (zI (jj 1)), .int (zI (jj 2)), .ref (q 1), .ref (q 2), .int (zI (jj 3)), .int (zI (jj 4)), .int (zI (jj 5)), .int (zI (jj 6)), .long (zL (jj 7)), .int (zI (jj 8))])), ((q 0), .inl (cB, 900, .inl (fun k => zI ((g 0) k)))), ((q 1), .inl (cJ, 19, .inr (.inl (fun k => zL ((g 1) k))))), ((q 2), .inl (cJ, 10, .inr (.inl (fun k => zL ((g 2) k)))))] → va_S A s.heap H locs → ∀ ls : Array Slot, lv_has ls 2 [(1, .int (zI v1)), (0, .ref b)] → W p l e rm_X3x_lookAtWord s m ([.ref b] : List Value).toArray below meth c H locs 0 0 Q (F0 m 110 ls [])) ((19 - 0 : Int).toNat + 1) 0 i37 _ _ (by omega) (by omega) hO38 (fun q9 => Or.inl ⟨by omega, fun j hj => absurd hj (by omega)⟩) (fun q9 => by omega) hP hD hS ls hl
          clear hP hD hS hl ls
          intro n9_2
          induction n9_2 with
          | zero =>
            intro v1 jj H locs hI hM
            exact absurd hM (by omega)
          | succ n9_2 ih2 =>
            intro v1 jj H locs hI2 hM2 hG2 hk1 hk2 hP hD hS ls hl
            have hf40 := hG2
            refine lv_iload_n hx hb dX3_lookAtWord_110 rfl (lv_at hl 0 rfl) ?_
            refine lv_bipush (v := zI 19) hx hb dX3_lookAtWord_111 (by decide) ?_
            refine rz_icmp_ge (tgt := 157) F (by omega) (by omega) dX3_lookAtWord_113 (by decide) (fun h113_40 => ?_) (fun h113_40 => ?_)
            · exact ret (jj, fun _ _ => 0) _ _ _ _ _ _ ⟨hG2, (show (jj 5 = p9 ∧ Stop sSm f n p9 (jj 6)) ∧ ((jj 6 - p9 ≤ 8 → jj 7 = enc f p9 (jj 6) ∧ Kd (jj 7) (jj 4)) ∧ (8 < jj 6 - p9 → jj 4 = 23)) ∧ jj 0 = i 0 ∧ jj 1 = i 1 ∧ jj 2 = i 2 ∧ jj 3 = i 3 from ⟨⟨by omega, (show jj 6 = ii 6 by omega) ▸ hst⟩, ⟨fun q9 => ⟨by rw [show jj 7 = ii 7 by omega, show jj 6 = ii 6 by omega]; exact hv, Kd.done (hk1 (by omega)) (by omega) (by omega)⟩, fun q9 => hk2 (by omega)⟩, by omega⟩)⟩ (bw_subP (isC := [0, 1, 2, 3]) hP rfl) (hD.sub [0, 1, 2, 3] (by decide) rfl) hS (Nat.le_of_ble_eq_true rfl) (Nat.le_of_ble_eq_true rfl) dX3_lookAtWord_157
            · refine lv_aload_n hx hb dX3_lookAtWord_116 rfl (lv_at hl 1 rfl) ?_
              refine r_get F hK hP 0 9 rfl rfl in_X3 (by decide) k_275 rfl dX3_lookAtWord_117 ?_
              refine lv_bipush (v := zI 19) hx hb dX3_lookAtWord_120 (by decide) ?_
              refine rz_icmp_ne (tgt := 157) F (by omega) (by omega) dX3_lookAtWord_122 (by decide) (fun h122_41 => ?_) (fun h122_41 => ?_)
              · exact ret (jj, fun _ _ => 0) _ _ _ _ _ _ ⟨hG2, (show (jj 5 = p9 ∧ Stop sSm f n p9 (jj 6)) ∧ ((jj 6 - p9 ≤ 8 → jj 7 = enc f p9 (jj 6) ∧ Kd (jj 7) (jj 4)) ∧ (8 < jj 6 - p9 → jj 4 = 23)) ∧ jj 0 = i 0 ∧ jj 1 = i 1 ∧ jj 2 = i 2 ∧ jj 3 = i 3 from ⟨⟨by omega, (show jj 6 = ii 6 by omega) ▸ hst⟩, ⟨fun q9 => ⟨by rw [show jj 7 = ii 7 by omega, show jj 6 = ii 6 by omega]; exact hv, Kd.done (hk1 (by omega)) (by omega) (by omega)⟩, fun q9 => hk2 (by omega)⟩, by omega⟩)⟩ (bw_subP (isC := [0, 1, 2, 3]) hP rfl) (hD.sub [0, 1, 2, 3] (by decide) rfl) hS (Nat.le_of_ble_eq_true rfl) (Nat.le_of_ble_eq_true rfl) dX3_lookAtWord_157
              · refine lv_aload_n hx hb dX3_lookAtWord_125 rfl (lv_at hl 1 rfl) ?_
                refine lv_aload_n hx hb dX3_lookAtWord_126 rfl (lv_at hl 1 rfl) ?_
                refine r_get F hK hP 0 6 rfl rfl in_X3 (by decide) k_272 rfl dX3_lookAtWord_127 ?_
                refine lv_iload_n hx hb dX3_lookAtWord_130 rfl (lv_at hl 0 rfl) ?_
                refine rz_lald F hK hP 2 2 rfl rfl (by omega) (by omega) dX3_lookAtWord_131 ?_
                refine lv_aload_n hx hb dX3_lookAtWord_132 rfl (lv_at hl 1 rfl) ?_
                refine r_get F hK hP 0 12 rfl rfl in_X3 (by decide) k_278 rfl dX3_lookAtWord_133 ?_
                refine rz_lcmpE F dX3_lookAtWord_136 (fun z44 h_z44 hc_z44 => ?_)
                have hw8 : jj 6 - p9 ≤ 8 := by omega
                have hbd := enc_bd (n := n) hp0 (show p9 ≤ ii 6 by omega) hrun (by omega)
                have hrb := rsv_bd (v1).toNat (by omega)
                have hcw : z44 = 0 ↔ rsv (v1).toNat = jj 7 := ⟨fun q9 => zL_inj (by omega) (by omega) (by rw [← hRs (v1).toNat (by omega)]; exact hc_z44.mp q9), fun q9 => hc_z44.mpr (by rw [hRs (v1).toNat (by omega), q9])⟩
                refine rz_if_ne (tgt := 144) F (by omega) dX3_lookAtWord_137 (by decide) (fun h137_44 => ?_) (fun h137_44 => ?_)
                · refine lv_aload_n hx hb dX3_lookAtWord_144 rfl (lv_at hl 1 rfl) ?_
                  refine r_get F hK hP 0 9 rfl rfl in_X3 (by decide) k_275 rfl dX3_lookAtWord_145 ?_
                  refine r_put F hK hP hD hS 0 9 rfl rfl in_X3 tyX3 tyX3_ok nmX3 (by decide) k_275 rfl rfl rfl (Nat.le_of_ble_eq_true rfl) dX3_lookAtWord_148 (w1 := [(b, .inr (3, [.ref (q 0), .int (zI (jj 0)), .ref (q 3), .ref (q 4), .int (zI (jj 1)), .int (zI (jj 2)), .ref (q 1), .ref (q 2), .int (zI (jj 3)), .int (zI (jj 4)), .int (zI (jj 5)), .int (zI (jj 6)), .long (zL (jj 7)), .int (zI (jj 8))])), ((q 0), .inl (cB, 900, .inl (fun k => zI ((g 0) k)))), ((q 1), .inl (cJ, 19, .inr (.inl (fun k => zL ((g 1) k))))), ((q 2), .inl (cJ, 10, .inr (.inl (fun k => zL ((g 2) k)))))]) rfl (fun H locs hP hD hS => ?_)
                  refine lv_iinc (v := zI (v1 + 1)) (lv' := [(1, .int (zI (v1 + 1))), (0, .ref b)]) hx hb dX3_lookAtWord_151 hl (k := 0) rfl (zI_add _ _) (by decide) rfl (fun ls hl => ?_)
                  refine lv_goto (tgt := 110) hx hb dX3_lookAtWord_154 (by decide) ?_
                  exact ih2 (v1 + 1) jj _ _ (by omega) (by omega) hG2 (fun q9 => by rw [show jj 7 = jj 7 by omega, show jj 4 = jj 4 by omega]; exact KdS.no (hk1 (by omega)) (by omega) (by omega) (fun q8 => absurd (hcw.mpr q8) (by omega))) (fun q9 => absurd (hk2 (by omega)) (by omega)) hP hD hS ls (lv_sub hl [0, 1] rfl)
                · refine lv_iload_n hx hb dX3_lookAtWord_140 rfl (lv_at hl 0 rfl) ?_
                  refine lv_goto (tgt := 148) hx hb dX3_lookAtWord_141 (by decide) ?_
                  refine r_put F hK hP hD hS 0 9 rfl rfl in_X3 tyX3 tyX3_ok nmX3 (by decide) k_275 rfl rfl rfl (Nat.le_of_ble_eq_true rfl) dX3_lookAtWord_148 (w1 := [(b, .inr (3, [.ref (q 0), .int (zI (jj 0)), .ref (q 3), .ref (q 4), .int (zI (jj 1)), .int (zI (jj 2)), .ref (q 1), .ref (q 2), .int (zI (jj 3)), .int (zI v1), .int (zI (jj 5)), .int (zI (jj 6)), .long (zL (jj 7)), .int (zI (jj 8))])), ((q 0), .inl (cB, 900, .inl (fun k => zI ((g 0) k)))), ((q 1), .inl (cJ, 19, .inr (.inl (fun k => zL ((g 1) k))))), ((q 2), .inl (cJ, 10, .inr (.inl (fun k => zL ((g 2) k)))))]) rfl (fun H locs hP hD hS => ?_)
                  refine lv_iinc (v := zI (v1 + 1)) (lv' := [(1, .int (zI (v1 + 1))), (0, .ref b)]) hx hb dX3_lookAtWord_151 hl (k := 0) rfl (zI_add _ _) (by decide) rfl (fun ls hl => ?_)
                  refine lv_goto (tgt := 110) hx hb dX3_lookAtWord_154 (by decide) ?_
                  obtain ⟨i46, e_i46⟩ : ∃ i46 : Nat → Int, i46 = fun k => [(jj 0), (jj 1), (jj 2), (jj 3), v1, (jj 5), (jj 6), (jj 7), (jj 8)].getD k 0 := ⟨_, rfl⟩
                  have e_i46_0 : i46 0 = (jj 0) := congrFun e_i46 0
                  have e_i46_1 : i46 1 = (jj 1) := congrFun e_i46 1
                  have e_i46_2 : i46 2 = (jj 2) := congrFun e_i46 2
                  have e_i46_3 : i46 3 = (jj 3) := congrFun e_i46 3
                  have e_i46_4 : i46 4 = v1 := congrFun e_i46 4
                  have e_i46_5 : i46 5 = (jj 5) := congrFun e_i46 5
                  have e_i46_6 : i46 6 = (jj 6) := congrFun e_i46 6
                  have e_i46_7 : i46 7 = (jj 7) := congrFun e_i46 7
                  have e_i46_8 : i46 8 = (jj 8) := congrFun e_i46 8
                  have hO47 : ReaderOk i46 := by refine ⟨?_, ?_, ?_, ?_, ?_, ?_⟩ <;> omega
                  have hf48 := hO47
                  have hP : va_P G vwCl [(b, .inr (3, [.ref (q 0), .int (zI (i46 0)), .ref (q 3), .ref (q 4), .int (zI (i46 1)), .int (zI (i46 2)), .ref (q 1), .ref (q 2), .int (zI (i46 3)), .int (zI (i46 4)), .int (zI (i46 5)), .int (zI (i46 6)), .long (zL (i46 7)), .int (zI (i46 8))])), ((q 0), .inl (cB, 900, .inl (fun k => zI ((g 0) k)))), ((q 1), .inl (cJ, 19, .inr (.inl (fun k => zL ((g 1) k))))), ((q 2), .inl (cJ, 10, .inr (.inl (fun k => zL ((g 2) k)))))] H := by subst e_i46; exact hP
                  have hD : va_D A [(b, .inr (3, [.ref (q 0), .int (zI (i46 0)), .ref (q 3), .ref (q 4), .int (zI (i46 1)), .int (zI (i46 2)), .ref (q 1), .ref (q 2), .int (zI (i46 3)), .int (zI (i46 4)), .int (zI (i46 5)), .int (zI (i46 6)), .long (zL (i46 7)), .int (zI (i46 8))])), ((q 0), .inl (cB, 900, .inl (fun k => zI ((g 0) k)))), ((q 1), .inl (cJ, 19, .inr (.inl (fun k => zL ((g 1) k))))), ((q 2), .inl (cJ, 10, .inr (.inl (fun k => zL ((g 2) k)))))] := by subst e_i46; exact hD
                  exact ih2 (v1 + 1) i46 _ _ (by omega) (by omega) hO47 (fun q9 => KdS.yes (by omega) (by omega) ((hcw.mp (by omega)).trans (show jj 7 = i46 7 by omega))) (fun q9 => absurd (hk2 (by omega)) (by omega)) hP hD hS ls (lv_sub hl [0, 1] rfl)
        · refine lv_bipush (v := zI 19) hx hb dX3_lookAtWord_98 (by decide) ?_
          refine lv_goto (tgt := 105) hx hb dX3_lookAtWord_100 (by decide) ?_
          refine r_put F hK hP hD hS 0 9 rfl rfl in_X3 tyX3 tyX3_ok nmX3 (by decide) k_275 rfl rfl rfl (Nat.le_of_ble_eq_true rfl) dX3_lookAtWord_105 (w1 := [(b, .inr (3, [.ref (q 0), .int (zI (ii 0)), .ref (q 3), .ref (q 4), .int (zI (ii 1)), .int (zI (ii 2)), .ref (q 1), .ref (q 2), .int (zI (ii 3)), .int (zI 19), .int (zI (ii 5)), .int (zI (ii 6)), .long (zL (ii 7)), .int (zI (ii 8))])), ((q 0), .inl (cB, 900, .inl (fun k => zI ((g 0) k)))), ((q 1), .inl (cJ, 19, .inr (.inl (fun k => zL ((g 1) k))))), ((q 2), .inl (cJ, 10, .inr (.inl (fun k => zL ((g 2) k)))))]) rfl (fun H locs hP hD hS => ?_)
          refine lv_iconst (v := zI 0) hx hb dX3_lookAtWord_108 rfl ?_
          refine lv_istore_n (lv' := [(1, .int (zI 0)), (0, .ref b)]) hx hb dX3_lookAtWord_109 rfl hl (by decide) rfl (fun ls hl => ?_)
          obtain ⟨i49, e_i49⟩ : ∃ i49 : Nat → Int, i49 = fun k => [(ii 0), (ii 1), (ii 2), (ii 3), 19, (ii 5), (ii 6), (ii 7), (ii 8)].getD k 0 := ⟨_, rfl⟩
          have e_i49_0 : i49 0 = (ii 0) := congrFun e_i49 0
          have e_i49_1 : i49 1 = (ii 1) := congrFun e_i49 1
          have e_i49_2 : i49 2 = (ii 2) := congrFun e_i49 2
          have e_i49_3 : i49 3 = (ii 3) := congrFun e_i49 3
          have e_i49_4 : i49 4 = 19 := congrFun e_i49 4
          have e_i49_5 : i49 5 = (ii 5) := congrFun e_i49 5
          have e_i49_6 : i49 6 = (ii 6) := congrFun e_i49 6
          have e_i49_7 : i49 7 = (ii 7) := congrFun e_i49 7
          have e_i49_8 : i49 8 = (ii 8) := congrFun e_i49 8
          have hO50 : ReaderOk i49 := by refine ⟨?_, ?_, ?_, ?_, ?_, ?_⟩ <;> omega
          have hf51 := hO50
          have hP : va_P G vwCl [(b, .inr (3, [.ref (q 0), .int (zI (i49 0)), .ref (q 3), .ref (q 4), .int (zI (i49 1)), .int (zI (i49 2)), .ref (q 1), .ref (q 2), .int (zI (i49 3)), .int (zI (i49 4)), .int (zI (i49 5)), .int (zI (i49 6)), .long (zL (i49 7)), .int (zI (i49 8))])), ((q 0), .inl (cB, 900, .inl (fun k => zI ((g 0) k)))), ((q 1), .inl (cJ, 19, .inr (.inl (fun k => zL ((g 1) k))))), ((q 2), .inl (cJ, 10, .inr (.inl (fun k => zL ((g 2) k)))))] H := by subst e_i49; exact hP
          have hD : va_D A [(b, .inr (3, [.ref (q 0), .int (zI (i49 0)), .ref (q 3), .ref (q 4), .int (zI (i49 1)), .int (zI (i49 2)), .ref (q 1), .ref (q 2), .int (zI (i49 3)), .int (zI (i49 4)), .int (zI (i49 5)), .int (zI (i49 6)), .long (zL (i49 7)), .int (zI (i49 8))])), ((q 0), .inl (cB, 900, .inl (fun k => zI ((g 0) k)))), ((q 1), .inl (cJ, 19, .inr (.inl (fun k => zL ((g 1) k))))), ((q 2), .inl (cJ, 10, .inr (.inl (fun k => zL ((g 2) k)))))] := by subst e_i49; exact hD
          refine W.widen (k := 0) (n := 0) (Nat.le_of_ble_eq_true rfl) (Nat.le_of_ble_eq_true rfl) ?_
          refine (?_ : ∀ (n9_2 : Nat) (v1 : Int) (jj : Nat → Int) (H : Heap) (locs : List Loc), (0 ≤ v1 ∧ v1 ≤ 19 ∧ jj 0 = i 0 ∧ jj 1 = i 1 ∧ jj 2 = i 2 ∧ jj 3 = n ∧ jj 5 = p9 ∧ jj 6 = ii 6 ∧ jj 7 = ii 7) → (19 - v1 : Int).toNat < n9_2 → (ReaderOk jj) → (jj 6 - p9 ≤ 8 → KdS (jj 7) v1 (jj 4)) → (8 < jj 6 - p9 → jj 4 = 23) → va_P G vwCl [(b, .inr (3, [.ref (q 0), .int (zI (jj 0)), .ref (q 3), .ref (q 4), .int (zI (jj 1)), .int (zI (jj 2)), .ref (q 1), .ref (q 2), .int (zI (jj 3)), .int (zI (jj 4)), .int (zI (jj 5)), .int (zI (jj 6)), .long (zL (jj 7)), .int (zI (jj 8))])), ((q 0), .inl (cB, 900, .inl (fun k => zI ((g 0) k)))), ((q 1), .inl (cJ, 19, .inr (.inl (fun k => zL ((g 1) k))))), ((q 2), .inl (cJ, 10, .inr (.inl (fun k => zL ((g 2) k)))))] H → va_D A [(b, .inr (3, [.ref (q 0), .int (zI (jj 0)), .ref (q 3), .ref (q 4), .int (zI (jj 1)), .int (zI (jj 2)), .ref (q 1), .ref (q 2), .int (zI (jj 3)), .int (zI (jj 4)), .int (zI (jj 5)), .int (zI (jj 6)), .long (zL (jj 7)), .int (zI (jj 8))])), ((q 0), .inl (cB, 900, .inl (fun k => zI ((g 0) k)))), ((q 1), .inl (cJ, 19, .inr (.inl (fun k => zL ((g 1) k))))), ((q 2), .inl (cJ, 10, .inr (.inl (fun k => zL ((g 2) k)))))] → va_S A s.heap H locs → ∀ ls : Array Slot, lv_has ls 2 [(1, .int (zI v1)), (0, .ref b)] → W p l e rm_X3x_lookAtWord s m ([.ref b] : List Value).toArray below meth c H locs 0 0 Q (F0 m 110 ls [])) ((19 - 0 : Int).toNat + 1) 0 i49 _ _ (by omega) (by omega) hO50 (fun q9 => Or.inl ⟨by omega, fun j hj => absurd hj (by omega)⟩) (fun q9 => by omega) hP hD hS ls hl
          clear hP hD hS hl ls
          intro n9_2
          induction n9_2 with
          | zero =>
            intro v1 jj H locs hI hM
            exact absurd hM (by omega)
          | succ n9_2 ih2 =>
            intro v1 jj H locs hI2 hM2 hG2 hk1 hk2 hP hD hS ls hl
            have hf52 := hG2
            refine lv_iload_n hx hb dX3_lookAtWord_110 rfl (lv_at hl 0 rfl) ?_
            refine lv_bipush (v := zI 19) hx hb dX3_lookAtWord_111 (by decide) ?_
            refine rz_icmp_ge (tgt := 157) F (by omega) (by omega) dX3_lookAtWord_113 (by decide) (fun h113_52 => ?_) (fun h113_52 => ?_)
            · exact ret (jj, fun _ _ => 0) _ _ _ _ _ _ ⟨hG2, (show (jj 5 = p9 ∧ Stop sSm f n p9 (jj 6)) ∧ ((jj 6 - p9 ≤ 8 → jj 7 = enc f p9 (jj 6) ∧ Kd (jj 7) (jj 4)) ∧ (8 < jj 6 - p9 → jj 4 = 23)) ∧ jj 0 = i 0 ∧ jj 1 = i 1 ∧ jj 2 = i 2 ∧ jj 3 = i 3 from ⟨⟨by omega, (show jj 6 = ii 6 by omega) ▸ hst⟩, ⟨fun q9 => ⟨by rw [show jj 7 = ii 7 by omega, show jj 6 = ii 6 by omega]; exact hv, Kd.done (hk1 (by omega)) (by omega) (by omega)⟩, fun q9 => hk2 (by omega)⟩, by omega⟩)⟩ (bw_subP (isC := [0, 1, 2, 3]) hP rfl) (hD.sub [0, 1, 2, 3] (by decide) rfl) hS (Nat.le_of_ble_eq_true rfl) (Nat.le_of_ble_eq_true rfl) dX3_lookAtWord_157
            · refine lv_aload_n hx hb dX3_lookAtWord_116 rfl (lv_at hl 1 rfl) ?_
              refine r_get F hK hP 0 9 rfl rfl in_X3 (by decide) k_275 rfl dX3_lookAtWord_117 ?_
              refine lv_bipush (v := zI 19) hx hb dX3_lookAtWord_120 (by decide) ?_
              refine rz_icmp_ne (tgt := 157) F (by omega) (by omega) dX3_lookAtWord_122 (by decide) (fun h122_53 => ?_) (fun h122_53 => ?_)
              · exact ret (jj, fun _ _ => 0) _ _ _ _ _ _ ⟨hG2, (show (jj 5 = p9 ∧ Stop sSm f n p9 (jj 6)) ∧ ((jj 6 - p9 ≤ 8 → jj 7 = enc f p9 (jj 6) ∧ Kd (jj 7) (jj 4)) ∧ (8 < jj 6 - p9 → jj 4 = 23)) ∧ jj 0 = i 0 ∧ jj 1 = i 1 ∧ jj 2 = i 2 ∧ jj 3 = i 3 from ⟨⟨by omega, (show jj 6 = ii 6 by omega) ▸ hst⟩, ⟨fun q9 => ⟨by rw [show jj 7 = ii 7 by omega, show jj 6 = ii 6 by omega]; exact hv, Kd.done (hk1 (by omega)) (by omega) (by omega)⟩, fun q9 => hk2 (by omega)⟩, by omega⟩)⟩ (bw_subP (isC := [0, 1, 2, 3]) hP rfl) (hD.sub [0, 1, 2, 3] (by decide) rfl) hS (Nat.le_of_ble_eq_true rfl) (Nat.le_of_ble_eq_true rfl) dX3_lookAtWord_157
              · refine lv_aload_n hx hb dX3_lookAtWord_125 rfl (lv_at hl 1 rfl) ?_
                refine lv_aload_n hx hb dX3_lookAtWord_126 rfl (lv_at hl 1 rfl) ?_
                refine r_get F hK hP 0 6 rfl rfl in_X3 (by decide) k_272 rfl dX3_lookAtWord_127 ?_
                refine lv_iload_n hx hb dX3_lookAtWord_130 rfl (lv_at hl 0 rfl) ?_
                refine rz_lald F hK hP 2 2 rfl rfl (by omega) (by omega) dX3_lookAtWord_131 ?_
                refine lv_aload_n hx hb dX3_lookAtWord_132 rfl (lv_at hl 1 rfl) ?_
                refine r_get F hK hP 0 12 rfl rfl in_X3 (by decide) k_278 rfl dX3_lookAtWord_133 ?_
                refine rz_lcmpE F dX3_lookAtWord_136 (fun z56 h_z56 hc_z56 => ?_)
                have hw8 : jj 6 - p9 ≤ 8 := by omega
                have hbd := enc_bd (n := n) hp0 (show p9 ≤ ii 6 by omega) hrun (by omega)
                have hrb := rsv_bd (v1).toNat (by omega)
                have hcw : z56 = 0 ↔ rsv (v1).toNat = jj 7 := ⟨fun q9 => zL_inj (by omega) (by omega) (by rw [← hRs (v1).toNat (by omega)]; exact hc_z56.mp q9), fun q9 => hc_z56.mpr (by rw [hRs (v1).toNat (by omega), q9])⟩
                refine rz_if_ne (tgt := 144) F (by omega) dX3_lookAtWord_137 (by decide) (fun h137_56 => ?_) (fun h137_56 => ?_)
                · refine lv_aload_n hx hb dX3_lookAtWord_144 rfl (lv_at hl 1 rfl) ?_
                  refine r_get F hK hP 0 9 rfl rfl in_X3 (by decide) k_275 rfl dX3_lookAtWord_145 ?_
                  refine r_put F hK hP hD hS 0 9 rfl rfl in_X3 tyX3 tyX3_ok nmX3 (by decide) k_275 rfl rfl rfl (Nat.le_of_ble_eq_true rfl) dX3_lookAtWord_148 (w1 := [(b, .inr (3, [.ref (q 0), .int (zI (jj 0)), .ref (q 3), .ref (q 4), .int (zI (jj 1)), .int (zI (jj 2)), .ref (q 1), .ref (q 2), .int (zI (jj 3)), .int (zI (jj 4)), .int (zI (jj 5)), .int (zI (jj 6)), .long (zL (jj 7)), .int (zI (jj 8))])), ((q 0), .inl (cB, 900, .inl (fun k => zI ((g 0) k)))), ((q 1), .inl (cJ, 19, .inr (.inl (fun k => zL ((g 1) k))))), ((q 2), .inl (cJ, 10, .inr (.inl (fun k => zL ((g 2) k)))))]) rfl (fun H locs hP hD hS => ?_)
                  refine lv_iinc (v := zI (v1 + 1)) (lv' := [(1, .int (zI (v1 + 1))), (0, .ref b)]) hx hb dX3_lookAtWord_151 hl (k := 0) rfl (zI_add _ _) (by decide) rfl (fun ls hl => ?_)
                  refine lv_goto (tgt := 110) hx hb dX3_lookAtWord_154 (by decide) ?_
                  exact ih2 (v1 + 1) jj _ _ (by omega) (by omega) hG2 (fun q9 => by rw [show jj 7 = jj 7 by omega, show jj 4 = jj 4 by omega]; exact KdS.no (hk1 (by omega)) (by omega) (by omega) (fun q8 => absurd (hcw.mpr q8) (by omega))) (fun q9 => absurd (hk2 (by omega)) (by omega)) hP hD hS ls (lv_sub hl [0, 1] rfl)
                · refine lv_iload_n hx hb dX3_lookAtWord_140 rfl (lv_at hl 0 rfl) ?_
                  refine lv_goto (tgt := 148) hx hb dX3_lookAtWord_141 (by decide) ?_
                  refine r_put F hK hP hD hS 0 9 rfl rfl in_X3 tyX3 tyX3_ok nmX3 (by decide) k_275 rfl rfl rfl (Nat.le_of_ble_eq_true rfl) dX3_lookAtWord_148 (w1 := [(b, .inr (3, [.ref (q 0), .int (zI (jj 0)), .ref (q 3), .ref (q 4), .int (zI (jj 1)), .int (zI (jj 2)), .ref (q 1), .ref (q 2), .int (zI (jj 3)), .int (zI v1), .int (zI (jj 5)), .int (zI (jj 6)), .long (zL (jj 7)), .int (zI (jj 8))])), ((q 0), .inl (cB, 900, .inl (fun k => zI ((g 0) k)))), ((q 1), .inl (cJ, 19, .inr (.inl (fun k => zL ((g 1) k))))), ((q 2), .inl (cJ, 10, .inr (.inl (fun k => zL ((g 2) k)))))]) rfl (fun H locs hP hD hS => ?_)
                  refine lv_iinc (v := zI (v1 + 1)) (lv' := [(1, .int (zI (v1 + 1))), (0, .ref b)]) hx hb dX3_lookAtWord_151 hl (k := 0) rfl (zI_add _ _) (by decide) rfl (fun ls hl => ?_)
                  refine lv_goto (tgt := 110) hx hb dX3_lookAtWord_154 (by decide) ?_
                  obtain ⟨i58, e_i58⟩ : ∃ i58 : Nat → Int, i58 = fun k => [(jj 0), (jj 1), (jj 2), (jj 3), v1, (jj 5), (jj 6), (jj 7), (jj 8)].getD k 0 := ⟨_, rfl⟩
                  have e_i58_0 : i58 0 = (jj 0) := congrFun e_i58 0
                  have e_i58_1 : i58 1 = (jj 1) := congrFun e_i58 1
                  have e_i58_2 : i58 2 = (jj 2) := congrFun e_i58 2
                  have e_i58_3 : i58 3 = (jj 3) := congrFun e_i58 3
                  have e_i58_4 : i58 4 = v1 := congrFun e_i58 4
                  have e_i58_5 : i58 5 = (jj 5) := congrFun e_i58 5
                  have e_i58_6 : i58 6 = (jj 6) := congrFun e_i58 6
                  have e_i58_7 : i58 7 = (jj 7) := congrFun e_i58 7
                  have e_i58_8 : i58 8 = (jj 8) := congrFun e_i58 8
                  have hO59 : ReaderOk i58 := by refine ⟨?_, ?_, ?_, ?_, ?_, ?_⟩ <;> omega
                  have hf60 := hO59
                  have hP : va_P G vwCl [(b, .inr (3, [.ref (q 0), .int (zI (i58 0)), .ref (q 3), .ref (q 4), .int (zI (i58 1)), .int (zI (i58 2)), .ref (q 1), .ref (q 2), .int (zI (i58 3)), .int (zI (i58 4)), .int (zI (i58 5)), .int (zI (i58 6)), .long (zL (i58 7)), .int (zI (i58 8))])), ((q 0), .inl (cB, 900, .inl (fun k => zI ((g 0) k)))), ((q 1), .inl (cJ, 19, .inr (.inl (fun k => zL ((g 1) k))))), ((q 2), .inl (cJ, 10, .inr (.inl (fun k => zL ((g 2) k)))))] H := by subst e_i58; exact hP
                  have hD : va_D A [(b, .inr (3, [.ref (q 0), .int (zI (i58 0)), .ref (q 3), .ref (q 4), .int (zI (i58 1)), .int (zI (i58 2)), .ref (q 1), .ref (q 2), .int (zI (i58 3)), .int (zI (i58 4)), .int (zI (i58 5)), .int (zI (i58 6)), .long (zL (i58 7)), .int (zI (i58 8))])), ((q 0), .inl (cB, 900, .inl (fun k => zI ((g 0) k)))), ((q 1), .inl (cJ, 19, .inr (.inl (fun k => zL ((g 1) k))))), ((q 2), .inl (cJ, 10, .inr (.inl (fun k => zL ((g 2) k)))))] := by subst e_i58; exact hD
                  exact ih2 (v1 + 1) i58 _ _ (by omega) (by omega) hO59 (fun q9 => KdS.yes (by omega) (by omega) ((hcw.mp (by omega)).trans (show jj 7 = i58 7 by omega))) (fun q9 => absurd (hk2 (by omega)) (by omega)) hP hD hS ls (lv_sub hl [0, 1] rfl)
      · refine lv_aload_n hx hb dX3_lookAtWord_30 rfl (lv_at hl 0 rfl) ?_
        refine r_get F hK hP 0 0 rfl rfl in_X3 (by decide) k_261 rfl dX3_lookAtWord_31 ?_
        refine lv_aload_n hx hb dX3_lookAtWord_34 rfl (lv_at hl 0 rfl) ?_
        refine r_get F hK hP 0 11 rfl rfl in_X3 (by decide) k_277 rfl dX3_lookAtWord_35 ?_
        refine rz_baldE F hK hP 1 1 rfl rfl (by omega) (by omega) dX3_lookAtWord_38 ?_
        have hb62 := hTx ((ii 6)).toNat (by omega)
        have hlk63 : lk f n (ii 6) = f ((ii 6)).toNat := lk_lt (by omega)
        refine lv_bipush (v := zI 122) hx hb dX3_lookAtWord_39 (by decide) ?_
        refine rz_icmp_gt (tgt := 83) F (by omega) (by omega) dX3_lookAtWord_41 (by decide) (fun h41_63 => ?_) (fun h41_63 => ?_)
        · refine lv_aload_n hx hb dX3_lookAtWord_83 rfl (lv_at hl 0 rfl) ?_
          have hst : Stop sSm f n p9 (ii 6) := ⟨by omega, hrun, by unfold sSm; rw [hlk63]; omega⟩
          refine lv_aload_n hx hb dX3_lookAtWord_84 rfl (lv_at hl 0 rfl) ?_
          refine r_get F hK hP 0 11 rfl rfl in_X3 (by decide) k_277 rfl dX3_lookAtWord_85 ?_
          refine lv_aload_n hx hb dX3_lookAtWord_88 rfl (lv_at hl 0 rfl) ?_
          refine r_get F hK hP 0 10 rfl rfl in_X3 (by decide) k_276 rfl dX3_lookAtWord_89 ?_
          refine r_isub (v := zI ((ii 6) - (ii 5))) F dX3_lookAtWord_92 (zI_sub _ _) ?_
          refine lv_bipush (v := zI 8) hx hb dX3_lookAtWord_93 (by decide) ?_
          refine rz_icmp_gt (tgt := 103) F (by omega) (by omega) dX3_lookAtWord_95 (by decide) (fun h95_64 => ?_) (fun h95_64 => ?_)
          · refine lv_bipush (v := zI 23) hx hb dX3_lookAtWord_103 (by decide) ?_
            refine r_put F hK hP hD hS 0 9 rfl rfl in_X3 tyX3 tyX3_ok nmX3 (by decide) k_275 rfl rfl rfl (Nat.le_of_ble_eq_true rfl) dX3_lookAtWord_105 (w1 := [(b, .inr (3, [.ref (q 0), .int (zI (ii 0)), .ref (q 3), .ref (q 4), .int (zI (ii 1)), .int (zI (ii 2)), .ref (q 1), .ref (q 2), .int (zI (ii 3)), .int (zI 23), .int (zI (ii 5)), .int (zI (ii 6)), .long (zL (ii 7)), .int (zI (ii 8))])), ((q 0), .inl (cB, 900, .inl (fun k => zI ((g 0) k)))), ((q 1), .inl (cJ, 19, .inr (.inl (fun k => zL ((g 1) k))))), ((q 2), .inl (cJ, 10, .inr (.inl (fun k => zL ((g 2) k)))))]) rfl (fun H locs hP hD hS => ?_)
            refine lv_iconst (v := zI 0) hx hb dX3_lookAtWord_108 rfl ?_
            refine lv_istore_n (lv' := [(1, .int (zI 0)), (0, .ref b)]) hx hb dX3_lookAtWord_109 rfl hl (by decide) rfl (fun ls hl => ?_)
            obtain ⟨i66, e_i66⟩ : ∃ i66 : Nat → Int, i66 = fun k => [(ii 0), (ii 1), (ii 2), (ii 3), 23, (ii 5), (ii 6), (ii 7), (ii 8)].getD k 0 := ⟨_, rfl⟩
            have e_i66_0 : i66 0 = (ii 0) := congrFun e_i66 0
            have e_i66_1 : i66 1 = (ii 1) := congrFun e_i66 1
            have e_i66_2 : i66 2 = (ii 2) := congrFun e_i66 2
            have e_i66_3 : i66 3 = (ii 3) := congrFun e_i66 3
            have e_i66_4 : i66 4 = 23 := congrFun e_i66 4
            have e_i66_5 : i66 5 = (ii 5) := congrFun e_i66 5
            have e_i66_6 : i66 6 = (ii 6) := congrFun e_i66 6
            have e_i66_7 : i66 7 = (ii 7) := congrFun e_i66 7
            have e_i66_8 : i66 8 = (ii 8) := congrFun e_i66 8
            have hO67 : ReaderOk i66 := by refine ⟨?_, ?_, ?_, ?_, ?_, ?_⟩ <;> omega
            have hf68 := hO67
            have hP : va_P G vwCl [(b, .inr (3, [.ref (q 0), .int (zI (i66 0)), .ref (q 3), .ref (q 4), .int (zI (i66 1)), .int (zI (i66 2)), .ref (q 1), .ref (q 2), .int (zI (i66 3)), .int (zI (i66 4)), .int (zI (i66 5)), .int (zI (i66 6)), .long (zL (i66 7)), .int (zI (i66 8))])), ((q 0), .inl (cB, 900, .inl (fun k => zI ((g 0) k)))), ((q 1), .inl (cJ, 19, .inr (.inl (fun k => zL ((g 1) k))))), ((q 2), .inl (cJ, 10, .inr (.inl (fun k => zL ((g 2) k)))))] H := by subst e_i66; exact hP
            have hD : va_D A [(b, .inr (3, [.ref (q 0), .int (zI (i66 0)), .ref (q 3), .ref (q 4), .int (zI (i66 1)), .int (zI (i66 2)), .ref (q 1), .ref (q 2), .int (zI (i66 3)), .int (zI (i66 4)), .int (zI (i66 5)), .int (zI (i66 6)), .long (zL (i66 7)), .int (zI (i66 8))])), ((q 0), .inl (cB, 900, .inl (fun k => zI ((g 0) k)))), ((q 1), .inl (cJ, 19, .inr (.inl (fun k => zL ((g 1) k))))), ((q 2), .inl (cJ, 10, .inr (.inl (fun k => zL ((g 2) k)))))] := by subst e_i66; exact hD
            refine W.widen (k := 0) (n := 0) (Nat.le_of_ble_eq_true rfl) (Nat.le_of_ble_eq_true rfl) ?_
            refine (?_ : ∀ (n9_2 : Nat) (v1 : Int) (jj : Nat → Int) (H : Heap) (locs : List Loc), (0 ≤ v1 ∧ v1 ≤ 19 ∧ jj 0 = i 0 ∧ jj 1 = i 1 ∧ jj 2 = i 2 ∧ jj 3 = n ∧ jj 5 = p9 ∧ jj 6 = ii 6 ∧ jj 7 = ii 7) → (19 - v1 : Int).toNat < n9_2 → (ReaderOk jj) → (jj 6 - p9 ≤ 8 → KdS (jj 7) v1 (jj 4)) → (8 < jj 6 - p9 → jj 4 = 23) → va_P G vwCl [(b, .inr (3, [.ref (q 0), .int (zI (jj 0)), .ref (q 3), .ref (q 4), .int (zI (jj 1)), .int (zI (jj 2)), .ref (q 1), .ref (q 2), .int (zI (jj 3)), .int (zI (jj 4)), .int (zI (jj 5)), .int (zI (jj 6)), .long (zL (jj 7)), .int (zI (jj 8))])), ((q 0), .inl (cB, 900, .inl (fun k => zI ((g 0) k)))), ((q 1), .inl (cJ, 19, .inr (.inl (fun k => zL ((g 1) k))))), ((q 2), .inl (cJ, 10, .inr (.inl (fun k => zL ((g 2) k)))))] H → va_D A [(b, .inr (3, [.ref (q 0), .int (zI (jj 0)), .ref (q 3), .ref (q 4), .int (zI (jj 1)), .int (zI (jj 2)), .ref (q 1), .ref (q 2), .int (zI (jj 3)), .int (zI (jj 4)), .int (zI (jj 5)), .int (zI (jj 6)), .long (zL (jj 7)), .int (zI (jj 8))])), ((q 0), .inl (cB, 900, .inl (fun k => zI ((g 0) k)))), ((q 1), .inl (cJ, 19, .inr (.inl (fun k => zL ((g 1) k))))), ((q 2), .inl (cJ, 10, .inr (.inl (fun k => zL ((g 2) k)))))] → va_S A s.heap H locs → ∀ ls : Array Slot, lv_has ls 2 [(1, .int (zI v1)), (0, .ref b)] → W p l e rm_X3x_lookAtWord s m ([.ref b] : List Value).toArray below meth c H locs 0 0 Q (F0 m 110 ls [])) ((19 - 0 : Int).toNat + 1) 0 i66 _ _ (by omega) (by omega) hO67 (fun q9 => Or.inl ⟨by omega, fun j hj => absurd hj (by omega)⟩) (fun q9 => by omega) hP hD hS ls hl
            clear hP hD hS hl ls
            intro n9_2
            induction n9_2 with
            | zero =>
              intro v1 jj H locs hI hM
              exact absurd hM (by omega)
            | succ n9_2 ih2 =>
              intro v1 jj H locs hI2 hM2 hG2 hk1 hk2 hP hD hS ls hl
              have hf69 := hG2
              refine lv_iload_n hx hb dX3_lookAtWord_110 rfl (lv_at hl 0 rfl) ?_
              refine lv_bipush (v := zI 19) hx hb dX3_lookAtWord_111 (by decide) ?_
              refine rz_icmp_ge (tgt := 157) F (by omega) (by omega) dX3_lookAtWord_113 (by decide) (fun h113_69 => ?_) (fun h113_69 => ?_)
              · exact ret (jj, fun _ _ => 0) _ _ _ _ _ _ ⟨hG2, (show (jj 5 = p9 ∧ Stop sSm f n p9 (jj 6)) ∧ ((jj 6 - p9 ≤ 8 → jj 7 = enc f p9 (jj 6) ∧ Kd (jj 7) (jj 4)) ∧ (8 < jj 6 - p9 → jj 4 = 23)) ∧ jj 0 = i 0 ∧ jj 1 = i 1 ∧ jj 2 = i 2 ∧ jj 3 = i 3 from ⟨⟨by omega, (show jj 6 = ii 6 by omega) ▸ hst⟩, ⟨fun q9 => ⟨by rw [show jj 7 = ii 7 by omega, show jj 6 = ii 6 by omega]; exact hv, Kd.done (hk1 (by omega)) (by omega) (by omega)⟩, fun q9 => hk2 (by omega)⟩, by omega⟩)⟩ (bw_subP (isC := [0, 1, 2, 3]) hP rfl) (hD.sub [0, 1, 2, 3] (by decide) rfl) hS (Nat.le_of_ble_eq_true rfl) (Nat.le_of_ble_eq_true rfl) dX3_lookAtWord_157
              · refine lv_aload_n hx hb dX3_lookAtWord_116 rfl (lv_at hl 1 rfl) ?_
                refine r_get F hK hP 0 9 rfl rfl in_X3 (by decide) k_275 rfl dX3_lookAtWord_117 ?_
                refine lv_bipush (v := zI 19) hx hb dX3_lookAtWord_120 (by decide) ?_
                refine rz_icmp_ne (tgt := 157) F (by omega) (by omega) dX3_lookAtWord_122 (by decide) (fun h122_70 => ?_) (fun h122_70 => ?_)
                · exact ret (jj, fun _ _ => 0) _ _ _ _ _ _ ⟨hG2, (show (jj 5 = p9 ∧ Stop sSm f n p9 (jj 6)) ∧ ((jj 6 - p9 ≤ 8 → jj 7 = enc f p9 (jj 6) ∧ Kd (jj 7) (jj 4)) ∧ (8 < jj 6 - p9 → jj 4 = 23)) ∧ jj 0 = i 0 ∧ jj 1 = i 1 ∧ jj 2 = i 2 ∧ jj 3 = i 3 from ⟨⟨by omega, (show jj 6 = ii 6 by omega) ▸ hst⟩, ⟨fun q9 => ⟨by rw [show jj 7 = ii 7 by omega, show jj 6 = ii 6 by omega]; exact hv, Kd.done (hk1 (by omega)) (by omega) (by omega)⟩, fun q9 => hk2 (by omega)⟩, by omega⟩)⟩ (bw_subP (isC := [0, 1, 2, 3]) hP rfl) (hD.sub [0, 1, 2, 3] (by decide) rfl) hS (Nat.le_of_ble_eq_true rfl) (Nat.le_of_ble_eq_true rfl) dX3_lookAtWord_157
                · refine lv_aload_n hx hb dX3_lookAtWord_125 rfl (lv_at hl 1 rfl) ?_
                  refine lv_aload_n hx hb dX3_lookAtWord_126 rfl (lv_at hl 1 rfl) ?_
                  refine r_get F hK hP 0 6 rfl rfl in_X3 (by decide) k_272 rfl dX3_lookAtWord_127 ?_
                  refine lv_iload_n hx hb dX3_lookAtWord_130 rfl (lv_at hl 0 rfl) ?_
                  refine rz_lald F hK hP 2 2 rfl rfl (by omega) (by omega) dX3_lookAtWord_131 ?_
                  refine lv_aload_n hx hb dX3_lookAtWord_132 rfl (lv_at hl 1 rfl) ?_
                  refine r_get F hK hP 0 12 rfl rfl in_X3 (by decide) k_278 rfl dX3_lookAtWord_133 ?_
                  refine rz_lcmpE F dX3_lookAtWord_136 (fun z73 h_z73 hc_z73 => ?_)
                  have hw8 : jj 6 - p9 ≤ 8 := by omega
                  have hbd := enc_bd (n := n) hp0 (show p9 ≤ ii 6 by omega) hrun (by omega)
                  have hrb := rsv_bd (v1).toNat (by omega)
                  have hcw : z73 = 0 ↔ rsv (v1).toNat = jj 7 := ⟨fun q9 => zL_inj (by omega) (by omega) (by rw [← hRs (v1).toNat (by omega)]; exact hc_z73.mp q9), fun q9 => hc_z73.mpr (by rw [hRs (v1).toNat (by omega), q9])⟩
                  refine rz_if_ne (tgt := 144) F (by omega) dX3_lookAtWord_137 (by decide) (fun h137_73 => ?_) (fun h137_73 => ?_)
                  · refine lv_aload_n hx hb dX3_lookAtWord_144 rfl (lv_at hl 1 rfl) ?_
                    refine r_get F hK hP 0 9 rfl rfl in_X3 (by decide) k_275 rfl dX3_lookAtWord_145 ?_
                    refine r_put F hK hP hD hS 0 9 rfl rfl in_X3 tyX3 tyX3_ok nmX3 (by decide) k_275 rfl rfl rfl (Nat.le_of_ble_eq_true rfl) dX3_lookAtWord_148 (w1 := [(b, .inr (3, [.ref (q 0), .int (zI (jj 0)), .ref (q 3), .ref (q 4), .int (zI (jj 1)), .int (zI (jj 2)), .ref (q 1), .ref (q 2), .int (zI (jj 3)), .int (zI (jj 4)), .int (zI (jj 5)), .int (zI (jj 6)), .long (zL (jj 7)), .int (zI (jj 8))])), ((q 0), .inl (cB, 900, .inl (fun k => zI ((g 0) k)))), ((q 1), .inl (cJ, 19, .inr (.inl (fun k => zL ((g 1) k))))), ((q 2), .inl (cJ, 10, .inr (.inl (fun k => zL ((g 2) k)))))]) rfl (fun H locs hP hD hS => ?_)
                    refine lv_iinc (v := zI (v1 + 1)) (lv' := [(1, .int (zI (v1 + 1))), (0, .ref b)]) hx hb dX3_lookAtWord_151 hl (k := 0) rfl (zI_add _ _) (by decide) rfl (fun ls hl => ?_)
                    refine lv_goto (tgt := 110) hx hb dX3_lookAtWord_154 (by decide) ?_
                    exact ih2 (v1 + 1) jj _ _ (by omega) (by omega) hG2 (fun q9 => by rw [show jj 7 = jj 7 by omega, show jj 4 = jj 4 by omega]; exact KdS.no (hk1 (by omega)) (by omega) (by omega) (fun q8 => absurd (hcw.mpr q8) (by omega))) (fun q9 => absurd (hk2 (by omega)) (by omega)) hP hD hS ls (lv_sub hl [0, 1] rfl)
                  · refine lv_iload_n hx hb dX3_lookAtWord_140 rfl (lv_at hl 0 rfl) ?_
                    refine lv_goto (tgt := 148) hx hb dX3_lookAtWord_141 (by decide) ?_
                    refine r_put F hK hP hD hS 0 9 rfl rfl in_X3 tyX3 tyX3_ok nmX3 (by decide) k_275 rfl rfl rfl (Nat.le_of_ble_eq_true rfl) dX3_lookAtWord_148 (w1 := [(b, .inr (3, [.ref (q 0), .int (zI (jj 0)), .ref (q 3), .ref (q 4), .int (zI (jj 1)), .int (zI (jj 2)), .ref (q 1), .ref (q 2), .int (zI (jj 3)), .int (zI v1), .int (zI (jj 5)), .int (zI (jj 6)), .long (zL (jj 7)), .int (zI (jj 8))])), ((q 0), .inl (cB, 900, .inl (fun k => zI ((g 0) k)))), ((q 1), .inl (cJ, 19, .inr (.inl (fun k => zL ((g 1) k))))), ((q 2), .inl (cJ, 10, .inr (.inl (fun k => zL ((g 2) k)))))]) rfl (fun H locs hP hD hS => ?_)
                    refine lv_iinc (v := zI (v1 + 1)) (lv' := [(1, .int (zI (v1 + 1))), (0, .ref b)]) hx hb dX3_lookAtWord_151 hl (k := 0) rfl (zI_add _ _) (by decide) rfl (fun ls hl => ?_)
                    refine lv_goto (tgt := 110) hx hb dX3_lookAtWord_154 (by decide) ?_
                    obtain ⟨i75, e_i75⟩ : ∃ i75 : Nat → Int, i75 = fun k => [(jj 0), (jj 1), (jj 2), (jj 3), v1, (jj 5), (jj 6), (jj 7), (jj 8)].getD k 0 := ⟨_, rfl⟩
                    have e_i75_0 : i75 0 = (jj 0) := congrFun e_i75 0
                    have e_i75_1 : i75 1 = (jj 1) := congrFun e_i75 1
                    have e_i75_2 : i75 2 = (jj 2) := congrFun e_i75 2
                    have e_i75_3 : i75 3 = (jj 3) := congrFun e_i75 3
                    have e_i75_4 : i75 4 = v1 := congrFun e_i75 4
                    have e_i75_5 : i75 5 = (jj 5) := congrFun e_i75 5
                    have e_i75_6 : i75 6 = (jj 6) := congrFun e_i75 6
                    have e_i75_7 : i75 7 = (jj 7) := congrFun e_i75 7
                    have e_i75_8 : i75 8 = (jj 8) := congrFun e_i75 8
                    have hO76 : ReaderOk i75 := by refine ⟨?_, ?_, ?_, ?_, ?_, ?_⟩ <;> omega
                    have hf77 := hO76
                    have hP : va_P G vwCl [(b, .inr (3, [.ref (q 0), .int (zI (i75 0)), .ref (q 3), .ref (q 4), .int (zI (i75 1)), .int (zI (i75 2)), .ref (q 1), .ref (q 2), .int (zI (i75 3)), .int (zI (i75 4)), .int (zI (i75 5)), .int (zI (i75 6)), .long (zL (i75 7)), .int (zI (i75 8))])), ((q 0), .inl (cB, 900, .inl (fun k => zI ((g 0) k)))), ((q 1), .inl (cJ, 19, .inr (.inl (fun k => zL ((g 1) k))))), ((q 2), .inl (cJ, 10, .inr (.inl (fun k => zL ((g 2) k)))))] H := by subst e_i75; exact hP
                    have hD : va_D A [(b, .inr (3, [.ref (q 0), .int (zI (i75 0)), .ref (q 3), .ref (q 4), .int (zI (i75 1)), .int (zI (i75 2)), .ref (q 1), .ref (q 2), .int (zI (i75 3)), .int (zI (i75 4)), .int (zI (i75 5)), .int (zI (i75 6)), .long (zL (i75 7)), .int (zI (i75 8))])), ((q 0), .inl (cB, 900, .inl (fun k => zI ((g 0) k)))), ((q 1), .inl (cJ, 19, .inr (.inl (fun k => zL ((g 1) k))))), ((q 2), .inl (cJ, 10, .inr (.inl (fun k => zL ((g 2) k)))))] := by subst e_i75; exact hD
                    exact ih2 (v1 + 1) i75 _ _ (by omega) (by omega) hO76 (fun q9 => KdS.yes (by omega) (by omega) ((hcw.mp (by omega)).trans (show jj 7 = i75 7 by omega))) (fun q9 => absurd (hk2 (by omega)) (by omega)) hP hD hS ls (lv_sub hl [0, 1] rfl)
          · refine lv_bipush (v := zI 19) hx hb dX3_lookAtWord_98 (by decide) ?_
            refine lv_goto (tgt := 105) hx hb dX3_lookAtWord_100 (by decide) ?_
            refine r_put F hK hP hD hS 0 9 rfl rfl in_X3 tyX3 tyX3_ok nmX3 (by decide) k_275 rfl rfl rfl (Nat.le_of_ble_eq_true rfl) dX3_lookAtWord_105 (w1 := [(b, .inr (3, [.ref (q 0), .int (zI (ii 0)), .ref (q 3), .ref (q 4), .int (zI (ii 1)), .int (zI (ii 2)), .ref (q 1), .ref (q 2), .int (zI (ii 3)), .int (zI 19), .int (zI (ii 5)), .int (zI (ii 6)), .long (zL (ii 7)), .int (zI (ii 8))])), ((q 0), .inl (cB, 900, .inl (fun k => zI ((g 0) k)))), ((q 1), .inl (cJ, 19, .inr (.inl (fun k => zL ((g 1) k))))), ((q 2), .inl (cJ, 10, .inr (.inl (fun k => zL ((g 2) k)))))]) rfl (fun H locs hP hD hS => ?_)
            refine lv_iconst (v := zI 0) hx hb dX3_lookAtWord_108 rfl ?_
            refine lv_istore_n (lv' := [(1, .int (zI 0)), (0, .ref b)]) hx hb dX3_lookAtWord_109 rfl hl (by decide) rfl (fun ls hl => ?_)
            obtain ⟨i78, e_i78⟩ : ∃ i78 : Nat → Int, i78 = fun k => [(ii 0), (ii 1), (ii 2), (ii 3), 19, (ii 5), (ii 6), (ii 7), (ii 8)].getD k 0 := ⟨_, rfl⟩
            have e_i78_0 : i78 0 = (ii 0) := congrFun e_i78 0
            have e_i78_1 : i78 1 = (ii 1) := congrFun e_i78 1
            have e_i78_2 : i78 2 = (ii 2) := congrFun e_i78 2
            have e_i78_3 : i78 3 = (ii 3) := congrFun e_i78 3
            have e_i78_4 : i78 4 = 19 := congrFun e_i78 4
            have e_i78_5 : i78 5 = (ii 5) := congrFun e_i78 5
            have e_i78_6 : i78 6 = (ii 6) := congrFun e_i78 6
            have e_i78_7 : i78 7 = (ii 7) := congrFun e_i78 7
            have e_i78_8 : i78 8 = (ii 8) := congrFun e_i78 8
            have hO79 : ReaderOk i78 := by refine ⟨?_, ?_, ?_, ?_, ?_, ?_⟩ <;> omega
            have hf80 := hO79
            have hP : va_P G vwCl [(b, .inr (3, [.ref (q 0), .int (zI (i78 0)), .ref (q 3), .ref (q 4), .int (zI (i78 1)), .int (zI (i78 2)), .ref (q 1), .ref (q 2), .int (zI (i78 3)), .int (zI (i78 4)), .int (zI (i78 5)), .int (zI (i78 6)), .long (zL (i78 7)), .int (zI (i78 8))])), ((q 0), .inl (cB, 900, .inl (fun k => zI ((g 0) k)))), ((q 1), .inl (cJ, 19, .inr (.inl (fun k => zL ((g 1) k))))), ((q 2), .inl (cJ, 10, .inr (.inl (fun k => zL ((g 2) k)))))] H := by subst e_i78; exact hP
            have hD : va_D A [(b, .inr (3, [.ref (q 0), .int (zI (i78 0)), .ref (q 3), .ref (q 4), .int (zI (i78 1)), .int (zI (i78 2)), .ref (q 1), .ref (q 2), .int (zI (i78 3)), .int (zI (i78 4)), .int (zI (i78 5)), .int (zI (i78 6)), .long (zL (i78 7)), .int (zI (i78 8))])), ((q 0), .inl (cB, 900, .inl (fun k => zI ((g 0) k)))), ((q 1), .inl (cJ, 19, .inr (.inl (fun k => zL ((g 1) k))))), ((q 2), .inl (cJ, 10, .inr (.inl (fun k => zL ((g 2) k)))))] := by subst e_i78; exact hD
            refine W.widen (k := 0) (n := 0) (Nat.le_of_ble_eq_true rfl) (Nat.le_of_ble_eq_true rfl) ?_
            refine (?_ : ∀ (n9_2 : Nat) (v1 : Int) (jj : Nat → Int) (H : Heap) (locs : List Loc), (0 ≤ v1 ∧ v1 ≤ 19 ∧ jj 0 = i 0 ∧ jj 1 = i 1 ∧ jj 2 = i 2 ∧ jj 3 = n ∧ jj 5 = p9 ∧ jj 6 = ii 6 ∧ jj 7 = ii 7) → (19 - v1 : Int).toNat < n9_2 → (ReaderOk jj) → (jj 6 - p9 ≤ 8 → KdS (jj 7) v1 (jj 4)) → (8 < jj 6 - p9 → jj 4 = 23) → va_P G vwCl [(b, .inr (3, [.ref (q 0), .int (zI (jj 0)), .ref (q 3), .ref (q 4), .int (zI (jj 1)), .int (zI (jj 2)), .ref (q 1), .ref (q 2), .int (zI (jj 3)), .int (zI (jj 4)), .int (zI (jj 5)), .int (zI (jj 6)), .long (zL (jj 7)), .int (zI (jj 8))])), ((q 0), .inl (cB, 900, .inl (fun k => zI ((g 0) k)))), ((q 1), .inl (cJ, 19, .inr (.inl (fun k => zL ((g 1) k))))), ((q 2), .inl (cJ, 10, .inr (.inl (fun k => zL ((g 2) k)))))] H → va_D A [(b, .inr (3, [.ref (q 0), .int (zI (jj 0)), .ref (q 3), .ref (q 4), .int (zI (jj 1)), .int (zI (jj 2)), .ref (q 1), .ref (q 2), .int (zI (jj 3)), .int (zI (jj 4)), .int (zI (jj 5)), .int (zI (jj 6)), .long (zL (jj 7)), .int (zI (jj 8))])), ((q 0), .inl (cB, 900, .inl (fun k => zI ((g 0) k)))), ((q 1), .inl (cJ, 19, .inr (.inl (fun k => zL ((g 1) k))))), ((q 2), .inl (cJ, 10, .inr (.inl (fun k => zL ((g 2) k)))))] → va_S A s.heap H locs → ∀ ls : Array Slot, lv_has ls 2 [(1, .int (zI v1)), (0, .ref b)] → W p l e rm_X3x_lookAtWord s m ([.ref b] : List Value).toArray below meth c H locs 0 0 Q (F0 m 110 ls [])) ((19 - 0 : Int).toNat + 1) 0 i78 _ _ (by omega) (by omega) hO79 (fun q9 => Or.inl ⟨by omega, fun j hj => absurd hj (by omega)⟩) (fun q9 => by omega) hP hD hS ls hl
            clear hP hD hS hl ls
            intro n9_2
            induction n9_2 with
            | zero =>
              intro v1 jj H locs hI hM
              exact absurd hM (by omega)
            | succ n9_2 ih2 =>
              intro v1 jj H locs hI2 hM2 hG2 hk1 hk2 hP hD hS ls hl
              have hf81 := hG2
              refine lv_iload_n hx hb dX3_lookAtWord_110 rfl (lv_at hl 0 rfl) ?_
              refine lv_bipush (v := zI 19) hx hb dX3_lookAtWord_111 (by decide) ?_
              refine rz_icmp_ge (tgt := 157) F (by omega) (by omega) dX3_lookAtWord_113 (by decide) (fun h113_81 => ?_) (fun h113_81 => ?_)
              · exact ret (jj, fun _ _ => 0) _ _ _ _ _ _ ⟨hG2, (show (jj 5 = p9 ∧ Stop sSm f n p9 (jj 6)) ∧ ((jj 6 - p9 ≤ 8 → jj 7 = enc f p9 (jj 6) ∧ Kd (jj 7) (jj 4)) ∧ (8 < jj 6 - p9 → jj 4 = 23)) ∧ jj 0 = i 0 ∧ jj 1 = i 1 ∧ jj 2 = i 2 ∧ jj 3 = i 3 from ⟨⟨by omega, (show jj 6 = ii 6 by omega) ▸ hst⟩, ⟨fun q9 => ⟨by rw [show jj 7 = ii 7 by omega, show jj 6 = ii 6 by omega]; exact hv, Kd.done (hk1 (by omega)) (by omega) (by omega)⟩, fun q9 => hk2 (by omega)⟩, by omega⟩)⟩ (bw_subP (isC := [0, 1, 2, 3]) hP rfl) (hD.sub [0, 1, 2, 3] (by decide) rfl) hS (Nat.le_of_ble_eq_true rfl) (Nat.le_of_ble_eq_true rfl) dX3_lookAtWord_157
              · refine lv_aload_n hx hb dX3_lookAtWord_116 rfl (lv_at hl 1 rfl) ?_
                refine r_get F hK hP 0 9 rfl rfl in_X3 (by decide) k_275 rfl dX3_lookAtWord_117 ?_
                refine lv_bipush (v := zI 19) hx hb dX3_lookAtWord_120 (by decide) ?_
                refine rz_icmp_ne (tgt := 157) F (by omega) (by omega) dX3_lookAtWord_122 (by decide) (fun h122_82 => ?_) (fun h122_82 => ?_)
                · exact ret (jj, fun _ _ => 0) _ _ _ _ _ _ ⟨hG2, (show (jj 5 = p9 ∧ Stop sSm f n p9 (jj 6)) ∧ ((jj 6 - p9 ≤ 8 → jj 7 = enc f p9 (jj 6) ∧ Kd (jj 7) (jj 4)) ∧ (8 < jj 6 - p9 → jj 4 = 23)) ∧ jj 0 = i 0 ∧ jj 1 = i 1 ∧ jj 2 = i 2 ∧ jj 3 = i 3 from ⟨⟨by omega, (show jj 6 = ii 6 by omega) ▸ hst⟩, ⟨fun q9 => ⟨by rw [show jj 7 = ii 7 by omega, show jj 6 = ii 6 by omega]; exact hv, Kd.done (hk1 (by omega)) (by omega) (by omega)⟩, fun q9 => hk2 (by omega)⟩, by omega⟩)⟩ (bw_subP (isC := [0, 1, 2, 3]) hP rfl) (hD.sub [0, 1, 2, 3] (by decide) rfl) hS (Nat.le_of_ble_eq_true rfl) (Nat.le_of_ble_eq_true rfl) dX3_lookAtWord_157
                · refine lv_aload_n hx hb dX3_lookAtWord_125 rfl (lv_at hl 1 rfl) ?_
                  refine lv_aload_n hx hb dX3_lookAtWord_126 rfl (lv_at hl 1 rfl) ?_
                  refine r_get F hK hP 0 6 rfl rfl in_X3 (by decide) k_272 rfl dX3_lookAtWord_127 ?_
                  refine lv_iload_n hx hb dX3_lookAtWord_130 rfl (lv_at hl 0 rfl) ?_
                  refine rz_lald F hK hP 2 2 rfl rfl (by omega) (by omega) dX3_lookAtWord_131 ?_
                  refine lv_aload_n hx hb dX3_lookAtWord_132 rfl (lv_at hl 1 rfl) ?_
                  refine r_get F hK hP 0 12 rfl rfl in_X3 (by decide) k_278 rfl dX3_lookAtWord_133 ?_
                  refine rz_lcmpE F dX3_lookAtWord_136 (fun z85 h_z85 hc_z85 => ?_)
                  have hw8 : jj 6 - p9 ≤ 8 := by omega
                  have hbd := enc_bd (n := n) hp0 (show p9 ≤ ii 6 by omega) hrun (by omega)
                  have hrb := rsv_bd (v1).toNat (by omega)
                  have hcw : z85 = 0 ↔ rsv (v1).toNat = jj 7 := ⟨fun q9 => zL_inj (by omega) (by omega) (by rw [← hRs (v1).toNat (by omega)]; exact hc_z85.mp q9), fun q9 => hc_z85.mpr (by rw [hRs (v1).toNat (by omega), q9])⟩
                  refine rz_if_ne (tgt := 144) F (by omega) dX3_lookAtWord_137 (by decide) (fun h137_85 => ?_) (fun h137_85 => ?_)
                  · refine lv_aload_n hx hb dX3_lookAtWord_144 rfl (lv_at hl 1 rfl) ?_
                    refine r_get F hK hP 0 9 rfl rfl in_X3 (by decide) k_275 rfl dX3_lookAtWord_145 ?_
                    refine r_put F hK hP hD hS 0 9 rfl rfl in_X3 tyX3 tyX3_ok nmX3 (by decide) k_275 rfl rfl rfl (Nat.le_of_ble_eq_true rfl) dX3_lookAtWord_148 (w1 := [(b, .inr (3, [.ref (q 0), .int (zI (jj 0)), .ref (q 3), .ref (q 4), .int (zI (jj 1)), .int (zI (jj 2)), .ref (q 1), .ref (q 2), .int (zI (jj 3)), .int (zI (jj 4)), .int (zI (jj 5)), .int (zI (jj 6)), .long (zL (jj 7)), .int (zI (jj 8))])), ((q 0), .inl (cB, 900, .inl (fun k => zI ((g 0) k)))), ((q 1), .inl (cJ, 19, .inr (.inl (fun k => zL ((g 1) k))))), ((q 2), .inl (cJ, 10, .inr (.inl (fun k => zL ((g 2) k)))))]) rfl (fun H locs hP hD hS => ?_)
                    refine lv_iinc (v := zI (v1 + 1)) (lv' := [(1, .int (zI (v1 + 1))), (0, .ref b)]) hx hb dX3_lookAtWord_151 hl (k := 0) rfl (zI_add _ _) (by decide) rfl (fun ls hl => ?_)
                    refine lv_goto (tgt := 110) hx hb dX3_lookAtWord_154 (by decide) ?_
                    exact ih2 (v1 + 1) jj _ _ (by omega) (by omega) hG2 (fun q9 => by rw [show jj 7 = jj 7 by omega, show jj 4 = jj 4 by omega]; exact KdS.no (hk1 (by omega)) (by omega) (by omega) (fun q8 => absurd (hcw.mpr q8) (by omega))) (fun q9 => absurd (hk2 (by omega)) (by omega)) hP hD hS ls (lv_sub hl [0, 1] rfl)
                  · refine lv_iload_n hx hb dX3_lookAtWord_140 rfl (lv_at hl 0 rfl) ?_
                    refine lv_goto (tgt := 148) hx hb dX3_lookAtWord_141 (by decide) ?_
                    refine r_put F hK hP hD hS 0 9 rfl rfl in_X3 tyX3 tyX3_ok nmX3 (by decide) k_275 rfl rfl rfl (Nat.le_of_ble_eq_true rfl) dX3_lookAtWord_148 (w1 := [(b, .inr (3, [.ref (q 0), .int (zI (jj 0)), .ref (q 3), .ref (q 4), .int (zI (jj 1)), .int (zI (jj 2)), .ref (q 1), .ref (q 2), .int (zI (jj 3)), .int (zI v1), .int (zI (jj 5)), .int (zI (jj 6)), .long (zL (jj 7)), .int (zI (jj 8))])), ((q 0), .inl (cB, 900, .inl (fun k => zI ((g 0) k)))), ((q 1), .inl (cJ, 19, .inr (.inl (fun k => zL ((g 1) k))))), ((q 2), .inl (cJ, 10, .inr (.inl (fun k => zL ((g 2) k)))))]) rfl (fun H locs hP hD hS => ?_)
                    refine lv_iinc (v := zI (v1 + 1)) (lv' := [(1, .int (zI (v1 + 1))), (0, .ref b)]) hx hb dX3_lookAtWord_151 hl (k := 0) rfl (zI_add _ _) (by decide) rfl (fun ls hl => ?_)
                    refine lv_goto (tgt := 110) hx hb dX3_lookAtWord_154 (by decide) ?_
                    obtain ⟨i87, e_i87⟩ : ∃ i87 : Nat → Int, i87 = fun k => [(jj 0), (jj 1), (jj 2), (jj 3), v1, (jj 5), (jj 6), (jj 7), (jj 8)].getD k 0 := ⟨_, rfl⟩
                    have e_i87_0 : i87 0 = (jj 0) := congrFun e_i87 0
                    have e_i87_1 : i87 1 = (jj 1) := congrFun e_i87 1
                    have e_i87_2 : i87 2 = (jj 2) := congrFun e_i87 2
                    have e_i87_3 : i87 3 = (jj 3) := congrFun e_i87 3
                    have e_i87_4 : i87 4 = v1 := congrFun e_i87 4
                    have e_i87_5 : i87 5 = (jj 5) := congrFun e_i87 5
                    have e_i87_6 : i87 6 = (jj 6) := congrFun e_i87 6
                    have e_i87_7 : i87 7 = (jj 7) := congrFun e_i87 7
                    have e_i87_8 : i87 8 = (jj 8) := congrFun e_i87 8
                    have hO88 : ReaderOk i87 := by refine ⟨?_, ?_, ?_, ?_, ?_, ?_⟩ <;> omega
                    have hf89 := hO88
                    have hP : va_P G vwCl [(b, .inr (3, [.ref (q 0), .int (zI (i87 0)), .ref (q 3), .ref (q 4), .int (zI (i87 1)), .int (zI (i87 2)), .ref (q 1), .ref (q 2), .int (zI (i87 3)), .int (zI (i87 4)), .int (zI (i87 5)), .int (zI (i87 6)), .long (zL (i87 7)), .int (zI (i87 8))])), ((q 0), .inl (cB, 900, .inl (fun k => zI ((g 0) k)))), ((q 1), .inl (cJ, 19, .inr (.inl (fun k => zL ((g 1) k))))), ((q 2), .inl (cJ, 10, .inr (.inl (fun k => zL ((g 2) k)))))] H := by subst e_i87; exact hP
                    have hD : va_D A [(b, .inr (3, [.ref (q 0), .int (zI (i87 0)), .ref (q 3), .ref (q 4), .int (zI (i87 1)), .int (zI (i87 2)), .ref (q 1), .ref (q 2), .int (zI (i87 3)), .int (zI (i87 4)), .int (zI (i87 5)), .int (zI (i87 6)), .long (zL (i87 7)), .int (zI (i87 8))])), ((q 0), .inl (cB, 900, .inl (fun k => zI ((g 0) k)))), ((q 1), .inl (cJ, 19, .inr (.inl (fun k => zL ((g 1) k))))), ((q 2), .inl (cJ, 10, .inr (.inl (fun k => zL ((g 2) k)))))] := by subst e_i87; exact hD
                    exact ih2 (v1 + 1) i87 _ _ (by omega) (by omega) hO88 (fun q9 => KdS.yes (by omega) (by omega) ((hcw.mp (by omega)).trans (show jj 7 = i87 7 by omega))) (fun q9 => absurd (hk2 (by omega)) (by omega)) hP hD hS ls (lv_sub hl [0, 1] rfl)
        · refine lv_aload_n hx hb dX3_lookAtWord_44 rfl (lv_at hl 0 rfl) ?_
          refine lv_aload_n hx hb dX3_lookAtWord_45 rfl (lv_at hl 0 rfl) ?_
          refine r_get F hK hP 0 12 rfl rfl in_X3 (by decide) k_278 rfl dX3_lookAtWord_46 ?_
          refine lv_ldc2 hx hb hown (F.2.2.2.2 _ k_260) dX3_lookAtWord_49 ?_
          refine lv_lmul hx hb dX3_lookAtWord_52 ?_
          refine rz_eqL (z := ((ii 7) * 32)) (zL_mul (ii 7) 32) ?_
          refine lv_aload_n hx hb dX3_lookAtWord_53 rfl (lv_at hl 0 rfl) ?_
          refine r_get F hK hP 0 0 rfl rfl in_X3 (by decide) k_261 rfl dX3_lookAtWord_54 ?_
          refine lv_aload_n hx hb dX3_lookAtWord_57 rfl (lv_at hl 0 rfl) ?_
          refine r_get F hK hP 0 11 rfl rfl in_X3 (by decide) k_277 rfl dX3_lookAtWord_58 ?_
          refine rz_baldE F hK hP 1 1 rfl rfl (by omega) (by omega) dX3_lookAtWord_61 ?_
          have hb91 := hTx ((ii 6)).toNat (by omega)
          have hlk92 : lk f n (ii 6) = f ((ii 6)).toNat := lk_lt (by omega)
          refine lv_bipush (v := zI 96) hx hb dX3_lookAtWord_62 (by decide) ?_
          refine r_isub (v := zI (((g 0) ((ii 6)).toNat) - 96)) F dX3_lookAtWord_64 (zI_sub _ _) ?_
          refine lv_i2l hx hb dX3_lookAtWord_65 rfl ?_
          refine rz_eqL (z := (((g 0) ((ii 6)).toNat) - 96)) (zI_toL (by omega)) ?_
          refine lv_ladd hx hb dX3_lookAtWord_66 ?_
          refine rz_eqL (z := (((ii 7) * 32) + (((g 0) ((ii 6)).toNat) - 96))) (zL_add ((ii 7) * 32) (((g 0) ((ii 6)).toNat) - 96)) ?_
          refine r_put F hK hP hD hS 0 12 rfl rfl in_X3 tyX3 tyX3_ok nmX3 (by decide) k_278 rfl rfl rfl (Nat.le_of_ble_eq_true rfl) dX3_lookAtWord_67 (w1 := [(b, .inr (3, [.ref (q 0), .int (zI (ii 0)), .ref (q 3), .ref (q 4), .int (zI (ii 1)), .int (zI (ii 2)), .ref (q 1), .ref (q 2), .int (zI (ii 3)), .int (zI (ii 4)), .int (zI (ii 5)), .int (zI (ii 6)), .long (zL (((ii 7) * 32) + (((g 0) ((ii 6)).toNat) - 96))), .int (zI (ii 8))])), ((q 0), .inl (cB, 900, .inl (fun k => zI ((g 0) k)))), ((q 1), .inl (cJ, 19, .inr (.inl (fun k => zL ((g 1) k))))), ((q 2), .inl (cJ, 10, .inr (.inl (fun k => zL ((g 2) k)))))]) rfl (fun H locs hP hD hS => ?_)
          have hS1 : sSm (lk f n (ii 6)) := by unfold sSm; rw [hlk92]; omega
          refine lv_aload_n hx hb dX3_lookAtWord_70 rfl (lv_at hl 0 rfl) ?_
          refine lv_dup hx hb dX3_lookAtWord_71 rfl ?_
          refine r_get F hK hP 0 11 rfl rfl in_X3 (by decide) k_277 rfl dX3_lookAtWord_72 ?_
          refine lv_iconst (v := zI 1) hx hb dX3_lookAtWord_75 rfl ?_
          refine r_iadd (v := zI ((ii 6) + 1)) F dX3_lookAtWord_76 (zI_add _ _) ?_
          refine r_put F hK hP hD hS 0 11 rfl rfl in_X3 tyX3 tyX3_ok nmX3 (by decide) k_277 rfl rfl rfl (Nat.le_of_ble_eq_true rfl) dX3_lookAtWord_77 (w1 := [(b, .inr (3, [.ref (q 0), .int (zI (ii 0)), .ref (q 3), .ref (q 4), .int (zI (ii 1)), .int (zI (ii 2)), .ref (q 1), .ref (q 2), .int (zI (ii 3)), .int (zI (ii 4)), .int (zI (ii 5)), .int (zI ((ii 6) + 1)), .long (zL (((ii 7) * 32) + (((g 0) ((ii 6)).toNat) - 96))), .int (zI (ii 8))])), ((q 0), .inl (cB, 900, .inl (fun k => zI ((g 0) k)))), ((q 1), .inl (cJ, 19, .inr (.inl (fun k => zL ((g 1) k))))), ((q 2), .inl (cJ, 10, .inr (.inl (fun k => zL ((g 2) k)))))]) rfl (fun H locs hP hD hS => ?_)
          refine lv_goto (tgt := 5) hx hb dX3_lookAtWord_80 (by decide) ?_
          obtain ⟨i93, e_i93⟩ : ∃ i93 : Nat → Int, i93 = fun k => [(ii 0), (ii 1), (ii 2), (ii 3), (ii 4), (ii 5), ((ii 6) + 1), (((ii 7) * 32) + (((g 0) ((ii 6)).toNat) - 96)), (ii 8)].getD k 0 := ⟨_, rfl⟩
          have e_i93_0 : i93 0 = (ii 0) := congrFun e_i93 0
          have e_i93_1 : i93 1 = (ii 1) := congrFun e_i93 1
          have e_i93_2 : i93 2 = (ii 2) := congrFun e_i93 2
          have e_i93_3 : i93 3 = (ii 3) := congrFun e_i93 3
          have e_i93_4 : i93 4 = (ii 4) := congrFun e_i93 4
          have e_i93_5 : i93 5 = (ii 5) := congrFun e_i93 5
          have e_i93_6 : i93 6 = ((ii 6) + 1) := congrFun e_i93 6
          have e_i93_7 : i93 7 = (((ii 7) * 32) + (((g 0) ((ii 6)).toNat) - 96)) := congrFun e_i93 7
          have e_i93_8 : i93 8 = (ii 8) := congrFun e_i93 8
          have hO94 : ReaderOk i93 := by refine ⟨?_, ?_, ?_, ?_, ?_, ?_⟩ <;> omega
          have hf95 := hO94
          have hP : va_P G vwCl [(b, .inr (3, [.ref (q 0), .int (zI (i93 0)), .ref (q 3), .ref (q 4), .int (zI (i93 1)), .int (zI (i93 2)), .ref (q 1), .ref (q 2), .int (zI (i93 3)), .int (zI (i93 4)), .int (zI (i93 5)), .int (zI (i93 6)), .long (zL (i93 7)), .int (zI (i93 8))])), ((q 0), .inl (cB, 900, .inl (fun k => zI ((g 0) k)))), ((q 1), .inl (cJ, 19, .inr (.inl (fun k => zL ((g 1) k))))), ((q 2), .inl (cJ, 10, .inr (.inl (fun k => zL ((g 2) k)))))] H := by subst e_i93; exact hP
          have hD : va_D A [(b, .inr (3, [.ref (q 0), .int (zI (i93 0)), .ref (q 3), .ref (q 4), .int (zI (i93 1)), .int (zI (i93 2)), .ref (q 1), .ref (q 2), .int (zI (i93 3)), .int (zI (i93 4)), .int (zI (i93 5)), .int (zI (i93 6)), .long (zL (i93 7)), .int (zI (i93 8))])), ((q 0), .inl (cB, 900, .inl (fun k => zI ((g 0) k)))), ((q 1), .inl (cJ, 19, .inr (.inl (fun k => zL ((g 1) k))))), ((q 2), .inl (cJ, 10, .inr (.inl (fun k => zL ((g 2) k)))))] := by subst e_i93; exact hD
          exact ih1 i93 _ _ (by omega) (by omega) hO94 (show ∀ j : Int, p9 ≤ j → j < i93 6 → sSm (lk f n j) from by rw [show i93 6 = ii 6 + 1 by omega]; exact run_step hrun hS1) (by rw [show i93 6 = ii 6 + 1 by omega, enc_step (by omega), ← hv]; omega) hP hD hS ls (lv_sub hl [0] rfl)
theorem Kd.le {w k : Int} (h : Kd w k) : 0 ≤ k ∧ k ≤ 19 := by
  rcases h with ⟨h1, -⟩ | ⟨h1, -⟩ <;> omega
/-- the token from b on, as the fields tell it -/
def TkA (f : Nat → Int) (n b pl en kd wd nu : Int) : Prop := (pl = tPl f n b ∧ en = tEn f n b ∧ kd = tKd f n b) ∧ (kd ≤ 19 → wd = tWd f n b ∧ 0 ≤ wd ∧ wd < 1099511627776) ∧ (kd = 20 → nu = tNu f n b)
theorem TkA.to {f : Nat → Int} {n b pl en kd wd nu pl' en' kd' wd' nu' : Int} (h : TkA f n b pl en kd wd nu) (e1 : pl' = pl) (e2 : en' = en) (e3 : kd' = kd) (e4 : wd' = wd) (e5 : nu' = nu) : TkA f n b pl' en' kd' wd' nu' := by
  subst e1 e2 e3 e4 e5; exact h
theorem TkA.over {f : Nat → Int} {n b p w v : Int} (h1 : Stop sSp f n b p) (h2 : lk f n p = -1) : TkA f n b p p 24 w v := by
  have h := tk_over h1 h2
  exact ⟨⟨h.1.symm, h.2.1.symm, h.2.2.symm⟩, fun q => absurd q (by decide), fun q => absurd q (by decide)⟩
theorem TkA.word {f : Nat → Int} {n b p k w d v : Int} (hp : 0 ≤ p) (h1 : Stop sSp f n b p) (h2 : sSm (lk f n p)) (h3 : Stop sSm f n p k) (h4 : k - p ≤ 8 → w = enc f p k ∧ Kd w d) (h5 : 8 < k - p → d = 23) : TkA f n b p k d w v := by
  have h := tk_word h1 h2 h3 h4 h5
  refine ⟨⟨h.1.symm, h.2.1.symm, h.2.2.1.symm⟩, fun q => ?_, fun q => ?_⟩
  · rcases (show k - p ≤ 8 ∨ 8 < k - p by omega) with z | z
    · have z3 := enc_bd (n := n) hp h3.1 h3.2.1 z
      rw [← (h4 z).1] at z3
      exact ⟨(h.2.2.2 z).symm, z3⟩
    · have z2 := h5 z; omega
  · rcases (show k - p ≤ 8 ∨ 8 < k - p by omega) with z | z
    · have z2 := (h4 z).2.le; omega
    · have z2 := h5 z; omega
theorem TkA.whole {f : Nat → Int} {n b p k w d v : Int} (h1 : Stop sSp f n b p) (h2 : sDg (lk f n p)) (h3 : Stop sDg f n p k) (h4 : k - p ≤ 3 → v = val f p k ∧ d = 20) (h5 : 3 < k - p → d = 23) : TkA f n b p k d w v := by
  have h := tk_whole h1 h2 h3 h4 h5
  refine ⟨⟨h.1.symm, h.2.1.symm, h.2.2.1.symm⟩, fun q => ?_, fun q => (h.2.2.2 ?_).symm⟩
  · rcases (show k - p ≤ 3 ∨ 3 < k - p by omega) with z | z
    · have z2 := (h4 z).2; omega
    · have z2 := h5 z; omega
  · rcases (show k - p ≤ 3 ∨ 3 < k - p by omega) with z | z
    · exact z
    · have z2 := h5 z; omega
theorem TkA.sign {f : Nat → Int} {n b p c d w v : Int} (h1 : Stop sSp f n b p) (hc : lk f n p = c) (h2 : c ≠ -1) (h3 : ¬ sSm c) (h4 : ¬ sDg c) (h5 : (c = 59 ∧ d = 21) ∨ (c = 44 ∧ d = 22) ∨ (c ≠ 59 ∧ c ≠ 44 ∧ d = 23)) : TkA f n b p (p + 1) d w v := by
  have h := tk_sign h1 hc h2 h3 h4 h5
  exact ⟨⟨h.1.symm, h.2.1.symm, h.2.2.symm⟩, fun q => by omega, fun q => by omega⟩
abbrev rm_X3x_advance : Room := { frames := 1, cells := 0, slots := 0, locals := 21 }
set_option maxRecDepth 100000 in
set_option maxHeartbeats 8000000 in
theorem c_X3x_advance {l : Launch} {E : (Nat → Prop) → State → Prop} (hO : bw_Ok E) {G : va_G} {cI cB cJ cN cW : ClassId} (b : Nat) (q : Nat → Nat) (i : Nat → Int) (g : Nat → Nat → Int) (hY : ReaderOk i) (f : Nat → Int) (n : Int) (hTx : TxR f (g 0)) (hRs : ∀ j, j < 19 → g 1 j = rsv j) (hn3 : i 3 = n) (c9 : Int) (hc6 : i 6 = c9) : bw_Cv (S := zU) l yX3_advance (bw_ws (Cond.code yX3_advance cX3_advance 2 none)) rm_X3x_advance E G (bw_kt cI cB cJ cN cW) [.ref b] [(b, .inr (3, [.ref (q 0), .int (zI (i 0)), .ref (q 3), .ref (q 4), .int (zI (i 1)), .int (zI (i 2)), .ref (q 1), .ref (q 2), .int (zI (i 3)), .int (zI (i 4)), .int (zI (i 5)), .int (zI (i 6)), .long (zL (i 7)), .int (zI (i 8))])), ((q 0), .inl (cB, 900, .inl (fun k => zI ((g 0) k)))), ((q 1), .inl (cJ, 19, .inr (.inl (fun k => zL ((g 1) k))))), ((q 2), .inl (cJ, 10, .inr (.inl (fun k => zL ((g 2) k)))))] (fun u => ReaderOk u.1 ∧ (TkA f n c9 (u.1 5) (u.1 6) (u.1 4) (u.1 7) (u.1 8) ∧ u.1 0 = i 0 ∧ u.1 1 = i 1 ∧ u.1 2 = i 2 ∧ u.1 3 = i 3)) (fun u => [(b, .inr (3, [.ref (q 0), .int (zI (u.1 0)), .ref (q 3), .ref (q 4), .int (zI (u.1 1)), .int (zI (u.1 2)), .ref (q 1), .ref (q 2), .int (zI (u.1 3)), .int (zI (u.1 4)), .int (zI (u.1 5)), .int (zI (u.1 6)), .long (zL (u.1 7)), .int (zI (u.1 8))])), ((q 0), .inl (cB, 900, .inl (fun k => zI ((g 0) k)))), ((q 1), .inl (cJ, 19, .inr (.inl (fun k => zL ((g 1) k))))), ((q 2), .inl (cJ, 10, .inr (.inl (fun k => zL ((g 2) k)))))]) := by
  refine bw_Cv.of (cc := cX3_advance) (maxL := 2) (by decide) rfl (Nat.le_of_ble_eq_true rfl) ?_
  intro p e s m below meth c A Q hx hb hml hts hown hin hK hA hS hP hD hE ret ls hl
  have F : CallFix p m c cX3_advance 2 s ([.ref b] : List Value).toArray bw_T RX3 := ⟨hx, hb, hml, hown, fun w h => hts w (List.mem_cons_of_mem _ h)⟩
  replace hl : lv_has ls 2 [(0, .ref b)] := hl
  refine lv_aload_n hx hb dX3_advance_0 rfl (lv_at hl 0 rfl) ?_
  refine lv_aload_n hx hb dX3_advance_1 rfl (lv_at hl 0 rfl) ?_
  refine r_get F hK hP 0 11 rfl rfl in_X3 (by decide) k_277 rfl dX3_advance_2 ?_
  refine r_put F hK hP hD hS 0 10 rfl rfl in_X3 tyX3 tyX3_ok nmX3 (by decide) k_276 rfl rfl rfl (Nat.le_of_ble_eq_true rfl) dX3_advance_5 (w1 := [(b, .inr (3, [.ref (q 0), .int (zI (i 0)), .ref (q 3), .ref (q 4), .int (zI (i 1)), .int (zI (i 2)), .ref (q 1), .ref (q 2), .int (zI (i 3)), .int (zI (i 4)), .int (zI (i 6)), .int (zI (i 6)), .long (zL (i 7)), .int (zI (i 8))])), ((q 0), .inl (cB, 900, .inl (fun k => zI ((g 0) k)))), ((q 1), .inl (cJ, 19, .inr (.inl (fun k => zL ((g 1) k))))), ((q 2), .inl (cJ, 10, .inr (.inl (fun k => zL ((g 2) k)))))]) rfl (fun H locs hP hD hS => ?_)
  obtain ⟨i1, e_i1⟩ : ∃ i1 : Nat → Int, i1 = fun k => [(i 0), (i 1), (i 2), (i 3), (i 4), (i 6), (i 6), (i 7), (i 8)].getD k 0 := ⟨_, rfl⟩
  have e_i1_0 : i1 0 = (i 0) := congrFun e_i1 0
  have e_i1_1 : i1 1 = (i 1) := congrFun e_i1 1
  have e_i1_2 : i1 2 = (i 2) := congrFun e_i1 2
  have e_i1_3 : i1 3 = (i 3) := congrFun e_i1 3
  have e_i1_4 : i1 4 = (i 4) := congrFun e_i1 4
  have e_i1_5 : i1 5 = (i 6) := congrFun e_i1 5
  have e_i1_6 : i1 6 = (i 6) := congrFun e_i1 6
  have e_i1_7 : i1 7 = (i 7) := congrFun e_i1 7
  have e_i1_8 : i1 8 = (i 8) := congrFun e_i1 8
  have hO2 : ReaderOk i1 := by refine ⟨?_, ?_, ?_, ?_, ?_, ?_⟩ <;> omega
  have hf3 := hO2
  have hP : va_P G vwCl [(b, .inr (3, [.ref (q 0), .int (zI (i1 0)), .ref (q 3), .ref (q 4), .int (zI (i1 1)), .int (zI (i1 2)), .ref (q 1), .ref (q 2), .int (zI (i1 3)), .int (zI (i1 4)), .int (zI (i1 5)), .int (zI (i1 6)), .long (zL (i1 7)), .int (zI (i1 8))])), ((q 0), .inl (cB, 900, .inl (fun k => zI ((g 0) k)))), ((q 1), .inl (cJ, 19, .inr (.inl (fun k => zL ((g 1) k))))), ((q 2), .inl (cJ, 10, .inr (.inl (fun k => zL ((g 2) k)))))] H := by subst e_i1; exact hP
  have hD : va_D A [(b, .inr (3, [.ref (q 0), .int (zI (i1 0)), .ref (q 3), .ref (q 4), .int (zI (i1 1)), .int (zI (i1 2)), .ref (q 1), .ref (q 2), .int (zI (i1 3)), .int (zI (i1 4)), .int (zI (i1 5)), .int (zI (i1 6)), .long (zL (i1 7)), .int (zI (i1 8))])), ((q 0), .inl (cB, 900, .inl (fun k => zI ((g 0) k)))), ((q 1), .inl (cJ, 19, .inr (.inl (fun k => zL ((g 1) k))))), ((q 2), .inl (cJ, 10, .inr (.inl (fun k => zL ((g 2) k)))))] := by subst e_i1; exact hD
  refine W.widen (k := 0) (n := 0) (Nat.le_of_ble_eq_true rfl) (Nat.le_of_ble_eq_true rfl) ?_
  refine (?_ : ∀ (n9_1 : Nat) (ii : Nat → Int) (H : Heap) (locs : List Loc), (ii 0 = i 0 ∧ ii 1 = i 1 ∧ ii 2 = i 2 ∧ ii 3 = n ∧ c9 ≤ ii 5) → (901 - ii 5 : Int).toNat < n9_1 → (ReaderOk ii) → (∀ j : Int, c9 ≤ j → j < ii 5 → sSp (lk f n j)) → va_P G vwCl [(b, .inr (3, [.ref (q 0), .int (zI (ii 0)), .ref (q 3), .ref (q 4), .int (zI (ii 1)), .int (zI (ii 2)), .ref (q 1), .ref (q 2), .int (zI (ii 3)), .int (zI (ii 4)), .int (zI (ii 5)), .int (zI (ii 6)), .long (zL (ii 7)), .int (zI (ii 8))])), ((q 0), .inl (cB, 900, .inl (fun k => zI ((g 0) k)))), ((q 1), .inl (cJ, 19, .inr (.inl (fun k => zL ((g 1) k))))), ((q 2), .inl (cJ, 10, .inr (.inl (fun k => zL ((g 2) k)))))] H → va_D A [(b, .inr (3, [.ref (q 0), .int (zI (ii 0)), .ref (q 3), .ref (q 4), .int (zI (ii 1)), .int (zI (ii 2)), .ref (q 1), .ref (q 2), .int (zI (ii 3)), .int (zI (ii 4)), .int (zI (ii 5)), .int (zI (ii 6)), .long (zL (ii 7)), .int (zI (ii 8))])), ((q 0), .inl (cB, 900, .inl (fun k => zI ((g 0) k)))), ((q 1), .inl (cJ, 19, .inr (.inl (fun k => zL ((g 1) k))))), ((q 2), .inl (cJ, 10, .inr (.inl (fun k => zL ((g 2) k)))))] → va_S A s.heap H locs → ∀ ls : Array Slot, lv_has ls 2 [(0, .ref b)] → W p l e rm_X3x_advance s m ([.ref b] : List Value).toArray below meth c H locs 0 0 Q (F0 m 8 ls [])) ((901 - i1 5 : Int).toNat + 1) i1 _ _ (by omega) (by omega) hO2 (fun j h1 h2 => absurd h2 (by omega)) hP hD hS ls hl
  clear hP hD hS hl ls
  intro n9_1
  induction n9_1 with
  | zero =>
    intro ii H locs hI hM
    exact absurd hM (by omega)
  | succ n9_1 ih1 =>
    intro ii H locs hI1 hM1 hG hrun hP hD hS ls hl
    have hf4 := hG
    refine lv_aload_n hx hb dX3_advance_8 rfl (lv_at hl 0 rfl) ?_
    refine r_get F hK hP 0 10 rfl rfl in_X3 (by decide) k_276 rfl dX3_advance_9 ?_
    refine lv_aload_n hx hb dX3_advance_12 rfl (lv_at hl 0 rfl) ?_
    refine r_get F hK hP 0 8 rfl rfl in_X3 (by decide) k_274 rfl dX3_advance_13 ?_
    refine rz_icmp_ge (tgt := 46) F (by omega) (by omega) dX3_advance_16 (by decide) (fun h16_4 => ?_) (fun h16_4 => ?_)
    · refine lv_aload_n hx hb dX3_advance_46 rfl (lv_at hl 0 rfl) ?_
      have hlk6 : lk f n (ii 5) = -1 := lk_ge (by omega)
      have hst : Stop sSp f n c9 (ii 5) := ⟨by omega, hrun, by unfold sSp; rw [hlk6]; omega⟩
      refine lv_aload_n hx hb dX3_advance_47 rfl (lv_at hl 0 rfl) ?_
      refine r_get F hK hP 0 10 rfl rfl in_X3 (by decide) k_276 rfl dX3_advance_48 ?_
      refine r_put F hK hP hD hS 0 11 rfl rfl in_X3 tyX3 tyX3_ok nmX3 (by decide) k_277 rfl rfl rfl (Nat.le_of_ble_eq_true rfl) dX3_advance_51 (w1 := [(b, .inr (3, [.ref (q 0), .int (zI (ii 0)), .ref (q 3), .ref (q 4), .int (zI (ii 1)), .int (zI (ii 2)), .ref (q 1), .ref (q 2), .int (zI (ii 3)), .int (zI (ii 4)), .int (zI (ii 5)), .int (zI (ii 5)), .long (zL (ii 7)), .int (zI (ii 8))])), ((q 0), .inl (cB, 900, .inl (fun k => zI ((g 0) k)))), ((q 1), .inl (cJ, 19, .inr (.inl (fun k => zL ((g 1) k))))), ((q 2), .inl (cJ, 10, .inr (.inl (fun k => zL ((g 2) k)))))]) rfl (fun H locs hP hD hS => ?_)
      refine lv_aload_n hx hb dX3_advance_54 rfl (lv_at hl 0 rfl) ?_
      refine r_get F hK hP 0 10 rfl rfl in_X3 (by decide) k_276 rfl dX3_advance_55 ?_
      refine lv_aload_n hx hb dX3_advance_58 rfl (lv_at hl 0 rfl) ?_
      refine r_get F hK hP 0 8 rfl rfl in_X3 (by decide) k_274 rfl dX3_advance_59 ?_
      refine rz_icmp_lt (tgt := 72) F (by omega) (by omega) dX3_advance_62 (by decide) (fun h62_6 => by omega) (fun h62_6 => ?_)
      refine lv_aload_n hx hb dX3_advance_65 rfl (lv_at hl 0 rfl) ?_
      refine lv_bipush (v := zI 24) hx hb dX3_advance_66 (by decide) ?_
      refine r_put F hK hP hD hS 0 9 rfl rfl in_X3 tyX3 tyX3_ok nmX3 (by decide) k_275 rfl rfl rfl (Nat.le_of_ble_eq_true rfl) dX3_advance_68 (w1 := [(b, .inr (3, [.ref (q 0), .int (zI (ii 0)), .ref (q 3), .ref (q 4), .int (zI (ii 1)), .int (zI (ii 2)), .ref (q 1), .ref (q 2), .int (zI (ii 3)), .int (zI 24), .int (zI (ii 5)), .int (zI (ii 5)), .long (zL (ii 7)), .int (zI (ii 8))])), ((q 0), .inl (cB, 900, .inl (fun k => zI ((g 0) k)))), ((q 1), .inl (cJ, 19, .inr (.inl (fun k => zL ((g 1) k))))), ((q 2), .inl (cJ, 10, .inr (.inl (fun k => zL ((g 2) k)))))]) rfl (fun H locs hP hD hS => ?_)
      obtain ⟨i8, e_i8⟩ : ∃ i8 : Nat → Int, i8 = fun k => [(ii 0), (ii 1), (ii 2), (ii 3), 24, (ii 5), (ii 5), (ii 7), (ii 8)].getD k 0 := ⟨_, rfl⟩
      have e_i8_0 : i8 0 = (ii 0) := congrFun e_i8 0
      have e_i8_1 : i8 1 = (ii 1) := congrFun e_i8 1
      have e_i8_2 : i8 2 = (ii 2) := congrFun e_i8 2
      have e_i8_3 : i8 3 = (ii 3) := congrFun e_i8 3
      have e_i8_4 : i8 4 = 24 := congrFun e_i8 4
      have e_i8_5 : i8 5 = (ii 5) := congrFun e_i8 5
      have e_i8_6 : i8 6 = (ii 5) := congrFun e_i8 6
      have e_i8_7 : i8 7 = (ii 7) := congrFun e_i8 7
      have e_i8_8 : i8 8 = (ii 8) := congrFun e_i8 8
      have hO9 : ReaderOk i8 := by refine ⟨?_, ?_, ?_, ?_, ?_, ?_⟩ <;> omega
      have hf10 := hO9
      have hP : va_P G vwCl [(b, .inr (3, [.ref (q 0), .int (zI (i8 0)), .ref (q 3), .ref (q 4), .int (zI (i8 1)), .int (zI (i8 2)), .ref (q 1), .ref (q 2), .int (zI (i8 3)), .int (zI (i8 4)), .int (zI (i8 5)), .int (zI (i8 6)), .long (zL (i8 7)), .int (zI (i8 8))])), ((q 0), .inl (cB, 900, .inl (fun k => zI ((g 0) k)))), ((q 1), .inl (cJ, 19, .inr (.inl (fun k => zL ((g 1) k))))), ((q 2), .inl (cJ, 10, .inr (.inl (fun k => zL ((g 2) k)))))] H := by subst e_i8; exact hP
      have hD : va_D A [(b, .inr (3, [.ref (q 0), .int (zI (i8 0)), .ref (q 3), .ref (q 4), .int (zI (i8 1)), .int (zI (i8 2)), .ref (q 1), .ref (q 2), .int (zI (i8 3)), .int (zI (i8 4)), .int (zI (i8 5)), .int (zI (i8 6)), .long (zL (i8 7)), .int (zI (i8 8))])), ((q 0), .inl (cB, 900, .inl (fun k => zI ((g 0) k)))), ((q 1), .inl (cJ, 19, .inr (.inl (fun k => zL ((g 1) k))))), ((q 2), .inl (cJ, 10, .inr (.inl (fun k => zL ((g 2) k)))))] := by subst e_i8; exact hD
      exact ret (i8, fun _ _ => 0) _ _ _ _ _ _ ⟨hO9, ⟨(show TkA f n c9 (i8 5) (i8 6) (i8 4) (i8 7) (i8 8) from TkA.to (TkA.over (w := i8 7) (v := i8 8) hst (by omega)) (by omega) (by omega) (by omega) (by omega) (by omega)), (show i8 0 = i 0 ∧ i8 1 = i 1 ∧ i8 2 = i 2 ∧ i8 3 = i 3 from by omega)⟩⟩ (bw_subP (isC := [0, 1, 2, 3]) hP rfl) (hD.sub [0, 1, 2, 3] (by decide) rfl) hS (Nat.le_of_ble_eq_true rfl) (Nat.le_of_ble_eq_true rfl) dX3_advance_71
    · refine lv_aload_n hx hb dX3_advance_19 rfl (lv_at hl 0 rfl) ?_
      refine r_get F hK hP 0 0 rfl rfl in_X3 (by decide) k_261 rfl dX3_advance_20 ?_
      refine lv_aload_n hx hb dX3_advance_23 rfl (lv_at hl 0 rfl) ?_
      refine r_get F hK hP 0 10 rfl rfl in_X3 (by decide) k_276 rfl dX3_advance_24 ?_
      refine rz_baldE F hK hP 1 1 rfl rfl (by omega) (by omega) dX3_advance_27 ?_
      have hb12 := hTx ((ii 5)).toNat (by omega)
      have hlk13 : lk f n (ii 5) = f ((ii 5)).toNat := lk_lt (by omega)
      refine lv_bipush (v := zI 32) hx hb dX3_advance_28 (by decide) ?_
      refine rz_icmp_ne (tgt := 46) F (by omega) (by omega) dX3_advance_30 (by decide) (fun h30_13 => ?_) (fun h30_13 => ?_)
      · refine lv_aload_n hx hb dX3_advance_46 rfl (lv_at hl 0 rfl) ?_
        have hst : Stop sSp f n c9 (ii 5) := ⟨by omega, hrun, by unfold sSp; rw [hlk13]; omega⟩
        refine lv_aload_n hx hb dX3_advance_47 rfl (lv_at hl 0 rfl) ?_
        refine r_get F hK hP 0 10 rfl rfl in_X3 (by decide) k_276 rfl dX3_advance_48 ?_
        refine r_put F hK hP hD hS 0 11 rfl rfl in_X3 tyX3 tyX3_ok nmX3 (by decide) k_277 rfl rfl rfl (Nat.le_of_ble_eq_true rfl) dX3_advance_51 (w1 := [(b, .inr (3, [.ref (q 0), .int (zI (ii 0)), .ref (q 3), .ref (q 4), .int (zI (ii 1)), .int (zI (ii 2)), .ref (q 1), .ref (q 2), .int (zI (ii 3)), .int (zI (ii 4)), .int (zI (ii 5)), .int (zI (ii 5)), .long (zL (ii 7)), .int (zI (ii 8))])), ((q 0), .inl (cB, 900, .inl (fun k => zI ((g 0) k)))), ((q 1), .inl (cJ, 19, .inr (.inl (fun k => zL ((g 1) k))))), ((q 2), .inl (cJ, 10, .inr (.inl (fun k => zL ((g 2) k)))))]) rfl (fun H locs hP hD hS => ?_)
        refine lv_aload_n hx hb dX3_advance_54 rfl (lv_at hl 0 rfl) ?_
        refine r_get F hK hP 0 10 rfl rfl in_X3 (by decide) k_276 rfl dX3_advance_55 ?_
        refine lv_aload_n hx hb dX3_advance_58 rfl (lv_at hl 0 rfl) ?_
        refine r_get F hK hP 0 8 rfl rfl in_X3 (by decide) k_274 rfl dX3_advance_59 ?_
        refine rz_icmp_lt (tgt := 72) F (by omega) (by omega) dX3_advance_62 (by decide) (fun h62_14 => ?_) (fun h62_14 => by omega)
        refine lv_aload_n hx hb dX3_advance_72 rfl (lv_at hl 0 rfl) ?_
        refine r_get F hK hP 0 0 rfl rfl in_X3 (by decide) k_261 rfl dX3_advance_73 ?_
        refine lv_aload_n hx hb dX3_advance_76 rfl (lv_at hl 0 rfl) ?_
        refine r_get F hK hP 0 10 rfl rfl in_X3 (by decide) k_276 rfl dX3_advance_77 ?_
        refine rz_baldE F hK hP 1 1 rfl rfl (by omega) (by omega) dX3_advance_80 ?_
        have hb17 := hTx ((ii 5)).toNat (by omega)
        have hlk18 : lk f n (ii 5) = f ((ii 5)).toNat := lk_lt (by omega)
        refine lv_istore_n (lv' := [(1, .int (zI ((g 0) ((ii 5)).toNat))), (0, .ref b)]) hx hb dX3_advance_81 rfl hl (by decide) rfl (fun ls hl => ?_)
        refine lv_iload_n hx hb dX3_advance_82 rfl (lv_at hl 0 rfl) ?_
        refine lv_bipush (v := zI 97) hx hb dX3_advance_83 (by decide) ?_
        refine rz_icmp_lt (tgt := 101) F (by omega) (by omega) dX3_advance_85 (by decide) (fun h85_18 => ?_) (fun h85_18 => ?_)
        · refine lv_iload_n hx hb dX3_advance_101 rfl (lv_at hl 0 rfl) ?_
          refine lv_bipush (v := zI 48) hx hb dX3_advance_102 (by decide) ?_
          refine rz_icmp_lt (tgt := 120) F (by omega) (by omega) dX3_advance_104 (by decide) (fun h104_19 => ?_) (fun h104_19 => ?_)
          · refine lv_aload_n hx hb dX3_advance_120 rfl (lv_at hl 1 rfl) ?_
            refine lv_iload_n hx hb dX3_advance_121 rfl (lv_at hl 0 rfl) ?_
            refine lv_bipush (v := zI 59) hx hb dX3_advance_122 (by decide) ?_
            refine rz_icmp_ne (tgt := 132) F (by omega) (by omega) dX3_advance_124 (by decide) (fun h124_20 => ?_) (fun h124_20 => ?_)
            · refine lv_iload_n hx hb dX3_advance_132 rfl (lv_at hl 0 rfl) ?_
              refine lv_bipush (v := zI 44) hx hb dX3_advance_133 (by decide) ?_
              refine rz_icmp_ne (tgt := 143) F (by omega) (by omega) dX3_advance_135 (by decide) (fun h135_21 => ?_) (fun h135_21 => ?_)
              · refine lv_bipush (v := zI 23) hx hb dX3_advance_143 (by decide) ?_
                refine r_put F hK hP hD hS 0 9 rfl rfl in_X3 tyX3 tyX3_ok nmX3 (by decide) k_275 rfl rfl rfl (Nat.le_of_ble_eq_true rfl) dX3_advance_145 (w1 := [(b, .inr (3, [.ref (q 0), .int (zI (ii 0)), .ref (q 3), .ref (q 4), .int (zI (ii 1)), .int (zI (ii 2)), .ref (q 1), .ref (q 2), .int (zI (ii 3)), .int (zI 23), .int (zI (ii 5)), .int (zI (ii 5)), .long (zL (ii 7)), .int (zI (ii 8))])), ((q 0), .inl (cB, 900, .inl (fun k => zI ((g 0) k)))), ((q 1), .inl (cJ, 19, .inr (.inl (fun k => zL ((g 1) k))))), ((q 2), .inl (cJ, 10, .inr (.inl (fun k => zL ((g 2) k)))))]) rfl (fun H locs hP hD hS => ?_)
                refine lv_aload_n hx hb dX3_advance_148 rfl (lv_at hl 1 rfl) ?_
                refine lv_dup hx hb dX3_advance_149 rfl ?_
                refine r_get F hK hP 0 11 rfl rfl in_X3 (by decide) k_277 rfl dX3_advance_150 ?_
                refine lv_iconst (v := zI 1) hx hb dX3_advance_153 rfl ?_
                refine r_iadd (v := zI ((ii 5) + 1)) F dX3_advance_154 (zI_add _ _) ?_
                refine r_put F hK hP hD hS 0 11 rfl rfl in_X3 tyX3 tyX3_ok nmX3 (by decide) k_277 rfl rfl rfl (Nat.le_of_ble_eq_true rfl) dX3_advance_155 (w1 := [(b, .inr (3, [.ref (q 0), .int (zI (ii 0)), .ref (q 3), .ref (q 4), .int (zI (ii 1)), .int (zI (ii 2)), .ref (q 1), .ref (q 2), .int (zI (ii 3)), .int (zI 23), .int (zI (ii 5)), .int (zI ((ii 5) + 1)), .long (zL (ii 7)), .int (zI (ii 8))])), ((q 0), .inl (cB, 900, .inl (fun k => zI ((g 0) k)))), ((q 1), .inl (cJ, 19, .inr (.inl (fun k => zL ((g 1) k))))), ((q 2), .inl (cJ, 10, .inr (.inl (fun k => zL ((g 2) k)))))]) rfl (fun H locs hP hD hS => ?_)
                obtain ⟨i23, e_i23⟩ : ∃ i23 : Nat → Int, i23 = fun k => [(ii 0), (ii 1), (ii 2), (ii 3), 23, (ii 5), ((ii 5) + 1), (ii 7), (ii 8)].getD k 0 := ⟨_, rfl⟩
                have e_i23_0 : i23 0 = (ii 0) := congrFun e_i23 0
                have e_i23_1 : i23 1 = (ii 1) := congrFun e_i23 1
                have e_i23_2 : i23 2 = (ii 2) := congrFun e_i23 2
                have e_i23_3 : i23 3 = (ii 3) := congrFun e_i23 3
                have e_i23_4 : i23 4 = 23 := congrFun e_i23 4
                have e_i23_5 : i23 5 = (ii 5) := congrFun e_i23 5
                have e_i23_6 : i23 6 = ((ii 5) + 1) := congrFun e_i23 6
                have e_i23_7 : i23 7 = (ii 7) := congrFun e_i23 7
                have e_i23_8 : i23 8 = (ii 8) := congrFun e_i23 8
                have hO24 : ReaderOk i23 := by refine ⟨?_, ?_, ?_, ?_, ?_, ?_⟩ <;> omega
                have hf25 := hO24
                have hP : va_P G vwCl [(b, .inr (3, [.ref (q 0), .int (zI (i23 0)), .ref (q 3), .ref (q 4), .int (zI (i23 1)), .int (zI (i23 2)), .ref (q 1), .ref (q 2), .int (zI (i23 3)), .int (zI (i23 4)), .int (zI (i23 5)), .int (zI (i23 6)), .long (zL (i23 7)), .int (zI (i23 8))])), ((q 0), .inl (cB, 900, .inl (fun k => zI ((g 0) k)))), ((q 1), .inl (cJ, 19, .inr (.inl (fun k => zL ((g 1) k))))), ((q 2), .inl (cJ, 10, .inr (.inl (fun k => zL ((g 2) k)))))] H := by subst e_i23; exact hP
                have hD : va_D A [(b, .inr (3, [.ref (q 0), .int (zI (i23 0)), .ref (q 3), .ref (q 4), .int (zI (i23 1)), .int (zI (i23 2)), .ref (q 1), .ref (q 2), .int (zI (i23 3)), .int (zI (i23 4)), .int (zI (i23 5)), .int (zI (i23 6)), .long (zL (i23 7)), .int (zI (i23 8))])), ((q 0), .inl (cB, 900, .inl (fun k => zI ((g 0) k)))), ((q 1), .inl (cJ, 19, .inr (.inl (fun k => zL ((g 1) k))))), ((q 2), .inl (cJ, 10, .inr (.inl (fun k => zL ((g 2) k)))))] := by subst e_i23; exact hD
                exact ret (i23, fun _ _ => 0) _ _ _ _ _ _ ⟨hO24, ⟨(show TkA f n c9 (i23 5) (i23 6) (i23 4) (i23 7) (i23 8) from TkA.to (TkA.sign (d := i23 4) (w := i23 7) (v := i23 8) hst hlk18 (by omega) (by unfold sSm; omega) (by unfold sDg; omega) (by omega)) (by omega) (by omega) (by omega) (by omega) (by omega)), (show i23 0 = i 0 ∧ i23 1 = i 1 ∧ i23 2 = i 2 ∧ i23 3 = i 3 from by omega)⟩⟩ (bw_subP (isC := [0, 1, 2, 3]) hP rfl) (hD.sub [0, 1, 2, 3] (by decide) rfl) hS (Nat.le_of_ble_eq_true rfl) (Nat.le_of_ble_eq_true rfl) dX3_advance_158
              · refine lv_bipush (v := zI 22) hx hb dX3_advance_138 (by decide) ?_
                refine lv_goto (tgt := 145) hx hb dX3_advance_140 (by decide) ?_
                refine r_put F hK hP hD hS 0 9 rfl rfl in_X3 tyX3 tyX3_ok nmX3 (by decide) k_275 rfl rfl rfl (Nat.le_of_ble_eq_true rfl) dX3_advance_145 (w1 := [(b, .inr (3, [.ref (q 0), .int (zI (ii 0)), .ref (q 3), .ref (q 4), .int (zI (ii 1)), .int (zI (ii 2)), .ref (q 1), .ref (q 2), .int (zI (ii 3)), .int (zI 22), .int (zI (ii 5)), .int (zI (ii 5)), .long (zL (ii 7)), .int (zI (ii 8))])), ((q 0), .inl (cB, 900, .inl (fun k => zI ((g 0) k)))), ((q 1), .inl (cJ, 19, .inr (.inl (fun k => zL ((g 1) k))))), ((q 2), .inl (cJ, 10, .inr (.inl (fun k => zL ((g 2) k)))))]) rfl (fun H locs hP hD hS => ?_)
                refine lv_aload_n hx hb dX3_advance_148 rfl (lv_at hl 1 rfl) ?_
                refine lv_dup hx hb dX3_advance_149 rfl ?_
                refine r_get F hK hP 0 11 rfl rfl in_X3 (by decide) k_277 rfl dX3_advance_150 ?_
                refine lv_iconst (v := zI 1) hx hb dX3_advance_153 rfl ?_
                refine r_iadd (v := zI ((ii 5) + 1)) F dX3_advance_154 (zI_add _ _) ?_
                refine r_put F hK hP hD hS 0 11 rfl rfl in_X3 tyX3 tyX3_ok nmX3 (by decide) k_277 rfl rfl rfl (Nat.le_of_ble_eq_true rfl) dX3_advance_155 (w1 := [(b, .inr (3, [.ref (q 0), .int (zI (ii 0)), .ref (q 3), .ref (q 4), .int (zI (ii 1)), .int (zI (ii 2)), .ref (q 1), .ref (q 2), .int (zI (ii 3)), .int (zI 22), .int (zI (ii 5)), .int (zI ((ii 5) + 1)), .long (zL (ii 7)), .int (zI (ii 8))])), ((q 0), .inl (cB, 900, .inl (fun k => zI ((g 0) k)))), ((q 1), .inl (cJ, 19, .inr (.inl (fun k => zL ((g 1) k))))), ((q 2), .inl (cJ, 10, .inr (.inl (fun k => zL ((g 2) k)))))]) rfl (fun H locs hP hD hS => ?_)
                obtain ⟨i26, e_i26⟩ : ∃ i26 : Nat → Int, i26 = fun k => [(ii 0), (ii 1), (ii 2), (ii 3), 22, (ii 5), ((ii 5) + 1), (ii 7), (ii 8)].getD k 0 := ⟨_, rfl⟩
                have e_i26_0 : i26 0 = (ii 0) := congrFun e_i26 0
                have e_i26_1 : i26 1 = (ii 1) := congrFun e_i26 1
                have e_i26_2 : i26 2 = (ii 2) := congrFun e_i26 2
                have e_i26_3 : i26 3 = (ii 3) := congrFun e_i26 3
                have e_i26_4 : i26 4 = 22 := congrFun e_i26 4
                have e_i26_5 : i26 5 = (ii 5) := congrFun e_i26 5
                have e_i26_6 : i26 6 = ((ii 5) + 1) := congrFun e_i26 6
                have e_i26_7 : i26 7 = (ii 7) := congrFun e_i26 7
                have e_i26_8 : i26 8 = (ii 8) := congrFun e_i26 8
                have hO27 : ReaderOk i26 := by refine ⟨?_, ?_, ?_, ?_, ?_, ?_⟩ <;> omega
                have hf28 := hO27
                have hP : va_P G vwCl [(b, .inr (3, [.ref (q 0), .int (zI (i26 0)), .ref (q 3), .ref (q 4), .int (zI (i26 1)), .int (zI (i26 2)), .ref (q 1), .ref (q 2), .int (zI (i26 3)), .int (zI (i26 4)), .int (zI (i26 5)), .int (zI (i26 6)), .long (zL (i26 7)), .int (zI (i26 8))])), ((q 0), .inl (cB, 900, .inl (fun k => zI ((g 0) k)))), ((q 1), .inl (cJ, 19, .inr (.inl (fun k => zL ((g 1) k))))), ((q 2), .inl (cJ, 10, .inr (.inl (fun k => zL ((g 2) k)))))] H := by subst e_i26; exact hP
                have hD : va_D A [(b, .inr (3, [.ref (q 0), .int (zI (i26 0)), .ref (q 3), .ref (q 4), .int (zI (i26 1)), .int (zI (i26 2)), .ref (q 1), .ref (q 2), .int (zI (i26 3)), .int (zI (i26 4)), .int (zI (i26 5)), .int (zI (i26 6)), .long (zL (i26 7)), .int (zI (i26 8))])), ((q 0), .inl (cB, 900, .inl (fun k => zI ((g 0) k)))), ((q 1), .inl (cJ, 19, .inr (.inl (fun k => zL ((g 1) k))))), ((q 2), .inl (cJ, 10, .inr (.inl (fun k => zL ((g 2) k)))))] := by subst e_i26; exact hD
                exact ret (i26, fun _ _ => 0) _ _ _ _ _ _ ⟨hO27, ⟨(show TkA f n c9 (i26 5) (i26 6) (i26 4) (i26 7) (i26 8) from TkA.to (TkA.sign (d := i26 4) (w := i26 7) (v := i26 8) hst hlk18 (by omega) (by unfold sSm; omega) (by unfold sDg; omega) (by omega)) (by omega) (by omega) (by omega) (by omega) (by omega)), (show i26 0 = i 0 ∧ i26 1 = i 1 ∧ i26 2 = i 2 ∧ i26 3 = i 3 from by omega)⟩⟩ (bw_subP (isC := [0, 1, 2, 3]) hP rfl) (hD.sub [0, 1, 2, 3] (by decide) rfl) hS (Nat.le_of_ble_eq_true rfl) (Nat.le_of_ble_eq_true rfl) dX3_advance_158
            · refine lv_bipush (v := zI 21) hx hb dX3_advance_127 (by decide) ?_
              refine lv_goto (tgt := 145) hx hb dX3_advance_129 (by decide) ?_
              refine r_put F hK hP hD hS 0 9 rfl rfl in_X3 tyX3 tyX3_ok nmX3 (by decide) k_275 rfl rfl rfl (Nat.le_of_ble_eq_true rfl) dX3_advance_145 (w1 := [(b, .inr (3, [.ref (q 0), .int (zI (ii 0)), .ref (q 3), .ref (q 4), .int (zI (ii 1)), .int (zI (ii 2)), .ref (q 1), .ref (q 2), .int (zI (ii 3)), .int (zI 21), .int (zI (ii 5)), .int (zI (ii 5)), .long (zL (ii 7)), .int (zI (ii 8))])), ((q 0), .inl (cB, 900, .inl (fun k => zI ((g 0) k)))), ((q 1), .inl (cJ, 19, .inr (.inl (fun k => zL ((g 1) k))))), ((q 2), .inl (cJ, 10, .inr (.inl (fun k => zL ((g 2) k)))))]) rfl (fun H locs hP hD hS => ?_)
              refine lv_aload_n hx hb dX3_advance_148 rfl (lv_at hl 1 rfl) ?_
              refine lv_dup hx hb dX3_advance_149 rfl ?_
              refine r_get F hK hP 0 11 rfl rfl in_X3 (by decide) k_277 rfl dX3_advance_150 ?_
              refine lv_iconst (v := zI 1) hx hb dX3_advance_153 rfl ?_
              refine r_iadd (v := zI ((ii 5) + 1)) F dX3_advance_154 (zI_add _ _) ?_
              refine r_put F hK hP hD hS 0 11 rfl rfl in_X3 tyX3 tyX3_ok nmX3 (by decide) k_277 rfl rfl rfl (Nat.le_of_ble_eq_true rfl) dX3_advance_155 (w1 := [(b, .inr (3, [.ref (q 0), .int (zI (ii 0)), .ref (q 3), .ref (q 4), .int (zI (ii 1)), .int (zI (ii 2)), .ref (q 1), .ref (q 2), .int (zI (ii 3)), .int (zI 21), .int (zI (ii 5)), .int (zI ((ii 5) + 1)), .long (zL (ii 7)), .int (zI (ii 8))])), ((q 0), .inl (cB, 900, .inl (fun k => zI ((g 0) k)))), ((q 1), .inl (cJ, 19, .inr (.inl (fun k => zL ((g 1) k))))), ((q 2), .inl (cJ, 10, .inr (.inl (fun k => zL ((g 2) k)))))]) rfl (fun H locs hP hD hS => ?_)
              obtain ⟨i29, e_i29⟩ : ∃ i29 : Nat → Int, i29 = fun k => [(ii 0), (ii 1), (ii 2), (ii 3), 21, (ii 5), ((ii 5) + 1), (ii 7), (ii 8)].getD k 0 := ⟨_, rfl⟩
              have e_i29_0 : i29 0 = (ii 0) := congrFun e_i29 0
              have e_i29_1 : i29 1 = (ii 1) := congrFun e_i29 1
              have e_i29_2 : i29 2 = (ii 2) := congrFun e_i29 2
              have e_i29_3 : i29 3 = (ii 3) := congrFun e_i29 3
              have e_i29_4 : i29 4 = 21 := congrFun e_i29 4
              have e_i29_5 : i29 5 = (ii 5) := congrFun e_i29 5
              have e_i29_6 : i29 6 = ((ii 5) + 1) := congrFun e_i29 6
              have e_i29_7 : i29 7 = (ii 7) := congrFun e_i29 7
              have e_i29_8 : i29 8 = (ii 8) := congrFun e_i29 8
              have hO30 : ReaderOk i29 := by refine ⟨?_, ?_, ?_, ?_, ?_, ?_⟩ <;> omega
              have hf31 := hO30
              have hP : va_P G vwCl [(b, .inr (3, [.ref (q 0), .int (zI (i29 0)), .ref (q 3), .ref (q 4), .int (zI (i29 1)), .int (zI (i29 2)), .ref (q 1), .ref (q 2), .int (zI (i29 3)), .int (zI (i29 4)), .int (zI (i29 5)), .int (zI (i29 6)), .long (zL (i29 7)), .int (zI (i29 8))])), ((q 0), .inl (cB, 900, .inl (fun k => zI ((g 0) k)))), ((q 1), .inl (cJ, 19, .inr (.inl (fun k => zL ((g 1) k))))), ((q 2), .inl (cJ, 10, .inr (.inl (fun k => zL ((g 2) k)))))] H := by subst e_i29; exact hP
              have hD : va_D A [(b, .inr (3, [.ref (q 0), .int (zI (i29 0)), .ref (q 3), .ref (q 4), .int (zI (i29 1)), .int (zI (i29 2)), .ref (q 1), .ref (q 2), .int (zI (i29 3)), .int (zI (i29 4)), .int (zI (i29 5)), .int (zI (i29 6)), .long (zL (i29 7)), .int (zI (i29 8))])), ((q 0), .inl (cB, 900, .inl (fun k => zI ((g 0) k)))), ((q 1), .inl (cJ, 19, .inr (.inl (fun k => zL ((g 1) k))))), ((q 2), .inl (cJ, 10, .inr (.inl (fun k => zL ((g 2) k)))))] := by subst e_i29; exact hD
              exact ret (i29, fun _ _ => 0) _ _ _ _ _ _ ⟨hO30, ⟨(show TkA f n c9 (i29 5) (i29 6) (i29 4) (i29 7) (i29 8) from TkA.to (TkA.sign (d := i29 4) (w := i29 7) (v := i29 8) hst hlk18 (by omega) (by unfold sSm; omega) (by unfold sDg; omega) (by omega)) (by omega) (by omega) (by omega) (by omega) (by omega)), (show i29 0 = i 0 ∧ i29 1 = i 1 ∧ i29 2 = i 2 ∧ i29 3 = i 3 from by omega)⟩⟩ (bw_subP (isC := [0, 1, 2, 3]) hP rfl) (hD.sub [0, 1, 2, 3] (by decide) rfl) hS (Nat.le_of_ble_eq_true rfl) (Nat.le_of_ble_eq_true rfl) dX3_advance_158
          · refine lv_iload_n hx hb dX3_advance_107 rfl (lv_at hl 0 rfl) ?_
            refine lv_bipush (v := zI 57) hx hb dX3_advance_108 (by decide) ?_
            refine rz_icmp_gt (tgt := 120) F (by omega) (by omega) dX3_advance_110 (by decide) (fun h110_31 => ?_) (fun h110_31 => ?_)
            · refine lv_aload_n hx hb dX3_advance_120 rfl (lv_at hl 1 rfl) ?_
              refine lv_iload_n hx hb dX3_advance_121 rfl (lv_at hl 0 rfl) ?_
              refine lv_bipush (v := zI 59) hx hb dX3_advance_122 (by decide) ?_
              refine rz_icmp_ne (tgt := 132) F (by omega) (by omega) dX3_advance_124 (by decide) (fun h124_32 => ?_) (fun h124_32 => ?_)
              · refine lv_iload_n hx hb dX3_advance_132 rfl (lv_at hl 0 rfl) ?_
                refine lv_bipush (v := zI 44) hx hb dX3_advance_133 (by decide) ?_
                refine rz_icmp_ne (tgt := 143) F (by omega) (by omega) dX3_advance_135 (by decide) (fun h135_33 => ?_) (fun h135_33 => ?_)
                · refine lv_bipush (v := zI 23) hx hb dX3_advance_143 (by decide) ?_
                  refine r_put F hK hP hD hS 0 9 rfl rfl in_X3 tyX3 tyX3_ok nmX3 (by decide) k_275 rfl rfl rfl (Nat.le_of_ble_eq_true rfl) dX3_advance_145 (w1 := [(b, .inr (3, [.ref (q 0), .int (zI (ii 0)), .ref (q 3), .ref (q 4), .int (zI (ii 1)), .int (zI (ii 2)), .ref (q 1), .ref (q 2), .int (zI (ii 3)), .int (zI 23), .int (zI (ii 5)), .int (zI (ii 5)), .long (zL (ii 7)), .int (zI (ii 8))])), ((q 0), .inl (cB, 900, .inl (fun k => zI ((g 0) k)))), ((q 1), .inl (cJ, 19, .inr (.inl (fun k => zL ((g 1) k))))), ((q 2), .inl (cJ, 10, .inr (.inl (fun k => zL ((g 2) k)))))]) rfl (fun H locs hP hD hS => ?_)
                  refine lv_aload_n hx hb dX3_advance_148 rfl (lv_at hl 1 rfl) ?_
                  refine lv_dup hx hb dX3_advance_149 rfl ?_
                  refine r_get F hK hP 0 11 rfl rfl in_X3 (by decide) k_277 rfl dX3_advance_150 ?_
                  refine lv_iconst (v := zI 1) hx hb dX3_advance_153 rfl ?_
                  refine r_iadd (v := zI ((ii 5) + 1)) F dX3_advance_154 (zI_add _ _) ?_
                  refine r_put F hK hP hD hS 0 11 rfl rfl in_X3 tyX3 tyX3_ok nmX3 (by decide) k_277 rfl rfl rfl (Nat.le_of_ble_eq_true rfl) dX3_advance_155 (w1 := [(b, .inr (3, [.ref (q 0), .int (zI (ii 0)), .ref (q 3), .ref (q 4), .int (zI (ii 1)), .int (zI (ii 2)), .ref (q 1), .ref (q 2), .int (zI (ii 3)), .int (zI 23), .int (zI (ii 5)), .int (zI ((ii 5) + 1)), .long (zL (ii 7)), .int (zI (ii 8))])), ((q 0), .inl (cB, 900, .inl (fun k => zI ((g 0) k)))), ((q 1), .inl (cJ, 19, .inr (.inl (fun k => zL ((g 1) k))))), ((q 2), .inl (cJ, 10, .inr (.inl (fun k => zL ((g 2) k)))))]) rfl (fun H locs hP hD hS => ?_)
                  obtain ⟨i35, e_i35⟩ : ∃ i35 : Nat → Int, i35 = fun k => [(ii 0), (ii 1), (ii 2), (ii 3), 23, (ii 5), ((ii 5) + 1), (ii 7), (ii 8)].getD k 0 := ⟨_, rfl⟩
                  have e_i35_0 : i35 0 = (ii 0) := congrFun e_i35 0
                  have e_i35_1 : i35 1 = (ii 1) := congrFun e_i35 1
                  have e_i35_2 : i35 2 = (ii 2) := congrFun e_i35 2
                  have e_i35_3 : i35 3 = (ii 3) := congrFun e_i35 3
                  have e_i35_4 : i35 4 = 23 := congrFun e_i35 4
                  have e_i35_5 : i35 5 = (ii 5) := congrFun e_i35 5
                  have e_i35_6 : i35 6 = ((ii 5) + 1) := congrFun e_i35 6
                  have e_i35_7 : i35 7 = (ii 7) := congrFun e_i35 7
                  have e_i35_8 : i35 8 = (ii 8) := congrFun e_i35 8
                  have hO36 : ReaderOk i35 := by refine ⟨?_, ?_, ?_, ?_, ?_, ?_⟩ <;> omega
                  have hf37 := hO36
                  have hP : va_P G vwCl [(b, .inr (3, [.ref (q 0), .int (zI (i35 0)), .ref (q 3), .ref (q 4), .int (zI (i35 1)), .int (zI (i35 2)), .ref (q 1), .ref (q 2), .int (zI (i35 3)), .int (zI (i35 4)), .int (zI (i35 5)), .int (zI (i35 6)), .long (zL (i35 7)), .int (zI (i35 8))])), ((q 0), .inl (cB, 900, .inl (fun k => zI ((g 0) k)))), ((q 1), .inl (cJ, 19, .inr (.inl (fun k => zL ((g 1) k))))), ((q 2), .inl (cJ, 10, .inr (.inl (fun k => zL ((g 2) k)))))] H := by subst e_i35; exact hP
                  have hD : va_D A [(b, .inr (3, [.ref (q 0), .int (zI (i35 0)), .ref (q 3), .ref (q 4), .int (zI (i35 1)), .int (zI (i35 2)), .ref (q 1), .ref (q 2), .int (zI (i35 3)), .int (zI (i35 4)), .int (zI (i35 5)), .int (zI (i35 6)), .long (zL (i35 7)), .int (zI (i35 8))])), ((q 0), .inl (cB, 900, .inl (fun k => zI ((g 0) k)))), ((q 1), .inl (cJ, 19, .inr (.inl (fun k => zL ((g 1) k))))), ((q 2), .inl (cJ, 10, .inr (.inl (fun k => zL ((g 2) k)))))] := by subst e_i35; exact hD
                  exact ret (i35, fun _ _ => 0) _ _ _ _ _ _ ⟨hO36, ⟨(show TkA f n c9 (i35 5) (i35 6) (i35 4) (i35 7) (i35 8) from TkA.to (TkA.sign (d := i35 4) (w := i35 7) (v := i35 8) hst hlk18 (by omega) (by unfold sSm; omega) (by unfold sDg; omega) (by omega)) (by omega) (by omega) (by omega) (by omega) (by omega)), (show i35 0 = i 0 ∧ i35 1 = i 1 ∧ i35 2 = i 2 ∧ i35 3 = i 3 from by omega)⟩⟩ (bw_subP (isC := [0, 1, 2, 3]) hP rfl) (hD.sub [0, 1, 2, 3] (by decide) rfl) hS (Nat.le_of_ble_eq_true rfl) (Nat.le_of_ble_eq_true rfl) dX3_advance_158
                · refine lv_bipush (v := zI 22) hx hb dX3_advance_138 (by decide) ?_
                  refine lv_goto (tgt := 145) hx hb dX3_advance_140 (by decide) ?_
                  refine r_put F hK hP hD hS 0 9 rfl rfl in_X3 tyX3 tyX3_ok nmX3 (by decide) k_275 rfl rfl rfl (Nat.le_of_ble_eq_true rfl) dX3_advance_145 (w1 := [(b, .inr (3, [.ref (q 0), .int (zI (ii 0)), .ref (q 3), .ref (q 4), .int (zI (ii 1)), .int (zI (ii 2)), .ref (q 1), .ref (q 2), .int (zI (ii 3)), .int (zI 22), .int (zI (ii 5)), .int (zI (ii 5)), .long (zL (ii 7)), .int (zI (ii 8))])), ((q 0), .inl (cB, 900, .inl (fun k => zI ((g 0) k)))), ((q 1), .inl (cJ, 19, .inr (.inl (fun k => zL ((g 1) k))))), ((q 2), .inl (cJ, 10, .inr (.inl (fun k => zL ((g 2) k)))))]) rfl (fun H locs hP hD hS => ?_)
                  refine lv_aload_n hx hb dX3_advance_148 rfl (lv_at hl 1 rfl) ?_
                  refine lv_dup hx hb dX3_advance_149 rfl ?_
                  refine r_get F hK hP 0 11 rfl rfl in_X3 (by decide) k_277 rfl dX3_advance_150 ?_
                  refine lv_iconst (v := zI 1) hx hb dX3_advance_153 rfl ?_
                  refine r_iadd (v := zI ((ii 5) + 1)) F dX3_advance_154 (zI_add _ _) ?_
                  refine r_put F hK hP hD hS 0 11 rfl rfl in_X3 tyX3 tyX3_ok nmX3 (by decide) k_277 rfl rfl rfl (Nat.le_of_ble_eq_true rfl) dX3_advance_155 (w1 := [(b, .inr (3, [.ref (q 0), .int (zI (ii 0)), .ref (q 3), .ref (q 4), .int (zI (ii 1)), .int (zI (ii 2)), .ref (q 1), .ref (q 2), .int (zI (ii 3)), .int (zI 22), .int (zI (ii 5)), .int (zI ((ii 5) + 1)), .long (zL (ii 7)), .int (zI (ii 8))])), ((q 0), .inl (cB, 900, .inl (fun k => zI ((g 0) k)))), ((q 1), .inl (cJ, 19, .inr (.inl (fun k => zL ((g 1) k))))), ((q 2), .inl (cJ, 10, .inr (.inl (fun k => zL ((g 2) k)))))]) rfl (fun H locs hP hD hS => ?_)
                  obtain ⟨i38, e_i38⟩ : ∃ i38 : Nat → Int, i38 = fun k => [(ii 0), (ii 1), (ii 2), (ii 3), 22, (ii 5), ((ii 5) + 1), (ii 7), (ii 8)].getD k 0 := ⟨_, rfl⟩
                  have e_i38_0 : i38 0 = (ii 0) := congrFun e_i38 0
                  have e_i38_1 : i38 1 = (ii 1) := congrFun e_i38 1
                  have e_i38_2 : i38 2 = (ii 2) := congrFun e_i38 2
                  have e_i38_3 : i38 3 = (ii 3) := congrFun e_i38 3
                  have e_i38_4 : i38 4 = 22 := congrFun e_i38 4
                  have e_i38_5 : i38 5 = (ii 5) := congrFun e_i38 5
                  have e_i38_6 : i38 6 = ((ii 5) + 1) := congrFun e_i38 6
                  have e_i38_7 : i38 7 = (ii 7) := congrFun e_i38 7
                  have e_i38_8 : i38 8 = (ii 8) := congrFun e_i38 8
                  have hO39 : ReaderOk i38 := by refine ⟨?_, ?_, ?_, ?_, ?_, ?_⟩ <;> omega
                  have hf40 := hO39
                  have hP : va_P G vwCl [(b, .inr (3, [.ref (q 0), .int (zI (i38 0)), .ref (q 3), .ref (q 4), .int (zI (i38 1)), .int (zI (i38 2)), .ref (q 1), .ref (q 2), .int (zI (i38 3)), .int (zI (i38 4)), .int (zI (i38 5)), .int (zI (i38 6)), .long (zL (i38 7)), .int (zI (i38 8))])), ((q 0), .inl (cB, 900, .inl (fun k => zI ((g 0) k)))), ((q 1), .inl (cJ, 19, .inr (.inl (fun k => zL ((g 1) k))))), ((q 2), .inl (cJ, 10, .inr (.inl (fun k => zL ((g 2) k)))))] H := by subst e_i38; exact hP
                  have hD : va_D A [(b, .inr (3, [.ref (q 0), .int (zI (i38 0)), .ref (q 3), .ref (q 4), .int (zI (i38 1)), .int (zI (i38 2)), .ref (q 1), .ref (q 2), .int (zI (i38 3)), .int (zI (i38 4)), .int (zI (i38 5)), .int (zI (i38 6)), .long (zL (i38 7)), .int (zI (i38 8))])), ((q 0), .inl (cB, 900, .inl (fun k => zI ((g 0) k)))), ((q 1), .inl (cJ, 19, .inr (.inl (fun k => zL ((g 1) k))))), ((q 2), .inl (cJ, 10, .inr (.inl (fun k => zL ((g 2) k)))))] := by subst e_i38; exact hD
                  exact ret (i38, fun _ _ => 0) _ _ _ _ _ _ ⟨hO39, ⟨(show TkA f n c9 (i38 5) (i38 6) (i38 4) (i38 7) (i38 8) from TkA.to (TkA.sign (d := i38 4) (w := i38 7) (v := i38 8) hst hlk18 (by omega) (by unfold sSm; omega) (by unfold sDg; omega) (by omega)) (by omega) (by omega) (by omega) (by omega) (by omega)), (show i38 0 = i 0 ∧ i38 1 = i 1 ∧ i38 2 = i 2 ∧ i38 3 = i 3 from by omega)⟩⟩ (bw_subP (isC := [0, 1, 2, 3]) hP rfl) (hD.sub [0, 1, 2, 3] (by decide) rfl) hS (Nat.le_of_ble_eq_true rfl) (Nat.le_of_ble_eq_true rfl) dX3_advance_158
              · refine lv_bipush (v := zI 21) hx hb dX3_advance_127 (by decide) ?_
                refine lv_goto (tgt := 145) hx hb dX3_advance_129 (by decide) ?_
                refine r_put F hK hP hD hS 0 9 rfl rfl in_X3 tyX3 tyX3_ok nmX3 (by decide) k_275 rfl rfl rfl (Nat.le_of_ble_eq_true rfl) dX3_advance_145 (w1 := [(b, .inr (3, [.ref (q 0), .int (zI (ii 0)), .ref (q 3), .ref (q 4), .int (zI (ii 1)), .int (zI (ii 2)), .ref (q 1), .ref (q 2), .int (zI (ii 3)), .int (zI 21), .int (zI (ii 5)), .int (zI (ii 5)), .long (zL (ii 7)), .int (zI (ii 8))])), ((q 0), .inl (cB, 900, .inl (fun k => zI ((g 0) k)))), ((q 1), .inl (cJ, 19, .inr (.inl (fun k => zL ((g 1) k))))), ((q 2), .inl (cJ, 10, .inr (.inl (fun k => zL ((g 2) k)))))]) rfl (fun H locs hP hD hS => ?_)
                refine lv_aload_n hx hb dX3_advance_148 rfl (lv_at hl 1 rfl) ?_
                refine lv_dup hx hb dX3_advance_149 rfl ?_
                refine r_get F hK hP 0 11 rfl rfl in_X3 (by decide) k_277 rfl dX3_advance_150 ?_
                refine lv_iconst (v := zI 1) hx hb dX3_advance_153 rfl ?_
                refine r_iadd (v := zI ((ii 5) + 1)) F dX3_advance_154 (zI_add _ _) ?_
                refine r_put F hK hP hD hS 0 11 rfl rfl in_X3 tyX3 tyX3_ok nmX3 (by decide) k_277 rfl rfl rfl (Nat.le_of_ble_eq_true rfl) dX3_advance_155 (w1 := [(b, .inr (3, [.ref (q 0), .int (zI (ii 0)), .ref (q 3), .ref (q 4), .int (zI (ii 1)), .int (zI (ii 2)), .ref (q 1), .ref (q 2), .int (zI (ii 3)), .int (zI 21), .int (zI (ii 5)), .int (zI ((ii 5) + 1)), .long (zL (ii 7)), .int (zI (ii 8))])), ((q 0), .inl (cB, 900, .inl (fun k => zI ((g 0) k)))), ((q 1), .inl (cJ, 19, .inr (.inl (fun k => zL ((g 1) k))))), ((q 2), .inl (cJ, 10, .inr (.inl (fun k => zL ((g 2) k)))))]) rfl (fun H locs hP hD hS => ?_)
                obtain ⟨i41, e_i41⟩ : ∃ i41 : Nat → Int, i41 = fun k => [(ii 0), (ii 1), (ii 2), (ii 3), 21, (ii 5), ((ii 5) + 1), (ii 7), (ii 8)].getD k 0 := ⟨_, rfl⟩
                have e_i41_0 : i41 0 = (ii 0) := congrFun e_i41 0
                have e_i41_1 : i41 1 = (ii 1) := congrFun e_i41 1
                have e_i41_2 : i41 2 = (ii 2) := congrFun e_i41 2
                have e_i41_3 : i41 3 = (ii 3) := congrFun e_i41 3
                have e_i41_4 : i41 4 = 21 := congrFun e_i41 4
                have e_i41_5 : i41 5 = (ii 5) := congrFun e_i41 5
                have e_i41_6 : i41 6 = ((ii 5) + 1) := congrFun e_i41 6
                have e_i41_7 : i41 7 = (ii 7) := congrFun e_i41 7
                have e_i41_8 : i41 8 = (ii 8) := congrFun e_i41 8
                have hO42 : ReaderOk i41 := by refine ⟨?_, ?_, ?_, ?_, ?_, ?_⟩ <;> omega
                have hf43 := hO42
                have hP : va_P G vwCl [(b, .inr (3, [.ref (q 0), .int (zI (i41 0)), .ref (q 3), .ref (q 4), .int (zI (i41 1)), .int (zI (i41 2)), .ref (q 1), .ref (q 2), .int (zI (i41 3)), .int (zI (i41 4)), .int (zI (i41 5)), .int (zI (i41 6)), .long (zL (i41 7)), .int (zI (i41 8))])), ((q 0), .inl (cB, 900, .inl (fun k => zI ((g 0) k)))), ((q 1), .inl (cJ, 19, .inr (.inl (fun k => zL ((g 1) k))))), ((q 2), .inl (cJ, 10, .inr (.inl (fun k => zL ((g 2) k)))))] H := by subst e_i41; exact hP
                have hD : va_D A [(b, .inr (3, [.ref (q 0), .int (zI (i41 0)), .ref (q 3), .ref (q 4), .int (zI (i41 1)), .int (zI (i41 2)), .ref (q 1), .ref (q 2), .int (zI (i41 3)), .int (zI (i41 4)), .int (zI (i41 5)), .int (zI (i41 6)), .long (zL (i41 7)), .int (zI (i41 8))])), ((q 0), .inl (cB, 900, .inl (fun k => zI ((g 0) k)))), ((q 1), .inl (cJ, 19, .inr (.inl (fun k => zL ((g 1) k))))), ((q 2), .inl (cJ, 10, .inr (.inl (fun k => zL ((g 2) k)))))] := by subst e_i41; exact hD
                exact ret (i41, fun _ _ => 0) _ _ _ _ _ _ ⟨hO42, ⟨(show TkA f n c9 (i41 5) (i41 6) (i41 4) (i41 7) (i41 8) from TkA.to (TkA.sign (d := i41 4) (w := i41 7) (v := i41 8) hst hlk18 (by omega) (by unfold sSm; omega) (by unfold sDg; omega) (by omega)) (by omega) (by omega) (by omega) (by omega) (by omega)), (show i41 0 = i 0 ∧ i41 1 = i 1 ∧ i41 2 = i 2 ∧ i41 3 = i 3 from by omega)⟩⟩ (bw_subP (isC := [0, 1, 2, 3]) hP rfl) (hD.sub [0, 1, 2, 3] (by decide) rfl) hS (Nat.le_of_ble_eq_true rfl) (Nat.le_of_ble_eq_true rfl) dX3_advance_158
            · refine lv_aload_n hx hb dX3_advance_113 rfl (lv_at hl 1 rfl) ?_
              obtain ⟨i44, e_i44⟩ : ∃ i44 : Nat → Int, i44 = fun k => [(ii 0), (ii 1), (ii 2), (ii 3), (ii 4), (ii 5), (ii 5), (ii 7), (ii 8)].getD k 0 := ⟨_, rfl⟩
              have e_i44_0 : i44 0 = (ii 0) := congrFun e_i44 0
              have e_i44_1 : i44 1 = (ii 1) := congrFun e_i44 1
              have e_i44_2 : i44 2 = (ii 2) := congrFun e_i44 2
              have e_i44_3 : i44 3 = (ii 3) := congrFun e_i44 3
              have e_i44_4 : i44 4 = (ii 4) := congrFun e_i44 4
              have e_i44_5 : i44 5 = (ii 5) := congrFun e_i44 5
              have e_i44_6 : i44 6 = (ii 5) := congrFun e_i44 6
              have e_i44_7 : i44 7 = (ii 7) := congrFun e_i44 7
              have e_i44_8 : i44 8 = (ii 8) := congrFun e_i44 8
              have hO45 : ReaderOk i44 := by refine ⟨?_, ?_, ?_, ?_, ?_, ?_⟩ <;> omega
              have hf46 := hO45
              have hP : va_P G vwCl [(b, .inr (3, [.ref (q 0), .int (zI (i44 0)), .ref (q 3), .ref (q 4), .int (zI (i44 1)), .int (zI (i44 2)), .ref (q 1), .ref (q 2), .int (zI (i44 3)), .int (zI (i44 4)), .int (zI (i44 5)), .int (zI (i44 6)), .long (zL (i44 7)), .int (zI (i44 8))])), ((q 0), .inl (cB, 900, .inl (fun k => zI ((g 0) k)))), ((q 1), .inl (cJ, 19, .inr (.inl (fun k => zL ((g 1) k))))), ((q 2), .inl (cJ, 10, .inr (.inl (fun k => zL ((g 2) k)))))] H := by subst e_i44; exact hP
              have hD : va_D A [(b, .inr (3, [.ref (q 0), .int (zI (i44 0)), .ref (q 3), .ref (q 4), .int (zI (i44 1)), .int (zI (i44 2)), .ref (q 1), .ref (q 2), .int (zI (i44 3)), .int (zI (i44 4)), .int (zI (i44 5)), .int (zI (i44 6)), .long (zL (i44 7)), .int (zI (i44 8))])), ((q 0), .inl (cB, 900, .inl (fun k => zI ((g 0) k)))), ((q 1), .inl (cJ, 19, .inr (.inl (fun k => zL ((g 1) k))))), ((q 2), .inl (cJ, 10, .inr (.inl (fun k => zL ((g 2) k)))))] := by subst e_i44; exact hD
              refine r_callVv (As := []) (rest := []) (wr := []) F hK hP hD hS hA hO hE (c_X3x_lookAtWhole hO b q i44 g hO45 f n hTx hRs (by omega) (ii 5) (by omega) (by omega)) k_567 kv_X3_lookAtWhole 0 rfl (by decide +kernel) ⟨Nat.le_of_ble_eq_true rfl, Nat.le_of_ble_eq_true rfl⟩ [0, 1, 2, 3] [] rfl rfl (by decide) (by decide) (by decide) 0 3 rfl rfl rfl hl.1 rfl (Nat.le_of_ble_eq_true rfl) dX3_advance_114 ⟨Nat.le_of_ble_eq_true rfl, Nat.le_of_ble_eq_true rfl⟩ (w1 := fun u47 => [(b, .inr (3, [.ref (q 0), .int (zI (u47.1 0)), .ref (q 3), .ref (q 4), .int (zI (u47.1 1)), .int (zI (u47.1 2)), .ref (q 1), .ref (q 2), .int (zI (u47.1 3)), .int (zI (u47.1 4)), .int (zI (u47.1 5)), .int (zI (u47.1 6)), .long (zL (u47.1 7)), .int (zI (u47.1 8))])), ((q 0), .inl (cB, 900, .inl (fun k => zI ((g 0) k)))), ((q 1), .inl (cJ, 19, .inr (.inl (fun k => zL ((g 1) k))))), ((q 2), .inl (cJ, 10, .inr (.inl (fun k => zL ((g 2) k)))))]) (fun _ => rfl) (fun  u47 H locs hp48 hP hD hS => ?_)
              have hf49 := hp48.1
              refine lv_goto (tgt := 158) hx hb dX3_advance_117 (by decide) ?_
              exact ret (u47.1, fun _ _ => 0) _ _ _ _ _ _ ⟨hp48.1, ⟨(show TkA f n c9 (u47.1 5) (u47.1 6) (u47.1 4) (u47.1 7) (u47.1 8) from TkA.to (TkA.whole (w := u47.1 7) hst (by unfold sDg; rw [hlk18]; omega) hp48.2.1.2 hp48.2.2.1.1 hp48.2.2.1.2) (by omega) (by omega) (by omega) (by omega) (by omega)), (show u47.1 0 = i 0 ∧ u47.1 1 = i 1 ∧ u47.1 2 = i 2 ∧ u47.1 3 = i 3 from by omega)⟩⟩ (bw_subP (isC := [0, 1, 2, 3]) hP rfl) (hD.sub [0, 1, 2, 3] (by decide) rfl) hS (Nat.le_of_ble_eq_true rfl) (Nat.le_of_ble_eq_true rfl) dX3_advance_158
        · refine lv_iload_n hx hb dX3_advance_88 rfl (lv_at hl 0 rfl) ?_
          refine lv_bipush (v := zI 122) hx hb dX3_advance_89 (by decide) ?_
          refine rz_icmp_gt (tgt := 101) F (by omega) (by omega) dX3_advance_91 (by decide) (fun h91_49 => ?_) (fun h91_49 => ?_)
          · refine lv_iload_n hx hb dX3_advance_101 rfl (lv_at hl 0 rfl) ?_
            refine lv_bipush (v := zI 48) hx hb dX3_advance_102 (by decide) ?_
            refine rz_icmp_lt (tgt := 120) F (by omega) (by omega) dX3_advance_104 (by decide) (fun h104_50 => ?_) (fun h104_50 => ?_)
            · refine lv_aload_n hx hb dX3_advance_120 rfl (lv_at hl 1 rfl) ?_
              refine lv_iload_n hx hb dX3_advance_121 rfl (lv_at hl 0 rfl) ?_
              refine lv_bipush (v := zI 59) hx hb dX3_advance_122 (by decide) ?_
              refine rz_icmp_ne (tgt := 132) F (by omega) (by omega) dX3_advance_124 (by decide) (fun h124_51 => ?_) (fun h124_51 => ?_)
              · refine lv_iload_n hx hb dX3_advance_132 rfl (lv_at hl 0 rfl) ?_
                refine lv_bipush (v := zI 44) hx hb dX3_advance_133 (by decide) ?_
                refine rz_icmp_ne (tgt := 143) F (by omega) (by omega) dX3_advance_135 (by decide) (fun h135_52 => ?_) (fun h135_52 => ?_)
                · refine lv_bipush (v := zI 23) hx hb dX3_advance_143 (by decide) ?_
                  refine r_put F hK hP hD hS 0 9 rfl rfl in_X3 tyX3 tyX3_ok nmX3 (by decide) k_275 rfl rfl rfl (Nat.le_of_ble_eq_true rfl) dX3_advance_145 (w1 := [(b, .inr (3, [.ref (q 0), .int (zI (ii 0)), .ref (q 3), .ref (q 4), .int (zI (ii 1)), .int (zI (ii 2)), .ref (q 1), .ref (q 2), .int (zI (ii 3)), .int (zI 23), .int (zI (ii 5)), .int (zI (ii 5)), .long (zL (ii 7)), .int (zI (ii 8))])), ((q 0), .inl (cB, 900, .inl (fun k => zI ((g 0) k)))), ((q 1), .inl (cJ, 19, .inr (.inl (fun k => zL ((g 1) k))))), ((q 2), .inl (cJ, 10, .inr (.inl (fun k => zL ((g 2) k)))))]) rfl (fun H locs hP hD hS => ?_)
                  refine lv_aload_n hx hb dX3_advance_148 rfl (lv_at hl 1 rfl) ?_
                  refine lv_dup hx hb dX3_advance_149 rfl ?_
                  refine r_get F hK hP 0 11 rfl rfl in_X3 (by decide) k_277 rfl dX3_advance_150 ?_
                  refine lv_iconst (v := zI 1) hx hb dX3_advance_153 rfl ?_
                  refine r_iadd (v := zI ((ii 5) + 1)) F dX3_advance_154 (zI_add _ _) ?_
                  refine r_put F hK hP hD hS 0 11 rfl rfl in_X3 tyX3 tyX3_ok nmX3 (by decide) k_277 rfl rfl rfl (Nat.le_of_ble_eq_true rfl) dX3_advance_155 (w1 := [(b, .inr (3, [.ref (q 0), .int (zI (ii 0)), .ref (q 3), .ref (q 4), .int (zI (ii 1)), .int (zI (ii 2)), .ref (q 1), .ref (q 2), .int (zI (ii 3)), .int (zI 23), .int (zI (ii 5)), .int (zI ((ii 5) + 1)), .long (zL (ii 7)), .int (zI (ii 8))])), ((q 0), .inl (cB, 900, .inl (fun k => zI ((g 0) k)))), ((q 1), .inl (cJ, 19, .inr (.inl (fun k => zL ((g 1) k))))), ((q 2), .inl (cJ, 10, .inr (.inl (fun k => zL ((g 2) k)))))]) rfl (fun H locs hP hD hS => ?_)
                  obtain ⟨i54, e_i54⟩ : ∃ i54 : Nat → Int, i54 = fun k => [(ii 0), (ii 1), (ii 2), (ii 3), 23, (ii 5), ((ii 5) + 1), (ii 7), (ii 8)].getD k 0 := ⟨_, rfl⟩
                  have e_i54_0 : i54 0 = (ii 0) := congrFun e_i54 0
                  have e_i54_1 : i54 1 = (ii 1) := congrFun e_i54 1
                  have e_i54_2 : i54 2 = (ii 2) := congrFun e_i54 2
                  have e_i54_3 : i54 3 = (ii 3) := congrFun e_i54 3
                  have e_i54_4 : i54 4 = 23 := congrFun e_i54 4
                  have e_i54_5 : i54 5 = (ii 5) := congrFun e_i54 5
                  have e_i54_6 : i54 6 = ((ii 5) + 1) := congrFun e_i54 6
                  have e_i54_7 : i54 7 = (ii 7) := congrFun e_i54 7
                  have e_i54_8 : i54 8 = (ii 8) := congrFun e_i54 8
                  have hO55 : ReaderOk i54 := by refine ⟨?_, ?_, ?_, ?_, ?_, ?_⟩ <;> omega
                  have hf56 := hO55
                  have hP : va_P G vwCl [(b, .inr (3, [.ref (q 0), .int (zI (i54 0)), .ref (q 3), .ref (q 4), .int (zI (i54 1)), .int (zI (i54 2)), .ref (q 1), .ref (q 2), .int (zI (i54 3)), .int (zI (i54 4)), .int (zI (i54 5)), .int (zI (i54 6)), .long (zL (i54 7)), .int (zI (i54 8))])), ((q 0), .inl (cB, 900, .inl (fun k => zI ((g 0) k)))), ((q 1), .inl (cJ, 19, .inr (.inl (fun k => zL ((g 1) k))))), ((q 2), .inl (cJ, 10, .inr (.inl (fun k => zL ((g 2) k)))))] H := by subst e_i54; exact hP
                  have hD : va_D A [(b, .inr (3, [.ref (q 0), .int (zI (i54 0)), .ref (q 3), .ref (q 4), .int (zI (i54 1)), .int (zI (i54 2)), .ref (q 1), .ref (q 2), .int (zI (i54 3)), .int (zI (i54 4)), .int (zI (i54 5)), .int (zI (i54 6)), .long (zL (i54 7)), .int (zI (i54 8))])), ((q 0), .inl (cB, 900, .inl (fun k => zI ((g 0) k)))), ((q 1), .inl (cJ, 19, .inr (.inl (fun k => zL ((g 1) k))))), ((q 2), .inl (cJ, 10, .inr (.inl (fun k => zL ((g 2) k)))))] := by subst e_i54; exact hD
                  exact ret (i54, fun _ _ => 0) _ _ _ _ _ _ ⟨hO55, ⟨(show TkA f n c9 (i54 5) (i54 6) (i54 4) (i54 7) (i54 8) from TkA.to (TkA.sign (d := i54 4) (w := i54 7) (v := i54 8) hst hlk18 (by omega) (by unfold sSm; omega) (by unfold sDg; omega) (by omega)) (by omega) (by omega) (by omega) (by omega) (by omega)), (show i54 0 = i 0 ∧ i54 1 = i 1 ∧ i54 2 = i 2 ∧ i54 3 = i 3 from by omega)⟩⟩ (bw_subP (isC := [0, 1, 2, 3]) hP rfl) (hD.sub [0, 1, 2, 3] (by decide) rfl) hS (Nat.le_of_ble_eq_true rfl) (Nat.le_of_ble_eq_true rfl) dX3_advance_158
                · refine lv_bipush (v := zI 22) hx hb dX3_advance_138 (by decide) ?_
                  refine lv_goto (tgt := 145) hx hb dX3_advance_140 (by decide) ?_
                  refine r_put F hK hP hD hS 0 9 rfl rfl in_X3 tyX3 tyX3_ok nmX3 (by decide) k_275 rfl rfl rfl (Nat.le_of_ble_eq_true rfl) dX3_advance_145 (w1 := [(b, .inr (3, [.ref (q 0), .int (zI (ii 0)), .ref (q 3), .ref (q 4), .int (zI (ii 1)), .int (zI (ii 2)), .ref (q 1), .ref (q 2), .int (zI (ii 3)), .int (zI 22), .int (zI (ii 5)), .int (zI (ii 5)), .long (zL (ii 7)), .int (zI (ii 8))])), ((q 0), .inl (cB, 900, .inl (fun k => zI ((g 0) k)))), ((q 1), .inl (cJ, 19, .inr (.inl (fun k => zL ((g 1) k))))), ((q 2), .inl (cJ, 10, .inr (.inl (fun k => zL ((g 2) k)))))]) rfl (fun H locs hP hD hS => ?_)
                  refine lv_aload_n hx hb dX3_advance_148 rfl (lv_at hl 1 rfl) ?_
                  refine lv_dup hx hb dX3_advance_149 rfl ?_
                  refine r_get F hK hP 0 11 rfl rfl in_X3 (by decide) k_277 rfl dX3_advance_150 ?_
                  refine lv_iconst (v := zI 1) hx hb dX3_advance_153 rfl ?_
                  refine r_iadd (v := zI ((ii 5) + 1)) F dX3_advance_154 (zI_add _ _) ?_
                  refine r_put F hK hP hD hS 0 11 rfl rfl in_X3 tyX3 tyX3_ok nmX3 (by decide) k_277 rfl rfl rfl (Nat.le_of_ble_eq_true rfl) dX3_advance_155 (w1 := [(b, .inr (3, [.ref (q 0), .int (zI (ii 0)), .ref (q 3), .ref (q 4), .int (zI (ii 1)), .int (zI (ii 2)), .ref (q 1), .ref (q 2), .int (zI (ii 3)), .int (zI 22), .int (zI (ii 5)), .int (zI ((ii 5) + 1)), .long (zL (ii 7)), .int (zI (ii 8))])), ((q 0), .inl (cB, 900, .inl (fun k => zI ((g 0) k)))), ((q 1), .inl (cJ, 19, .inr (.inl (fun k => zL ((g 1) k))))), ((q 2), .inl (cJ, 10, .inr (.inl (fun k => zL ((g 2) k)))))]) rfl (fun H locs hP hD hS => ?_)
                  obtain ⟨i57, e_i57⟩ : ∃ i57 : Nat → Int, i57 = fun k => [(ii 0), (ii 1), (ii 2), (ii 3), 22, (ii 5), ((ii 5) + 1), (ii 7), (ii 8)].getD k 0 := ⟨_, rfl⟩
                  have e_i57_0 : i57 0 = (ii 0) := congrFun e_i57 0
                  have e_i57_1 : i57 1 = (ii 1) := congrFun e_i57 1
                  have e_i57_2 : i57 2 = (ii 2) := congrFun e_i57 2
                  have e_i57_3 : i57 3 = (ii 3) := congrFun e_i57 3
                  have e_i57_4 : i57 4 = 22 := congrFun e_i57 4
                  have e_i57_5 : i57 5 = (ii 5) := congrFun e_i57 5
                  have e_i57_6 : i57 6 = ((ii 5) + 1) := congrFun e_i57 6
                  have e_i57_7 : i57 7 = (ii 7) := congrFun e_i57 7
                  have e_i57_8 : i57 8 = (ii 8) := congrFun e_i57 8
                  have hO58 : ReaderOk i57 := by refine ⟨?_, ?_, ?_, ?_, ?_, ?_⟩ <;> omega
                  have hf59 := hO58
                  have hP : va_P G vwCl [(b, .inr (3, [.ref (q 0), .int (zI (i57 0)), .ref (q 3), .ref (q 4), .int (zI (i57 1)), .int (zI (i57 2)), .ref (q 1), .ref (q 2), .int (zI (i57 3)), .int (zI (i57 4)), .int (zI (i57 5)), .int (zI (i57 6)), .long (zL (i57 7)), .int (zI (i57 8))])), ((q 0), .inl (cB, 900, .inl (fun k => zI ((g 0) k)))), ((q 1), .inl (cJ, 19, .inr (.inl (fun k => zL ((g 1) k))))), ((q 2), .inl (cJ, 10, .inr (.inl (fun k => zL ((g 2) k)))))] H := by subst e_i57; exact hP
                  have hD : va_D A [(b, .inr (3, [.ref (q 0), .int (zI (i57 0)), .ref (q 3), .ref (q 4), .int (zI (i57 1)), .int (zI (i57 2)), .ref (q 1), .ref (q 2), .int (zI (i57 3)), .int (zI (i57 4)), .int (zI (i57 5)), .int (zI (i57 6)), .long (zL (i57 7)), .int (zI (i57 8))])), ((q 0), .inl (cB, 900, .inl (fun k => zI ((g 0) k)))), ((q 1), .inl (cJ, 19, .inr (.inl (fun k => zL ((g 1) k))))), ((q 2), .inl (cJ, 10, .inr (.inl (fun k => zL ((g 2) k)))))] := by subst e_i57; exact hD
                  exact ret (i57, fun _ _ => 0) _ _ _ _ _ _ ⟨hO58, ⟨(show TkA f n c9 (i57 5) (i57 6) (i57 4) (i57 7) (i57 8) from TkA.to (TkA.sign (d := i57 4) (w := i57 7) (v := i57 8) hst hlk18 (by omega) (by unfold sSm; omega) (by unfold sDg; omega) (by omega)) (by omega) (by omega) (by omega) (by omega) (by omega)), (show i57 0 = i 0 ∧ i57 1 = i 1 ∧ i57 2 = i 2 ∧ i57 3 = i 3 from by omega)⟩⟩ (bw_subP (isC := [0, 1, 2, 3]) hP rfl) (hD.sub [0, 1, 2, 3] (by decide) rfl) hS (Nat.le_of_ble_eq_true rfl) (Nat.le_of_ble_eq_true rfl) dX3_advance_158
              · refine lv_bipush (v := zI 21) hx hb dX3_advance_127 (by decide) ?_
                refine lv_goto (tgt := 145) hx hb dX3_advance_129 (by decide) ?_
                refine r_put F hK hP hD hS 0 9 rfl rfl in_X3 tyX3 tyX3_ok nmX3 (by decide) k_275 rfl rfl rfl (Nat.le_of_ble_eq_true rfl) dX3_advance_145 (w1 := [(b, .inr (3, [.ref (q 0), .int (zI (ii 0)), .ref (q 3), .ref (q 4), .int (zI (ii 1)), .int (zI (ii 2)), .ref (q 1), .ref (q 2), .int (zI (ii 3)), .int (zI 21), .int (zI (ii 5)), .int (zI (ii 5)), .long (zL (ii 7)), .int (zI (ii 8))])), ((q 0), .inl (cB, 900, .inl (fun k => zI ((g 0) k)))), ((q 1), .inl (cJ, 19, .inr (.inl (fun k => zL ((g 1) k))))), ((q 2), .inl (cJ, 10, .inr (.inl (fun k => zL ((g 2) k)))))]) rfl (fun H locs hP hD hS => ?_)
                refine lv_aload_n hx hb dX3_advance_148 rfl (lv_at hl 1 rfl) ?_
                refine lv_dup hx hb dX3_advance_149 rfl ?_
                refine r_get F hK hP 0 11 rfl rfl in_X3 (by decide) k_277 rfl dX3_advance_150 ?_
                refine lv_iconst (v := zI 1) hx hb dX3_advance_153 rfl ?_
                refine r_iadd (v := zI ((ii 5) + 1)) F dX3_advance_154 (zI_add _ _) ?_
                refine r_put F hK hP hD hS 0 11 rfl rfl in_X3 tyX3 tyX3_ok nmX3 (by decide) k_277 rfl rfl rfl (Nat.le_of_ble_eq_true rfl) dX3_advance_155 (w1 := [(b, .inr (3, [.ref (q 0), .int (zI (ii 0)), .ref (q 3), .ref (q 4), .int (zI (ii 1)), .int (zI (ii 2)), .ref (q 1), .ref (q 2), .int (zI (ii 3)), .int (zI 21), .int (zI (ii 5)), .int (zI ((ii 5) + 1)), .long (zL (ii 7)), .int (zI (ii 8))])), ((q 0), .inl (cB, 900, .inl (fun k => zI ((g 0) k)))), ((q 1), .inl (cJ, 19, .inr (.inl (fun k => zL ((g 1) k))))), ((q 2), .inl (cJ, 10, .inr (.inl (fun k => zL ((g 2) k)))))]) rfl (fun H locs hP hD hS => ?_)
                obtain ⟨i60, e_i60⟩ : ∃ i60 : Nat → Int, i60 = fun k => [(ii 0), (ii 1), (ii 2), (ii 3), 21, (ii 5), ((ii 5) + 1), (ii 7), (ii 8)].getD k 0 := ⟨_, rfl⟩
                have e_i60_0 : i60 0 = (ii 0) := congrFun e_i60 0
                have e_i60_1 : i60 1 = (ii 1) := congrFun e_i60 1
                have e_i60_2 : i60 2 = (ii 2) := congrFun e_i60 2
                have e_i60_3 : i60 3 = (ii 3) := congrFun e_i60 3
                have e_i60_4 : i60 4 = 21 := congrFun e_i60 4
                have e_i60_5 : i60 5 = (ii 5) := congrFun e_i60 5
                have e_i60_6 : i60 6 = ((ii 5) + 1) := congrFun e_i60 6
                have e_i60_7 : i60 7 = (ii 7) := congrFun e_i60 7
                have e_i60_8 : i60 8 = (ii 8) := congrFun e_i60 8
                have hO61 : ReaderOk i60 := by refine ⟨?_, ?_, ?_, ?_, ?_, ?_⟩ <;> omega
                have hf62 := hO61
                have hP : va_P G vwCl [(b, .inr (3, [.ref (q 0), .int (zI (i60 0)), .ref (q 3), .ref (q 4), .int (zI (i60 1)), .int (zI (i60 2)), .ref (q 1), .ref (q 2), .int (zI (i60 3)), .int (zI (i60 4)), .int (zI (i60 5)), .int (zI (i60 6)), .long (zL (i60 7)), .int (zI (i60 8))])), ((q 0), .inl (cB, 900, .inl (fun k => zI ((g 0) k)))), ((q 1), .inl (cJ, 19, .inr (.inl (fun k => zL ((g 1) k))))), ((q 2), .inl (cJ, 10, .inr (.inl (fun k => zL ((g 2) k)))))] H := by subst e_i60; exact hP
                have hD : va_D A [(b, .inr (3, [.ref (q 0), .int (zI (i60 0)), .ref (q 3), .ref (q 4), .int (zI (i60 1)), .int (zI (i60 2)), .ref (q 1), .ref (q 2), .int (zI (i60 3)), .int (zI (i60 4)), .int (zI (i60 5)), .int (zI (i60 6)), .long (zL (i60 7)), .int (zI (i60 8))])), ((q 0), .inl (cB, 900, .inl (fun k => zI ((g 0) k)))), ((q 1), .inl (cJ, 19, .inr (.inl (fun k => zL ((g 1) k))))), ((q 2), .inl (cJ, 10, .inr (.inl (fun k => zL ((g 2) k)))))] := by subst e_i60; exact hD
                exact ret (i60, fun _ _ => 0) _ _ _ _ _ _ ⟨hO61, ⟨(show TkA f n c9 (i60 5) (i60 6) (i60 4) (i60 7) (i60 8) from TkA.to (TkA.sign (d := i60 4) (w := i60 7) (v := i60 8) hst hlk18 (by omega) (by unfold sSm; omega) (by unfold sDg; omega) (by omega)) (by omega) (by omega) (by omega) (by omega) (by omega)), (show i60 0 = i 0 ∧ i60 1 = i 1 ∧ i60 2 = i 2 ∧ i60 3 = i 3 from by omega)⟩⟩ (bw_subP (isC := [0, 1, 2, 3]) hP rfl) (hD.sub [0, 1, 2, 3] (by decide) rfl) hS (Nat.le_of_ble_eq_true rfl) (Nat.le_of_ble_eq_true rfl) dX3_advance_158
            · refine lv_iload_n hx hb dX3_advance_107 rfl (lv_at hl 0 rfl) ?_
              refine lv_bipush (v := zI 57) hx hb dX3_advance_108 (by decide) ?_
              refine rz_icmp_gt (tgt := 120) F (by omega) (by omega) dX3_advance_110 (by decide) (fun h110_62 => ?_) (fun h110_62 => ?_)
              · refine lv_aload_n hx hb dX3_advance_120 rfl (lv_at hl 1 rfl) ?_
                refine lv_iload_n hx hb dX3_advance_121 rfl (lv_at hl 0 rfl) ?_
                refine lv_bipush (v := zI 59) hx hb dX3_advance_122 (by decide) ?_
                refine rz_icmp_ne (tgt := 132) F (by omega) (by omega) dX3_advance_124 (by decide) (fun h124_63 => ?_) (fun h124_63 => ?_)
                · refine lv_iload_n hx hb dX3_advance_132 rfl (lv_at hl 0 rfl) ?_
                  refine lv_bipush (v := zI 44) hx hb dX3_advance_133 (by decide) ?_
                  refine rz_icmp_ne (tgt := 143) F (by omega) (by omega) dX3_advance_135 (by decide) (fun h135_64 => ?_) (fun h135_64 => ?_)
                  · refine lv_bipush (v := zI 23) hx hb dX3_advance_143 (by decide) ?_
                    refine r_put F hK hP hD hS 0 9 rfl rfl in_X3 tyX3 tyX3_ok nmX3 (by decide) k_275 rfl rfl rfl (Nat.le_of_ble_eq_true rfl) dX3_advance_145 (w1 := [(b, .inr (3, [.ref (q 0), .int (zI (ii 0)), .ref (q 3), .ref (q 4), .int (zI (ii 1)), .int (zI (ii 2)), .ref (q 1), .ref (q 2), .int (zI (ii 3)), .int (zI 23), .int (zI (ii 5)), .int (zI (ii 5)), .long (zL (ii 7)), .int (zI (ii 8))])), ((q 0), .inl (cB, 900, .inl (fun k => zI ((g 0) k)))), ((q 1), .inl (cJ, 19, .inr (.inl (fun k => zL ((g 1) k))))), ((q 2), .inl (cJ, 10, .inr (.inl (fun k => zL ((g 2) k)))))]) rfl (fun H locs hP hD hS => ?_)
                    refine lv_aload_n hx hb dX3_advance_148 rfl (lv_at hl 1 rfl) ?_
                    refine lv_dup hx hb dX3_advance_149 rfl ?_
                    refine r_get F hK hP 0 11 rfl rfl in_X3 (by decide) k_277 rfl dX3_advance_150 ?_
                    refine lv_iconst (v := zI 1) hx hb dX3_advance_153 rfl ?_
                    refine r_iadd (v := zI ((ii 5) + 1)) F dX3_advance_154 (zI_add _ _) ?_
                    refine r_put F hK hP hD hS 0 11 rfl rfl in_X3 tyX3 tyX3_ok nmX3 (by decide) k_277 rfl rfl rfl (Nat.le_of_ble_eq_true rfl) dX3_advance_155 (w1 := [(b, .inr (3, [.ref (q 0), .int (zI (ii 0)), .ref (q 3), .ref (q 4), .int (zI (ii 1)), .int (zI (ii 2)), .ref (q 1), .ref (q 2), .int (zI (ii 3)), .int (zI 23), .int (zI (ii 5)), .int (zI ((ii 5) + 1)), .long (zL (ii 7)), .int (zI (ii 8))])), ((q 0), .inl (cB, 900, .inl (fun k => zI ((g 0) k)))), ((q 1), .inl (cJ, 19, .inr (.inl (fun k => zL ((g 1) k))))), ((q 2), .inl (cJ, 10, .inr (.inl (fun k => zL ((g 2) k)))))]) rfl (fun H locs hP hD hS => ?_)
                    obtain ⟨i66, e_i66⟩ : ∃ i66 : Nat → Int, i66 = fun k => [(ii 0), (ii 1), (ii 2), (ii 3), 23, (ii 5), ((ii 5) + 1), (ii 7), (ii 8)].getD k 0 := ⟨_, rfl⟩
                    have e_i66_0 : i66 0 = (ii 0) := congrFun e_i66 0
                    have e_i66_1 : i66 1 = (ii 1) := congrFun e_i66 1
                    have e_i66_2 : i66 2 = (ii 2) := congrFun e_i66 2
                    have e_i66_3 : i66 3 = (ii 3) := congrFun e_i66 3
                    have e_i66_4 : i66 4 = 23 := congrFun e_i66 4
                    have e_i66_5 : i66 5 = (ii 5) := congrFun e_i66 5
                    have e_i66_6 : i66 6 = ((ii 5) + 1) := congrFun e_i66 6
                    have e_i66_7 : i66 7 = (ii 7) := congrFun e_i66 7
                    have e_i66_8 : i66 8 = (ii 8) := congrFun e_i66 8
                    have hO67 : ReaderOk i66 := by refine ⟨?_, ?_, ?_, ?_, ?_, ?_⟩ <;> omega
                    have hf68 := hO67
                    have hP : va_P G vwCl [(b, .inr (3, [.ref (q 0), .int (zI (i66 0)), .ref (q 3), .ref (q 4), .int (zI (i66 1)), .int (zI (i66 2)), .ref (q 1), .ref (q 2), .int (zI (i66 3)), .int (zI (i66 4)), .int (zI (i66 5)), .int (zI (i66 6)), .long (zL (i66 7)), .int (zI (i66 8))])), ((q 0), .inl (cB, 900, .inl (fun k => zI ((g 0) k)))), ((q 1), .inl (cJ, 19, .inr (.inl (fun k => zL ((g 1) k))))), ((q 2), .inl (cJ, 10, .inr (.inl (fun k => zL ((g 2) k)))))] H := by subst e_i66; exact hP
                    have hD : va_D A [(b, .inr (3, [.ref (q 0), .int (zI (i66 0)), .ref (q 3), .ref (q 4), .int (zI (i66 1)), .int (zI (i66 2)), .ref (q 1), .ref (q 2), .int (zI (i66 3)), .int (zI (i66 4)), .int (zI (i66 5)), .int (zI (i66 6)), .long (zL (i66 7)), .int (zI (i66 8))])), ((q 0), .inl (cB, 900, .inl (fun k => zI ((g 0) k)))), ((q 1), .inl (cJ, 19, .inr (.inl (fun k => zL ((g 1) k))))), ((q 2), .inl (cJ, 10, .inr (.inl (fun k => zL ((g 2) k)))))] := by subst e_i66; exact hD
                    exact ret (i66, fun _ _ => 0) _ _ _ _ _ _ ⟨hO67, ⟨(show TkA f n c9 (i66 5) (i66 6) (i66 4) (i66 7) (i66 8) from TkA.to (TkA.sign (d := i66 4) (w := i66 7) (v := i66 8) hst hlk18 (by omega) (by unfold sSm; omega) (by unfold sDg; omega) (by omega)) (by omega) (by omega) (by omega) (by omega) (by omega)), (show i66 0 = i 0 ∧ i66 1 = i 1 ∧ i66 2 = i 2 ∧ i66 3 = i 3 from by omega)⟩⟩ (bw_subP (isC := [0, 1, 2, 3]) hP rfl) (hD.sub [0, 1, 2, 3] (by decide) rfl) hS (Nat.le_of_ble_eq_true rfl) (Nat.le_of_ble_eq_true rfl) dX3_advance_158
                  · refine lv_bipush (v := zI 22) hx hb dX3_advance_138 (by decide) ?_
                    refine lv_goto (tgt := 145) hx hb dX3_advance_140 (by decide) ?_
                    refine r_put F hK hP hD hS 0 9 rfl rfl in_X3 tyX3 tyX3_ok nmX3 (by decide) k_275 rfl rfl rfl (Nat.le_of_ble_eq_true rfl) dX3_advance_145 (w1 := [(b, .inr (3, [.ref (q 0), .int (zI (ii 0)), .ref (q 3), .ref (q 4), .int (zI (ii 1)), .int (zI (ii 2)), .ref (q 1), .ref (q 2), .int (zI (ii 3)), .int (zI 22), .int (zI (ii 5)), .int (zI (ii 5)), .long (zL (ii 7)), .int (zI (ii 8))])), ((q 0), .inl (cB, 900, .inl (fun k => zI ((g 0) k)))), ((q 1), .inl (cJ, 19, .inr (.inl (fun k => zL ((g 1) k))))), ((q 2), .inl (cJ, 10, .inr (.inl (fun k => zL ((g 2) k)))))]) rfl (fun H locs hP hD hS => ?_)
                    refine lv_aload_n hx hb dX3_advance_148 rfl (lv_at hl 1 rfl) ?_
                    refine lv_dup hx hb dX3_advance_149 rfl ?_
                    refine r_get F hK hP 0 11 rfl rfl in_X3 (by decide) k_277 rfl dX3_advance_150 ?_
                    refine lv_iconst (v := zI 1) hx hb dX3_advance_153 rfl ?_
                    refine r_iadd (v := zI ((ii 5) + 1)) F dX3_advance_154 (zI_add _ _) ?_
                    refine r_put F hK hP hD hS 0 11 rfl rfl in_X3 tyX3 tyX3_ok nmX3 (by decide) k_277 rfl rfl rfl (Nat.le_of_ble_eq_true rfl) dX3_advance_155 (w1 := [(b, .inr (3, [.ref (q 0), .int (zI (ii 0)), .ref (q 3), .ref (q 4), .int (zI (ii 1)), .int (zI (ii 2)), .ref (q 1), .ref (q 2), .int (zI (ii 3)), .int (zI 22), .int (zI (ii 5)), .int (zI ((ii 5) + 1)), .long (zL (ii 7)), .int (zI (ii 8))])), ((q 0), .inl (cB, 900, .inl (fun k => zI ((g 0) k)))), ((q 1), .inl (cJ, 19, .inr (.inl (fun k => zL ((g 1) k))))), ((q 2), .inl (cJ, 10, .inr (.inl (fun k => zL ((g 2) k)))))]) rfl (fun H locs hP hD hS => ?_)
                    obtain ⟨i69, e_i69⟩ : ∃ i69 : Nat → Int, i69 = fun k => [(ii 0), (ii 1), (ii 2), (ii 3), 22, (ii 5), ((ii 5) + 1), (ii 7), (ii 8)].getD k 0 := ⟨_, rfl⟩
                    have e_i69_0 : i69 0 = (ii 0) := congrFun e_i69 0
                    have e_i69_1 : i69 1 = (ii 1) := congrFun e_i69 1
                    have e_i69_2 : i69 2 = (ii 2) := congrFun e_i69 2
                    have e_i69_3 : i69 3 = (ii 3) := congrFun e_i69 3
                    have e_i69_4 : i69 4 = 22 := congrFun e_i69 4
                    have e_i69_5 : i69 5 = (ii 5) := congrFun e_i69 5
                    have e_i69_6 : i69 6 = ((ii 5) + 1) := congrFun e_i69 6
                    have e_i69_7 : i69 7 = (ii 7) := congrFun e_i69 7
                    have e_i69_8 : i69 8 = (ii 8) := congrFun e_i69 8
                    have hO70 : ReaderOk i69 := by refine ⟨?_, ?_, ?_, ?_, ?_, ?_⟩ <;> omega
                    have hf71 := hO70
                    have hP : va_P G vwCl [(b, .inr (3, [.ref (q 0), .int (zI (i69 0)), .ref (q 3), .ref (q 4), .int (zI (i69 1)), .int (zI (i69 2)), .ref (q 1), .ref (q 2), .int (zI (i69 3)), .int (zI (i69 4)), .int (zI (i69 5)), .int (zI (i69 6)), .long (zL (i69 7)), .int (zI (i69 8))])), ((q 0), .inl (cB, 900, .inl (fun k => zI ((g 0) k)))), ((q 1), .inl (cJ, 19, .inr (.inl (fun k => zL ((g 1) k))))), ((q 2), .inl (cJ, 10, .inr (.inl (fun k => zL ((g 2) k)))))] H := by subst e_i69; exact hP
                    have hD : va_D A [(b, .inr (3, [.ref (q 0), .int (zI (i69 0)), .ref (q 3), .ref (q 4), .int (zI (i69 1)), .int (zI (i69 2)), .ref (q 1), .ref (q 2), .int (zI (i69 3)), .int (zI (i69 4)), .int (zI (i69 5)), .int (zI (i69 6)), .long (zL (i69 7)), .int (zI (i69 8))])), ((q 0), .inl (cB, 900, .inl (fun k => zI ((g 0) k)))), ((q 1), .inl (cJ, 19, .inr (.inl (fun k => zL ((g 1) k))))), ((q 2), .inl (cJ, 10, .inr (.inl (fun k => zL ((g 2) k)))))] := by subst e_i69; exact hD
                    exact ret (i69, fun _ _ => 0) _ _ _ _ _ _ ⟨hO70, ⟨(show TkA f n c9 (i69 5) (i69 6) (i69 4) (i69 7) (i69 8) from TkA.to (TkA.sign (d := i69 4) (w := i69 7) (v := i69 8) hst hlk18 (by omega) (by unfold sSm; omega) (by unfold sDg; omega) (by omega)) (by omega) (by omega) (by omega) (by omega) (by omega)), (show i69 0 = i 0 ∧ i69 1 = i 1 ∧ i69 2 = i 2 ∧ i69 3 = i 3 from by omega)⟩⟩ (bw_subP (isC := [0, 1, 2, 3]) hP rfl) (hD.sub [0, 1, 2, 3] (by decide) rfl) hS (Nat.le_of_ble_eq_true rfl) (Nat.le_of_ble_eq_true rfl) dX3_advance_158
                · refine lv_bipush (v := zI 21) hx hb dX3_advance_127 (by decide) ?_
                  refine lv_goto (tgt := 145) hx hb dX3_advance_129 (by decide) ?_
                  refine r_put F hK hP hD hS 0 9 rfl rfl in_X3 tyX3 tyX3_ok nmX3 (by decide) k_275 rfl rfl rfl (Nat.le_of_ble_eq_true rfl) dX3_advance_145 (w1 := [(b, .inr (3, [.ref (q 0), .int (zI (ii 0)), .ref (q 3), .ref (q 4), .int (zI (ii 1)), .int (zI (ii 2)), .ref (q 1), .ref (q 2), .int (zI (ii 3)), .int (zI 21), .int (zI (ii 5)), .int (zI (ii 5)), .long (zL (ii 7)), .int (zI (ii 8))])), ((q 0), .inl (cB, 900, .inl (fun k => zI ((g 0) k)))), ((q 1), .inl (cJ, 19, .inr (.inl (fun k => zL ((g 1) k))))), ((q 2), .inl (cJ, 10, .inr (.inl (fun k => zL ((g 2) k)))))]) rfl (fun H locs hP hD hS => ?_)
                  refine lv_aload_n hx hb dX3_advance_148 rfl (lv_at hl 1 rfl) ?_
                  refine lv_dup hx hb dX3_advance_149 rfl ?_
                  refine r_get F hK hP 0 11 rfl rfl in_X3 (by decide) k_277 rfl dX3_advance_150 ?_
                  refine lv_iconst (v := zI 1) hx hb dX3_advance_153 rfl ?_
                  refine r_iadd (v := zI ((ii 5) + 1)) F dX3_advance_154 (zI_add _ _) ?_
                  refine r_put F hK hP hD hS 0 11 rfl rfl in_X3 tyX3 tyX3_ok nmX3 (by decide) k_277 rfl rfl rfl (Nat.le_of_ble_eq_true rfl) dX3_advance_155 (w1 := [(b, .inr (3, [.ref (q 0), .int (zI (ii 0)), .ref (q 3), .ref (q 4), .int (zI (ii 1)), .int (zI (ii 2)), .ref (q 1), .ref (q 2), .int (zI (ii 3)), .int (zI 21), .int (zI (ii 5)), .int (zI ((ii 5) + 1)), .long (zL (ii 7)), .int (zI (ii 8))])), ((q 0), .inl (cB, 900, .inl (fun k => zI ((g 0) k)))), ((q 1), .inl (cJ, 19, .inr (.inl (fun k => zL ((g 1) k))))), ((q 2), .inl (cJ, 10, .inr (.inl (fun k => zL ((g 2) k)))))]) rfl (fun H locs hP hD hS => ?_)
                  obtain ⟨i72, e_i72⟩ : ∃ i72 : Nat → Int, i72 = fun k => [(ii 0), (ii 1), (ii 2), (ii 3), 21, (ii 5), ((ii 5) + 1), (ii 7), (ii 8)].getD k 0 := ⟨_, rfl⟩
                  have e_i72_0 : i72 0 = (ii 0) := congrFun e_i72 0
                  have e_i72_1 : i72 1 = (ii 1) := congrFun e_i72 1
                  have e_i72_2 : i72 2 = (ii 2) := congrFun e_i72 2
                  have e_i72_3 : i72 3 = (ii 3) := congrFun e_i72 3
                  have e_i72_4 : i72 4 = 21 := congrFun e_i72 4
                  have e_i72_5 : i72 5 = (ii 5) := congrFun e_i72 5
                  have e_i72_6 : i72 6 = ((ii 5) + 1) := congrFun e_i72 6
                  have e_i72_7 : i72 7 = (ii 7) := congrFun e_i72 7
                  have e_i72_8 : i72 8 = (ii 8) := congrFun e_i72 8
                  have hO73 : ReaderOk i72 := by refine ⟨?_, ?_, ?_, ?_, ?_, ?_⟩ <;> omega
                  have hf74 := hO73
                  have hP : va_P G vwCl [(b, .inr (3, [.ref (q 0), .int (zI (i72 0)), .ref (q 3), .ref (q 4), .int (zI (i72 1)), .int (zI (i72 2)), .ref (q 1), .ref (q 2), .int (zI (i72 3)), .int (zI (i72 4)), .int (zI (i72 5)), .int (zI (i72 6)), .long (zL (i72 7)), .int (zI (i72 8))])), ((q 0), .inl (cB, 900, .inl (fun k => zI ((g 0) k)))), ((q 1), .inl (cJ, 19, .inr (.inl (fun k => zL ((g 1) k))))), ((q 2), .inl (cJ, 10, .inr (.inl (fun k => zL ((g 2) k)))))] H := by subst e_i72; exact hP
                  have hD : va_D A [(b, .inr (3, [.ref (q 0), .int (zI (i72 0)), .ref (q 3), .ref (q 4), .int (zI (i72 1)), .int (zI (i72 2)), .ref (q 1), .ref (q 2), .int (zI (i72 3)), .int (zI (i72 4)), .int (zI (i72 5)), .int (zI (i72 6)), .long (zL (i72 7)), .int (zI (i72 8))])), ((q 0), .inl (cB, 900, .inl (fun k => zI ((g 0) k)))), ((q 1), .inl (cJ, 19, .inr (.inl (fun k => zL ((g 1) k))))), ((q 2), .inl (cJ, 10, .inr (.inl (fun k => zL ((g 2) k)))))] := by subst e_i72; exact hD
                  exact ret (i72, fun _ _ => 0) _ _ _ _ _ _ ⟨hO73, ⟨(show TkA f n c9 (i72 5) (i72 6) (i72 4) (i72 7) (i72 8) from TkA.to (TkA.sign (d := i72 4) (w := i72 7) (v := i72 8) hst hlk18 (by omega) (by unfold sSm; omega) (by unfold sDg; omega) (by omega)) (by omega) (by omega) (by omega) (by omega) (by omega)), (show i72 0 = i 0 ∧ i72 1 = i 1 ∧ i72 2 = i 2 ∧ i72 3 = i 3 from by omega)⟩⟩ (bw_subP (isC := [0, 1, 2, 3]) hP rfl) (hD.sub [0, 1, 2, 3] (by decide) rfl) hS (Nat.le_of_ble_eq_true rfl) (Nat.le_of_ble_eq_true rfl) dX3_advance_158
              · refine lv_aload_n hx hb dX3_advance_113 rfl (lv_at hl 1 rfl) ?_
                obtain ⟨i75, e_i75⟩ : ∃ i75 : Nat → Int, i75 = fun k => [(ii 0), (ii 1), (ii 2), (ii 3), (ii 4), (ii 5), (ii 5), (ii 7), (ii 8)].getD k 0 := ⟨_, rfl⟩
                have e_i75_0 : i75 0 = (ii 0) := congrFun e_i75 0
                have e_i75_1 : i75 1 = (ii 1) := congrFun e_i75 1
                have e_i75_2 : i75 2 = (ii 2) := congrFun e_i75 2
                have e_i75_3 : i75 3 = (ii 3) := congrFun e_i75 3
                have e_i75_4 : i75 4 = (ii 4) := congrFun e_i75 4
                have e_i75_5 : i75 5 = (ii 5) := congrFun e_i75 5
                have e_i75_6 : i75 6 = (ii 5) := congrFun e_i75 6
                have e_i75_7 : i75 7 = (ii 7) := congrFun e_i75 7
                have e_i75_8 : i75 8 = (ii 8) := congrFun e_i75 8
                have hO76 : ReaderOk i75 := by refine ⟨?_, ?_, ?_, ?_, ?_, ?_⟩ <;> omega
                have hf77 := hO76
                have hP : va_P G vwCl [(b, .inr (3, [.ref (q 0), .int (zI (i75 0)), .ref (q 3), .ref (q 4), .int (zI (i75 1)), .int (zI (i75 2)), .ref (q 1), .ref (q 2), .int (zI (i75 3)), .int (zI (i75 4)), .int (zI (i75 5)), .int (zI (i75 6)), .long (zL (i75 7)), .int (zI (i75 8))])), ((q 0), .inl (cB, 900, .inl (fun k => zI ((g 0) k)))), ((q 1), .inl (cJ, 19, .inr (.inl (fun k => zL ((g 1) k))))), ((q 2), .inl (cJ, 10, .inr (.inl (fun k => zL ((g 2) k)))))] H := by subst e_i75; exact hP
                have hD : va_D A [(b, .inr (3, [.ref (q 0), .int (zI (i75 0)), .ref (q 3), .ref (q 4), .int (zI (i75 1)), .int (zI (i75 2)), .ref (q 1), .ref (q 2), .int (zI (i75 3)), .int (zI (i75 4)), .int (zI (i75 5)), .int (zI (i75 6)), .long (zL (i75 7)), .int (zI (i75 8))])), ((q 0), .inl (cB, 900, .inl (fun k => zI ((g 0) k)))), ((q 1), .inl (cJ, 19, .inr (.inl (fun k => zL ((g 1) k))))), ((q 2), .inl (cJ, 10, .inr (.inl (fun k => zL ((g 2) k)))))] := by subst e_i75; exact hD
                refine r_callVv (As := []) (rest := []) (wr := []) F hK hP hD hS hA hO hE (c_X3x_lookAtWhole hO b q i75 g hO76 f n hTx hRs (by omega) (ii 5) (by omega) (by omega)) k_567 kv_X3_lookAtWhole 0 rfl (by decide +kernel) ⟨Nat.le_of_ble_eq_true rfl, Nat.le_of_ble_eq_true rfl⟩ [0, 1, 2, 3] [] rfl rfl (by decide) (by decide) (by decide) 0 3 rfl rfl rfl hl.1 rfl (Nat.le_of_ble_eq_true rfl) dX3_advance_114 ⟨Nat.le_of_ble_eq_true rfl, Nat.le_of_ble_eq_true rfl⟩ (w1 := fun u78 => [(b, .inr (3, [.ref (q 0), .int (zI (u78.1 0)), .ref (q 3), .ref (q 4), .int (zI (u78.1 1)), .int (zI (u78.1 2)), .ref (q 1), .ref (q 2), .int (zI (u78.1 3)), .int (zI (u78.1 4)), .int (zI (u78.1 5)), .int (zI (u78.1 6)), .long (zL (u78.1 7)), .int (zI (u78.1 8))])), ((q 0), .inl (cB, 900, .inl (fun k => zI ((g 0) k)))), ((q 1), .inl (cJ, 19, .inr (.inl (fun k => zL ((g 1) k))))), ((q 2), .inl (cJ, 10, .inr (.inl (fun k => zL ((g 2) k)))))]) (fun _ => rfl) (fun  u78 H locs hp79 hP hD hS => ?_)
                have hf80 := hp79.1
                refine lv_goto (tgt := 158) hx hb dX3_advance_117 (by decide) ?_
                exact ret (u78.1, fun _ _ => 0) _ _ _ _ _ _ ⟨hp79.1, ⟨(show TkA f n c9 (u78.1 5) (u78.1 6) (u78.1 4) (u78.1 7) (u78.1 8) from TkA.to (TkA.whole (w := u78.1 7) hst (by unfold sDg; rw [hlk18]; omega) hp79.2.1.2 hp79.2.2.1.1 hp79.2.2.1.2) (by omega) (by omega) (by omega) (by omega) (by omega)), (show u78.1 0 = i 0 ∧ u78.1 1 = i 1 ∧ u78.1 2 = i 2 ∧ u78.1 3 = i 3 from by omega)⟩⟩ (bw_subP (isC := [0, 1, 2, 3]) hP rfl) (hD.sub [0, 1, 2, 3] (by decide) rfl) hS (Nat.le_of_ble_eq_true rfl) (Nat.le_of_ble_eq_true rfl) dX3_advance_158
          · refine lv_aload_n hx hb dX3_advance_94 rfl (lv_at hl 1 rfl) ?_
            obtain ⟨i81, e_i81⟩ : ∃ i81 : Nat → Int, i81 = fun k => [(ii 0), (ii 1), (ii 2), (ii 3), (ii 4), (ii 5), (ii 5), (ii 7), (ii 8)].getD k 0 := ⟨_, rfl⟩
            have e_i81_0 : i81 0 = (ii 0) := congrFun e_i81 0
            have e_i81_1 : i81 1 = (ii 1) := congrFun e_i81 1
            have e_i81_2 : i81 2 = (ii 2) := congrFun e_i81 2
            have e_i81_3 : i81 3 = (ii 3) := congrFun e_i81 3
            have e_i81_4 : i81 4 = (ii 4) := congrFun e_i81 4
            have e_i81_5 : i81 5 = (ii 5) := congrFun e_i81 5
            have e_i81_6 : i81 6 = (ii 5) := congrFun e_i81 6
            have e_i81_7 : i81 7 = (ii 7) := congrFun e_i81 7
            have e_i81_8 : i81 8 = (ii 8) := congrFun e_i81 8
            have hO82 : ReaderOk i81 := by refine ⟨?_, ?_, ?_, ?_, ?_, ?_⟩ <;> omega
            have hf83 := hO82
            have hP : va_P G vwCl [(b, .inr (3, [.ref (q 0), .int (zI (i81 0)), .ref (q 3), .ref (q 4), .int (zI (i81 1)), .int (zI (i81 2)), .ref (q 1), .ref (q 2), .int (zI (i81 3)), .int (zI (i81 4)), .int (zI (i81 5)), .int (zI (i81 6)), .long (zL (i81 7)), .int (zI (i81 8))])), ((q 0), .inl (cB, 900, .inl (fun k => zI ((g 0) k)))), ((q 1), .inl (cJ, 19, .inr (.inl (fun k => zL ((g 1) k))))), ((q 2), .inl (cJ, 10, .inr (.inl (fun k => zL ((g 2) k)))))] H := by subst e_i81; exact hP
            have hD : va_D A [(b, .inr (3, [.ref (q 0), .int (zI (i81 0)), .ref (q 3), .ref (q 4), .int (zI (i81 1)), .int (zI (i81 2)), .ref (q 1), .ref (q 2), .int (zI (i81 3)), .int (zI (i81 4)), .int (zI (i81 5)), .int (zI (i81 6)), .long (zL (i81 7)), .int (zI (i81 8))])), ((q 0), .inl (cB, 900, .inl (fun k => zI ((g 0) k)))), ((q 1), .inl (cJ, 19, .inr (.inl (fun k => zL ((g 1) k))))), ((q 2), .inl (cJ, 10, .inr (.inl (fun k => zL ((g 2) k)))))] := by subst e_i81; exact hD
            refine r_callVv (As := []) (rest := []) (wr := []) F hK hP hD hS hA hO hE (c_X3x_lookAtWord hO b q i81 g hO82 f n hTx hRs (by omega) (ii 5) (by omega) (by omega) (by omega)) k_563 kv_X3_lookAtWord 0 rfl (by decide +kernel) ⟨Nat.le_of_ble_eq_true rfl, Nat.le_of_ble_eq_true rfl⟩ [0, 1, 2, 3] [] rfl rfl (by decide) (by decide) (by decide) 0 3 rfl rfl rfl hl.1 rfl (Nat.le_of_ble_eq_true rfl) dX3_advance_95 ⟨Nat.le_of_ble_eq_true rfl, Nat.le_of_ble_eq_true rfl⟩ (w1 := fun u84 => [(b, .inr (3, [.ref (q 0), .int (zI (u84.1 0)), .ref (q 3), .ref (q 4), .int (zI (u84.1 1)), .int (zI (u84.1 2)), .ref (q 1), .ref (q 2), .int (zI (u84.1 3)), .int (zI (u84.1 4)), .int (zI (u84.1 5)), .int (zI (u84.1 6)), .long (zL (u84.1 7)), .int (zI (u84.1 8))])), ((q 0), .inl (cB, 900, .inl (fun k => zI ((g 0) k)))), ((q 1), .inl (cJ, 19, .inr (.inl (fun k => zL ((g 1) k))))), ((q 2), .inl (cJ, 10, .inr (.inl (fun k => zL ((g 2) k)))))]) (fun _ => rfl) (fun  u84 H locs hp85 hP hD hS => ?_)
            have hf86 := hp85.1
            refine lv_goto (tgt := 158) hx hb dX3_advance_98 (by decide) ?_
            exact ret (u84.1, fun _ _ => 0) _ _ _ _ _ _ ⟨hp85.1, ⟨(show TkA f n c9 (u84.1 5) (u84.1 6) (u84.1 4) (u84.1 7) (u84.1 8) from TkA.to (TkA.word (v := u84.1 8) (by omega) hst (by unfold sSm; rw [hlk18]; omega) hp85.2.1.2 hp85.2.2.1.1 hp85.2.2.1.2) (by omega) (by omega) (by omega) (by omega) (by omega)), (show u84.1 0 = i 0 ∧ u84.1 1 = i 1 ∧ u84.1 2 = i 2 ∧ u84.1 3 = i 3 from by omega)⟩⟩ (bw_subP (isC := [0, 1, 2, 3]) hP rfl) (hD.sub [0, 1, 2, 3] (by decide) rfl) hS (Nat.le_of_ble_eq_true rfl) (Nat.le_of_ble_eq_true rfl) dX3_advance_158
      · refine lv_aload_n hx hb dX3_advance_33 rfl (lv_at hl 0 rfl) ?_
        have hS1 : sSp (lk f n (ii 5)) := by unfold sSp; rw [hlk13]; omega
        refine lv_dup hx hb dX3_advance_34 rfl ?_
        refine r_get F hK hP 0 10 rfl rfl in_X3 (by decide) k_276 rfl dX3_advance_35 ?_
        refine lv_iconst (v := zI 1) hx hb dX3_advance_38 rfl ?_
        refine r_iadd (v := zI ((ii 5) + 1)) F dX3_advance_39 (zI_add _ _) ?_
        refine r_put F hK hP hD hS 0 10 rfl rfl in_X3 tyX3 tyX3_ok nmX3 (by decide) k_276 rfl rfl rfl (Nat.le_of_ble_eq_true rfl) dX3_advance_40 (w1 := [(b, .inr (3, [.ref (q 0), .int (zI (ii 0)), .ref (q 3), .ref (q 4), .int (zI (ii 1)), .int (zI (ii 2)), .ref (q 1), .ref (q 2), .int (zI (ii 3)), .int (zI (ii 4)), .int (zI ((ii 5) + 1)), .int (zI (ii 6)), .long (zL (ii 7)), .int (zI (ii 8))])), ((q 0), .inl (cB, 900, .inl (fun k => zI ((g 0) k)))), ((q 1), .inl (cJ, 19, .inr (.inl (fun k => zL ((g 1) k))))), ((q 2), .inl (cJ, 10, .inr (.inl (fun k => zL ((g 2) k)))))]) rfl (fun H locs hP hD hS => ?_)
        refine lv_goto (tgt := 8) hx hb dX3_advance_43 (by decide) ?_
        obtain ⟨i87, e_i87⟩ : ∃ i87 : Nat → Int, i87 = fun k => [(ii 0), (ii 1), (ii 2), (ii 3), (ii 4), ((ii 5) + 1), (ii 6), (ii 7), (ii 8)].getD k 0 := ⟨_, rfl⟩
        have e_i87_0 : i87 0 = (ii 0) := congrFun e_i87 0
        have e_i87_1 : i87 1 = (ii 1) := congrFun e_i87 1
        have e_i87_2 : i87 2 = (ii 2) := congrFun e_i87 2
        have e_i87_3 : i87 3 = (ii 3) := congrFun e_i87 3
        have e_i87_4 : i87 4 = (ii 4) := congrFun e_i87 4
        have e_i87_5 : i87 5 = ((ii 5) + 1) := congrFun e_i87 5
        have e_i87_6 : i87 6 = (ii 6) := congrFun e_i87 6
        have e_i87_7 : i87 7 = (ii 7) := congrFun e_i87 7
        have e_i87_8 : i87 8 = (ii 8) := congrFun e_i87 8
        have hO88 : ReaderOk i87 := by refine ⟨?_, ?_, ?_, ?_, ?_, ?_⟩ <;> omega
        have hf89 := hO88
        have hP : va_P G vwCl [(b, .inr (3, [.ref (q 0), .int (zI (i87 0)), .ref (q 3), .ref (q 4), .int (zI (i87 1)), .int (zI (i87 2)), .ref (q 1), .ref (q 2), .int (zI (i87 3)), .int (zI (i87 4)), .int (zI (i87 5)), .int (zI (i87 6)), .long (zL (i87 7)), .int (zI (i87 8))])), ((q 0), .inl (cB, 900, .inl (fun k => zI ((g 0) k)))), ((q 1), .inl (cJ, 19, .inr (.inl (fun k => zL ((g 1) k))))), ((q 2), .inl (cJ, 10, .inr (.inl (fun k => zL ((g 2) k)))))] H := by subst e_i87; exact hP
        have hD : va_D A [(b, .inr (3, [.ref (q 0), .int (zI (i87 0)), .ref (q 3), .ref (q 4), .int (zI (i87 1)), .int (zI (i87 2)), .ref (q 1), .ref (q 2), .int (zI (i87 3)), .int (zI (i87 4)), .int (zI (i87 5)), .int (zI (i87 6)), .long (zL (i87 7)), .int (zI (i87 8))])), ((q 0), .inl (cB, 900, .inl (fun k => zI ((g 0) k)))), ((q 1), .inl (cJ, 19, .inr (.inl (fun k => zL ((g 1) k))))), ((q 2), .inl (cJ, 10, .inr (.inl (fun k => zL ((g 2) k)))))] := by subst e_i87; exact hD
        exact ih1 i87 _ _ (by omega) (by omega) hO88 (show ∀ j : Int, c9 ≤ j → j < i87 5 → sSp (lk f n j) from by rw [show i87 5 = ii 5 + 1 by omega]; exact run_step hrun hS1) hP hD hS ls (lv_sub hl [0] rfl)
