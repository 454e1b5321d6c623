section ZE
variable {p : Program} {l : Launch} {e : Env} {R : Room} {s : State} {m : MethodId} {args : Array Value} {below : List Frame} {meth : Method} {c : Code} {H : Heap} {locs : List Loc} {cells slots : Nat} {Q : State → Prop}
variable {cc : ByteArray} {nL : Nat} {own : String} {rest : List Value} {pc : Nat} {ls : Array Slot}
theorem rz_lcmpE (F : CallFix p m c cc nL s args bw_T own) {x y : Int64} (hdg : decode cc pc = .ok (.lcmp, 1)) (kk : ∀ z : Int, (z = 1 ∨ z = 0 ∨ z = -1) → (z = 0 ↔ x = y) → W p l e R s m args below meth c H locs cells slots Q (F0 m (pc + 1) ls (.int (zI z) :: rest))) : W p l e R s m args below meth c H locs cells slots Q (F0 m pc ls (.long y :: .long x :: rest)) := by
  have hexec := F.1
  have hb := F.2.1
  intro T hT X
  by_cases h1 : x > y
  · have n1 : ¬ x = y := fun q => by subst q; exact absurd h1 (Int64.lt_irrefl)
    obtain ⟨t, a, b⟩ := kk 1 (Or.inl rfl) ⟨fun q => absurd q (by decide), fun q => absurd q n1⟩ T hT X
    refine ⟨t, ?_, b⟩
    jvm_step X.here [X.here.top, hexec, hb, hdg, h1]
    exact a
  · by_cases h2 : x = y
    · obtain ⟨t, a, b⟩ := kk 0 (Or.inr (Or.inl rfl)) ⟨fun _ => h2, fun _ => rfl⟩ T hT X
      refine ⟨t, ?_, b⟩
      jvm_step X.here [X.here.top, hexec, hb, hdg, h1, h2]
      exact a
    · obtain ⟨t, a, b⟩ := kk (-1) (Or.inr (Or.inr rfl)) ⟨fun q => absurd q (by decide), fun q => absurd q h2⟩ T hT X
      refine ⟨t, ?_, b⟩
      jvm_step X.here [X.here.top, hexec, hb, hdg, h1, h2]
      exact a
end ZE
def Named (n : Int) (f : Nat → Int) (w : Int) : Prop := ∃ k : Nat, (k : Int) < n ∧ zL (f k) = zL w
theorem nm_step {f : Nat → Int} {w v : Int} (h : ∀ k : Nat, (k : Int) < v → zL (f k) ≠ zL w) (e : zL (f v.toNat) ≠ zL w) : ∀ k : Nat, (k : Int) < v + 1 → zL (f k) ≠ zL w := by
  intro k hk
  by_cases q : k = v.toNat
  · rw [q]; exact e
  · exact h k (by omega)
theorem dX3_findName_0 : decode cX3_findName 0 = .ok (.iconst 0, 1) := by decide +kernel
theorem dX3_findName_1 : decode cX3_findName 1 = .ok (.istore_n 1, 1) := by decide +kernel
theorem dX3_findName_2 : decode cX3_findName 2 = .ok (.iload_n 1, 1) := by decide +kernel
theorem dX3_findName_3 : decode cX3_findName 3 = .ok (.aload_n 0, 1) := by decide +kernel
theorem dX3_findName_4 : decode cX3_findName 4 = .ok (.getfield 22, 3) := by decide +kernel
theorem k_264 : Cond.fieldLink RX3 22 "BurntWays$Reader" "net" "LBurntWays$Net;" ∈ bw_T := bw_m 264 (by decide +kernel) rfl
theorem dX3_findName_7 : decode cX3_findName 7 = .ok (.getfield 102, 3) := by decide +kernel
theorem k_146 : Cond.fieldLink RX3 102 "BurntWays$Net" "lines" "I" ∈ bw_T := bw_m 146 (by decide +kernel) rfl
theorem dX3_findName_10 : decode cX3_findName 10 = .ok (.if_icmp .ge 25, 3) := by decide +kernel
theorem dX3_findName_35 : decode cX3_findName 35 = .ok (.iconst (-1), 1) := by decide +kernel
theorem dX3_findName_36 : decode cX3_findName 36 = .ok (.ireturn, 1) := by decide +kernel
theorem dX3_findName_13 : decode cX3_findName 13 = .ok (.aload_n 0, 1) := by decide +kernel
theorem dX3_findName_14 : decode cX3_findName 14 = .ok (.getfield 43, 3) := by decide +kernel
theorem k_273 : Cond.fieldLink RX3 43 "BurntWays$Reader" "names" "[J" ∈ bw_T := bw_m 273 (by decide +kernel) rfl
theorem dX3_findName_17 : decode cX3_findName 17 = .ok (.iload_n 1, 1) := by decide +kernel
theorem dX3_findName_18 : decode cX3_findName 18 = .ok (.laload, 1) := by decide +kernel
theorem dX3_findName_19 : decode cX3_findName 19 = .ok (.aload_n 0, 1) := by decide +kernel
theorem dX3_findName_20 : decode cX3_findName 20 = .ok (.getfield 58, 3) := by decide +kernel
theorem dX3_findName_23 : decode cX3_findName 23 = .ok (.lcmp, 1) := by decide +kernel
theorem dX3_findName_24 : decode cX3_findName 24 = .ok (.ifCond .ne 5, 3) := by decide +kernel
theorem dX3_findName_29 : decode cX3_findName 29 = .ok (.iinc 1 1, 3) := by decide +kernel
theorem dX3_findName_32 : decode cX3_findName 32 = .ok (.goto (-30), 3) := by decide +kernel
theorem dX3_findName_27 : decode cX3_findName 27 = .ok (.iload_n 1, 1) := by decide +kernel
theorem dX3_findName_28 : decode cX3_findName 28 = .ok (.ireturn, 1) := by decide +kernel
abbrev rm_X3_findName : Room := { frames := 0, cells := 0, slots := 0, locals := 0 }
set_option maxRecDepth 100000 in
set_option maxHeartbeats 8000000 in
theorem c_X3_findName {l : Launch} {E : (Nat → Prop) → State → Prop} (hO : bw_Ok E) {G : va_G} {cI cB cJ cN cW : ClassId} (b : Nat) (q : Nat → Nat) (i : Nat → Int) (g : Nat → Nat → Int) (hY : ReaderOk i) (qn : Nat → Nat) (n : Int) (hn9 : 0 ≤ n ∧ n ≤ 10) : bw_Ci (S := zU) l yX3_findName (bw_ws (Cond.code yX3_findName cX3_findName 2 (some .int))) rm_X3_findName E G (bw_kt cI cB cJ cN cW) [.ref b] [(b, .inr (3, [.ref (q 0), .int (zI (i 0)), .ref (q 3), .ref (q 4), .int (zI (i 1)), .int (zI (i 2)), .ref (q 1), .ref (q 2), .int (zI (i 3)), .int (zI (i 4)), .int (zI (i 5)), .int (zI (i 6)), .long (zL (i 7)), .int (zI (i 8))])), ((q 0), .inl (cB, 900, .inl (fun k => zI ((g 0) k)))), ((q 1), .inl (cJ, 19, .inr (.inl (fun k => zL ((g 1) k))))), ((q 2), .inl (cJ, 10, .inr (.inl (fun k => zL ((g 2) k))))), ((q 3), .inr (2, [.int (zI n), .ref (qn 0), .ref (qn 1), .ref (qn 2), .ref (qn 3), .ref (qn 4), .ref (qn 5), .ref (qn 6), .ref (qn 7)]))] (fun r _ => ∃ z : Int, r = zI z ∧ (z = -1 ∨ (0 ≤ z ∧ z < n)) ∧ (z ≠ -1 → Named n (g 2) (i 7)) ∧ (z = -1 → ¬ Named n (g 2) (i 7))) (fun _ => [(b, .inr (3, [.ref (q 0), .int (zI (i 0)), .ref (q 3), .ref (q 4), .int (zI (i 1)), .int (zI (i 2)), .ref (q 1), .ref (q 2), .int (zI (i 3)), .int (zI (i 4)), .int (zI (i 5)), .int (zI (i 6)), .long (zL (i 7)), .int (zI (i 8))])), ((q 0), .inl (cB, 900, .inl (fun k => zI ((g 0) k)))), ((q 1), .inl (cJ, 19, .inr (.inl (fun k => zL ((g 1) k))))), ((q 2), .inl (cJ, 10, .inr (.inl (fun k => zL ((g 2) k))))), ((q 3), .inr (2, [.int (zI n), .ref (qn 0), .ref (qn 1), .ref (qn 2), .ref (qn 3), .ref (qn 4), .ref (qn 5), .ref (qn 6), .ref (qn 7)]))]) := by
  refine bw_Ci.of (cc := cX3_findName) (maxL := 2) (ty := .int) (by decide) rfl (Nat.le_of_ble_eq_true rfl) ?_
  intro p e s m below meth c A Q hx hb hml hts hown hin hK hA hS hP hD hE ret ls hl
  have F : CallFix p m c cX3_findName 2 s ([.ref b] : List Value).toArray bw_T RX3 := ⟨hx, hb, hml, hown, fun w h => hts w (List.mem_cons_of_mem _ h)⟩
  replace hl : lv_has ls 2 [(0, .ref b)] := hl
  refine lv_iconst (v := zI 0) hx hb dX3_findName_0 rfl ?_
  refine lv_istore_n (lv' := [(1, .int (zI 0)), (0, .ref b)]) hx hb dX3_findName_1 rfl hl (by decide) rfl (fun ls hl => ?_)
  refine W.widen (k := 0) (n := 0) (Nat.le_of_ble_eq_true rfl) (Nat.le_of_ble_eq_true rfl) ?_
  refine (?_ : ∀ (n9_1 : Nat) (v1 : Int) (H : Heap) (locs : List Loc), (0 ≤ v1 ∧ v1 ≤ n) → (n - v1 : Int).toNat < n9_1 → (∀ k : Nat, (k : Int) < v1 → zL (g 2 k) ≠ zL (i 7)) → va_P G vwCl [(b, .inr (3, [.ref (q 0), .int (zI (i 0)), .ref (q 3), .ref (q 4), .int (zI (i 1)), .int (zI (i 2)), .ref (q 1), .ref (q 2), .int (zI (i 3)), .int (zI (i 4)), .int (zI (i 5)), .int (zI (i 6)), .long (zL (i 7)), .int (zI (i 8))])), ((q 0), .inl (cB, 900, .inl (fun k => zI ((g 0) k)))), ((q 1), .inl (cJ, 19, .inr (.inl (fun k => zL ((g 1) k))))), ((q 2), .inl (cJ, 10, .inr (.inl (fun k => zL ((g 2) k))))), ((q 3), .inr (2, [.int (zI n), .ref (qn 0), .ref (qn 1), .ref (qn 2), .ref (qn 3), .ref (qn 4), .ref (qn 5), .ref (qn 6), .ref (qn 7)]))] H → va_D A [(b, .inr (3, [.ref (q 0), .int (zI (i 0)), .ref (q 3), .ref (q 4), .int (zI (i 1)), .int (zI (i 2)), .ref (q 1), .ref (q 2), .int (zI (i 3)), .int (zI (i 4)), .int (zI (i 5)), .int (zI (i 6)), .long (zL (i 7)), .int (zI (i 8))])), ((q 0), .inl (cB, 900, .inl (fun k => zI ((g 0) k)))), ((q 1), .inl (cJ, 19, .inr (.inl (fun k => zL ((g 1) k))))), ((q 2), .inl (cJ, 10, .inr (.inl (fun k => zL ((g 2) k))))), ((q 3), .inr (2, [.int (zI n), .ref (qn 0), .ref (qn 1), .ref (qn 2), .ref (qn 3), .ref (qn 4), .ref (qn 5), .ref (qn 6), .ref (qn 7)]))] → va_S A s.heap H locs → ∀ ls : Array Slot, lv_has ls 2 [(1, .int (zI v1)), (0, .ref b)] → W p l e rm_X3_findName s m ([.ref b] : List Value).toArray below meth c H locs 0 0 Q (F0 m 2 ls [])) ((n - 0 : Int).toNat + 1) 0 _ _ (by omega) (by omega) (fun k hk => absurd hk (by omega)) hP hD hS ls hl
  clear hP hD hS hl ls
  intro n9_1
  induction n9_1 with
  | zero =>
    intro v1 H locs hI hM
    exact absurd hM (by omega)
  | succ n9_1 ih1 =>
    intro v1 H locs hI1 hM1 hnm hP hD hS ls hl
    refine lv_iload_n hx hb dX3_findName_2 rfl (lv_at hl 0 rfl) ?_
    refine lv_aload_n hx hb dX3_findName_3 rfl (lv_at hl 1 rfl) ?_
    refine r_get F hK hP 0 2 rfl rfl in_X3 (by decide) k_264 rfl dX3_findName_4 ?_
    refine r_get F hK hP 4 0 rfl rfl in_X2 (by decide) k_146 rfl dX3_findName_7 ?_
    refine rz_icmp_ge (tgt := 35) F (by omega) (by omega) dX3_findName_10 (by decide) (fun h10_0 => ?_) (fun h10_0 => ?_)
    · refine lv_iconst (v := zI (-1)) hx hb dX3_findName_35 rfl ?_
      exact ret (zI (-1)) (fun _ => 0, fun _ _ => 0) _ _ _ _ _ _ rfl ⟨-1, rfl, by omega, fun q => absurd rfl q, fun _ q => by obtain ⟨k, hk, e⟩ := q; exact hnm k (by omega) e⟩ (bw_subP (isC := [0, 1, 2, 3, 4]) hP rfl) (hD.sub [0, 1, 2, 3, 4] (by decide) rfl) hS (Nat.le_of_ble_eq_true rfl) (Nat.le_of_ble_eq_true rfl) dX3_findName_36
    · refine lv_aload_n hx hb dX3_findName_13 rfl (lv_at hl 1 rfl) ?_
      refine r_get F hK hP 0 7 rfl rfl in_X3 (by decide) k_273 rfl dX3_findName_14 ?_
      refine lv_iload_n hx hb dX3_findName_17 rfl (lv_at hl 0 rfl) ?_
      refine rz_lald F hK hP 3 2 rfl rfl (by omega) (by omega) dX3_findName_18 ?_
      refine lv_aload_n hx hb dX3_findName_19 rfl (lv_at hl 1 rfl) ?_
      refine r_get F hK hP 0 12 rfl rfl in_X3 (by decide) k_278 rfl dX3_findName_20 ?_
      refine rz_lcmpE F dX3_findName_23 (fun z3 h_z3 hc_z3 => ?_)
      refine rz_if_ne (tgt := 29) F (by omega) dX3_findName_24 (by decide) (fun h24_3 => ?_) (fun h24_3 => ?_)
      · refine lv_iinc (v := zI (v1 + 1)) (lv' := [(1, .int (zI (v1 + 1))), (0, .ref b)]) hx hb dX3_findName_29 hl (k := 0) rfl (zI_add _ _) (by decide) rfl (fun ls hl => ?_)
        refine lv_goto (tgt := 2) hx hb dX3_findName_32 (by decide) ?_
        exact ih1 (v1 + 1) _ _ (by omega) (by omega) (nm_step hnm (fun q => absurd (hc_z3.mpr q) (by omega))) hP hD hS ls (lv_sub hl [0, 1] rfl)
      · refine lv_iload_n hx hb dX3_findName_27 rfl (lv_at hl 0 rfl) ?_
        exact ret (zI v1) (fun _ => 0, fun _ _ => 0) _ _ _ _ _ _ rfl ⟨v1, rfl, by omega, fun _ => ⟨(v1).toNat, by omega, hc_z3.mp (by omega)⟩, fun q => absurd q (by omega)⟩ (bw_subP (isC := [0, 1, 2, 3, 4]) hP rfl) (hD.sub [0, 1, 2, 3, 4] (by decide) rfl) hS (Nat.le_of_ble_eq_true rfl) (Nat.le_of_ble_eq_true rfl) dX3_findName_28
theorem dX3_isKnownName_0 : decode cX3_isKnownName 0 = .ok (.aload_n 0, 1) := by decide +kernel
theorem dX3_isKnownName_1 : decode cX3_isKnownName 1 = .ok (.getfield 49, 3) := by decide +kernel
theorem dX3_isKnownName_4 : decode cX3_isKnownName 4 = .ok (.bipush 19, 2) := by decide +kernel
theorem dX3_isKnownName_6 : decode cX3_isKnownName 6 = .ok (.if_icmp .eq 9, 3) := by decide +kernel
theorem dX3_isKnownName_15 : decode cX3_isKnownName 15 = .ok (.aload_n 0, 1) := by decide +kernel
theorem dX3_isKnownName_16 : decode cX3_isKnownName 16 = .ok (.invokevirtual 105, 3) := by decide +kernel
theorem k_579 : Cond.methodLink RX3 105 yX3_findName ∈ bw_T := bw_m 579 (by decide +kernel) rfl
theorem kv_X3_findName : bw_KV RX3 yX3_findName (Cond.code yX3_findName cX3_findName 2 (some .int)) := ⟨bw_m 581 (by decide +kernel) rfl, bw_m 7 (by decide +kernel) rfl, bw_m 95 (by decide +kernel) rfl, bw_m 582 (by decide +kernel) rfl⟩
theorem dX3_isKnownName_19 : decode cX3_isKnownName 19 = .ok (.iconst (-1), 1) := by decide +kernel
theorem dX3_isKnownName_20 : decode cX3_isKnownName 20 = .ok (.if_icmp .ne 11, 3) := by decide +kernel
theorem dX3_isKnownName_31 : decode cX3_isKnownName 31 = .ok (.iconst 1, 1) := by decide +kernel
theorem dX3_isKnownName_32 : decode cX3_isKnownName 32 = .ok (.goto 4, 3) := by decide +kernel
theorem dX3_isKnownName_36 : decode cX3_isKnownName 36 = .ok (.ireturn, 1) := by decide +kernel
theorem dX3_isKnownName_23 : decode cX3_isKnownName 23 = .ok (.aload_n 0, 1) := by decide +kernel
theorem dX3_isKnownName_24 : decode cX3_isKnownName 24 = .ok (.iconst 2, 1) := by decide +kernel
theorem dX3_isKnownName_25 : decode cX3_isKnownName 25 = .ok (.invokevirtual 98, 3) := by decide +kernel
theorem dX3_isKnownName_28 : decode cX3_isKnownName 28 = .ok (.ifCond .eq 7, 3) := by decide +kernel
theorem dX3_isKnownName_35 : decode cX3_isKnownName 35 = .ok (.iconst 0, 1) := by decide +kernel
theorem dX3_isKnownName_9 : decode cX3_isKnownName 9 = .ok (.aload_n 0, 1) := by decide +kernel
theorem dX3_isKnownName_10 : decode cX3_isKnownName 10 = .ok (.iconst 1, 1) := by decide +kernel
theorem dX3_isKnownName_11 : decode cX3_isKnownName 11 = .ok (.invokevirtual 98, 3) := by decide +kernel
theorem dX3_isKnownName_14 : decode cX3_isKnownName 14 = .ok (.ireturn, 1) := by decide +kernel
abbrev rm_X3_isKnownName : Room := { frames := 1, cells := 0, slots := 0, locals := 21 }
set_option maxRecDepth 100000 in
set_option maxHeartbeats 8000000 in
theorem c_X3_isKnownName {l : Launch} {E : (Nat → Prop) → State → Prop} (hO : bw_Ok E) {G : va_G} {cI cB cJ cN cW : ClassId} (b : Nat) (q : Nat → Nat) (i : Nat → Int) (g : Nat → Nat → Int) (hY : ReaderOk i) (qn : Nat → Nat) (n : Int) (hn9 : 0 ≤ n ∧ n ≤ 10) : bw_Ci (S := zU) l yX3_isKnownName (bw_ws (Cond.code yX3_isKnownName cX3_isKnownName 1 (some .boolean))) rm_X3_isKnownName E G (bw_kt cI cB cJ cN cW) [.ref b] [(b, .inr (3, [.ref (q 0), .int (zI (i 0)), .ref (q 3), .ref (q 4), .int (zI (i 1)), .int (zI (i 2)), .ref (q 1), .ref (q 2), .int (zI (i 3)), .int (zI (i 4)), .int (zI (i 5)), .int (zI (i 6)), .long (zL (i 7)), .int (zI (i 8))])), ((q 0), .inl (cB, 900, .inl (fun k => zI ((g 0) k)))), ((q 1), .inl (cJ, 19, .inr (.inl (fun k => zL ((g 1) k))))), ((q 2), .inl (cJ, 10, .inr (.inl (fun k => zL ((g 2) k))))), ((q 3), .inr (2, [.int (zI n), .ref (qn 0), .ref (qn 1), .ref (qn 2), .ref (qn 3), .ref (qn 4), .ref (qn 5), .ref (qn 6), .ref (qn 7)]))] (fun r u => ∃ z : Int, r = zI z ∧ ReaderOk u.1 ∧ (z = 0 ∨ z = 1) ∧ (z = 1 → Named n (g 2) (i 7)) ∧ (u.1 0 = i 0 ∧ u.1 3 = i 3 ∧ u.1 4 = i 4 ∧ u.1 5 = i 5 ∧ u.1 6 = i 6 ∧ u.1 7 = i 7 ∧ u.1 8 = i 8)) (fun u => [(b, .inr (3, [.ref (q 0), .int (zI (u.1 0)), .ref (q 3), .ref (q 4), .int (zI (u.1 1)), .int (zI (u.1 2)), .ref (q 1), .ref (q 2), .int (zI (u.1 3)), .int (zI (u.1 4)), .int (zI (u.1 5)), .int (zI (u.1 6)), .long (zL (u.1 7)), .int (zI (u.1 8))])), ((q 0), .inl (cB, 900, .inl (fun k => zI ((g 0) k)))), ((q 1), .inl (cJ, 19, .inr (.inl (fun k => zL ((g 1) k))))), ((q 2), .inl (cJ, 10, .inr (.inl (fun k => zL ((g 2) k))))), ((q 3), .inr (2, [.int (zI n), .ref (qn 0), .ref (qn 1), .ref (qn 2), .ref (qn 3), .ref (qn 4), .ref (qn 5), .ref (qn 6), .ref (qn 7)]))]) := by
  refine bw_Ci.of (cc := cX3_isKnownName) (maxL := 1) (ty := .boolean) (by decide) rfl (Nat.le_of_ble_eq_true rfl) ?_
  intro p e s m below meth c A Q hx hb hml hts hown hin hK hA hS hP hD hE ret ls hl
  have F : CallFix p m c cX3_isKnownName 1 s ([.ref b] : List Value).toArray bw_T RX3 := ⟨hx, hb, hml, hown, fun w h => hts w (List.mem_cons_of_mem _ h)⟩
  replace hl : lv_has ls 1 [(0, .ref b)] := hl
  refine lv_aload_n hx hb dX3_isKnownName_0 rfl (lv_at hl 0 rfl) ?_
  refine r_get F hK hP 0 9 rfl rfl in_X3 (by decide) k_275 rfl dX3_isKnownName_1 ?_
  refine lv_bipush (v := zI 19) hx hb dX3_isKnownName_4 (by decide) ?_
  refine rz_icmp_eq (tgt := 15) F (by omega) (by omega) dX3_isKnownName_6 (by decide) (fun h6_0 => ?_) (fun h6_0 => ?_)
  · refine lv_aload_n hx hb dX3_isKnownName_15 rfl (lv_at hl 0 rfl) ?_
    refine r_callVi (As := []) (rest := []) (wr := []) F hK hP hD hS hA hO hE (c_X3_findName hO b q i g hY qn n (by omega)) k_579 kv_X3_findName 0 rfl (by decide +kernel) ⟨Nat.le_of_ble_eq_true rfl, Nat.le_of_ble_eq_true rfl⟩ [0, 1, 2, 3, 4] [] rfl rfl (by decide) (by decide) (by decide) 0 3 rfl rfl rfl hl.1 rfl (Nat.le_of_ble_eq_true rfl) dX3_isKnownName_16 ⟨Nat.le_of_ble_eq_true rfl, Nat.le_of_ble_eq_true rfl⟩ (w1 := fun u2 => [(b, .inr (3, [.ref (q 0), .int (zI (i 0)), .ref (q 3), .ref (q 4), .int (zI (i 1)), .int (zI (i 2)), .ref (q 1), .ref (q 2), .int (zI (i 3)), .int (zI (i 4)), .int (zI (i 5)), .int (zI (i 6)), .long (zL (i 7)), .int (zI (i 8))])), ((q 0), .inl (cB, 900, .inl (fun k => zI ((g 0) k)))), ((q 1), .inl (cJ, 19, .inr (.inl (fun k => zL ((g 1) k))))), ((q 2), .inl (cJ, 10, .inr (.inl (fun k => zL ((g 2) k))))), ((q 3), .inr (2, [.int (zI n), .ref (qn 0), .ref (qn 1), .ref (qn 2), .ref (qn 3), .ref (qn 4), .ref (qn 5), .ref (qn 6), .ref (qn 7)]))]) (fun _ => rfl) (fun r3 u2 H locs hp4 hP hD hS => ?_)
    obtain ⟨z5, rfl, h_z5⟩ := hp4
    refine lv_iconst (v := zI (-1)) hx hb dX3_isKnownName_19 rfl ?_
    refine rz_icmp_ne (tgt := 31) F (by omega) (by omega) dX3_isKnownName_20 (by decide) (fun h20_5 => ?_) (fun h20_5 => ?_)
    · refine lv_iconst (v := zI 1) hx hb dX3_isKnownName_31 rfl ?_
      refine lv_goto (tgt := 36) hx hb dX3_isKnownName_32 (by decide) ?_
      exact ret (zI 1) (i, fun _ _ => 0) _ _ _ _ _ _ rfl ⟨1, rfl, hY, by omega, fun _ => h_z5.2.1 (by omega), by dsimp only; omega⟩ (bw_subP (isC := [0, 1, 2, 3, 4]) hP rfl) (hD.sub [0, 1, 2, 3, 4] (by decide) rfl) hS (Nat.le_of_ble_eq_true rfl) (Nat.le_of_ble_eq_true rfl) dX3_isKnownName_36
    · refine lv_aload_n hx hb dX3_isKnownName_23 rfl (lv_at hl 0 rfl) ?_
      refine lv_iconst (v := zI 2) hx hb dX3_isKnownName_24 rfl ?_
      refine r_callVi (As := [.int (zI 2)]) (rest := []) (wr := [((q 3), .inr (2, [.int (zI n), .ref (qn 0), .ref (qn 1), .ref (qn 2), .ref (qn 3), .ref (qn 4), .ref (qn 5), .ref (qn 6), .ref (qn 7)]))]) F hK hP hD hS hA hO hE (c_X3_fail hO b q i g hY 2) k_575 kv_X3_fail 1 rfl (by decide +kernel) ⟨Nat.le_of_ble_eq_true rfl, Nat.le_of_ble_eq_true rfl⟩ [0, 1, 2, 3] [4] rfl rfl (by decide) (by decide) (by decide) 0 3 rfl rfl rfl hl.1 rfl (Nat.le_of_ble_eq_true rfl) dX3_isKnownName_25 ⟨Nat.le_of_ble_eq_true rfl, Nat.le_of_ble_eq_true rfl⟩ (w1 := fun u7 => [((q 3), .inr (2, [.int (zI n), .ref (qn 0), .ref (qn 1), .ref (qn 2), .ref (qn 3), .ref (qn 4), .ref (qn 5), .ref (qn 6), .ref (qn 7)])), (b, .inr (3, [.ref (q 0), .int (zI (u7.1 0)), .ref (q 3), .ref (q 4), .int (zI (u7.1 1)), .int (zI (u7.1 2)), .ref (q 1), .ref (q 2), .int (zI (u7.1 3)), .int (zI (u7.1 4)), .int (zI (u7.1 5)), .int (zI (u7.1 6)), .long (zL (u7.1 7)), .int (zI (u7.1 8))])), ((q 0), .inl (cB, 900, .inl (fun k => zI ((g 0) k)))), ((q 1), .inl (cJ, 19, .inr (.inl (fun k => zL ((g 1) k))))), ((q 2), .inl (cJ, 10, .inr (.inl (fun k => zL ((g 2) k)))))]) (fun _ => rfl) (fun r8 u7 H locs hp9 hP hD hS => ?_)
      obtain ⟨z10, rfl, h_z10⟩ := hp9
      have hx11 := h_z10.2
      have hf12 := h_z10.1
      refine rz_if_eq (tgt := 35) F (by omega) dX3_isKnownName_28 (by decide) (fun h28_12 => ?_) (fun h28_12 => ?_)
      · refine lv_iconst (v := zI 0) hx hb dX3_isKnownName_35 rfl ?_
        exact ret (zI 0) (u7.1, fun _ _ => 0) _ _ _ _ _ _ rfl ⟨0, rfl, h_z10.1, by omega, fun q => absurd q (by omega), by dsimp only; omega⟩ (bw_subP (isC := [1, 2, 3, 4, 0]) hP rfl) (hD.sub [1, 2, 3, 4, 0] (by decide) rfl) hS (Nat.le_of_ble_eq_true rfl) (Nat.le_of_ble_eq_true rfl) dX3_isKnownName_36
      · refine lv_iconst (v := zI 1) hx hb dX3_isKnownName_31 rfl ?_
        refine lv_goto (tgt := 36) hx hb dX3_isKnownName_32 (by decide) ?_
        exact ret (zI 1) (u7.1, fun _ _ => 0) _ _ _ _ _ _ rfl ⟨1, rfl, h_z10.1, by omega, fun _ => h_z5.2.1 (by omega), by dsimp only; omega⟩ (bw_subP (isC := [1, 2, 3, 4, 0]) hP rfl) (hD.sub [1, 2, 3, 4, 0] (by decide) rfl) hS (Nat.le_of_ble_eq_true rfl) (Nat.le_of_ble_eq_true rfl) dX3_isKnownName_36
  · refine lv_aload_n hx hb dX3_isKnownName_9 rfl (lv_at hl 0 rfl) ?_
    refine lv_iconst (v := zI 1) hx hb dX3_isKnownName_10 rfl ?_
    refine r_callVi (As := [.int (zI 1)]) (rest := []) (wr := [((q 3), .inr (2, [.int (zI n), .ref (qn 0), .ref (qn 1), .ref (qn 2), .ref (qn 3), .ref (qn 4), .ref (qn 5), .ref (qn 6), .ref (qn 7)]))]) F hK hP hD hS hA hO hE (c_X3_fail hO b q i g hY 1) k_575 kv_X3_fail 1 rfl (by decide +kernel) ⟨Nat.le_of_ble_eq_true rfl, Nat.le_of_ble_eq_true rfl⟩ [0, 1, 2, 3] [4] rfl rfl (by decide) (by decide) (by decide) 0 3 rfl rfl rfl hl.1 rfl (Nat.le_of_ble_eq_true rfl) dX3_isKnownName_11 ⟨Nat.le_of_ble_eq_true rfl, Nat.le_of_ble_eq_true rfl⟩ (w1 := fun u14 => [((q 3), .inr (2, [.int (zI n), .ref (qn 0), .ref (qn 1), .ref (qn 2), .ref (qn 3), .ref (qn 4), .ref (qn 5), .ref (qn 6), .ref (qn 7)])), (b, .inr (3, [.ref (q 0), .int (zI (u14.1 0)), .ref (q 3), .ref (q 4), .int (zI (u14.1 1)), .int (zI (u14.1 2)), .ref (q 1), .ref (q 2), .int (zI (u14.1 3)), .int (zI (u14.1 4)), .int (zI (u14.1 5)), .int (zI (u14.1 6)), .long (zL (u14.1 7)), .int (zI (u14.1 8))])), ((q 0), .inl (cB, 900, .inl (fun k => zI ((g 0) k)))), ((q 1), .inl (cJ, 19, .inr (.inl (fun k => zL ((g 1) k))))), ((q 2), .inl (cJ, 10, .inr (.inl (fun k => zL ((g 2) k)))))]) (fun _ => rfl) (fun r15 u14 H locs hp16 hP hD hS => ?_)
    obtain ⟨z17, rfl, h_z17⟩ := hp16
    have hx18 := h_z17.2
    have hf19 := h_z17.1
    exact ret (zI z17) (u14.1, fun _ _ => 0) _ _ _ _ _ _ (zI_nz (by omega)) ⟨z17, rfl, h_z17.1, by omega, fun q => absurd q (by omega), by dsimp only; omega⟩ (bw_subP (isC := [1, 2, 3, 4, 0]) hP rfl) (hD.sub [1, 2, 3, 4, 0] (by decide) rfl) hS (Nat.le_of_ble_eq_true rfl) (Nat.le_of_ble_eq_true rfl) dX3_isKnownName_14
