/-- what is kept at a mark: a program and a run of it -/
def KeptOk (a b : Nat → Int) : Prop := ∀ m : Nat, m < 4 → ProgOk (fun k => a (200 * m + k)) ∧ StOk (fun k => a (200 * m + k)) (fun k => b (159 * m + k))
theorem km_step {f g g' G : Nat → Int} {a v : Int} (h0 : 0 ≤ a ∧ 0 ≤ v) (h : ∀ k : Nat, g k = if a ≤ (k : Int) ∧ (k : Int) < a + v then f ((k : Int) - a).toNat else G k) (e : g' = uZ g (a + v).toNat (f v.toNat)) : ∀ k : Nat, g' k = if a ≤ (k : Int) ∧ (k : Int) < a + (v + 1) then f ((k : Int) - a).toNat else G k := by
  intro k
  by_cases q : k = (a + v).toNat
  · rw [uZ_at e q, if_pos (by omega), show ((k : Int) - a).toNat = v.toNat by omega]
  · rw [uZ_off e q, h k]
    by_cases z : a ≤ (k : Int) ∧ (k : Int) < a + v
    · rw [if_pos z, if_pos (by omega)]
    · rw [if_neg z, if_neg (by omega)]
theorem KeptOk.put {a b a' b' p s : Nat → Int} {m : Int} (h : KeptOk a b) (hm : 0 ≤ m ∧ m < 4) (hp : ProgOk p) (hs : StOk p s) (ea : ∀ k : Nat, a' k = if 200 * m ≤ (k : Int) ∧ (k : Int) < 200 * m + 200 then p ((k : Int) - 200 * m).toNat else a k) (eb : ∀ k : Nat, b' k = if 159 * m ≤ (k : Int) ∧ (k : Int) < 159 * m + 159 then s ((k : Int) - 159 * m).toNat else b k) : KeptOk a' b' := by
  intro j hj
  by_cases q : (j : Int) = m
  · have e1 : ∀ k, k < 200 → a' (200 * j + k) = p k := fun k hk => by rw [ea, if_pos (by omega), show (((200 * j + k : Nat) : Int) - 200 * m).toNat = k by omega]
    have e2 : ∀ k, k < 159 → b' (159 * j + k) = s k := fun k hk => by rw [eb, if_pos (by omega), show (((159 * j + k : Nat) : Int) - 159 * m).toNat = k by omega]
    exact ⟨hp.congr e1, hs.congr e1 e2⟩
  · have e1 : ∀ k, k < 200 → a' (200 * j + k) = a (200 * j + k) := fun k hk => by rw [ea, if_neg (by omega)]
    have e2 : ∀ k, k < 159 → b' (159 * j + k) = b (159 * j + k) := fun k hk => by rw [eb, if_neg (by omega)]
    exact ⟨(h j hj).1.congr e1, (h j hj).2.congr e1 e2⟩
theorem KeptOk.zero : KeptOk (fun _ => 0) (fun _ => 0) := fun m _ => ⟨ProgOk.zero (fun _ _ => rfl), StOk.begun (g := fun _ => 0) (g0 := fun _ => 0) (g1 := fun _ => 0) (g2 := fun _ => 0) (g3 := fun _ => 0) (a := 0) (b := 0) (c := 0) (d := 0) (v := 0) (fun _ _ => Int.le_refl _) (fun _ _ => rfl) (by funext k; simp [uZ]) (by funext k; simp [uZ]) (by funext k; simp [uZ]) (by funext k; simp [uZ]) (by funext k; simp [uZ]) (by omega) (by omega) (by omega) (by omega) (by omega)⟩
theorem dX9_mark_0 : decode cX9_mark 0 = .ok (.aload_n 0, 1) := by decide +kernel
theorem dX9_mark_1 : decode cX9_mark 1 = .ok (.invokevirtual 197, 3) := by decide +kernel
theorem dX9_mark_4 : decode cX9_mark 4 = .ok (.aload_n 0, 1) := by decide +kernel
theorem dX9_mark_5 : decode cX9_mark 5 = .ok (.getfield 222, 3) := by decide +kernel
theorem dX9_mark_8 : decode cX9_mark 8 = .ok (.ifCond .ne 9, 3) := by decide +kernel
theorem dX9_mark_17 : decode cX9_mark 17 = .ok (.aload_n 0, 1) := by decide +kernel
theorem dX9_mark_18 : decode cX9_mark 18 = .ok (.getfield 219, 3) := by decide +kernel
theorem k_1197 : Cond.fieldLink RX9 219 "BurntWaysModel" "marks" "I" ∈ bw_T := bw_m 1197 (by decide +kernel) rfl
theorem dX9_mark_21 : decode cX9_mark 21 = .ok (.iconst 4, 1) := by decide +kernel
theorem dX9_mark_22 : decode cX9_mark 22 = .ok (.if_icmp .ne 9, 3) := by decide +kernel
theorem dX9_mark_31 : decode cX9_mark 31 = .ok (.iconst 0, 1) := by decide +kernel
theorem dX9_mark_32 : decode cX9_mark 32 = .ok (.istore_n 1, 1) := by decide +kernel
theorem dX9_mark_33 : decode cX9_mark 33 = .ok (.iload_n 1, 1) := by decide +kernel
theorem dX9_mark_34 : decode cX9_mark 34 = .ok (.sipush 200, 3) := by decide +kernel
theorem dX9_mark_37 : decode cX9_mark 37 = .ok (.if_icmp .ge 30, 3) := by decide +kernel
theorem dX9_mark_67 : decode cX9_mark 67 = .ok (.iconst 0, 1) := by decide +kernel
theorem dX9_mark_68 : decode cX9_mark 68 = .ok (.istore_n 1, 1) := by decide +kernel
theorem dX9_mark_69 : decode cX9_mark 69 = .ok (.iload_n 1, 1) := by decide +kernel
theorem dX9_mark_70 : decode cX9_mark 70 = .ok (.sipush 159, 3) := by decide +kernel
theorem dX9_mark_73 : decode cX9_mark 73 = .ok (.if_icmp .ge 30, 3) := by decide +kernel
theorem dX9_mark_103 : decode cX9_mark 103 = .ok (.aload_n 0, 1) := by decide +kernel
theorem dX9_mark_104 : decode cX9_mark 104 = .ok (.dup, 1) := by decide +kernel
theorem dX9_mark_105 : decode cX9_mark 105 = .ok (.getfield 219, 3) := by decide +kernel
theorem dX9_mark_108 : decode cX9_mark 108 = .ok (.iconst 1, 1) := by decide +kernel
theorem dX9_mark_109 : decode cX9_mark 109 = .ok (.iadd, 1) := by decide +kernel
theorem dX9_mark_110 : decode cX9_mark 110 = .ok (.putfield 219, 3) := by decide +kernel
theorem dX9_mark_113 : decode cX9_mark 113 = .ok (.aload_n 0, 1) := by decide +kernel
theorem dX9_mark_114 : decode cX9_mark 114 = .ok (.getfield 219, 3) := by decide +kernel
theorem dX9_mark_117 : decode cX9_mark 117 = .ok (.iconst 1, 1) := by decide +kernel
theorem dX9_mark_118 : decode cX9_mark 118 = .ok (.isub, 1) := by decide +kernel
theorem dX9_mark_119 : decode cX9_mark 119 = .ok (.ireturn, 1) := by decide +kernel
theorem dX9_mark_76 : decode cX9_mark 76 = .ok (.aload_n 0, 1) := by decide +kernel
theorem dX9_mark_77 : decode cX9_mark 77 = .ok (.getfield 62, 3) := by decide +kernel
theorem k_1192 : Cond.fieldLink RX9 62 "BurntWaysModel" "keptRuns" "[I" ∈ bw_T := bw_m 1192 (by decide +kernel) rfl
theorem dX9_mark_80 : decode cX9_mark 80 = .ok (.sipush 159, 3) := by decide +kernel
theorem dX9_mark_83 : decode cX9_mark 83 = .ok (.aload_n 0, 1) := by decide +kernel
theorem dX9_mark_84 : decode cX9_mark 84 = .ok (.getfield 219, 3) := by decide +kernel
theorem dX9_mark_87 : decode cX9_mark 87 = .ok (.imul, 1) := by decide +kernel
theorem dX9_mark_88 : decode cX9_mark 88 = .ok (.iload_n 1, 1) := by decide +kernel
theorem dX9_mark_89 : decode cX9_mark 89 = .ok (.iadd, 1) := by decide +kernel
theorem dX9_mark_90 : decode cX9_mark 90 = .ok (.aload_n 0, 1) := by decide +kernel
theorem dX9_mark_91 : decode cX9_mark 91 = .ok (.getfield 53, 3) := by decide +kernel
theorem dX9_mark_94 : decode cX9_mark 94 = .ok (.iload_n 1, 1) := by decide +kernel
theorem dX9_mark_95 : decode cX9_mark 95 = .ok (.iaload, 1) := by decide +kernel
theorem dX9_mark_96 : decode cX9_mark 96 = .ok (.iastore, 1) := by decide +kernel
theorem dX9_mark_97 : decode cX9_mark 97 = .ok (.iinc 1 1, 3) := by decide +kernel
theorem dX9_mark_100 : decode cX9_mark 100 = .ok (.goto (-31), 3) := by decide +kernel
theorem dX9_mark_40 : decode cX9_mark 40 = .ok (.aload_n 0, 1) := by decide +kernel
theorem dX9_mark_41 : decode cX9_mark 41 = .ok (.getfield 32, 3) := by decide +kernel
theorem k_1182 : Cond.fieldLink RX9 32 "BurntWaysModel" "kept" "[I" ∈ bw_T := bw_m 1182 (by decide +kernel) rfl
theorem dX9_mark_44 : decode cX9_mark 44 = .ok (.sipush 200, 3) := by decide +kernel
theorem dX9_mark_47 : decode cX9_mark 47 = .ok (.aload_n 0, 1) := by decide +kernel
theorem dX9_mark_48 : decode cX9_mark 48 = .ok (.getfield 219, 3) := by decide +kernel
theorem dX9_mark_51 : decode cX9_mark 51 = .ok (.imul, 1) := by decide +kernel
theorem dX9_mark_52 : decode cX9_mark 52 = .ok (.iload_n 1, 1) := by decide +kernel
theorem dX9_mark_53 : decode cX9_mark 53 = .ok (.iadd, 1) := by decide +kernel
theorem dX9_mark_54 : decode cX9_mark 54 = .ok (.aload_n 0, 1) := by decide +kernel
theorem dX9_mark_55 : decode cX9_mark 55 = .ok (.getfield 23, 3) := by decide +kernel
theorem dX9_mark_58 : decode cX9_mark 58 = .ok (.iload_n 1, 1) := by decide +kernel
theorem dX9_mark_59 : decode cX9_mark 59 = .ok (.iaload, 1) := by decide +kernel
theorem dX9_mark_60 : decode cX9_mark 60 = .ok (.iastore, 1) := by decide +kernel
theorem dX9_mark_61 : decode cX9_mark 61 = .ok (.iinc 1 1, 3) := by decide +kernel
theorem dX9_mark_64 : decode cX9_mark 64 = .ok (.goto (-31), 3) := by decide +kernel
theorem dX9_mark_25 : decode cX9_mark 25 = .ok (.aload_n 0, 1) := by decide +kernel
theorem dX9_mark_26 : decode cX9_mark 26 = .ok (.iconst 3, 1) := by decide +kernel
theorem dX9_mark_27 : decode cX9_mark 27 = .ok (.invokevirtual 200, 3) := by decide +kernel
theorem dX9_mark_30 : decode cX9_mark 30 = .ok (.ireturn, 1) := by decide +kernel
theorem dX9_mark_11 : decode cX9_mark 11 = .ok (.aload_n 0, 1) := by decide +kernel
theorem dX9_mark_12 : decode cX9_mark 12 = .ok (.iconst 1, 1) := by decide +kernel
theorem dX9_mark_13 : decode cX9_mark 13 = .ok (.invokevirtual 200, 3) := by decide +kernel
theorem dX9_mark_16 : decode cX9_mark 16 = .ok (.ireturn, 1) := by decide +kernel
abbrev rm_X9_mark : Room := { frames := 1, cells := 0, slots := 0, locals := 21 }
set_option maxRecDepth 100000 in
set_option maxHeartbeats 8000000 in
theorem c_X9_mark {l : Launch} {E : (Nat → Prop) → State → Prop} (hO : bw_Ok E) {G : va_G} {cI cB cJ cN cW : ClassId} (y : Nat) (q : Nat → Nat) (i : Nat → Int) (hM : ModOk i) (g_now : Nat → Int) (g_st : Nat → Int) (g_kept : Nat → Int) (g_keptRuns : Nat → Int) (hpn : ProgOk g_now) (hst : StOk g_now g_st) (hkp : KeptOk g_kept g_keptRuns) : bw_Ci (S := zV) l yX9_mark (bw_ws (Cond.code yX9_mark cX9_mark 2 (some .int))) rm_X9_mark E G (bw_kt cI cB cJ cN cW) [.ref y] [(y, .inr (9, [.int (zI (i 0)), .ref (q 0), .int (zI (i 1)), .int (zI (i 2)), .int (zI (i 3)), .int (zI (i 4)), .int (zI (i 5)), .int (zI (i 6)), .int (zI (i 7)), .int (zI (i 8)), .int (zI (i 9)), .int (zI (i 10)), .ref (q 1), .int (zI (i 11)), .int (zI (i 12)), .ref (q 2), .ref (q 3), .ref (q 4), .ref (q 5), .ref (q 6), .ref (q 7), .ref (q 8), .ref (q 9), .ref (q 10), .ref (q 11), .ref (q 12), .ref (q 13), .ref (q 14), .ref (q 15), .ref (q 16), .int (zI (i 13)), .int (zI (i 14)), .int (zI (i 15)), .int (zI (i 16)), .int (zI (i 17)), .int (zI (i 18)), .ref (q 17), .ref (q 18), .ref (q 19), .ref (q 20)])), ((q 3), .inl (cI, 200, .inl (fun k => zI (g_now k)))), ((q 13), .inl (cI, 159, .inl (fun k => zI (g_st k)))), ((q 6), .inl (cI, 800, .inl (fun k => zI (g_kept k)))), ((q 16), .inl (cI, 636, .inl (fun k => zI (g_keptRuns k))))] (fun r u => ∃ z : Int, r = zI z ∧ (ModOk (u 0).1) ∧ (((u 0).1 1 = i 1 ∧ (u 0).1 8 = i 8 ∧ (u 0).1 9 = i 9 ∧ (u 0).1 12 = i 12 ∧ (u 0).1 13 = i 13 ∧ (u 0).1 15 = i 15 ∧ (u 0).1 10 ≠ 4) ∧ ((i 12 = 0 ∧ z = -1 ∧ (u 0).1 17 = i 17) ∨ (i 12 ≠ 0 ∧ i 17 = 4 ∧ z = -1 ∧ (u 0).1 17 = i 17) ∨ (i 12 ≠ 0 ∧ i 17 ≠ 4 ∧ z = i 17 ∧ (u 0).1 17 = i 17 + 1)) ∧ KeptOk ((u 1).2 0) ((u 2).2 0))) (fun u => [(y, .inr (9, [.int (zI ((u 0).1 0)), .ref (q 0), .int (zI ((u 0).1 1)), .int (zI ((u 0).1 2)), .int (zI ((u 0).1 3)), .int (zI ((u 0).1 4)), .int (zI ((u 0).1 5)), .int (zI ((u 0).1 6)), .int (zI ((u 0).1 7)), .int (zI ((u 0).1 8)), .int (zI ((u 0).1 9)), .int (zI ((u 0).1 10)), .ref (q 1), .int (zI ((u 0).1 11)), .int (zI ((u 0).1 12)), .ref (q 2), .ref (q 3), .ref (q 4), .ref (q 5), .ref (q 6), .ref (q 7), .ref (q 8), .ref (q 9), .ref (q 10), .ref (q 11), .ref (q 12), .ref (q 13), .ref (q 14), .ref (q 15), .ref (q 16), .int (zI ((u 0).1 13)), .int (zI ((u 0).1 14)), .int (zI ((u 0).1 15)), .int (zI ((u 0).1 16)), .int (zI ((u 0).1 17)), .int (zI ((u 0).1 18)), .ref (q 17), .ref (q 18), .ref (q 19), .ref (q 20)])), ((q 3), .inl (cI, 200, .inl (fun k => zI (g_now k)))), ((q 13), .inl (cI, 159, .inl (fun k => zI (g_st k)))), ((q 6), .inl (cI, 800, .inl (fun k => zI (((u 1).2 0) k)))), ((q 16), .inl (cI, 636, .inl (fun k => zI (((u 2).2 0) k))))]) := by
  refine bw_Ci.of (cc := cX9_mark) (maxL := 2) (ty := .int) (by decide) rfl (Nat.le_of_ble_eq_true rfl) ?_
  intro p e s m below meth c A Q hx hb hml hts hown hin hK hA hS hP hD hE ret ls hl
  have F : CallFix p m c cX9_mark 2 s ([.ref y] : List Value).toArray bw_T RX9 := ⟨hx, hb, hml, hown, fun w h => hts w (List.mem_cons_of_mem _ h)⟩
  replace hl : lv_has ls 2 [(0, .ref y)] := hl
  have hf1 := hM.1
  refine lv_aload_n hx hb dX9_mark_0 rfl (lv_at hl 0 rfl) ?_
  refine r_callVv (As := []) (rest := []) (wr := [((q 3), .inl (cI, 200, .inl (fun k => zI (g_now k)))), ((q 13), .inl (cI, 159, .inl (fun k => zI (g_st k)))), ((q 6), .inl (cI, 800, .inl (fun k => zI (g_kept k)))), ((q 16), .inl (cI, 636, .inl (fun k => zI (g_keptRuns k))))]) F hK hP hD hS hA hO hE (c_X9_good hO y q i hM) k_1292 kv_X9_good 0 rfl (by decide +kernel) ⟨Nat.le_of_ble_eq_true rfl, Nat.le_of_ble_eq_true rfl⟩ [0] [1, 2, 3, 4] rfl rfl (by decide) (by decide) (by decide) 0 9 rfl rfl rfl hl.1 rfl (Nat.le_of_ble_eq_true rfl) dX9_mark_1 ⟨Nat.le_of_ble_eq_true rfl, Nat.le_of_ble_eq_true rfl⟩ (w1 := fun u2 => [((q 3), .inl (cI, 200, .inl (fun k => zI (g_now k)))), ((q 13), .inl (cI, 159, .inl (fun k => zI (g_st k)))), ((q 6), .inl (cI, 800, .inl (fun k => zI (g_kept k)))), ((q 16), .inl (cI, 636, .inl (fun k => zI (g_keptRuns k)))), (y, .inr (9, [.int (zI ((u2 0).1 0)), .ref (q 0), .int (zI ((u2 0).1 1)), .int (zI ((u2 0).1 2)), .int (zI ((u2 0).1 3)), .int (zI ((u2 0).1 4)), .int (zI ((u2 0).1 5)), .int (zI ((u2 0).1 6)), .int (zI ((u2 0).1 7)), .int (zI ((u2 0).1 8)), .int (zI ((u2 0).1 9)), .int (zI ((u2 0).1 10)), .ref (q 1), .int (zI ((u2 0).1 11)), .int (zI ((u2 0).1 12)), .ref (q 2), .ref (q 3), .ref (q 4), .ref (q 5), .ref (q 6), .ref (q 7), .ref (q 8), .ref (q 9), .ref (q 10), .ref (q 11), .ref (q 12), .ref (q 13), .ref (q 14), .ref (q 15), .ref (q 16), .int (zI ((u2 0).1 13)), .int (zI ((u2 0).1 14)), .int (zI ((u2 0).1 15)), .int (zI ((u2 0).1 16)), .int (zI ((u2 0).1 17)), .int (zI ((u2 0).1 18)), .ref (q 17), .ref (q 18), .ref (q 19), .ref (q 20)]))]) (fun _ => rfl) (fun  u2 H locs hp3 hP hD hS => ?_)
  have hf4 := hp3.1.1
  refine lv_aload_n hx hb dX9_mark_4 rfl (lv_at hl 0 rfl) ?_
  refine r_get F hK hP 4 14 rfl rfl in_X9 (by decide) k_1177 rfl dX9_mark_5 ?_
  refine rz_ifb_ne (tgt := 17) F (by omega) dX9_mark_8 (by decide) (fun h8_4 => ?_) (fun h8_4 => ?_)
  · refine lv_aload_n hx hb dX9_mark_17 rfl (lv_at hl 0 rfl) ?_
    refine r_get F hK hP 4 34 rfl rfl in_X9 (by decide) k_1197 rfl dX9_mark_18 ?_
    refine lv_iconst (v := zI 4) hx hb dX9_mark_21 rfl ?_
    refine rz_icmp_ne (tgt := 31) F (by omega) (by omega) dX9_mark_22 (by decide) (fun h22_5 => ?_) (fun h22_5 => ?_)
    · refine lv_iconst (v := zI 0) hx hb dX9_mark_31 rfl ?_
      refine lv_istore_n (lv' := [(1, .int (zI 0)), (0, .ref y)]) hx hb dX9_mark_32 rfl hl (by decide) rfl (fun ls hl => ?_)
      refine W.widen (k := 0) (n := 0) (Nat.le_of_ble_eq_true rfl) (Nat.le_of_ble_eq_true rfl) ?_
      refine (?_ : ∀ (n9_1 : Nat) (v1 : Int) (gk9 : Nat → Int) (H : Heap) (locs : List Loc), (0 ≤ v1 ∧ v1 ≤ 200) → (200 - v1 : Int).toNat < n9_1 → (∀ k : Nat, gk9 k = if 200 * ((u2 0).1 17) ≤ (k : Int) ∧ (k : Int) < 200 * ((u2 0).1 17) + v1 then g_now ((k : Int) - 200 * ((u2 0).1 17)).toNat else g_kept k) → va_P G vwCl [((q 3), .inl (cI, 200, .inl (fun k => zI (g_now k)))), ((q 13), .inl (cI, 159, .inl (fun k => zI (g_st k)))), ((q 6), .inl (cI, 800, .inl (fun k => zI (gk9 k)))), ((q 16), .inl (cI, 636, .inl (fun k => zI (g_keptRuns k)))), (y, .inr (9, [.int (zI ((u2 0).1 0)), .ref (q 0), .int (zI ((u2 0).1 1)), .int (zI ((u2 0).1 2)), .int (zI ((u2 0).1 3)), .int (zI ((u2 0).1 4)), .int (zI ((u2 0).1 5)), .int (zI ((u2 0).1 6)), .int (zI ((u2 0).1 7)), .int (zI ((u2 0).1 8)), .int (zI ((u2 0).1 9)), .int (zI ((u2 0).1 10)), .ref (q 1), .int (zI ((u2 0).1 11)), .int (zI ((u2 0).1 12)), .ref (q 2), .ref (q 3), .ref (q 4), .ref (q 5), .ref (q 6), .ref (q 7), .ref (q 8), .ref (q 9), .ref (q 10), .ref (q 11), .ref (q 12), .ref (q 13), .ref (q 14), .ref (q 15), .ref (q 16), .int (zI ((u2 0).1 13)), .int (zI ((u2 0).1 14)), .int (zI ((u2 0).1 15)), .int (zI ((u2 0).1 16)), .int (zI ((u2 0).1 17)), .int (zI ((u2 0).1 18)), .ref (q 17), .ref (q 18), .ref (q 19), .ref (q 20)]))] H → va_D A [((q 3), .inl (cI, 200, .inl (fun k => zI (g_now k)))), ((q 13), .inl (cI, 159, .inl (fun k => zI (g_st k)))), ((q 6), .inl (cI, 800, .inl (fun k => zI (gk9 k)))), ((q 16), .inl (cI, 636, .inl (fun k => zI (g_keptRuns k)))), (y, .inr (9, [.int (zI ((u2 0).1 0)), .ref (q 0), .int (zI ((u2 0).1 1)), .int (zI ((u2 0).1 2)), .int (zI ((u2 0).1 3)), .int (zI ((u2 0).1 4)), .int (zI ((u2 0).1 5)), .int (zI ((u2 0).1 6)), .int (zI ((u2 0).1 7)), .int (zI ((u2 0).1 8)), .int (zI ((u2 0).1 9)), .int (zI ((u2 0).1 10)), .ref (q 1), .int (zI ((u2 0).1 11)), .int (zI ((u2 0).1 12)), .ref (q 2), .ref (q 3), .ref (q 4), .ref (q 5), .ref (q 6), .ref (q 7), .ref (q 8), .ref (q 9), .ref (q 10), .ref (q 11), .ref (q 12), .ref (q 13), .ref (q 14), .ref (q 15), .ref (q 16), .int (zI ((u2 0).1 13)), .int (zI ((u2 0).1 14)), .int (zI ((u2 0).1 15)), .int (zI ((u2 0).1 16)), .int (zI ((u2 0).1 17)), .int (zI ((u2 0).1 18)), .ref (q 17), .ref (q 18), .ref (q 19), .ref (q 20)]))] → va_S A s.heap H locs → ∀ ls : Array Slot, lv_has ls 2 [(1, .int (zI v1)), (0, .ref y)] → W p l e rm_X9_mark s m ([.ref y] : List Value).toArray below meth c H locs 0 0 Q (F0 m 33 ls [])) ((200 - 0 : Int).toNat + 1) 0 g_kept _ _ (by omega) (by omega) (fun k => by rw [if_neg (by omega)]) hP hD hS ls hl
      clear hP hD hS hl ls
      intro n9_1
      induction n9_1 with
      | zero =>
        intro v1 gk9 H locs hI hM
        exact absurd hM (by omega)
      | succ n9_1 ih1 =>
        intro v1 gk9 H locs hI1 hM1 hk1 hP hD hS ls hl
        refine lv_iload_n hx hb dX9_mark_33 rfl (lv_at hl 0 rfl) ?_
        refine lv_sipush (v := zI 200) hx hb dX9_mark_34 (by decide) ?_
        refine rz_icmp_ge (tgt := 67) F (by omega) (by omega) dX9_mark_37 (by decide) (fun h37_6 => ?_) (fun h37_6 => ?_)
        · refine lv_iconst (v := zI 0) hx hb dX9_mark_67 rfl ?_
          have hv200 : v1 = 200 := by omega
          refine lv_istore_n (lv' := [(1, .int (zI 0)), (0, .ref y)]) hx hb dX9_mark_68 rfl hl (by decide) rfl (fun ls hl => ?_)
          refine W.widen (k := 0) (n := 0) (Nat.le_of_ble_eq_true rfl) (Nat.le_of_ble_eq_true rfl) ?_
          refine (?_ : ∀ (n9_2 : Nat) (v1 : Int) (gr9 : Nat → Int) (H : Heap) (locs : List Loc), (0 ≤ v1 ∧ v1 ≤ 159) → (159 - v1 : Int).toNat < n9_2 → (∀ k : Nat, gr9 k = if 159 * ((u2 0).1 17) ≤ (k : Int) ∧ (k : Int) < 159 * ((u2 0).1 17) + v1 then g_st ((k : Int) - 159 * ((u2 0).1 17)).toNat else g_keptRuns k) → va_P G vwCl [((q 3), .inl (cI, 200, .inl (fun k => zI (g_now k)))), ((q 13), .inl (cI, 159, .inl (fun k => zI (g_st k)))), ((q 6), .inl (cI, 800, .inl (fun k => zI (gk9 k)))), ((q 16), .inl (cI, 636, .inl (fun k => zI (gr9 k)))), (y, .inr (9, [.int (zI ((u2 0).1 0)), .ref (q 0), .int (zI ((u2 0).1 1)), .int (zI ((u2 0).1 2)), .int (zI ((u2 0).1 3)), .int (zI ((u2 0).1 4)), .int (zI ((u2 0).1 5)), .int (zI ((u2 0).1 6)), .int (zI ((u2 0).1 7)), .int (zI ((u2 0).1 8)), .int (zI ((u2 0).1 9)), .int (zI ((u2 0).1 10)), .ref (q 1), .int (zI ((u2 0).1 11)), .int (zI ((u2 0).1 12)), .ref (q 2), .ref (q 3), .ref (q 4), .ref (q 5), .ref (q 6), .ref (q 7), .ref (q 8), .ref (q 9), .ref (q 10), .ref (q 11), .ref (q 12), .ref (q 13), .ref (q 14), .ref (q 15), .ref (q 16), .int (zI ((u2 0).1 13)), .int (zI ((u2 0).1 14)), .int (zI ((u2 0).1 15)), .int (zI ((u2 0).1 16)), .int (zI ((u2 0).1 17)), .int (zI ((u2 0).1 18)), .ref (q 17), .ref (q 18), .ref (q 19), .ref (q 20)]))] H → va_D A [((q 3), .inl (cI, 200, .inl (fun k => zI (g_now k)))), ((q 13), .inl (cI, 159, .inl (fun k => zI (g_st k)))), ((q 6), .inl (cI, 800, .inl (fun k => zI (gk9 k)))), ((q 16), .inl (cI, 636, .inl (fun k => zI (gr9 k)))), (y, .inr (9, [.int (zI ((u2 0).1 0)), .ref (q 0), .int (zI ((u2 0).1 1)), .int (zI ((u2 0).1 2)), .int (zI ((u2 0).1 3)), .int (zI ((u2 0).1 4)), .int (zI ((u2 0).1 5)), .int (zI ((u2 0).1 6)), .int (zI ((u2 0).1 7)), .int (zI ((u2 0).1 8)), .int (zI ((u2 0).1 9)), .int (zI ((u2 0).1 10)), .ref (q 1), .int (zI ((u2 0).1 11)), .int (zI ((u2 0).1 12)), .ref (q 2), .ref (q 3), .ref (q 4), .ref (q 5), .ref (q 6), .ref (q 7), .ref (q 8), .ref (q 9), .ref (q 10), .ref (q 11), .ref (q 12), .ref (q 13), .ref (q 14), .ref (q 15), .ref (q 16), .int (zI ((u2 0).1 13)), .int (zI ((u2 0).1 14)), .int (zI ((u2 0).1 15)), .int (zI ((u2 0).1 16)), .int (zI ((u2 0).1 17)), .int (zI ((u2 0).1 18)), .ref (q 17), .ref (q 18), .ref (q 19), .ref (q 20)]))] → va_S A s.heap H locs → ∀ ls : Array Slot, lv_has ls 2 [(1, .int (zI v1)), (0, .ref y)] → W p l e rm_X9_mark s m ([.ref y] : List Value).toArray below meth c H locs 0 0 Q (F0 m 69 ls [])) ((159 - 0 : Int).toNat + 1) 0 g_keptRuns _ _ (by omega) (by omega) (fun k => by rw [if_neg (by omega)]) hP hD hS ls hl
          clear hP hD hS hl ls
          intro n9_2
          induction n9_2 with
          | zero =>
            intro v1 gr9 H locs hI hM
            exact absurd hM (by omega)
          | succ n9_2 ih2 =>
            intro v1 gr9 H locs hI2 hM2 hk2 hP hD hS ls hl
            refine lv_iload_n hx hb dX9_mark_69 rfl (lv_at hl 0 rfl) ?_
            refine lv_sipush (v := zI 159) hx hb dX9_mark_70 (by decide) ?_
            refine rz_icmp_ge (tgt := 103) F (by omega) (by omega) dX9_mark_73 (by decide) (fun h73_7 => ?_) (fun h73_7 => ?_)
            · refine lv_aload_n hx hb dX9_mark_103 rfl (lv_at hl 1 rfl) ?_
              have hkn : KeptOk gk9 gr9 := KeptOk.put hkp (m := ((u2 0).1 17)) (by omega) hpn hst (fun k => by rw [hk1 k, hv200]) (fun k => by rw [hk2 k, show v1 = 159 by omega])
              refine lv_dup hx hb dX9_mark_104 rfl ?_
              refine r_get F hK hP 4 34 rfl rfl in_X9 (by decide) k_1197 rfl dX9_mark_105 ?_
              refine lv_iconst (v := zI 1) hx hb dX9_mark_108 rfl ?_
              refine r_iadd (v := zI (((u2 0).1 17) + 1)) F dX9_mark_109 (zI_add _ _) ?_
              refine r_put F hK hP hD hS 4 34 rfl rfl in_X9 tyX9 tyX9_ok nmX9 (by decide) k_1197 rfl rfl rfl (Nat.le_of_ble_eq_true rfl) dX9_mark_110 (w1 := [((q 3), .inl (cI, 200, .inl (fun k => zI (g_now k)))), ((q 13), .inl (cI, 159, .inl (fun k => zI (g_st k)))), ((q 6), .inl (cI, 800, .inl (fun k => zI (gk9 k)))), ((q 16), .inl (cI, 636, .inl (fun k => zI (gr9 k)))), (y, .inr (9, [.int (zI ((u2 0).1 0)), .ref (q 0), .int (zI ((u2 0).1 1)), .int (zI ((u2 0).1 2)), .int (zI ((u2 0).1 3)), .int (zI ((u2 0).1 4)), .int (zI ((u2 0).1 5)), .int (zI ((u2 0).1 6)), .int (zI ((u2 0).1 7)), .int (zI ((u2 0).1 8)), .int (zI ((u2 0).1 9)), .int (zI ((u2 0).1 10)), .ref (q 1), .int (zI ((u2 0).1 11)), .int (zI ((u2 0).1 12)), .ref (q 2), .ref (q 3), .ref (q 4), .ref (q 5), .ref (q 6), .ref (q 7), .ref (q 8), .ref (q 9), .ref (q 10), .ref (q 11), .ref (q 12), .ref (q 13), .ref (q 14), .ref (q 15), .ref (q 16), .int (zI ((u2 0).1 13)), .int (zI ((u2 0).1 14)), .int (zI ((u2 0).1 15)), .int (zI ((u2 0).1 16)), .int (zI (((u2 0).1 17) + 1)), .int (zI ((u2 0).1 18)), .ref (q 17), .ref (q 18), .ref (q 19), .ref (q 20)]))]) rfl (fun H locs hP hD hS => ?_)
              refine lv_aload_n hx hb dX9_mark_113 rfl (lv_at hl 1 rfl) ?_
              refine r_get F hK hP 4 34 rfl rfl in_X9 (by decide) k_1197 rfl dX9_mark_114 ?_
              refine lv_iconst (v := zI 1) hx hb dX9_mark_117 rfl ?_
              refine r_isub (v := zI ((((u2 0).1 17) + 1) - 1)) F dX9_mark_118 (zI_sub _ _) ?_
              obtain ⟨i9, e_i9⟩ : ∃ i9 : Nat → Int, i9 = fun k => [((u2 0).1 0), ((u2 0).1 1), ((u2 0).1 2), ((u2 0).1 3), ((u2 0).1 4), ((u2 0).1 5), ((u2 0).1 6), ((u2 0).1 7), ((u2 0).1 8), ((u2 0).1 9), ((u2 0).1 10), ((u2 0).1 11), ((u2 0).1 12), ((u2 0).1 13), ((u2 0).1 14), ((u2 0).1 15), ((u2 0).1 16), (((u2 0).1 17) + 1), ((u2 0).1 18)].getD k 0 := ⟨_, rfl⟩
              have e_i9_0 : i9 0 = ((u2 0).1 0) := by rw [e_i9]; rfl
              have e_i9_1 : i9 1 = ((u2 0).1 1) := by rw [e_i9]; rfl
              have e_i9_2 : i9 2 = ((u2 0).1 2) := by rw [e_i9]; rfl
              have e_i9_3 : i9 3 = ((u2 0).1 3) := by rw [e_i9]; rfl
              have e_i9_4 : i9 4 = ((u2 0).1 4) := by rw [e_i9]; rfl
              have e_i9_5 : i9 5 = ((u2 0).1 5) := by rw [e_i9]; rfl
              have e_i9_6 : i9 6 = ((u2 0).1 6) := by rw [e_i9]; rfl
              have e_i9_7 : i9 7 = ((u2 0).1 7) := by rw [e_i9]; rfl
              have e_i9_8 : i9 8 = ((u2 0).1 8) := by rw [e_i9]; rfl
              have e_i9_9 : i9 9 = ((u2 0).1 9) := by rw [e_i9]; rfl
              have e_i9_10 : i9 10 = ((u2 0).1 10) := by rw [e_i9]; rfl
              have e_i9_11 : i9 11 = ((u2 0).1 11) := by rw [e_i9]; rfl
              have e_i9_12 : i9 12 = ((u2 0).1 12) := by rw [e_i9]; rfl
              have e_i9_13 : i9 13 = ((u2 0).1 13) := by rw [e_i9]; rfl
              have e_i9_14 : i9 14 = ((u2 0).1 14) := by rw [e_i9]; rfl
              have e_i9_15 : i9 15 = ((u2 0).1 15) := by rw [e_i9]; rfl
              have e_i9_16 : i9 16 = ((u2 0).1 16) := by rw [e_i9]; rfl
              have e_i9_17 : i9 17 = (((u2 0).1 17) + 1) := by rw [e_i9]; rfl
              have e_i9_18 : i9 18 = ((u2 0).1 18) := by rw [e_i9]; rfl
              have hO10 : ModOk i9 := by have hold9 := hp3.1.1; have hold8 : _ → _ := hp3.1.2; refine ⟨⟨⟨?_, ?_, ?_, ?_, ?_⟩, ⟨?_, ?_, ?_, ?_, ?_, ?_⟩, ⟨?_, ?_, ?_, ?_⟩⟩, fun q5 => ?_⟩ <;> omega
              have hf11 := hO10.1
              have hP : va_P G vwCl [((q 3), .inl (cI, 200, .inl (fun k => zI (g_now k)))), ((q 13), .inl (cI, 159, .inl (fun k => zI (g_st k)))), ((q 6), .inl (cI, 800, .inl (fun k => zI (gk9 k)))), ((q 16), .inl (cI, 636, .inl (fun k => zI (gr9 k)))), (y, .inr (9, [.int (zI (i9 0)), .ref (q 0), .int (zI (i9 1)), .int (zI (i9 2)), .int (zI (i9 3)), .int (zI (i9 4)), .int (zI (i9 5)), .int (zI (i9 6)), .int (zI (i9 7)), .int (zI (i9 8)), .int (zI (i9 9)), .int (zI (i9 10)), .ref (q 1), .int (zI (i9 11)), .int (zI (i9 12)), .ref (q 2), .ref (q 3), .ref (q 4), .ref (q 5), .ref (q 6), .ref (q 7), .ref (q 8), .ref (q 9), .ref (q 10), .ref (q 11), .ref (q 12), .ref (q 13), .ref (q 14), .ref (q 15), .ref (q 16), .int (zI (i9 13)), .int (zI (i9 14)), .int (zI (i9 15)), .int (zI (i9 16)), .int (zI (i9 17)), .int (zI (i9 18)), .ref (q 17), .ref (q 18), .ref (q 19), .ref (q 20)]))] H := by subst e_i9; exact hP
              have hD : va_D A [((q 3), .inl (cI, 200, .inl (fun k => zI (g_now k)))), ((q 13), .inl (cI, 159, .inl (fun k => zI (g_st k)))), ((q 6), .inl (cI, 800, .inl (fun k => zI (gk9 k)))), ((q 16), .inl (cI, 636, .inl (fun k => zI (gr9 k)))), (y, .inr (9, [.int (zI (i9 0)), .ref (q 0), .int (zI (i9 1)), .int (zI (i9 2)), .int (zI (i9 3)), .int (zI (i9 4)), .int (zI (i9 5)), .int (zI (i9 6)), .int (zI (i9 7)), .int (zI (i9 8)), .int (zI (i9 9)), .int (zI (i9 10)), .ref (q 1), .int (zI (i9 11)), .int (zI (i9 12)), .ref (q 2), .ref (q 3), .ref (q 4), .ref (q 5), .ref (q 6), .ref (q 7), .ref (q 8), .ref (q 9), .ref (q 10), .ref (q 11), .ref (q 12), .ref (q 13), .ref (q 14), .ref (q 15), .ref (q 16), .int (zI (i9 13)), .int (zI (i9 14)), .int (zI (i9 15)), .int (zI (i9 16)), .int (zI (i9 17)), .int (zI (i9 18)), .ref (q 17), .ref (q 18), .ref (q 19), .ref (q 20)]))] := by subst e_i9; exact hD
              exact ret (zI ((((u2 0).1 17) + 1) - 1)) (fun k => [(i9, fun _ _ => 0), (fun _ => 0, fun _ => gk9), (fun _ => 0, fun _ => gr9)].getD k (fun _ => 0, fun _ _ => 0)) _ _ _ _ _ _ rfl ⟨((((u2 0).1 17) + 1) - 1), rfl, hO10, ⟨(show i9 1 = i 1 ∧ i9 8 = i 8 ∧ i9 9 = i 9 ∧ i9 12 = i 12 ∧ i9 13 = i 13 ∧ i9 15 = i 15 ∧ i9 10 ≠ 4 from by omega), (show (i 12 = 0 ∧ (((((u2 0).1 17) + 1) - 1) : Int) = -1 ∧ i9 17 = i 17) ∨ (i 12 ≠ 0 ∧ i 17 = 4 ∧ (((((u2 0).1 17) + 1) - 1) : Int) = -1 ∧ i9 17 = i 17) ∨ (i 12 ≠ 0 ∧ i 17 ≠ 4 ∧ (((((u2 0).1 17) + 1) - 1) : Int) = i 17 ∧ i9 17 = i 17 + 1) from by omega), hkn⟩⟩ (bw_subP (isC := [4, 0, 1, 2, 3]) hP rfl) (hD.sub [4, 0, 1, 2, 3] (by decide) rfl) hS (Nat.le_of_ble_eq_true rfl) (Nat.le_of_ble_eq_true rfl) dX9_mark_119
            · refine lv_aload_n hx hb dX9_mark_76 rfl (lv_at hl 1 rfl) ?_
              refine r_get F hK hP 4 29 rfl rfl in_X9 (by decide) k_1192 rfl dX9_mark_77 ?_
              refine lv_sipush (v := zI 159) hx hb dX9_mark_80 (by decide) ?_
              refine lv_aload_n hx hb dX9_mark_83 rfl (lv_at hl 1 rfl) ?_
              refine r_get F hK hP 4 34 rfl rfl in_X9 (by decide) k_1197 rfl dX9_mark_84 ?_
              refine r_imul (v := zI (159 * ((u2 0).1 17))) F dX9_mark_87 (zI_mul _ _) ?_
              refine lv_iload_n hx hb dX9_mark_88 rfl (lv_at hl 0 rfl) ?_
              refine r_iadd (v := zI ((159 * ((u2 0).1 17)) + v1)) F dX9_mark_89 (zI_add _ _) ?_
              refine lv_aload_n hx hb dX9_mark_90 rfl (lv_at hl 1 rfl) ?_
              refine r_get F hK hP 4 26 rfl rfl in_X9 (by decide) k_1189 rfl dX9_mark_91 ?_
              refine lv_iload_n hx hb dX9_mark_94 rfl (lv_at hl 0 rfl) ?_
              refine rz_iald F hK hP 1 0 rfl rfl (by omega) (by omega) dX9_mark_95 ?_
              refine rz_iastG F hK hP hD hS 3 0 rfl rfl (by omega) (by omega) dX9_mark_96 (w1 := fun g12 => [((q 3), .inl (cI, 200, .inl (fun k => zI (g_now k)))), ((q 13), .inl (cI, 159, .inl (fun k => zI (g_st k)))), ((q 6), .inl (cI, 800, .inl (fun k => zI (gk9 k)))), ((q 16), .inl (cI, 636, .inl (fun k => zI (g12 k)))), (y, .inr (9, [.int (zI ((u2 0).1 0)), .ref (q 0), .int (zI ((u2 0).1 1)), .int (zI ((u2 0).1 2)), .int (zI ((u2 0).1 3)), .int (zI ((u2 0).1 4)), .int (zI ((u2 0).1 5)), .int (zI ((u2 0).1 6)), .int (zI ((u2 0).1 7)), .int (zI ((u2 0).1 8)), .int (zI ((u2 0).1 9)), .int (zI ((u2 0).1 10)), .ref (q 1), .int (zI ((u2 0).1 11)), .int (zI ((u2 0).1 12)), .ref (q 2), .ref (q 3), .ref (q 4), .ref (q 5), .ref (q 6), .ref (q 7), .ref (q 8), .ref (q 9), .ref (q 10), .ref (q 11), .ref (q 12), .ref (q 13), .ref (q 14), .ref (q 15), .ref (q 16), .int (zI ((u2 0).1 13)), .int (zI ((u2 0).1 14)), .int (zI ((u2 0).1 15)), .int (zI ((u2 0).1 16)), .int (zI ((u2 0).1 17)), .int (zI ((u2 0).1 18)), .ref (q 17), .ref (q 18), .ref (q 19), .ref (q 20)]))]) (fun _ => rfl) (fun g12 e_g12 H locs hP hD hS => ?_)
              refine lv_iinc (v := zI (v1 + 1)) (lv' := [(1, .int (zI (v1 + 1))), (0, .ref y)]) hx hb dX9_mark_97 hl (k := 0) rfl (zI_add _ _) (by decide) rfl (fun ls hl => ?_)
              refine lv_goto (tgt := 69) hx hb dX9_mark_100 (by decide) ?_
              exact ih2 (v1 + 1) g12 _ _ (by omega) (by omega) (km_step (by omega) hk2 e_g12) hP hD hS ls (lv_sub hl [0, 1] rfl)
        · refine lv_aload_n hx hb dX9_mark_40 rfl (lv_at hl 1 rfl) ?_
          refine r_get F hK hP 4 19 rfl rfl in_X9 (by decide) k_1182 rfl dX9_mark_41 ?_
          refine lv_sipush (v := zI 200) hx hb dX9_mark_44 (by decide) ?_
          refine lv_aload_n hx hb dX9_mark_47 rfl (lv_at hl 1 rfl) ?_
          refine r_get F hK hP 4 34 rfl rfl in_X9 (by decide) k_1197 rfl dX9_mark_48 ?_
          refine r_imul (v := zI (200 * ((u2 0).1 17))) F dX9_mark_51 (zI_mul _ _) ?_
          refine lv_iload_n hx hb dX9_mark_52 rfl (lv_at hl 0 rfl) ?_
          refine r_iadd (v := zI ((200 * ((u2 0).1 17)) + v1)) F dX9_mark_53 (zI_add _ _) ?_
          refine lv_aload_n hx hb dX9_mark_54 rfl (lv_at hl 1 rfl) ?_
          refine r_get F hK hP 4 16 rfl rfl in_X9 (by decide) k_1179 rfl dX9_mark_55 ?_
          refine lv_iload_n hx hb dX9_mark_58 rfl (lv_at hl 0 rfl) ?_
          refine rz_iald F hK hP 0 0 rfl rfl (by omega) (by omega) dX9_mark_59 ?_
          refine rz_iastG F hK hP hD hS 2 0 rfl rfl (by omega) (by omega) dX9_mark_60 (w1 := fun g13 => [((q 3), .inl (cI, 200, .inl (fun k => zI (g_now k)))), ((q 13), .inl (cI, 159, .inl (fun k => zI (g_st k)))), ((q 6), .inl (cI, 800, .inl (fun k => zI (g13 k)))), ((q 16), .inl (cI, 636, .inl (fun k => zI (g_keptRuns k)))), (y, .inr (9, [.int (zI ((u2 0).1 0)), .ref (q 0), .int (zI ((u2 0).1 1)), .int (zI ((u2 0).1 2)), .int (zI ((u2 0).1 3)), .int (zI ((u2 0).1 4)), .int (zI ((u2 0).1 5)), .int (zI ((u2 0).1 6)), .int (zI ((u2 0).1 7)), .int (zI ((u2 0).1 8)), .int (zI ((u2 0).1 9)), .int (zI ((u2 0).1 10)), .ref (q 1), .int (zI ((u2 0).1 11)), .int (zI ((u2 0).1 12)), .ref (q 2), .ref (q 3), .ref (q 4), .ref (q 5), .ref (q 6), .ref (q 7), .ref (q 8), .ref (q 9), .ref (q 10), .ref (q 11), .ref (q 12), .ref (q 13), .ref (q 14), .ref (q 15), .ref (q 16), .int (zI ((u2 0).1 13)), .int (zI ((u2 0).1 14)), .int (zI ((u2 0).1 15)), .int (zI ((u2 0).1 16)), .int (zI ((u2 0).1 17)), .int (zI ((u2 0).1 18)), .ref (q 17), .ref (q 18), .ref (q 19), .ref (q 20)]))]) (fun _ => rfl) (fun g13 e_g13 H locs hP hD hS => ?_)
          refine lv_iinc (v := zI (v1 + 1)) (lv' := [(1, .int (zI (v1 + 1))), (0, .ref y)]) hx hb dX9_mark_61 hl (k := 0) rfl (zI_add _ _) (by decide) rfl (fun ls hl => ?_)
          refine lv_goto (tgt := 33) hx hb dX9_mark_64 (by decide) ?_
          exact ih1 (v1 + 1) g13 _ _ (by omega) (by omega) (km_step (by omega) hk1 e_g13) hP hD hS ls (lv_sub hl [0, 1] rfl)
    · refine lv_aload_n hx hb dX9_mark_25 rfl (lv_at hl 0 rfl) ?_
      refine lv_iconst (v := zI 3) hx hb dX9_mark_26 rfl ?_
      refine r_callVi (As := [.int (zI 3)]) (rest := []) (wr := [((q 3), .inl (cI, 200, .inl (fun k => zI (g_now k)))), ((q 13), .inl (cI, 159, .inl (fun k => zI (g_st k)))), ((q 6), .inl (cI, 800, .inl (fun k => zI (g_kept k)))), ((q 16), .inl (cI, 636, .inl (fun k => zI (g_keptRuns k))))]) F hK hP hD hS hA hO hE (c_X9_no hO y q ((u2 0).1) hp3.1 3 (by omega) (by omega)) k_1299 kv_X9_no 1 rfl (by decide +kernel) ⟨Nat.le_of_ble_eq_true rfl, Nat.le_of_ble_eq_true rfl⟩ [4] [0, 1, 2, 3] rfl rfl (by decide) (by decide) (by decide) 0 9 rfl rfl rfl hl.1 rfl (Nat.le_of_ble_eq_true rfl) dX9_mark_27 ⟨Nat.le_of_ble_eq_true rfl, Nat.le_of_ble_eq_true rfl⟩ (w1 := fun u14 => [((q 3), .inl (cI, 200, .inl (fun k => zI (g_now k)))), ((q 13), .inl (cI, 159, .inl (fun k => zI (g_st k)))), ((q 6), .inl (cI, 800, .inl (fun k => zI (g_kept k)))), ((q 16), .inl (cI, 636, .inl (fun k => zI (g_keptRuns k)))), (y, .inr (9, [.int (zI ((u14 0).1 0)), .ref (q 0), .int (zI ((u14 0).1 1)), .int (zI ((u14 0).1 2)), .int (zI ((u14 0).1 3)), .int (zI ((u14 0).1 4)), .int (zI ((u14 0).1 5)), .int (zI ((u14 0).1 6)), .int (zI ((u14 0).1 7)), .int (zI ((u14 0).1 8)), .int (zI ((u14 0).1 9)), .int (zI ((u14 0).1 10)), .ref (q 1), .int (zI ((u14 0).1 11)), .int (zI ((u14 0).1 12)), .ref (q 2), .ref (q 3), .ref (q 4), .ref (q 5), .ref (q 6), .ref (q 7), .ref (q 8), .ref (q 9), .ref (q 10), .ref (q 11), .ref (q 12), .ref (q 13), .ref (q 14), .ref (q 15), .ref (q 16), .int (zI ((u14 0).1 13)), .int (zI ((u14 0).1 14)), .int (zI ((u14 0).1 15)), .int (zI ((u14 0).1 16)), .int (zI ((u14 0).1 17)), .int (zI ((u14 0).1 18)), .ref (q 17), .ref (q 18), .ref (q 19), .ref (q 20)]))]) (fun _ => rfl) (fun r15 u14 H locs hp16 hP hD hS => ?_)
      obtain ⟨z17, rfl, h_z17⟩ := hp16
      have hf18 := h_z17.1.1
      exact ret (zI z17) (fun k => [((u14 0).1, fun _ _ => 0), (fun _ => 0, fun _ => g_kept), (fun _ => 0, fun _ => g_keptRuns)].getD k (fun _ => 0, fun _ _ => 0)) _ _ _ _ _ _ rfl ⟨z17, rfl, h_z17.1, ⟨(show ((u14 0).1) 1 = i 1 ∧ ((u14 0).1) 8 = i 8 ∧ ((u14 0).1) 9 = i 9 ∧ ((u14 0).1) 12 = i 12 ∧ ((u14 0).1) 13 = i 13 ∧ ((u14 0).1) 15 = i 15 ∧ ((u14 0).1) 10 ≠ 4 from by omega), (show (i 12 = 0 ∧ (z17 : Int) = -1 ∧ ((u14 0).1) 17 = i 17) ∨ (i 12 ≠ 0 ∧ i 17 = 4 ∧ (z17 : Int) = -1 ∧ ((u14 0).1) 17 = i 17) ∨ (i 12 ≠ 0 ∧ i 17 ≠ 4 ∧ (z17 : Int) = i 17 ∧ ((u14 0).1) 17 = i 17 + 1) from by omega), hkp⟩⟩ (bw_subP (isC := [4, 0, 1, 2, 3]) hP rfl) (hD.sub [4, 0, 1, 2, 3] (by decide) rfl) hS (Nat.le_of_ble_eq_true rfl) (Nat.le_of_ble_eq_true rfl) dX9_mark_30
  · refine lv_aload_n hx hb dX9_mark_11 rfl (lv_at hl 0 rfl) ?_
    refine lv_iconst (v := zI 1) hx hb dX9_mark_12 rfl ?_
    refine r_callVi (As := [.int (zI 1)]) (rest := []) (wr := [((q 3), .inl (cI, 200, .inl (fun k => zI (g_now k)))), ((q 13), .inl (cI, 159, .inl (fun k => zI (g_st k)))), ((q 6), .inl (cI, 800, .inl (fun k => zI (g_kept k)))), ((q 16), .inl (cI, 636, .inl (fun k => zI (g_keptRuns k))))]) F hK hP hD hS hA hO hE (c_X9_no hO y q ((u2 0).1) hp3.1 1 (by omega) (by omega)) k_1299 kv_X9_no 1 rfl (by decide +kernel) ⟨Nat.le_of_ble_eq_true rfl, Nat.le_of_ble_eq_true rfl⟩ [4] [0, 1, 2, 3] rfl rfl (by decide) (by decide) (by decide) 0 9 rfl rfl rfl hl.1 rfl (Nat.le_of_ble_eq_true rfl) dX9_mark_13 ⟨Nat.le_of_ble_eq_true rfl, Nat.le_of_ble_eq_true rfl⟩ (w1 := fun u19 => [((q 3), .inl (cI, 200, .inl (fun k => zI (g_now k)))), ((q 13), .inl (cI, 159, .inl (fun k => zI (g_st k)))), ((q 6), .inl (cI, 800, .inl (fun k => zI (g_kept k)))), ((q 16), .inl (cI, 636, .inl (fun k => zI (g_keptRuns k)))), (y, .inr (9, [.int (zI ((u19 0).1 0)), .ref (q 0), .int (zI ((u19 0).1 1)), .int (zI ((u19 0).1 2)), .int (zI ((u19 0).1 3)), .int (zI ((u19 0).1 4)), .int (zI ((u19 0).1 5)), .int (zI ((u19 0).1 6)), .int (zI ((u19 0).1 7)), .int (zI ((u19 0).1 8)), .int (zI ((u19 0).1 9)), .int (zI ((u19 0).1 10)), .ref (q 1), .int (zI ((u19 0).1 11)), .int (zI ((u19 0).1 12)), .ref (q 2), .ref (q 3), .ref (q 4), .ref (q 5), .ref (q 6), .ref (q 7), .ref (q 8), .ref (q 9), .ref (q 10), .ref (q 11), .ref (q 12), .ref (q 13), .ref (q 14), .ref (q 15), .ref (q 16), .int (zI ((u19 0).1 13)), .int (zI ((u19 0).1 14)), .int (zI ((u19 0).1 15)), .int (zI ((u19 0).1 16)), .int (zI ((u19 0).1 17)), .int (zI ((u19 0).1 18)), .ref (q 17), .ref (q 18), .ref (q 19), .ref (q 20)]))]) (fun _ => rfl) (fun r20 u19 H locs hp21 hP hD hS => ?_)
    obtain ⟨z22, rfl, h_z22⟩ := hp21
    have hf23 := h_z22.1.1
    exact ret (zI z22) (fun k => [((u19 0).1, fun _ _ => 0), (fun _ => 0, fun _ => g_kept), (fun _ => 0, fun _ => g_keptRuns)].getD k (fun _ => 0, fun _ _ => 0)) _ _ _ _ _ _ rfl ⟨z22, rfl, h_z22.1, ⟨(show ((u19 0).1) 1 = i 1 ∧ ((u19 0).1) 8 = i 8 ∧ ((u19 0).1) 9 = i 9 ∧ ((u19 0).1) 12 = i 12 ∧ ((u19 0).1) 13 = i 13 ∧ ((u19 0).1) 15 = i 15 ∧ ((u19 0).1) 10 ≠ 4 from by omega), (show (i 12 = 0 ∧ (z22 : Int) = -1 ∧ ((u19 0).1) 17 = i 17) ∨ (i 12 ≠ 0 ∧ i 17 = 4 ∧ (z22 : Int) = -1 ∧ ((u19 0).1) 17 = i 17) ∨ (i 12 ≠ 0 ∧ i 17 ≠ 4 ∧ (z22 : Int) = i 17 ∧ ((u19 0).1) 17 = i 17 + 1) from by omega), hkp⟩⟩ (bw_subP (isC := [4, 0, 1, 2, 3]) hP rfl) (hD.sub [4, 0, 1, 2, 3] (by decide) rfl) hS (Nat.le_of_ble_eq_true rfl) (Nat.le_of_ble_eq_true rfl) dX9_mark_16
theorem bk_step {f g g' : Nat → Int} {v : Int} {o : Int} (h0 : 0 ≤ v ∧ 0 ≤ o) (h : ∀ k : Nat, (k : Int) < v → g k = f (o.toNat + k)) (e : g' = uZ g v.toNat (f (o + v).toNat)) : ∀ k : Nat, (k : Int) < v + 1 → g' k = f (o.toNat + k) := by
  intro k hk
  by_cases q : k = v.toNat
  · rw [uZ_at e q, show (o + v).toNat = o.toNat + k by omega]
  · rw [uZ_off e q]; exact h k (by omega)
theorem dX9_back_0 : decode cX9_back 0 = .ok (.aload_n 0, 1) := by decide +kernel
theorem dX9_back_1 : decode cX9_back 1 = .ok (.invokevirtual 197, 3) := by decide +kernel
theorem dX9_back_4 : decode cX9_back 4 = .ok (.iload_n 1, 1) := by decide +kernel
theorem dX9_back_5 : decode cX9_back 5 = .ok (.iconst 0, 1) := by decide +kernel
theorem dX9_back_6 : decode cX9_back 6 = .ok (.aload_n 0, 1) := by decide +kernel
theorem dX9_back_7 : decode cX9_back 7 = .ok (.getfield 219, 3) := by decide +kernel
theorem dX9_back_10 : decode cX9_back 10 = .ok (.iconst 1, 1) := by decide +kernel
theorem dX9_back_11 : decode cX9_back 11 = .ok (.isub, 1) := by decide +kernel
theorem dX9_back_12 : decode cX9_back 12 = .ok (.invokestatic 146, 3) := by decide +kernel
theorem dX9_back_15 : decode cX9_back 15 = .ok (.ifCond .ne 9, 3) := by decide +kernel
theorem dX9_back_24 : decode cX9_back 24 = .ok (.iconst 0, 1) := by decide +kernel
theorem dX9_back_25 : decode cX9_back 25 = .ok (.istore_n 2, 1) := by decide +kernel
theorem dX9_back_26 : decode cX9_back 26 = .ok (.iload_n 2, 1) := by decide +kernel
theorem dX9_back_27 : decode cX9_back 27 = .ok (.sipush 200, 3) := by decide +kernel
theorem dX9_back_30 : decode cX9_back 30 = .ok (.if_icmp .ge 27, 3) := by decide +kernel
theorem dX9_back_57 : decode cX9_back 57 = .ok (.iconst 0, 1) := by decide +kernel
theorem dX9_back_58 : decode cX9_back 58 = .ok (.istore_n 2, 1) := by decide +kernel
theorem dX9_back_59 : decode cX9_back 59 = .ok (.iload_n 2, 1) := by decide +kernel
theorem dX9_back_60 : decode cX9_back 60 = .ok (.sipush 159, 3) := by decide +kernel
theorem dX9_back_63 : decode cX9_back 63 = .ok (.if_icmp .ge 27, 3) := by decide +kernel
theorem dX9_back_90 : decode cX9_back 90 = .ok (.iconst 1, 1) := by decide +kernel
theorem dX9_back_91 : decode cX9_back 91 = .ok (.ireturn, 1) := by decide +kernel
theorem dX9_back_66 : decode cX9_back 66 = .ok (.aload_n 0, 1) := by decide +kernel
theorem dX9_back_67 : decode cX9_back 67 = .ok (.getfield 53, 3) := by decide +kernel
theorem dX9_back_70 : decode cX9_back 70 = .ok (.iload_n 2, 1) := by decide +kernel
theorem dX9_back_71 : decode cX9_back 71 = .ok (.aload_n 0, 1) := by decide +kernel
theorem dX9_back_72 : decode cX9_back 72 = .ok (.getfield 62, 3) := by decide +kernel
theorem dX9_back_75 : decode cX9_back 75 = .ok (.sipush 159, 3) := by decide +kernel
theorem dX9_back_78 : decode cX9_back 78 = .ok (.iload_n 1, 1) := by decide +kernel
theorem dX9_back_79 : decode cX9_back 79 = .ok (.imul, 1) := by decide +kernel
theorem dX9_back_80 : decode cX9_back 80 = .ok (.iload_n 2, 1) := by decide +kernel
theorem dX9_back_81 : decode cX9_back 81 = .ok (.iadd, 1) := by decide +kernel
theorem dX9_back_82 : decode cX9_back 82 = .ok (.iaload, 1) := by decide +kernel
theorem dX9_back_83 : decode cX9_back 83 = .ok (.iastore, 1) := by decide +kernel
theorem dX9_back_84 : decode cX9_back 84 = .ok (.iinc 2 1, 3) := by decide +kernel
theorem dX9_back_87 : decode cX9_back 87 = .ok (.goto (-28), 3) := by decide +kernel
theorem dX9_back_33 : decode cX9_back 33 = .ok (.aload_n 0, 1) := by decide +kernel
theorem dX9_back_34 : decode cX9_back 34 = .ok (.getfield 23, 3) := by decide +kernel
theorem dX9_back_37 : decode cX9_back 37 = .ok (.iload_n 2, 1) := by decide +kernel
theorem dX9_back_38 : decode cX9_back 38 = .ok (.aload_n 0, 1) := by decide +kernel
theorem dX9_back_39 : decode cX9_back 39 = .ok (.getfield 32, 3) := by decide +kernel
theorem dX9_back_42 : decode cX9_back 42 = .ok (.sipush 200, 3) := by decide +kernel
theorem dX9_back_45 : decode cX9_back 45 = .ok (.iload_n 1, 1) := by decide +kernel
theorem dX9_back_46 : decode cX9_back 46 = .ok (.imul, 1) := by decide +kernel
theorem dX9_back_47 : decode cX9_back 47 = .ok (.iload_n 2, 1) := by decide +kernel
theorem dX9_back_48 : decode cX9_back 48 = .ok (.iadd, 1) := by decide +kernel
theorem dX9_back_49 : decode cX9_back 49 = .ok (.iaload, 1) := by decide +kernel
theorem dX9_back_50 : decode cX9_back 50 = .ok (.iastore, 1) := by decide +kernel
theorem dX9_back_51 : decode cX9_back 51 = .ok (.iinc 2 1, 3) := by decide +kernel
theorem dX9_back_54 : decode cX9_back 54 = .ok (.goto (-28), 3) := by decide +kernel
theorem dX9_back_18 : decode cX9_back 18 = .ok (.aload_n 0, 1) := by decide +kernel
theorem dX9_back_19 : decode cX9_back 19 = .ok (.iconst 1, 1) := by decide +kernel
theorem dX9_back_20 : decode cX9_back 20 = .ok (.invokevirtual 291, 3) := by decide +kernel
theorem dX9_back_23 : decode cX9_back 23 = .ok (.ireturn, 1) := by decide +kernel
abbrev rm_X9_back : Room := { frames := 1, cells := 0, slots := 0, locals := 22 }
set_option maxRecDepth 100000 in
set_option maxHeartbeats 8000000 in
theorem c_X9_back {l : Launch} {E : (Nat → Prop) → State → Prop} (hO : bw_Ok E) {G : va_G} {cI cB cJ cN cW : ClassId} (y : Nat) (q : Nat → Nat) (i : Nat → Int) (hM : ModOk i) (g_now : Nat → Int) (g_st : Nat → Int) (g_kept : Nat → Int) (g_keptRuns : Nat → Int) (x : Int) (hx9 : zR x) (hpn : ProgOk g_now) (hst : StOk g_now g_st) (hkp : KeptOk g_kept g_keptRuns) : bw_Ci (S := zV) l yX9_back (bw_ws (Cond.code yX9_back cX9_back 3 (some .boolean))) rm_X9_back E G (bw_kt cI cB cJ cN cW) [.ref y, .int (zI x)] [(y, .inr (9, [.int (zI (i 0)), .ref (q 0), .int (zI (i 1)), .int (zI (i 2)), .int (zI (i 3)), .int (zI (i 4)), .int (zI (i 5)), .int (zI (i 6)), .int (zI (i 7)), .int (zI (i 8)), .int (zI (i 9)), .int (zI (i 10)), .ref (q 1), .int (zI (i 11)), .int (zI (i 12)), .ref (q 2), .ref (q 3), .ref (q 4), .ref (q 5), .ref (q 6), .ref (q 7), .ref (q 8), .ref (q 9), .ref (q 10), .ref (q 11), .ref (q 12), .ref (q 13), .ref (q 14), .ref (q 15), .ref (q 16), .int (zI (i 13)), .int (zI (i 14)), .int (zI (i 15)), .int (zI (i 16)), .int (zI (i 17)), .int (zI (i 18)), .ref (q 17), .ref (q 18), .ref (q 19), .ref (q 20)])), ((q 3), .inl (cI, 200, .inl (fun k => zI (g_now k)))), ((q 13), .inl (cI, 159, .inl (fun k => zI (g_st k)))), ((q 6), .inl (cI, 800, .inl (fun k => zI (g_kept k)))), ((q 16), .inl (cI, 636, .inl (fun k => zI (g_keptRuns k))))] (fun r u => ∃ z : Int, r = zI z ∧ (ModOk (u 0).1) ∧ (((u 0).1 1 = i 1 ∧ (u 0).1 8 = i 8 ∧ (u 0).1 9 = i 9 ∧ (u 0).1 12 = i 12 ∧ (u 0).1 13 = i 13 ∧ (u 0).1 15 = i 15 ∧ (u 0).1 17 = i 17 ∧ (u 0).1 10 ≠ 4) ∧ ((z = 1 ∧ 0 ≤ x ∧ x < i 17) ∨ (z = 0 ∧ ¬ (0 ≤ x ∧ x < i 17))) ∧ ProgOk ((u 1).2 0) ∧ StOk ((u 1).2 0) ((u 2).2 0))) (fun u => [(y, .inr (9, [.int (zI ((u 0).1 0)), .ref (q 0), .int (zI ((u 0).1 1)), .int (zI ((u 0).1 2)), .int (zI ((u 0).1 3)), .int (zI ((u 0).1 4)), .int (zI ((u 0).1 5)), .int (zI ((u 0).1 6)), .int (zI ((u 0).1 7)), .int (zI ((u 0).1 8)), .int (zI ((u 0).1 9)), .int (zI ((u 0).1 10)), .ref (q 1), .int (zI ((u 0).1 11)), .int (zI ((u 0).1 12)), .ref (q 2), .ref (q 3), .ref (q 4), .ref (q 5), .ref (q 6), .ref (q 7), .ref (q 8), .ref (q 9), .ref (q 10), .ref (q 11), .ref (q 12), .ref (q 13), .ref (q 14), .ref (q 15), .ref (q 16), .int (zI ((u 0).1 13)), .int (zI ((u 0).1 14)), .int (zI ((u 0).1 15)), .int (zI ((u 0).1 16)), .int (zI ((u 0).1 17)), .int (zI ((u 0).1 18)), .ref (q 17), .ref (q 18), .ref (q 19), .ref (q 20)])), ((q 3), .inl (cI, 200, .inl (fun k => zI (((u 1).2 0) k)))), ((q 13), .inl (cI, 159, .inl (fun k => zI (((u 2).2 0) k)))), ((q 6), .inl (cI, 800, .inl (fun k => zI (g_kept k)))), ((q 16), .inl (cI, 636, .inl (fun k => zI (g_keptRuns k))))]) := by
  refine bw_Ci.of (cc := cX9_back) (maxL := 3) (ty := .boolean) (by decide) rfl (Nat.le_of_ble_eq_true rfl) ?_
  intro p e s m below meth c A Q hx hb hml hts hown hin hK hA hS hP hD hE ret ls hl
  have F : CallFix p m c cX9_back 3 s ([.ref y, .int (zI x)] : List Value).toArray bw_T RX9 := ⟨hx, hb, hml, hown, fun w h => hts w (List.mem_cons_of_mem _ h)⟩
  replace hl : lv_has ls 3 [(0, .ref y), (1, .int (zI x))] := hl
  have hf1 := hM.1
  refine lv_aload_n hx hb dX9_back_0 rfl (lv_at hl 0 rfl) ?_
  refine r_callVv (As := []) (rest := []) (wr := [((q 3), .inl (cI, 200, .inl (fun k => zI (g_now k)))), ((q 13), .inl (cI, 159, .inl (fun k => zI (g_st k)))), ((q 6), .inl (cI, 800, .inl (fun k => zI (g_kept k)))), ((q 16), .inl (cI, 636, .inl (fun k => zI (g_keptRuns k))))]) F hK hP hD hS hA hO hE (c_X9_good hO y q i hM) k_1292 kv_X9_good 0 rfl (by decide +kernel) ⟨Nat.le_of_ble_eq_true rfl, Nat.le_of_ble_eq_true rfl⟩ [0] [1, 2, 3, 4] rfl rfl (by decide) (by decide) (by decide) 0 9 rfl rfl rfl hl.1 rfl (Nat.le_of_ble_eq_true rfl) dX9_back_1 ⟨Nat.le_of_ble_eq_true rfl, Nat.le_of_ble_eq_true rfl⟩ (w1 := fun u2 => [((q 3), .inl (cI, 200, .inl (fun k => zI (g_now k)))), ((q 13), .inl (cI, 159, .inl (fun k => zI (g_st k)))), ((q 6), .inl (cI, 800, .inl (fun k => zI (g_kept k)))), ((q 16), .inl (cI, 636, .inl (fun k => zI (g_keptRuns k)))), (y, .inr (9, [.int (zI ((u2 0).1 0)), .ref (q 0), .int (zI ((u2 0).1 1)), .int (zI ((u2 0).1 2)), .int (zI ((u2 0).1 3)), .int (zI ((u2 0).1 4)), .int (zI ((u2 0).1 5)), .int (zI ((u2 0).1 6)), .int (zI ((u2 0).1 7)), .int (zI ((u2 0).1 8)), .int (zI ((u2 0).1 9)), .int (zI ((u2 0).1 10)), .ref (q 1), .int (zI ((u2 0).1 11)), .int (zI ((u2 0).1 12)), .ref (q 2), .ref (q 3), .ref (q 4), .ref (q 5), .ref (q 6), .ref (q 7), .ref (q 8), .ref (q 9), .ref (q 10), .ref (q 11), .ref (q 12), .ref (q 13), .ref (q 14), .ref (q 15), .ref (q 16), .int (zI ((u2 0).1 13)), .int (zI ((u2 0).1 14)), .int (zI ((u2 0).1 15)), .int (zI ((u2 0).1 16)), .int (zI ((u2 0).1 17)), .int (zI ((u2 0).1 18)), .ref (q 17), .ref (q 18), .ref (q 19), .ref (q 20)]))]) (fun _ => rfl) (fun  u2 H locs hp3 hP hD hS => ?_)
  have hf4 := hp3.1.1
  refine lv_iload_n hx hb dX9_back_4 rfl (lv_at hl 1 rfl) ?_
  refine lv_iconst (v := zI 0) hx hb dX9_back_5 rfl ?_
  refine lv_aload_n hx hb dX9_back_6 rfl (lv_at hl 0 rfl) ?_
  refine r_get F hK hP 4 34 rfl rfl in_X9 (by decide) k_1197 rfl dX9_back_7 ?_
  refine lv_iconst (v := zI 1) hx hb dX9_back_10 rfl ?_
  refine r_isub (v := zI (((u2 0).1 17) - 1)) F dX9_back_11 (zI_sub _ _) ?_
  refine r_callSi (As := [.int (zI x), .int (zI 0), .int (zI (((u2 0).1 17) - 1))]) (rest := []) (wr := [((q 3), .inl (cI, 200, .inl (fun k => zI (g_now k)))), ((q 13), .inl (cI, 159, .inl (fun k => zI (g_st k)))), ((q 6), .inl (cI, 800, .inl (fun k => zI (g_kept k)))), ((q 16), .inl (cI, 636, .inl (fun k => zI (g_keptRuns k)))), (y, .inr (9, [.int (zI ((u2 0).1 0)), .ref (q 0), .int (zI ((u2 0).1 1)), .int (zI ((u2 0).1 2)), .int (zI ((u2 0).1 3)), .int (zI ((u2 0).1 4)), .int (zI ((u2 0).1 5)), .int (zI ((u2 0).1 6)), .int (zI ((u2 0).1 7)), .int (zI ((u2 0).1 8)), .int (zI ((u2 0).1 9)), .int (zI ((u2 0).1 10)), .ref (q 1), .int (zI ((u2 0).1 11)), .int (zI ((u2 0).1 12)), .ref (q 2), .ref (q 3), .ref (q 4), .ref (q 5), .ref (q 6), .ref (q 7), .ref (q 8), .ref (q 9), .ref (q 10), .ref (q 11), .ref (q 12), .ref (q 13), .ref (q 14), .ref (q 15), .ref (q 16), .int (zI ((u2 0).1 13)), .int (zI ((u2 0).1 14)), .int (zI ((u2 0).1 15)), .int (zI ((u2 0).1 16)), .int (zI ((u2 0).1 17)), .int (zI ((u2 0).1 18)), .ref (q 17), .ref (q 18), .ref (q 19), .ref (q 20)]))]) F hK hP hD hS hA hO hE (c_X9_within hO x 0 (((u2 0).1 17) - 1) (by omega) (by omega) (by omega)) k_1296 ks_X9_within 3 rfl (by decide +kernel) ⟨Nat.le_of_ble_eq_true rfl, Nat.le_of_ble_eq_true rfl⟩ [] [0, 1, 2, 3, 4] rfl rfl (by decide) (by decide) (by decide) hl.1 rfl (Nat.le_of_ble_eq_true rfl) dX9_back_12 ⟨Nat.le_of_ble_eq_true rfl, Nat.le_of_ble_eq_true rfl⟩ (w1 := fun u5 => [((q 3), .inl (cI, 200, .inl (fun k => zI (g_now k)))), ((q 13), .inl (cI, 159, .inl (fun k => zI (g_st k)))), ((q 6), .inl (cI, 800, .inl (fun k => zI (g_kept k)))), ((q 16), .inl (cI, 636, .inl (fun k => zI (g_keptRuns k)))), (y, .inr (9, [.int (zI ((u2 0).1 0)), .ref (q 0), .int (zI ((u2 0).1 1)), .int (zI ((u2 0).1 2)), .int (zI ((u2 0).1 3)), .int (zI ((u2 0).1 4)), .int (zI ((u2 0).1 5)), .int (zI ((u2 0).1 6)), .int (zI ((u2 0).1 7)), .int (zI ((u2 0).1 8)), .int (zI ((u2 0).1 9)), .int (zI ((u2 0).1 10)), .ref (q 1), .int (zI ((u2 0).1 11)), .int (zI ((u2 0).1 12)), .ref (q 2), .ref (q 3), .ref (q 4), .ref (q 5), .ref (q 6), .ref (q 7), .ref (q 8), .ref (q 9), .ref (q 10), .ref (q 11), .ref (q 12), .ref (q 13), .ref (q 14), .ref (q 15), .ref (q 16), .int (zI ((u2 0).1 13)), .int (zI ((u2 0).1 14)), .int (zI ((u2 0).1 15)), .int (zI ((u2 0).1 16)), .int (zI ((u2 0).1 17)), .int (zI ((u2 0).1 18)), .ref (q 17), .ref (q 18), .ref (q 19), .ref (q 20)]))]) (fun _ => rfl) (fun r6 u5 H locs hp7 hP hD hS => ?_)
  obtain ⟨z8, rfl, h_z8⟩ := hp7
  refine rz_ifb_ne (tgt := 24) F (by omega) dX9_back_15 (by decide) (fun h15_8 => ?_) (fun h15_8 => ?_)
  · have hq10 := h_z8.2.1 (by omega)
    refine lv_iconst (v := zI 0) hx hb dX9_back_24 rfl ?_
    have hkm := hkp (x).toNat (by omega)
    refine lv_istore_n (lv' := [(2, .int (zI 0)), (0, .ref y), (1, .int (zI x))]) hx hb dX9_back_25 rfl hl (by decide) rfl (fun ls hl => ?_)
    refine W.widen (k := 0) (n := 0) (Nat.le_of_ble_eq_true rfl) (Nat.le_of_ble_eq_true rfl) ?_
    refine (?_ : ∀ (n9_1 : Nat) (v2 : Int) (gn9 : Nat → Int) (H : Heap) (locs : List Loc), (0 ≤ v2 ∧ v2 ≤ 200) → (200 - v2 : Int).toNat < n9_1 → (∀ k : Nat, (k : Int) < v2 → gn9 k = g_kept ((200 * x).toNat + k)) → va_P G vwCl [((q 3), .inl (cI, 200, .inl (fun k => zI (gn9 k)))), ((q 13), .inl (cI, 159, .inl (fun k => zI (g_st k)))), ((q 6), .inl (cI, 800, .inl (fun k => zI (g_kept k)))), ((q 16), .inl (cI, 636, .inl (fun k => zI (g_keptRuns k)))), (y, .inr (9, [.int (zI ((u2 0).1 0)), .ref (q 0), .int (zI ((u2 0).1 1)), .int (zI ((u2 0).1 2)), .int (zI ((u2 0).1 3)), .int (zI ((u2 0).1 4)), .int (zI ((u2 0).1 5)), .int (zI ((u2 0).1 6)), .int (zI ((u2 0).1 7)), .int (zI ((u2 0).1 8)), .int (zI ((u2 0).1 9)), .int (zI ((u2 0).1 10)), .ref (q 1), .int (zI ((u2 0).1 11)), .int (zI ((u2 0).1 12)), .ref (q 2), .ref (q 3), .ref (q 4), .ref (q 5), .ref (q 6), .ref (q 7), .ref (q 8), .ref (q 9), .ref (q 10), .ref (q 11), .ref (q 12), .ref (q 13), .ref (q 14), .ref (q 15), .ref (q 16), .int (zI ((u2 0).1 13)), .int (zI ((u2 0).1 14)), .int (zI ((u2 0).1 15)), .int (zI ((u2 0).1 16)), .int (zI ((u2 0).1 17)), .int (zI ((u2 0).1 18)), .ref (q 17), .ref (q 18), .ref (q 19), .ref (q 20)]))] H → va_D A [((q 3), .inl (cI, 200, .inl (fun k => zI (gn9 k)))), ((q 13), .inl (cI, 159, .inl (fun k => zI (g_st k)))), ((q 6), .inl (cI, 800, .inl (fun k => zI (g_kept k)))), ((q 16), .inl (cI, 636, .inl (fun k => zI (g_keptRuns k)))), (y, .inr (9, [.int (zI ((u2 0).1 0)), .ref (q 0), .int (zI ((u2 0).1 1)), .int (zI ((u2 0).1 2)), .int (zI ((u2 0).1 3)), .int (zI ((u2 0).1 4)), .int (zI ((u2 0).1 5)), .int (zI ((u2 0).1 6)), .int (zI ((u2 0).1 7)), .int (zI ((u2 0).1 8)), .int (zI ((u2 0).1 9)), .int (zI ((u2 0).1 10)), .ref (q 1), .int (zI ((u2 0).1 11)), .int (zI ((u2 0).1 12)), .ref (q 2), .ref (q 3), .ref (q 4), .ref (q 5), .ref (q 6), .ref (q 7), .ref (q 8), .ref (q 9), .ref (q 10), .ref (q 11), .ref (q 12), .ref (q 13), .ref (q 14), .ref (q 15), .ref (q 16), .int (zI ((u2 0).1 13)), .int (zI ((u2 0).1 14)), .int (zI ((u2 0).1 15)), .int (zI ((u2 0).1 16)), .int (zI ((u2 0).1 17)), .int (zI ((u2 0).1 18)), .ref (q 17), .ref (q 18), .ref (q 19), .ref (q 20)]))] → va_S A s.heap H locs → ∀ ls : Array Slot, lv_has ls 3 [(2, .int (zI v2)), (0, .ref y), (1, .int (zI x))] → W p l e rm_X9_back s m ([.ref y, .int (zI x)] : List Value).toArray below meth c H locs 0 0 Q (F0 m 26 ls [])) ((200 - 0 : Int).toNat + 1) 0 g_now _ _ (by omega) (by omega) (fun k hk => absurd hk (by omega)) hP hD hS ls hl
    clear hP hD hS hl ls
    intro n9_1
    induction n9_1 with
    | zero =>
      intro v2 gn9 H locs hI hM
      exact absurd hM (by omega)
    | succ n9_1 ih1 =>
      intro v2 gn9 H locs hI1 hM1 hb1 hP hD hS ls hl
      refine lv_iload_n hx hb dX9_back_26 rfl (lv_at hl 0 rfl) ?_
      refine lv_sipush (v := zI 200) hx hb dX9_back_27 (by decide) ?_
      refine rz_icmp_ge (tgt := 57) F (by omega) (by omega) dX9_back_30 (by decide) (fun h30_10 => ?_) (fun h30_10 => ?_)
      · refine lv_iconst (v := zI 0) hx hb dX9_back_57 rfl ?_
        have hv200 : v2 = 200 := by omega
        refine lv_istore_n (lv' := [(2, .int (zI 0)), (0, .ref y), (1, .int (zI x))]) hx hb dX9_back_58 rfl hl (by decide) rfl (fun ls hl => ?_)
        refine W.widen (k := 0) (n := 0) (Nat.le_of_ble_eq_true rfl) (Nat.le_of_ble_eq_true rfl) ?_
        refine (?_ : ∀ (n9_2 : Nat) (w2 : Int) (gs9 : Nat → Int) (H : Heap) (locs : List Loc), (0 ≤ w2 ∧ w2 ≤ 159) → (159 - w2 : Int).toNat < n9_2 → (∀ k : Nat, (k : Int) < w2 → gs9 k = g_keptRuns ((159 * x).toNat + k)) → va_P G vwCl [((q 3), .inl (cI, 200, .inl (fun k => zI (gn9 k)))), ((q 13), .inl (cI, 159, .inl (fun k => zI (gs9 k)))), ((q 6), .inl (cI, 800, .inl (fun k => zI (g_kept k)))), ((q 16), .inl (cI, 636, .inl (fun k => zI (g_keptRuns k)))), (y, .inr (9, [.int (zI ((u2 0).1 0)), .ref (q 0), .int (zI ((u2 0).1 1)), .int (zI ((u2 0).1 2)), .int (zI ((u2 0).1 3)), .int (zI ((u2 0).1 4)), .int (zI ((u2 0).1 5)), .int (zI ((u2 0).1 6)), .int (zI ((u2 0).1 7)), .int (zI ((u2 0).1 8)), .int (zI ((u2 0).1 9)), .int (zI ((u2 0).1 10)), .ref (q 1), .int (zI ((u2 0).1 11)), .int (zI ((u2 0).1 12)), .ref (q 2), .ref (q 3), .ref (q 4), .ref (q 5), .ref (q 6), .ref (q 7), .ref (q 8), .ref (q 9), .ref (q 10), .ref (q 11), .ref (q 12), .ref (q 13), .ref (q 14), .ref (q 15), .ref (q 16), .int (zI ((u2 0).1 13)), .int (zI ((u2 0).1 14)), .int (zI ((u2 0).1 15)), .int (zI ((u2 0).1 16)), .int (zI ((u2 0).1 17)), .int (zI ((u2 0).1 18)), .ref (q 17), .ref (q 18), .ref (q 19), .ref (q 20)]))] H → va_D A [((q 3), .inl (cI, 200, .inl (fun k => zI (gn9 k)))), ((q 13), .inl (cI, 159, .inl (fun k => zI (gs9 k)))), ((q 6), .inl (cI, 800, .inl (fun k => zI (g_kept k)))), ((q 16), .inl (cI, 636, .inl (fun k => zI (g_keptRuns k)))), (y, .inr (9, [.int (zI ((u2 0).1 0)), .ref (q 0), .int (zI ((u2 0).1 1)), .int (zI ((u2 0).1 2)), .int (zI ((u2 0).1 3)), .int (zI ((u2 0).1 4)), .int (zI ((u2 0).1 5)), .int (zI ((u2 0).1 6)), .int (zI ((u2 0).1 7)), .int (zI ((u2 0).1 8)), .int (zI ((u2 0).1 9)), .int (zI ((u2 0).1 10)), .ref (q 1), .int (zI ((u2 0).1 11)), .int (zI ((u2 0).1 12)), .ref (q 2), .ref (q 3), .ref (q 4), .ref (q 5), .ref (q 6), .ref (q 7), .ref (q 8), .ref (q 9), .ref (q 10), .ref (q 11), .ref (q 12), .ref (q 13), .ref (q 14), .ref (q 15), .ref (q 16), .int (zI ((u2 0).1 13)), .int (zI ((u2 0).1 14)), .int (zI ((u2 0).1 15)), .int (zI ((u2 0).1 16)), .int (zI ((u2 0).1 17)), .int (zI ((u2 0).1 18)), .ref (q 17), .ref (q 18), .ref (q 19), .ref (q 20)]))] → va_S A s.heap H locs → ∀ ls : Array Slot, lv_has ls 3 [(2, .int (zI w2)), (0, .ref y), (1, .int (zI x))] → W p l e rm_X9_back s m ([.ref y, .int (zI x)] : List Value).toArray below meth c H locs 0 0 Q (F0 m 59 ls [])) ((159 - 0 : Int).toNat + 1) 0 g_st _ _ (by omega) (by omega) (fun k hk => absurd hk (by omega)) hP hD hS ls hl
        clear hP hD hS hl ls
        intro n9_2
        induction n9_2 with
        | zero =>
          intro w2 gs9 H locs hI hM
          exact absurd hM (by omega)
        | succ n9_2 ih2 =>
          intro w2 gs9 H locs hI2 hM2 hb2 hP hD hS ls hl
          refine lv_iload_n hx hb dX9_back_59 rfl (lv_at hl 0 rfl) ?_
          refine lv_sipush (v := zI 159) hx hb dX9_back_60 (by decide) ?_
          refine rz_icmp_ge (tgt := 90) F (by omega) (by omega) dX9_back_63 (by decide) (fun h63_11 => ?_) (fun h63_11 => ?_)
          · refine lv_iconst (v := zI 1) hx hb dX9_back_90 rfl ?_
            have hnb : ProgOk gn9 := hkm.1.congr (fun k hk => by rw [hb1 k (by omega), show (200 * x).toNat = 200 * (x).toNat by omega])
            have hsb : StOk gn9 gs9 := hkm.2.congr (fun k hk => by rw [hb1 k (by omega), show (200 * x).toNat = 200 * (x).toNat by omega]) (fun k hk => by rw [hb2 k (by omega), show (159 * x).toNat = 159 * (x).toNat by omega])
            exact ret (zI 1) (fun k => [((u2 0).1, fun _ _ => 0), (fun _ => 0, fun _ => gn9), (fun _ => 0, fun _ => gs9)].getD k (fun _ => 0, fun _ _ => 0)) _ _ _ _ _ _ rfl ⟨1, rfl, hp3.1, ⟨(show ((u2 0).1) 1 = i 1 ∧ ((u2 0).1) 8 = i 8 ∧ ((u2 0).1) 9 = i 9 ∧ ((u2 0).1) 12 = i 12 ∧ ((u2 0).1) 13 = i 13 ∧ ((u2 0).1) 15 = i 15 ∧ ((u2 0).1) 17 = i 17 ∧ ((u2 0).1) 10 ≠ 4 from by omega), (show ((1 : Int) = 1 ∧ 0 ≤ x ∧ x < i 17) ∨ ((1 : Int) = 0 ∧ ¬ (0 ≤ x ∧ x < i 17)) from by omega), hnb, hsb⟩⟩ (bw_subP (isC := [4, 0, 1, 2, 3]) hP rfl) (hD.sub [4, 0, 1, 2, 3] (by decide) rfl) hS (Nat.le_of_ble_eq_true rfl) (Nat.le_of_ble_eq_true rfl) dX9_back_91
          · refine lv_aload_n hx hb dX9_back_66 rfl (lv_at hl 1 rfl) ?_
            refine r_get F hK hP 4 26 rfl rfl in_X9 (by decide) k_1189 rfl dX9_back_67 ?_
            refine lv_iload_n hx hb dX9_back_70 rfl (lv_at hl 0 rfl) ?_
            refine lv_aload_n hx hb dX9_back_71 rfl (lv_at hl 1 rfl) ?_
            refine r_get F hK hP 4 29 rfl rfl in_X9 (by decide) k_1192 rfl dX9_back_72 ?_
            refine lv_sipush (v := zI 159) hx hb dX9_back_75 (by decide) ?_
            refine lv_iload_n hx hb dX9_back_78 rfl (lv_at hl 2 rfl) ?_
            refine r_imul (v := zI (159 * x)) F dX9_back_79 (zI_mul _ _) ?_
            refine lv_iload_n hx hb dX9_back_80 rfl (lv_at hl 0 rfl) ?_
            refine r_iadd (v := zI ((159 * x) + w2)) F dX9_back_81 (zI_add _ _) ?_
            refine rz_iald F hK hP 3 0 rfl rfl (by omega) (by omega) dX9_back_82 ?_
            refine rz_iastG F hK hP hD hS 1 0 rfl rfl (by omega) (by omega) dX9_back_83 (w1 := fun g13 => [((q 3), .inl (cI, 200, .inl (fun k => zI (gn9 k)))), ((q 13), .inl (cI, 159, .inl (fun k => zI (g13 k)))), ((q 6), .inl (cI, 800, .inl (fun k => zI (g_kept k)))), ((q 16), .inl (cI, 636, .inl (fun k => zI (g_keptRuns k)))), (y, .inr (9, [.int (zI ((u2 0).1 0)), .ref (q 0), .int (zI ((u2 0).1 1)), .int (zI ((u2 0).1 2)), .int (zI ((u2 0).1 3)), .int (zI ((u2 0).1 4)), .int (zI ((u2 0).1 5)), .int (zI ((u2 0).1 6)), .int (zI ((u2 0).1 7)), .int (zI ((u2 0).1 8)), .int (zI ((u2 0).1 9)), .int (zI ((u2 0).1 10)), .ref (q 1), .int (zI ((u2 0).1 11)), .int (zI ((u2 0).1 12)), .ref (q 2), .ref (q 3), .ref (q 4), .ref (q 5), .ref (q 6), .ref (q 7), .ref (q 8), .ref (q 9), .ref (q 10), .ref (q 11), .ref (q 12), .ref (q 13), .ref (q 14), .ref (q 15), .ref (q 16), .int (zI ((u2 0).1 13)), .int (zI ((u2 0).1 14)), .int (zI ((u2 0).1 15)), .int (zI ((u2 0).1 16)), .int (zI ((u2 0).1 17)), .int (zI ((u2 0).1 18)), .ref (q 17), .ref (q 18), .ref (q 19), .ref (q 20)]))]) (fun _ => rfl) (fun g13 e_g13 H locs hP hD hS => ?_)
            refine lv_iinc (v := zI (w2 + 1)) (lv' := [(2, .int (zI (w2 + 1))), (0, .ref y), (1, .int (zI x))]) hx hb dX9_back_84 hl (k := 0) rfl (zI_add _ _) (by decide) rfl (fun ls hl => ?_)
            refine lv_goto (tgt := 59) hx hb dX9_back_87 (by decide) ?_
            exact ih2 (w2 + 1) g13 _ _ (by omega) (by omega) (bk_step (by omega) hb2 e_g13) hP hD hS ls (lv_sub hl [0, 1, 2] rfl)
      · refine lv_aload_n hx hb dX9_back_33 rfl (lv_at hl 1 rfl) ?_
        refine r_get F hK hP 4 16 rfl rfl in_X9 (by decide) k_1179 rfl dX9_back_34 ?_
        refine lv_iload_n hx hb dX9_back_37 rfl (lv_at hl 0 rfl) ?_
        refine lv_aload_n hx hb dX9_back_38 rfl (lv_at hl 1 rfl) ?_
        refine r_get F hK hP 4 19 rfl rfl in_X9 (by decide) k_1182 rfl dX9_back_39 ?_
        refine lv_sipush (v := zI 200) hx hb dX9_back_42 (by decide) ?_
        refine lv_iload_n hx hb dX9_back_45 rfl (lv_at hl 2 rfl) ?_
        refine r_imul (v := zI (200 * x)) F dX9_back_46 (zI_mul _ _) ?_
        refine lv_iload_n hx hb dX9_back_47 rfl (lv_at hl 0 rfl) ?_
        refine r_iadd (v := zI ((200 * x) + v2)) F dX9_back_48 (zI_add _ _) ?_
        refine rz_iald F hK hP 2 0 rfl rfl (by omega) (by omega) dX9_back_49 ?_
        refine rz_iastG F hK hP hD hS 0 0 rfl rfl (by omega) (by omega) dX9_back_50 (w1 := fun g14 => [((q 3), .inl (cI, 200, .inl (fun k => zI (g14 k)))), ((q 13), .inl (cI, 159, .inl (fun k => zI (g_st k)))), ((q 6), .inl (cI, 800, .inl (fun k => zI (g_kept k)))), ((q 16), .inl (cI, 636, .inl (fun k => zI (g_keptRuns k)))), (y, .inr (9, [.int (zI ((u2 0).1 0)), .ref (q 0), .int (zI ((u2 0).1 1)), .int (zI ((u2 0).1 2)), .int (zI ((u2 0).1 3)), .int (zI ((u2 0).1 4)), .int (zI ((u2 0).1 5)), .int (zI ((u2 0).1 6)), .int (zI ((u2 0).1 7)), .int (zI ((u2 0).1 8)), .int (zI ((u2 0).1 9)), .int (zI ((u2 0).1 10)), .ref (q 1), .int (zI ((u2 0).1 11)), .int (zI ((u2 0).1 12)), .ref (q 2), .ref (q 3), .ref (q 4), .ref (q 5), .ref (q 6), .ref (q 7), .ref (q 8), .ref (q 9), .ref (q 10), .ref (q 11), .ref (q 12), .ref (q 13), .ref (q 14), .ref (q 15), .ref (q 16), .int (zI ((u2 0).1 13)), .int (zI ((u2 0).1 14)), .int (zI ((u2 0).1 15)), .int (zI ((u2 0).1 16)), .int (zI ((u2 0).1 17)), .int (zI ((u2 0).1 18)), .ref (q 17), .ref (q 18), .ref (q 19), .ref (q 20)]))]) (fun _ => rfl) (fun g14 e_g14 H locs hP hD hS => ?_)
        refine lv_iinc (v := zI (v2 + 1)) (lv' := [(2, .int (zI (v2 + 1))), (0, .ref y), (1, .int (zI x))]) hx hb dX9_back_51 hl (k := 0) rfl (zI_add _ _) (by decide) rfl (fun ls hl => ?_)
        refine lv_goto (tgt := 26) hx hb dX9_back_54 (by decide) ?_
        exact ih1 (v2 + 1) g14 _ _ (by omega) (by omega) (bk_step (by omega) hb1 e_g14) hP hD hS ls (lv_sub hl [0, 1, 2] rfl)
  · have hq15 := h_z8.2.2 (by omega)
    refine lv_aload_n hx hb dX9_back_18 rfl (lv_at hl 0 rfl) ?_
    refine lv_iconst (v := zI 1) hx hb dX9_back_19 rfl ?_
    refine r_callVi (As := [.int (zI 1)]) (rest := []) (wr := [((q 3), .inl (cI, 200, .inl (fun k => zI (g_now k)))), ((q 13), .inl (cI, 159, .inl (fun k => zI (g_st k)))), ((q 6), .inl (cI, 800, .inl (fun k => zI (g_kept k)))), ((q 16), .inl (cI, 636, .inl (fun k => zI (g_keptRuns k))))]) F hK hP hD hS hA hO hE (c_X9_isNot hO y q ((u2 0).1) hp3.1 1 (by omega) (by omega)) k_1442 kv_X9_isNot 1 rfl (by decide +kernel) ⟨Nat.le_of_ble_eq_true rfl, Nat.le_of_ble_eq_true rfl⟩ [4] [0, 1, 2, 3] rfl rfl (by decide) (by decide) (by decide) 0 9 rfl rfl rfl hl.1 rfl (Nat.le_of_ble_eq_true rfl) dX9_back_20 ⟨Nat.le_of_ble_eq_true rfl, Nat.le_of_ble_eq_true rfl⟩ (w1 := fun u16 => [((q 3), .inl (cI, 200, .inl (fun k => zI (g_now k)))), ((q 13), .inl (cI, 159, .inl (fun k => zI (g_st k)))), ((q 6), .inl (cI, 800, .inl (fun k => zI (g_kept k)))), ((q 16), .inl (cI, 636, .inl (fun k => zI (g_keptRuns k)))), (y, .inr (9, [.int (zI ((u16 0).1 0)), .ref (q 0), .int (zI ((u16 0).1 1)), .int (zI ((u16 0).1 2)), .int (zI ((u16 0).1 3)), .int (zI ((u16 0).1 4)), .int (zI ((u16 0).1 5)), .int (zI ((u16 0).1 6)), .int (zI ((u16 0).1 7)), .int (zI ((u16 0).1 8)), .int (zI ((u16 0).1 9)), .int (zI ((u16 0).1 10)), .ref (q 1), .int (zI ((u16 0).1 11)), .int (zI ((u16 0).1 12)), .ref (q 2), .ref (q 3), .ref (q 4), .ref (q 5), .ref (q 6), .ref (q 7), .ref (q 8), .ref (q 9), .ref (q 10), .ref (q 11), .ref (q 12), .ref (q 13), .ref (q 14), .ref (q 15), .ref (q 16), .int (zI ((u16 0).1 13)), .int (zI ((u16 0).1 14)), .int (zI ((u16 0).1 15)), .int (zI ((u16 0).1 16)), .int (zI ((u16 0).1 17)), .int (zI ((u16 0).1 18)), .ref (q 17), .ref (q 18), .ref (q 19), .ref (q 20)]))]) (fun _ => rfl) (fun r17 u16 H locs hp18 hP hD hS => ?_)
    obtain ⟨z19, rfl, h_z19⟩ := hp18
    have hf20 := h_z19.1.1
    exact ret (zI z19) (fun k => [((u16 0).1, fun _ _ => 0), (fun _ => 0, fun _ => g_now), (fun _ => 0, fun _ => g_st)].getD k (fun _ => 0, fun _ _ => 0)) _ _ _ _ _ _ (zI_nz (by omega)) ⟨z19, rfl, h_z19.1, ⟨(show ((u16 0).1) 1 = i 1 ∧ ((u16 0).1) 8 = i 8 ∧ ((u16 0).1) 9 = i 9 ∧ ((u16 0).1) 12 = i 12 ∧ ((u16 0).1) 13 = i 13 ∧ ((u16 0).1) 15 = i 15 ∧ ((u16 0).1) 17 = i 17 ∧ ((u16 0).1) 10 ≠ 4 from by omega), (show ((z19 : Int) = 1 ∧ 0 ≤ x ∧ x < i 17) ∨ ((z19 : Int) = 0 ∧ ¬ (0 ≤ x ∧ x < i 17)) from by omega), hpn, hst⟩⟩ (bw_subP (isC := [4, 0, 1, 2, 3]) hP rfl) (hD.sub [4, 0, 1, 2, 3] (by decide) rfl) hS (Nat.le_of_ble_eq_true rfl) (Nat.le_of_ble_eq_true rfl) dX9_back_23
