theorem seek_first {f g : Nat → Int} {M : Int} (h : 12 ≤ M) (e : f = uZ g (0 : Int).toNat (-1)) : ∀ k : Nat, (k : Int) ≤ 0 → k < 3 → f k < M := by
  intro k h1 _
  have q : k = 0 := by omega
  subst q; subst e
  show uZ g 0 (-1) 0 < M
  simp only [uZ, if_true]; omega
theorem seek_next {f f' : Nat → Int} {v M : Int} (h0 : 0 ≤ v) (h : ∀ k : Nat, (k : Int) ≤ v → k < 3 → f k < M) (e : f' = uZ f (v + 1).toNat (-1)) (h12 : 12 ≤ M) : ∀ k : Nat, (k : Int) ≤ v + 1 → k < 3 → f' k < M := by
  intro k h1 h2
  subst e
  by_cases q : k = (v + 1).toNat
  · simp only [uZ, if_pos q]; omega
  · simp only [uZ, if_neg q]; exact h k (by omega) h2
theorem seek_up {f f' : Nat → Int} {v w M : Int} (h0 : 0 ≤ v) (h : ∀ k : Nat, (k : Int) ≤ v → k < 3 → f k < M) (e : f' = uZ f v.toNat w) : ∀ k : Nat, (k : Int) ≤ v + (-1) → k < 3 → f' k < M := by
  intro k h1 h2
  subst e
  have q : k ≠ v.toNat := by omega
  simp only [uZ, if_neg q]; exact h k (by omega) h2
theorem seek_here {f f' : Nat → Int} {v w M : Int} (h : ∀ k : Nat, (k : Int) ≤ v → k < 3 → f k < M) (e : f' = uZ f v.toNat w) (hw : f' v.toNat < M) : ∀ k : Nat, (k : Int) ≤ v → k < 3 → f' k < M := by
  intro k h1 h2
  by_cases q : k = v.toNat
  · rw [q]; exact hw
  · subst e
    simp only [uZ, if_neg q]; exact h k h1 h2
theorem dX0_mayAnswer_0 : decode cX0_mayAnswer 0 = .ok (.iconst 0, 1) := bo_3 (by decide +kernel)
theorem dX0_mayAnswer_1 : decode cX0_mayAnswer 1 = .ok (.istore 4, 2) := bo_54 (by decide +kernel)
theorem dX0_mayAnswer_3 : decode cX0_mayAnswer 3 = .ok (.iload 4, 2) := bo_21 (by decide +kernel)
theorem dX0_mayAnswer_5 : decode cX0_mayAnswer 5 = .ok (.aload_n 1, 1) := bo_43 (by decide +kernel)
theorem dX0_mayAnswer_6 : decode cX0_mayAnswer 6 = .ok (.getfield 66, 3) := bo_180 0 66 (by decide +kernel)
theorem k_203 : Cond.fieldLink RX0 66 "BurntWays$Wants" "count" "I" ∈ bw_T := bw_m 203 (by decide +kernel) rfl
theorem dX0_mayAnswer_9 : decode cX0_mayAnswer 9 = .ok (.if_icmp .ge 23, 3) := bo_162 0 23 (by decide +kernel)
theorem dX0_mayAnswer_32 : decode cX0_mayAnswer 32 = .ok (.iconst 1, 1) := bo_4 (by decide +kernel)
theorem dX0_mayAnswer_33 : decode cX0_mayAnswer 33 = .ok (.ireturn, 1) := bo_172 (by decide +kernel)
theorem dX0_mayAnswer_12 : decode cX0_mayAnswer 12 = .ok (.aload_n 0, 1) := bo_42 (by decide +kernel)
theorem dX0_mayAnswer_13 : decode cX0_mayAnswer 13 = .ok (.aload_n 1, 1) := bo_43 (by decide +kernel)
theorem dX0_mayAnswer_14 : decode cX0_mayAnswer 14 = .ok (.iload 4, 2) := bo_21 (by decide +kernel)
theorem dX0_mayAnswer_16 : decode cX0_mayAnswer 16 = .ok (.iload_n 2, 1) := bo_28 (by decide +kernel)
theorem dX0_mayAnswer_17 : decode cX0_mayAnswer 17 = .ok (.iload_n 3, 1) := bo_29 (by decide +kernel)
theorem dX0_mayAnswer_18 : decode cX0_mayAnswer 18 = .ok (.invokevirtual 72, 3) := bo_182 0 72 (by decide +kernel)
theorem k_1033 : Cond.methodLink RX0 72 yX0_mayAnswerOne ∈ bw_T := bw_m 1033 (by decide +kernel) rfl
theorem kv_X0_mayAnswerOne : bw_KV RX0 yX0_mayAnswerOne (Cond.code yX0_mayAnswerOne cX0_mayAnswerOne 12 (some .boolean)) := ⟨bw_m 1035 (by decide +kernel) rfl, bw_m 42 (by decide +kernel) rfl, bw_m 105 (by decide +kernel) rfl, bw_m 1036 (by decide +kernel) rfl⟩
theorem dX0_mayAnswer_21 : decode cX0_mayAnswer 21 = .ok (.ifCond .ne 5, 3) := bo_154 0 5 (by decide +kernel)
theorem dX0_mayAnswer_26 : decode cX0_mayAnswer 26 = .ok (.iinc 4 1, 3) := bo_132 4 1 (by decide +kernel)
theorem dX0_mayAnswer_29 : decode cX0_mayAnswer 29 = .ok (.goto (-26), 3) := bo_167 255 230 (by decide +kernel)
theorem dX0_mayAnswer_24 : decode cX0_mayAnswer 24 = .ok (.iconst 0, 1) := bo_3 (by decide +kernel)
theorem dX0_mayAnswer_25 : decode cX0_mayAnswer 25 = .ok (.ireturn, 1) := bo_172 (by decide +kernel)
abbrev rm_X0_mayAnswer : Room := { frames := 2, cells := 0, slots := 0, locals := 54 }
set_option maxRecDepth 100000 in
set_option maxHeartbeats 8000000 in
theorem c_X0_mayAnswer {l : Launch} {E : (Nat → Prop) → State → Prop} (hO : bw_Ok E) {G : va_G} {cI cB cJ cN cW : ClassId} (b : Nat) (q : Nat → Nat) (g : Nat → Nat → Int) (hY : LeastOk g) (o : Nat) (qo : Nat → Nat) (no : Int) (go : Nat → Nat → Int) (hM : WantsOk no) (y n : Int) (hy9 : zR y) (hn9 : 0 ≤ n ∧ n ≤ 3) : bw_Ci (S := zU) l yX0_mayAnswer (bw_ws (Cond.code yX0_mayAnswer cX0_mayAnswer 5 (some .boolean))) rm_X0_mayAnswer E G (bw_kt cI cB cJ cN cW) [.ref b, .ref o, .int (zI y), .int (zI n)] [(b, .inr (0, [.ref (q 0), .ref (q 1), .ref (q 2), .ref (q 3), .ref (q 4), .ref (q 5), .ref (q 6)])), ((q 0), .inl (cI, 10, .inl (fun k => zI ((g 0) k)))), ((q 1), .inl (cI, 30, .inl (fun k => zI ((g 1) k)))), ((q 2), .inl (cI, 3, .inl (fun k => zI ((g 2) k)))), ((q 3), .inl (cI, 3, .inl (fun k => zI ((g 3) k)))), ((q 4), .inl (cI, 3, .inl (fun k => zI ((g 4) k)))), ((q 5), .inl (cI, 3, .inl (fun k => zI ((g 5) k)))), ((q 6), .inl (cI, 6, .inl (fun k => zI ((g 6) k)))), (o, .inr (7, [.int (zI no), .ref (qo 0)])), ((qo 0), .inl (cI, 30, .inl (fun k => zI ((go 0) k))))] (fun r u => ∃ z : Int, r = zI z ∧ LeastOk u.2 ∧ ((z = 0 ∨ z = 1) ∧ u.2 2 = g 2)) (fun u => [(b, .inr (0, [.ref (q 0), .ref (q 1), .ref (q 2), .ref (q 3), .ref (q 4), .ref (q 5), .ref (q 6)])), ((q 0), .inl (cI, 10, .inl (fun k => zI ((u.2 0) k)))), ((q 1), .inl (cI, 30, .inl (fun k => zI ((u.2 1) k)))), ((q 2), .inl (cI, 3, .inl (fun k => zI ((u.2 2) k)))), ((q 3), .inl (cI, 3, .inl (fun k => zI ((u.2 3) k)))), ((q 4), .inl (cI, 3, .inl (fun k => zI ((u.2 4) k)))), ((q 5), .inl (cI, 3, .inl (fun k => zI ((u.2 5) k)))), ((q 6), .inl (cI, 6, .inl (fun k => zI ((u.2 6) k)))), (o, .inr (7, [.int (zI no), .ref (qo 0)])), ((qo 0), .inl (cI, 30, .inl (fun k => zI ((go 0) k))))]) := by
  refine bw_Ci.of (cc := cX0_mayAnswer) (maxL := 5) (ty := .boolean) (by decide) rfl (Nat.le_of_ble_eq_true rfl) ?_
  intro p e s m below meth c A Q hx hb hml hts hown hin hK hA hS hP hD hE ret ls hl
  have F : CallFix p m c cX0_mayAnswer 5 s ([.ref b, .ref o, .int (zI y), .int (zI n)] : List Value).toArray bw_T RX0 := ⟨hx, hb, hml, hown, fun w h => hts w (List.mem_cons_of_mem _ h)⟩
  replace hl : lv_has ls 5 [(0, .ref b), (1, .ref o), (2, .int (zI y)), (3, .int (zI n))] := hl
  refine lv_iconst (v := zI 0) hx hb dX0_mayAnswer_0 rfl ?_
  refine lv_istore (lv' := [(4, .int (zI 0)), (0, .ref b), (1, .ref o), (2, .int (zI y)), (3, .int (zI n))]) hx hb dX0_mayAnswer_1 hl (by decide) rfl (fun ls hl => ?_)
  refine W.widen (k := 0) (n := 0) (Nat.le_of_ble_eq_true rfl) (Nat.le_of_ble_eq_true rfl) ?_
  refine (?_ : ∀ (n9_1 : Nat) (v4 : Int) (gg : Nat → Nat → Int) (H : Heap) (locs : List Loc), (0 ≤ v4 ∧ v4 ≤ 6) → (6 - v4 : Int).toNat < n9_1 → (LeastOk gg) → (gg 2 = g 2) → va_P G vwCl [(b, .inr (0, [.ref (q 0), .ref (q 1), .ref (q 2), .ref (q 3), .ref (q 4), .ref (q 5), .ref (q 6)])), ((q 0), .inl (cI, 10, .inl (fun k => zI ((gg 0) k)))), ((q 1), .inl (cI, 30, .inl (fun k => zI ((gg 1) k)))), ((q 2), .inl (cI, 3, .inl (fun k => zI ((gg 2) k)))), ((q 3), .inl (cI, 3, .inl (fun k => zI ((gg 3) k)))), ((q 4), .inl (cI, 3, .inl (fun k => zI ((gg 4) k)))), ((q 5), .inl (cI, 3, .inl (fun k => zI ((gg 5) k)))), ((q 6), .inl (cI, 6, .inl (fun k => zI ((gg 6) k)))), (o, .inr (7, [.int (zI no), .ref (qo 0)])), ((qo 0), .inl (cI, 30, .inl (fun k => zI ((go 0) k))))] H → va_D A [(b, .inr (0, [.ref (q 0), .ref (q 1), .ref (q 2), .ref (q 3), .ref (q 4), .ref (q 5), .ref (q 6)])), ((q 0), .inl (cI, 10, .inl (fun k => zI ((gg 0) k)))), ((q 1), .inl (cI, 30, .inl (fun k => zI ((gg 1) k)))), ((q 2), .inl (cI, 3, .inl (fun k => zI ((gg 2) k)))), ((q 3), .inl (cI, 3, .inl (fun k => zI ((gg 3) k)))), ((q 4), .inl (cI, 3, .inl (fun k => zI ((gg 4) k)))), ((q 5), .inl (cI, 3, .inl (fun k => zI ((gg 5) k)))), ((q 6), .inl (cI, 6, .inl (fun k => zI ((gg 6) k)))), (o, .inr (7, [.int (zI no), .ref (qo 0)])), ((qo 0), .inl (cI, 30, .inl (fun k => zI ((go 0) k))))] → va_S A s.heap H locs → ∀ ls : Array Slot, lv_has ls 5 [(4, .int (zI v4)), (0, .ref b), (1, .ref o), (2, .int (zI y)), (3, .int (zI n))] → W p l e rm_X0_mayAnswer s m ([.ref b, .ref o, .int (zI y), .int (zI n)] : List Value).toArray below meth c H locs 0 0 Q (F0 m 3 ls [])) ((6 - 0 : Int).toNat + 1) 0 g _ _ (by omega) (by omega) hY rfl hP hD hS ls hl
  clear hP hD hS hl ls
  intro n9_1
  induction n9_1 with
  | zero =>
    intro v4 gg H locs hI hM
    exact absurd hM (by omega)
  | succ n9_1 ih1 =>
    intro v4 gg H locs hI1 hM1 hG hn2 hP hD hS ls hl
    refine lv_iload hx hb dX0_mayAnswer_3 (lv_at hl 0 rfl) ?_
    refine lv_aload_n hx hb dX0_mayAnswer_5 rfl (lv_at hl 2 rfl) ?_
    refine r_get F hK hP 8 0 rfl rfl in_X7 (by decide) k_203 rfl dX0_mayAnswer_6 ?_
    refine rz_icmp_ge (tgt := 32) F (by omega) (by omega) dX0_mayAnswer_9 (by decide) (fun h9_0 => ?_) (fun h9_0 => ?_)
    · refine lv_iconst (v := zI 1) hx hb dX0_mayAnswer_32 rfl ?_
      exact ret (zI 1) (fun _ => 0, gg) _ _ _ _ _ _ rfl ⟨1, rfl, hG, ⟨by omega, hn2⟩⟩ (bw_subP (isC := [0, 1, 2, 3, 4, 5, 6, 7, 8, 9]) hP rfl) (hD.sub [0, 1, 2, 3, 4, 5, 6, 7, 8, 9] (by decide) rfl) hS (Nat.le_of_ble_eq_true rfl) (Nat.le_of_ble_eq_true rfl) dX0_mayAnswer_33
    · refine lv_aload_n hx hb dX0_mayAnswer_12 rfl (lv_at hl 1 rfl) ?_
      refine lv_aload_n hx hb dX0_mayAnswer_13 rfl (lv_at hl 2 rfl) ?_
      refine lv_iload hx hb dX0_mayAnswer_14 (lv_at hl 0 rfl) ?_
      refine lv_iload_n hx hb dX0_mayAnswer_16 rfl (lv_at hl 3 rfl) ?_
      refine lv_iload_n hx hb dX0_mayAnswer_17 rfl (lv_at hl 4 rfl) ?_
      refine r_callVi (As := [.ref o, .int (zI v4), .int (zI y), .int (zI n)]) (rest := []) (wr := []) F hK hP hD hS hA hO hE (c_X0_mayAnswerOne hO b q gg hG o qo no go hM v4 y n (by omega) (by omega) (by omega)) k_1033 kv_X0_mayAnswerOne 4 rfl (by decide +kernel) ⟨Nat.le_of_ble_eq_true rfl, Nat.le_of_ble_eq_true rfl⟩ [0, 1, 2, 3, 4, 5, 6, 7, 8, 9] [] rfl rfl (by decide) (by decide) (by decide) 0 0 rfl rfl rfl hl.1 rfl (Nat.le_of_ble_eq_true rfl) dX0_mayAnswer_18 ⟨Nat.le_of_ble_eq_true rfl, Nat.le_of_ble_eq_true rfl⟩ (w1 := fun u2 => [(b, .inr (0, [.ref (q 0), .ref (q 1), .ref (q 2), .ref (q 3), .ref (q 4), .ref (q 5), .ref (q 6)])), ((q 0), .inl (cI, 10, .inl (fun k => zI ((u2.2 0) k)))), ((q 1), .inl (cI, 30, .inl (fun k => zI ((u2.2 1) k)))), ((q 2), .inl (cI, 3, .inl (fun k => zI ((u2.2 2) k)))), ((q 3), .inl (cI, 3, .inl (fun k => zI ((u2.2 3) k)))), ((q 4), .inl (cI, 3, .inl (fun k => zI ((u2.2 4) k)))), ((q 5), .inl (cI, 3, .inl (fun k => zI ((u2.2 5) k)))), ((q 6), .inl (cI, 6, .inl (fun k => zI ((u2.2 6) k)))), (o, .inr (7, [.int (zI no), .ref (qo 0)])), ((qo 0), .inl (cI, 30, .inl (fun k => zI ((go 0) k))))]) (fun _ => rfl) (fun r3 u2 H locs hp4 hP hD hS => ?_)
      obtain ⟨z5, rfl, h_z5⟩ := hp4
      have hx6 := h_z5.2
      refine rz_if_ne (tgt := 26) F (by omega) dX0_mayAnswer_21 (by decide) (fun h21_6 => ?_) (fun h21_6 => ?_)
      · refine lv_iinc (v := zI (v4 + 1)) (lv' := [(4, .int (zI (v4 + 1))), (0, .ref b), (1, .ref o), (2, .int (zI y)), (3, .int (zI n))]) hx hb dX0_mayAnswer_26 hl (k := 0) rfl (zI_add _ _) (by decide) rfl (fun ls hl => ?_)
        refine lv_goto (tgt := 3) hx hb dX0_mayAnswer_29 (by decide) ?_
        exact ih1 (v4 + 1) u2.2 _ _ (by omega) (by omega) h_z5.1 (h_z5.2.2.trans hn2) hP hD hS ls (lv_sub hl [0, 1, 2, 3, 4] rfl)
      · refine lv_iconst (v := zI 0) hx hb dX0_mayAnswer_24 rfl ?_
        exact ret (zI 0) (fun _ => 0, u2.2) _ _ _ _ _ _ rfl ⟨0, rfl, h_z5.1, ⟨by omega, h_z5.2.2.trans hn2⟩⟩ (bw_subP (isC := [0, 1, 2, 3, 4, 5, 6, 7, 8, 9]) hP rfl) (hD.sub [0, 1, 2, 3, 4, 5, 6, 7, 8, 9] (by decide) rfl) hS (Nat.le_of_ble_eq_true rfl) (Nat.le_of_ble_eq_true rfl) dX0_mayAnswer_25
theorem dX0_seekOf_0 : decode cX0_seekOf 0 = .ok (.iconst 4, 1) := bo_7 (by decide +kernel)
theorem dX0_seekOf_1 : decode cX0_seekOf 1 = .ok (.iload_n 1, 1) := bo_27 (by decide +kernel)
theorem dX0_seekOf_2 : decode cX0_seekOf 2 = .ok (.invokestatic 53, 3) := bo_184 0 53 (by decide +kernel)
theorem dX0_seekOf_5 : decode cX0_seekOf 5 = .ok (.imul, 1) := bo_104 (by decide +kernel)
theorem dX0_seekOf_6 : decode cX0_seekOf 6 = .ok (.istore 4, 2) := bo_54 (by decide +kernel)
theorem dX0_seekOf_8 : decode cX0_seekOf 8 = .ok (.iconst 0, 1) := bo_3 (by decide +kernel)
theorem dX0_seekOf_9 : decode cX0_seekOf 9 = .ok (.istore 5, 2) := bo_54 (by decide +kernel)
theorem dX0_seekOf_11 : decode cX0_seekOf 11 = .ok (.aload_n 0, 1) := bo_42 (by decide +kernel)
theorem dX0_seekOf_12 : decode cX0_seekOf 12 = .ok (.getfield 18, 3) := bo_180 0 18 (by decide +kernel)
theorem dX0_seekOf_15 : decode cX0_seekOf 15 = .ok (.iconst 0, 1) := bo_3 (by decide +kernel)
theorem dX0_seekOf_16 : decode cX0_seekOf 16 = .ok (.iconst (-1), 1) := bo_2 (by decide +kernel)
theorem dX0_seekOf_17 : decode cX0_seekOf 17 = .ok (.iastore, 1) := bo_79 (by decide +kernel)
theorem dX0_seekOf_18 : decode cX0_seekOf 18 = .ok (.iconst 0, 1) := bo_3 (by decide +kernel)
theorem dX0_seekOf_19 : decode cX0_seekOf 19 = .ok (.istore 6, 2) := bo_54 (by decide +kernel)
theorem dX0_seekOf_21 : decode cX0_seekOf 21 = .ok (.iload 6, 2) := bo_21 (by decide +kernel)
theorem dX0_seekOf_23 : decode cX0_seekOf 23 = .ok (.ldc 57, 2) := bo_18 (by decide +kernel)
theorem k_1024 : Cond.constant RX0 57 (1000000) ∈ bw_T := bw_m 1024 (by decide +kernel) rfl
theorem dX0_seekOf_25 : decode cX0_seekOf 25 = .ok (.if_icmp .ge 87, 3) := bo_162 0 87 (by decide +kernel)
theorem dX0_seekOf_112 : decode cX0_seekOf 112 = .ok (.iconst 0, 1) := bo_3 (by decide +kernel)
theorem dX0_seekOf_113 : decode cX0_seekOf 113 = .ok (.ireturn, 1) := bo_172 (by decide +kernel)
theorem dX0_seekOf_28 : decode cX0_seekOf 28 = .ok (.iload 5, 2) := bo_21 (by decide +kernel)
theorem dX0_seekOf_30 : decode cX0_seekOf 30 = .ok (.ifCond .lt 82, 3) := bo_155 0 82 (by decide +kernel)
theorem dX0_seekOf_33 : decode cX0_seekOf 33 = .ok (.aload_n 0, 1) := bo_42 (by decide +kernel)
theorem dX0_seekOf_34 : decode cX0_seekOf 34 = .ok (.getfield 18, 3) := bo_180 0 18 (by decide +kernel)
theorem dX0_seekOf_37 : decode cX0_seekOf 37 = .ok (.iload 5, 2) := bo_21 (by decide +kernel)
theorem dX0_seekOf_39 : decode cX0_seekOf 39 = .ok (.dup2, 1) := bo_92 (by decide +kernel)
theorem dX0_seekOf_40 : decode cX0_seekOf 40 = .ok (.iaload, 1) := bo_46 (by decide +kernel)
theorem dX0_seekOf_41 : decode cX0_seekOf 41 = .ok (.iconst 1, 1) := bo_4 (by decide +kernel)
theorem dX0_seekOf_42 : decode cX0_seekOf 42 = .ok (.iadd, 1) := bo_96 (by decide +kernel)
theorem dX0_seekOf_43 : decode cX0_seekOf 43 = .ok (.iastore, 1) := bo_79 (by decide +kernel)
theorem dX0_seekOf_44 : decode cX0_seekOf 44 = .ok (.aload_n 0, 1) := bo_42 (by decide +kernel)
theorem dX0_seekOf_45 : decode cX0_seekOf 45 = .ok (.getfield 18, 3) := bo_180 0 18 (by decide +kernel)
theorem dX0_seekOf_48 : decode cX0_seekOf 48 = .ok (.iload 5, 2) := bo_21 (by decide +kernel)
theorem dX0_seekOf_50 : decode cX0_seekOf 50 = .ok (.iaload, 1) := bo_46 (by decide +kernel)
theorem dX0_seekOf_51 : decode cX0_seekOf 51 = .ok (.iload 4, 2) := bo_21 (by decide +kernel)
theorem dX0_seekOf_53 : decode cX0_seekOf 53 = .ok (.if_icmp .lt 9, 3) := bo_161 0 9 (by decide +kernel)
theorem dX0_seekOf_62 : decode cX0_seekOf 62 = .ok (.aload_n 0, 1) := bo_42 (by decide +kernel)
theorem dX0_seekOf_63 : decode cX0_seekOf 63 = .ok (.iload 5, 2) := bo_21 (by decide +kernel)
theorem dX0_seekOf_65 : decode cX0_seekOf 65 = .ok (.iload_n 1, 1) := bo_27 (by decide +kernel)
theorem dX0_seekOf_66 : decode cX0_seekOf 66 = .ok (.invokevirtual 58, 3) := bo_182 0 58 (by decide +kernel)
theorem k_1025 : Cond.methodLink RX0 58 yX0_tell ∈ bw_T := bw_m 1025 (by decide +kernel) rfl
theorem kv_X0_tell : bw_KV RX0 yX0_tell (Cond.code yX0_tell cX0_tell 5 none) := ⟨bw_m 1027 (by decide +kernel) rfl, bw_m 40 (by decide +kernel) rfl, bw_m 105 (by decide +kernel) rfl, bw_m 1028 (by decide +kernel) rfl⟩
theorem dX0_seekOf_69 : decode cX0_seekOf 69 = .ok (.aload_n 0, 1) := bo_42 (by decide +kernel)
theorem dX0_seekOf_70 : decode cX0_seekOf 70 = .ok (.aload_n 2, 1) := bo_44 (by decide +kernel)
theorem dX0_seekOf_71 : decode cX0_seekOf 71 = .ok (.iload_n 3, 1) := bo_29 (by decide +kernel)
theorem dX0_seekOf_72 : decode cX0_seekOf 72 = .ok (.iload 5, 2) := bo_21 (by decide +kernel)
theorem dX0_seekOf_74 : decode cX0_seekOf 74 = .ok (.iconst 1, 1) := bo_4 (by decide +kernel)
theorem dX0_seekOf_75 : decode cX0_seekOf 75 = .ok (.iadd, 1) := bo_96 (by decide +kernel)
theorem dX0_seekOf_76 : decode cX0_seekOf 76 = .ok (.invokevirtual 62, 3) := bo_182 0 62 (by decide +kernel)
theorem k_1029 : Cond.methodLink RX0 62 yX0_mayAnswer ∈ bw_T := bw_m 1029 (by decide +kernel) rfl
theorem kv_X0_mayAnswer : bw_KV RX0 yX0_mayAnswer (Cond.code yX0_mayAnswer cX0_mayAnswer 5 (some .boolean)) := ⟨bw_m 1031 (by decide +kernel) rfl, bw_m 41 (by decide +kernel) rfl, bw_m 105 (by decide +kernel) rfl, bw_m 1032 (by decide +kernel) rfl⟩
theorem dX0_seekOf_79 : decode cX0_seekOf 79 = .ok (.ifCond .ne 6, 3) := bo_154 0 6 (by decide +kernel)
theorem dX0_seekOf_85 : decode cX0_seekOf 85 = .ok (.iload 5, 2) := bo_21 (by decide +kernel)
theorem dX0_seekOf_87 : decode cX0_seekOf 87 = .ok (.iconst 1, 1) := bo_4 (by decide +kernel)
theorem dX0_seekOf_88 : decode cX0_seekOf 88 = .ok (.iadd, 1) := bo_96 (by decide +kernel)
theorem dX0_seekOf_89 : decode cX0_seekOf 89 = .ok (.iload_n 1, 1) := bo_27 (by decide +kernel)
theorem dX0_seekOf_90 : decode cX0_seekOf 90 = .ok (.if_icmp .ne 5, 3) := bo_160 0 5 (by decide +kernel)
theorem dX0_seekOf_95 : decode cX0_seekOf 95 = .ok (.iinc 5 1, 3) := bo_132 5 1 (by decide +kernel)
theorem dX0_seekOf_98 : decode cX0_seekOf 98 = .ok (.aload_n 0, 1) := bo_42 (by decide +kernel)
theorem dX0_seekOf_99 : decode cX0_seekOf 99 = .ok (.getfield 18, 3) := bo_180 0 18 (by decide +kernel)
theorem dX0_seekOf_102 : decode cX0_seekOf 102 = .ok (.iload 5, 2) := bo_21 (by decide +kernel)
theorem dX0_seekOf_104 : decode cX0_seekOf 104 = .ok (.iconst (-1), 1) := bo_2 (by decide +kernel)
theorem dX0_seekOf_105 : decode cX0_seekOf 105 = .ok (.iastore, 1) := bo_79 (by decide +kernel)
theorem dX0_seekOf_106 : decode cX0_seekOf 106 = .ok (.iinc 6 1, 3) := bo_132 6 1 (by decide +kernel)
theorem dX0_seekOf_109 : decode cX0_seekOf 109 = .ok (.goto (-88), 3) := bo_167 255 168 (by decide +kernel)
theorem dX0_seekOf_93 : decode cX0_seekOf 93 = .ok (.iconst 1, 1) := bo_4 (by decide +kernel)
theorem dX0_seekOf_94 : decode cX0_seekOf 94 = .ok (.ireturn, 1) := bo_172 (by decide +kernel)
theorem dX0_seekOf_82 : decode cX0_seekOf 82 = .ok (.goto 24, 3) := bo_167 0 24 (by decide +kernel)
theorem dX0_seekOf_56 : decode cX0_seekOf 56 = .ok (.iinc 5 (-1), 3) := bo_132 5 255 (by decide +kernel)
theorem dX0_seekOf_59 : decode cX0_seekOf 59 = .ok (.goto 47, 3) := bo_167 0 47 (by decide +kernel)
abbrev rm_X0_seekOf : Room := { frames := 3, cells := 0, slots := 0, locals := 78 }
set_option maxRecDepth 100000 in
set_option maxHeartbeats 8000000 in
theorem c_X0_seekOf {l : Launch} {E : (Nat → Prop) → State → Prop} (hO : bw_Ok E) {G : va_G} {cI cB cJ cN cW : ClassId} (b : Nat) (q : Nat → Nat) (g : Nat → Nat → Int) (hY : LeastOk g) (o : Nat) (qo : Nat → Nat) (no : Int) (go : Nat → Nat → Int) (hM : WantsOk no) (n y : Int) (hn9 : n = 1 ∨ n = 2 ∨ n = 3) (hy9 : zR y) : bw_Ci (S := zU) l yX0_seekOf (bw_ws (Cond.code yX0_seekOf cX0_seekOf 7 (some .boolean))) rm_X0_seekOf E G (bw_kt cI cB cJ cN cW) [.ref b, .int (zI n), .ref o, .int (zI y)] [(b, .inr (0, [.ref (q 0), .ref (q 1), .ref (q 2), .ref (q 3), .ref (q 4), .ref (q 5), .ref (q 6)])), ((q 0), .inl (cI, 10, .inl (fun k => zI ((g 0) k)))), ((q 1), .inl (cI, 30, .inl (fun k => zI ((g 1) k)))), ((q 2), .inl (cI, 3, .inl (fun k => zI ((g 2) k)))), ((q 3), .inl (cI, 3, .inl (fun k => zI ((g 3) k)))), ((q 4), .inl (cI, 3, .inl (fun k => zI ((g 4) k)))), ((q 5), .inl (cI, 3, .inl (fun k => zI ((g 5) k)))), ((q 6), .inl (cI, 6, .inl (fun k => zI ((g 6) k)))), (o, .inr (7, [.int (zI no), .ref (qo 0)])), ((qo 0), .inl (cI, 30, .inl (fun k => zI ((go 0) k))))] (fun r u => ∃ z : Int, r = zI z ∧ LeastOk u.2 ∧ (z = 0 ∨ z = 1)) (fun u => [(b, .inr (0, [.ref (q 0), .ref (q 1), .ref (q 2), .ref (q 3), .ref (q 4), .ref (q 5), .ref (q 6)])), ((q 0), .inl (cI, 10, .inl (fun k => zI ((u.2 0) k)))), ((q 1), .inl (cI, 30, .inl (fun k => zI ((u.2 1) k)))), ((q 2), .inl (cI, 3, .inl (fun k => zI ((u.2 2) k)))), ((q 3), .inl (cI, 3, .inl (fun k => zI ((u.2 3) k)))), ((q 4), .inl (cI, 3, .inl (fun k => zI ((u.2 4) k)))), ((q 5), .inl (cI, 3, .inl (fun k => zI ((u.2 5) k)))), ((q 6), .inl (cI, 6, .inl (fun k => zI ((u.2 6) k)))), (o, .inr (7, [.int (zI no), .ref (qo 0)])), ((qo 0), .inl (cI, 30, .inl (fun k => zI ((go 0) k))))]) := by
  refine bw_Ci.of (cc := cX0_seekOf) (maxL := 7) (ty := .boolean) (by decide) rfl (Nat.le_of_ble_eq_true rfl) ?_
  intro p e s m below meth c A Q hx hb hml hts hown hin hK hA hS hP hD hE ret ls hl
  have F : CallFix p m c cX0_seekOf 7 s ([.ref b, .int (zI n), .ref o, .int (zI y)] : List Value).toArray bw_T RX0 := ⟨hx, hb, hml, hown, fun w h => hts w (List.mem_cons_of_mem _ h)⟩
  replace hl : lv_has ls 7 [(0, .ref b), (1, .int (zI n)), (2, .ref o), (3, .int (zI y))] := hl
  refine lv_iconst (v := zI 4) hx hb dX0_seekOf_0 rfl ?_
  refine lv_iload_n hx hb dX0_seekOf_1 rfl (lv_at hl 1 rfl) ?_
  refine r_callSi (As := [.int (zI n)]) (rest := [.int (zI 4)]) (wr := [(b, .inr (0, [.ref (q 0), .ref (q 1), .ref (q 2), .ref (q 3), .ref (q 4), .ref (q 5), .ref (q 6)])), ((q 0), .inl (cI, 10, .inl (fun k => zI ((g 0) k)))), ((q 1), .inl (cI, 30, .inl (fun k => zI ((g 1) k)))), ((q 2), .inl (cI, 3, .inl (fun k => zI ((g 2) k)))), ((q 3), .inl (cI, 3, .inl (fun k => zI ((g 3) k)))), ((q 4), .inl (cI, 3, .inl (fun k => zI ((g 4) k)))), ((q 5), .inl (cI, 3, .inl (fun k => zI ((g 5) k)))), ((q 6), .inl (cI, 6, .inl (fun k => zI ((g 6) k)))), (o, .inr (7, [.int (zI no), .ref (qo 0)])), ((qo 0), .inl (cI, 30, .inl (fun k => zI ((go 0) k))))]) F hK hP hD hS hA hO hE (c_X0_goalsOf hO n) k_1021 ks_X0_goalsOf 1 rfl (by decide +kernel) ⟨Nat.le_of_ble_eq_true rfl, Nat.le_of_ble_eq_true rfl⟩ [] [0, 1, 2, 3, 4, 5, 6, 7, 8, 9] rfl rfl (by decide) (by decide) (by decide) hl.1 rfl (Nat.le_of_ble_eq_true rfl) dX0_seekOf_2 ⟨Nat.le_of_ble_eq_true rfl, Nat.le_of_ble_eq_true rfl⟩ (w1 := fun u1 => [(b, .inr (0, [.ref (q 0), .ref (q 1), .ref (q 2), .ref (q 3), .ref (q 4), .ref (q 5), .ref (q 6)])), ((q 0), .inl (cI, 10, .inl (fun k => zI ((g 0) k)))), ((q 1), .inl (cI, 30, .inl (fun k => zI ((g 1) k)))), ((q 2), .inl (cI, 3, .inl (fun k => zI ((g 2) k)))), ((q 3), .inl (cI, 3, .inl (fun k => zI ((g 3) k)))), ((q 4), .inl (cI, 3, .inl (fun k => zI ((g 4) k)))), ((q 5), .inl (cI, 3, .inl (fun k => zI ((g 5) k)))), ((q 6), .inl (cI, 6, .inl (fun k => zI ((g 6) k)))), (o, .inr (7, [.int (zI no), .ref (qo 0)])), ((qo 0), .inl (cI, 30, .inl (fun k => zI ((go 0) k))))]) (fun _ => rfl) (fun r2 u1 H locs hp3 hP hD hS => ?_)
  obtain ⟨z4, rfl, h_z4⟩ := hp3
  refine r_imul (v := zI (4 * z4)) F dX0_seekOf_5 (zI_mul _ _) ?_
  have hLN : 12 ≤ (4 * z4) ∧ (4 * z4) ≤ 52 := by rcases hn9 with rfl | rfl | rfl <;> omega
  refine lv_istore (lv' := [(4, .int (zI (4 * z4))), (0, .ref b), (1, .int (zI n)), (2, .ref o), (3, .int (zI y))]) hx hb dX0_seekOf_6 hl (by decide) rfl (fun ls hl => ?_)
  refine lv_iconst (v := zI 0) hx hb dX0_seekOf_8 rfl ?_
  refine lv_istore (lv' := [(5, .int (zI 0)), (4, .int (zI (4 * z4))), (0, .ref b), (1, .int (zI n)), (2, .ref o), (3, .int (zI y))]) hx hb dX0_seekOf_9 hl (by decide) rfl (fun ls hl => ?_)
  refine lv_aload_n hx hb dX0_seekOf_11 rfl (lv_at hl 2 rfl) ?_
  refine r_get F hK hP 0 2 rfl rfl in_X0 (by decide) k_450 rfl dX0_seekOf_12 ?_
  refine lv_iconst (v := zI 0) hx hb dX0_seekOf_15 rfl ?_
  refine lv_iconst (v := zI (-1)) hx hb dX0_seekOf_16 rfl ?_
  refine rz_iastG F hK hP hD hS 3 0 rfl rfl (by omega) (by omega) dX0_seekOf_17 (w1 := fun g5 => [(b, .inr (0, [.ref (q 0), .ref (q 1), .ref (q 2), .ref (q 3), .ref (q 4), .ref (q 5), .ref (q 6)])), ((q 0), .inl (cI, 10, .inl (fun k => zI ((g 0) k)))), ((q 1), .inl (cI, 30, .inl (fun k => zI ((g 1) k)))), ((q 2), .inl (cI, 3, .inl (fun k => zI (g5 k)))), ((q 3), .inl (cI, 3, .inl (fun k => zI ((g 3) k)))), ((q 4), .inl (cI, 3, .inl (fun k => zI ((g 4) k)))), ((q 5), .inl (cI, 3, .inl (fun k => zI ((g 5) k)))), ((q 6), .inl (cI, 6, .inl (fun k => zI ((g 6) k)))), (o, .inr (7, [.int (zI no), .ref (qo 0)])), ((qo 0), .inl (cI, 30, .inl (fun k => zI ((go 0) k))))]) (fun _ => rfl) (fun g5 e_g5 H locs hP hD hS => ?_)
  have h_g5 : ∀ k, k < 3 → (-1) ≤ g5 k ∧ g5 k ≤ 52 := by rw [e_g5]; exact uZ_all (P := fun _ y9 => (-1) ≤ y9 ∧ y9 ≤ 52) hY.1 (fun _ => by omega)
  refine lv_iconst (v := zI 0) hx hb dX0_seekOf_18 rfl ?_
  refine lv_istore (lv' := [(6, .int (zI 0)), (5, .int (zI 0)), (4, .int (zI (4 * z4))), (0, .ref b), (1, .int (zI n)), (2, .ref o), (3, .int (zI y))]) hx hb dX0_seekOf_19 hl (by decide) rfl (fun ls hl => ?_)
  obtain ⟨i6, e_i6⟩ : ∃ i6 : Nat → Int, i6 = fun k => [].getD k 0 := ⟨_, rfl⟩
  obtain ⟨gg7, e_gg7⟩ : ∃ gg7 : Nat → Nat → Int, gg7 = fun k => [(g 0), (g 1), g5, (g 3), (g 4), (g 5), (g 6)].getD k (fun _ => 0) := ⟨_, rfl⟩
  have hO8 : LeastOk gg7 := by rw [e_gg7]; exact ⟨h_g5, hY.2.1, hY.2.2⟩
  have hP : va_P G vwCl [(b, .inr (0, [.ref (q 0), .ref (q 1), .ref (q 2), .ref (q 3), .ref (q 4), .ref (q 5), .ref (q 6)])), ((q 0), .inl (cI, 10, .inl (fun k => zI ((gg7 0) k)))), ((q 1), .inl (cI, 30, .inl (fun k => zI ((gg7 1) k)))), ((q 2), .inl (cI, 3, .inl (fun k => zI ((gg7 2) k)))), ((q 3), .inl (cI, 3, .inl (fun k => zI ((gg7 3) k)))), ((q 4), .inl (cI, 3, .inl (fun k => zI ((gg7 4) k)))), ((q 5), .inl (cI, 3, .inl (fun k => zI ((gg7 5) k)))), ((q 6), .inl (cI, 6, .inl (fun k => zI ((gg7 6) k)))), (o, .inr (7, [.int (zI no), .ref (qo 0)])), ((qo 0), .inl (cI, 30, .inl (fun k => zI ((go 0) k))))] H := by subst e_i6 e_gg7; exact hP
  have hD : va_D A [(b, .inr (0, [.ref (q 0), .ref (q 1), .ref (q 2), .ref (q 3), .ref (q 4), .ref (q 5), .ref (q 6)])), ((q 0), .inl (cI, 10, .inl (fun k => zI ((gg7 0) k)))), ((q 1), .inl (cI, 30, .inl (fun k => zI ((gg7 1) k)))), ((q 2), .inl (cI, 3, .inl (fun k => zI ((gg7 2) k)))), ((q 3), .inl (cI, 3, .inl (fun k => zI ((gg7 3) k)))), ((q 4), .inl (cI, 3, .inl (fun k => zI ((gg7 4) k)))), ((q 5), .inl (cI, 3, .inl (fun k => zI ((gg7 5) k)))), ((q 6), .inl (cI, 6, .inl (fun k => zI ((gg7 6) k)))), (o, .inr (7, [.int (zI no), .ref (qo 0)])), ((qo 0), .inl (cI, 30, .inl (fun k => zI ((go 0) k))))] := by subst e_i6 e_gg7; exact hD
  refine W.widen (k := 0) (n := 0) (Nat.le_of_ble_eq_true rfl) (Nat.le_of_ble_eq_true rfl) ?_
  refine (?_ : ∀ (n9_1 : Nat) (v5 : Int) (v6 : Int) (gg : Nat → Nat → Int) (H : Heap) (locs : List Loc), (-1 ≤ v5 ∧ v5 < n ∧ 0 ≤ v6 ∧ v6 ≤ 1000000) → (1000000 - v6 : Int).toNat < n9_1 → (LeastOk gg) → (∀ k : Nat, (k : Int) ≤ v5 → k < 3 → gg 2 k < (4 * z4)) → va_P G vwCl [(b, .inr (0, [.ref (q 0), .ref (q 1), .ref (q 2), .ref (q 3), .ref (q 4), .ref (q 5), .ref (q 6)])), ((q 0), .inl (cI, 10, .inl (fun k => zI ((gg 0) k)))), ((q 1), .inl (cI, 30, .inl (fun k => zI ((gg 1) k)))), ((q 2), .inl (cI, 3, .inl (fun k => zI ((gg 2) k)))), ((q 3), .inl (cI, 3, .inl (fun k => zI ((gg 3) k)))), ((q 4), .inl (cI, 3, .inl (fun k => zI ((gg 4) k)))), ((q 5), .inl (cI, 3, .inl (fun k => zI ((gg 5) k)))), ((q 6), .inl (cI, 6, .inl (fun k => zI ((gg 6) k)))), (o, .inr (7, [.int (zI no), .ref (qo 0)])), ((qo 0), .inl (cI, 30, .inl (fun k => zI ((go 0) k))))] H → va_D A [(b, .inr (0, [.ref (q 0), .ref (q 1), .ref (q 2), .ref (q 3), .ref (q 4), .ref (q 5), .ref (q 6)])), ((q 0), .inl (cI, 10, .inl (fun k => zI ((gg 0) k)))), ((q 1), .inl (cI, 30, .inl (fun k => zI ((gg 1) k)))), ((q 2), .inl (cI, 3, .inl (fun k => zI ((gg 2) k)))), ((q 3), .inl (cI, 3, .inl (fun k => zI ((gg 3) k)))), ((q 4), .inl (cI, 3, .inl (fun k => zI ((gg 4) k)))), ((q 5), .inl (cI, 3, .inl (fun k => zI ((gg 5) k)))), ((q 6), .inl (cI, 6, .inl (fun k => zI ((gg 6) k)))), (o, .inr (7, [.int (zI no), .ref (qo 0)])), ((qo 0), .inl (cI, 30, .inl (fun k => zI ((go 0) k))))] → va_S A s.heap H locs → ∀ ls : Array Slot, lv_has ls 7 [(6, .int (zI v6)), (5, .int (zI v5)), (4, .int (zI (4 * z4))), (0, .ref b), (1, .int (zI n)), (2, .ref o), (3, .int (zI y))] → W p l e rm_X0_seekOf s m ([.ref b, .int (zI n), .ref o, .int (zI y)] : List Value).toArray below meth c H locs 0 0 Q (F0 m 21 ls [])) ((1000000 - 0 : Int).toNat + 1) 0 0 gg7 _ _ (by omega) (by omega) hO8 (by subst e_gg7; exact seek_first (by omega) e_g5) hP hD hS ls hl
  clear hP hD hS hl ls
  intro n9_1
  induction n9_1 with
  | zero =>
    intro v5 v6 gg H locs hI hM
    exact absurd hM (by omega)
  | succ n9_1 ih1 =>
    intro v5 v6 gg H locs hI1 hM1 hG hln hP hD hS ls hl
    refine lv_iload hx hb dX0_seekOf_21 (lv_at hl 0 rfl) ?_
    refine lv_ldc hx hb hown (F.2.2.2.2 _ k_1024) dX0_seekOf_23 ?_
    refine W.eq (g2 := F0 m 25 ls [.int (zI 1000000), .int (zI v6)]) rfl ?_
    refine rz_icmp_ge (tgt := 112) F (by omega) (by omega) dX0_seekOf_25 (by decide) (fun h25_8 => ?_) (fun h25_8 => ?_)
    · refine lv_iconst (v := zI 0) hx hb dX0_seekOf_112 rfl ?_
      exact ret (zI 0) (fun _ => 0, gg) _ _ _ _ _ _ rfl ⟨0, rfl, hG, by omega⟩ (bw_subP (isC := [0, 1, 2, 3, 4, 5, 6, 7, 8, 9]) hP rfl) (hD.sub [0, 1, 2, 3, 4, 5, 6, 7, 8, 9] (by decide) rfl) hS (Nat.le_of_ble_eq_true rfl) (Nat.le_of_ble_eq_true rfl) dX0_seekOf_113
    · refine lv_iload hx hb dX0_seekOf_28 (lv_at hl 1 rfl) ?_
      refine rz_if_lt (tgt := 112) F (by omega) dX0_seekOf_30 (by decide) (fun h30_9 => ?_) (fun h30_9 => ?_)
      · refine lv_iconst (v := zI 0) hx hb dX0_seekOf_112 rfl ?_
        exact ret (zI 0) (fun _ => 0, gg) _ _ _ _ _ _ rfl ⟨0, rfl, hG, by omega⟩ (bw_subP (isC := [0, 1, 2, 3, 4, 5, 6, 7, 8, 9]) hP rfl) (hD.sub [0, 1, 2, 3, 4, 5, 6, 7, 8, 9] (by decide) rfl) hS (Nat.le_of_ble_eq_true rfl) (Nat.le_of_ble_eq_true rfl) dX0_seekOf_113
      · refine lv_aload_n hx hb dX0_seekOf_33 rfl (lv_at hl 3 rfl) ?_
        refine r_get F hK hP 0 2 rfl rfl in_X0 (by decide) k_450 rfl dX0_seekOf_34 ?_
        refine lv_iload hx hb dX0_seekOf_37 (lv_at hl 1 rfl) ?_
        refine lv_dup2_11 hx hb dX0_seekOf_39 rfl rfl ?_
        refine rz_iald F hK hP 3 0 rfl rfl (by omega) (by omega) dX0_seekOf_40 ?_
        have h_l40_10 := hG.1 (v5).toNat (by omega)
        have hl9 := hln (v5).toNat (by omega) (by omega)
        refine lv_iconst (v := zI 1) hx hb dX0_seekOf_41 rfl ?_
        refine r_iadd (v := zI (((gg 2) (v5).toNat) + 1)) F dX0_seekOf_42 (zI_add _ _) ?_
        refine rz_iastG F hK hP hD hS 3 0 rfl rfl (by omega) (by omega) dX0_seekOf_43 (w1 := fun g12 => [(b, .inr (0, [.ref (q 0), .ref (q 1), .ref (q 2), .ref (q 3), .ref (q 4), .ref (q 5), .ref (q 6)])), ((q 0), .inl (cI, 10, .inl (fun k => zI ((gg 0) k)))), ((q 1), .inl (cI, 30, .inl (fun k => zI ((gg 1) k)))), ((q 2), .inl (cI, 3, .inl (fun k => zI (g12 k)))), ((q 3), .inl (cI, 3, .inl (fun k => zI ((gg 3) k)))), ((q 4), .inl (cI, 3, .inl (fun k => zI ((gg 4) k)))), ((q 5), .inl (cI, 3, .inl (fun k => zI ((gg 5) k)))), ((q 6), .inl (cI, 6, .inl (fun k => zI ((gg 6) k)))), (o, .inr (7, [.int (zI no), .ref (qo 0)])), ((qo 0), .inl (cI, 30, .inl (fun k => zI ((go 0) k))))]) (fun _ => rfl) (fun g12 e_g12 H locs hP hD hS => ?_)
        have h_g12 : ∀ k, k < 3 → (-1) ≤ g12 k ∧ g12 k ≤ 52 := by rw [e_g12]; exact uZ_all (P := fun _ y9 => (-1) ≤ y9 ∧ y9 ≤ 52) hG.1 (fun _ => by omega)
        have hl8 : g12 (v5).toNat = gg 2 (v5).toNat + 1 := by rw [e_g12]; simp [uZ]
        refine lv_aload_n hx hb dX0_seekOf_44 rfl (lv_at hl 3 rfl) ?_
        refine r_get F hK hP 0 2 rfl rfl in_X0 (by decide) k_450 rfl dX0_seekOf_45 ?_
        refine lv_iload hx hb dX0_seekOf_48 (lv_at hl 1 rfl) ?_
        refine rz_iald F hK hP 3 0 rfl rfl (by omega) (by omega) dX0_seekOf_50 ?_
        have h_l50_12 := h_g12 (v5).toNat (by omega)
        refine lv_iload hx hb dX0_seekOf_51 (lv_at hl 2 rfl) ?_
        refine rz_icmp_lt (tgt := 62) F (by omega) (by omega) dX0_seekOf_53 (by decide) (fun h53_13 => ?_) (fun h53_13 => ?_)
        · refine lv_aload_n hx hb dX0_seekOf_62 rfl (lv_at hl 3 rfl) ?_
          have hhere : ∀ k : Nat, (k : Int) ≤ v5 → k < 3 → g12 k < (4 * z4) := seek_here hln e_g12 (by omega)
          refine lv_iload hx hb dX0_seekOf_63 (lv_at hl 1 rfl) ?_
          refine lv_iload_n hx hb dX0_seekOf_65 rfl (lv_at hl 4 rfl) ?_
          obtain ⟨i15, e_i15⟩ : ∃ i15 : Nat → Int, i15 = fun k => [].getD k 0 := ⟨_, rfl⟩
          obtain ⟨gg16, e_gg16⟩ : ∃ gg16 : Nat → Nat → Int, gg16 = fun k => [(gg 0), (gg 1), g12, (gg 3), (gg 4), (gg 5), (gg 6)].getD k (fun _ => 0) := ⟨_, rfl⟩
          have hO17 : LeastOk gg16 := by rw [e_gg16]; exact ⟨h_g12, hG.2.1, hG.2.2⟩
          have hP : va_P G vwCl [(b, .inr (0, [.ref (q 0), .ref (q 1), .ref (q 2), .ref (q 3), .ref (q 4), .ref (q 5), .ref (q 6)])), ((q 0), .inl (cI, 10, .inl (fun k => zI ((gg16 0) k)))), ((q 1), .inl (cI, 30, .inl (fun k => zI ((gg16 1) k)))), ((q 2), .inl (cI, 3, .inl (fun k => zI ((gg16 2) k)))), ((q 3), .inl (cI, 3, .inl (fun k => zI ((gg16 3) k)))), ((q 4), .inl (cI, 3, .inl (fun k => zI ((gg16 4) k)))), ((q 5), .inl (cI, 3, .inl (fun k => zI ((gg16 5) k)))), ((q 6), .inl (cI, 6, .inl (fun k => zI ((gg16 6) k)))), (o, .inr (7, [.int (zI no), .ref (qo 0)])), ((qo 0), .inl (cI, 30, .inl (fun k => zI ((go 0) k))))] H := by subst e_i15 e_gg16; exact hP
          have hD : va_D A [(b, .inr (0, [.ref (q 0), .ref (q 1), .ref (q 2), .ref (q 3), .ref (q 4), .ref (q 5), .ref (q 6)])), ((q 0), .inl (cI, 10, .inl (fun k => zI ((gg16 0) k)))), ((q 1), .inl (cI, 30, .inl (fun k => zI ((gg16 1) k)))), ((q 2), .inl (cI, 3, .inl (fun k => zI ((gg16 2) k)))), ((q 3), .inl (cI, 3, .inl (fun k => zI ((gg16 3) k)))), ((q 4), .inl (cI, 3, .inl (fun k => zI ((gg16 4) k)))), ((q 5), .inl (cI, 3, .inl (fun k => zI ((gg16 5) k)))), ((q 6), .inl (cI, 6, .inl (fun k => zI ((gg16 6) k)))), (o, .inr (7, [.int (zI no), .ref (qo 0)])), ((qo 0), .inl (cI, 30, .inl (fun k => zI ((go 0) k))))] := by subst e_i15 e_gg16; exact hD
          have hv8 : 0 ≤ gg16 2 (v5).toNat := by have q : gg16 2 = g12 := (by subst e_gg16; rfl); rw [q]; omega
          refine r_callVv (As := [.int (zI v5), .int (zI n)]) (rest := []) (wr := [(o, .inr (7, [.int (zI no), .ref (qo 0)])), ((qo 0), .inl (cI, 30, .inl (fun k => zI ((go 0) k))))]) F hK hP hD hS hA hO hE (c_X0_tell hO b q gg16 hO17 v5 n (by omega) hn9 hv8) k_1025 kv_X0_tell 2 rfl (by decide +kernel) ⟨Nat.le_of_ble_eq_true rfl, Nat.le_of_ble_eq_true rfl⟩ [0, 1, 2, 3, 4, 5, 6, 7] [8, 9] rfl rfl (by decide) (by decide) (by decide) 0 0 rfl rfl rfl hl.1 rfl (Nat.le_of_ble_eq_true rfl) dX0_seekOf_66 ⟨Nat.le_of_ble_eq_true rfl, Nat.le_of_ble_eq_true rfl⟩ (w1 := fun u18 => [(o, .inr (7, [.int (zI no), .ref (qo 0)])), ((qo 0), .inl (cI, 30, .inl (fun k => zI ((go 0) k)))), (b, .inr (0, [.ref (q 0), .ref (q 1), .ref (q 2), .ref (q 3), .ref (q 4), .ref (q 5), .ref (q 6)])), ((q 0), .inl (cI, 10, .inl (fun k => zI ((u18.2 0) k)))), ((q 1), .inl (cI, 30, .inl (fun k => zI ((u18.2 1) k)))), ((q 2), .inl (cI, 3, .inl (fun k => zI ((u18.2 2) k)))), ((q 3), .inl (cI, 3, .inl (fun k => zI ((u18.2 3) k)))), ((q 4), .inl (cI, 3, .inl (fun k => zI ((u18.2 4) k)))), ((q 5), .inl (cI, 3, .inl (fun k => zI ((u18.2 5) k)))), ((q 6), .inl (cI, 6, .inl (fun k => zI ((u18.2 6) k))))]) (fun _ => rfl) (fun  u18 H locs hp19 hP hD hS => ?_)
          have hx20 := hp19.2
          have hh2 : ∀ k : Nat, (k : Int) ≤ v5 → k < 3 → u18.2 2 k < (4 * z4) := by rw [hp19.2]; subst e_gg16; exact hhere
          refine lv_aload_n hx hb dX0_seekOf_69 rfl (lv_at hl 3 rfl) ?_
          refine lv_aload_n hx hb dX0_seekOf_70 rfl (lv_at hl 5 rfl) ?_
          refine lv_iload_n hx hb dX0_seekOf_71 rfl (lv_at hl 6 rfl) ?_
          refine lv_iload hx hb dX0_seekOf_72 (lv_at hl 1 rfl) ?_
          refine lv_iconst (v := zI 1) hx hb dX0_seekOf_74 rfl ?_
          refine r_iadd (v := zI (v5 + 1)) F dX0_seekOf_75 (zI_add _ _) ?_
          refine r_callVi (As := [.ref o, .int (zI y), .int (zI (v5 + 1))]) (rest := []) (wr := []) F hK hP hD hS hA hO hE (c_X0_mayAnswer hO b q u18.2 hp19.1 o qo no go hM y (v5 + 1) (by omega) (by omega)) k_1029 kv_X0_mayAnswer 3 rfl (by decide +kernel) ⟨Nat.le_of_ble_eq_true rfl, Nat.le_of_ble_eq_true rfl⟩ [2, 3, 4, 5, 6, 7, 8, 9, 0, 1] [] rfl rfl (by decide) (by decide) (by decide) 0 0 rfl rfl rfl hl.1 rfl (Nat.le_of_ble_eq_true rfl) dX0_seekOf_76 ⟨Nat.le_of_ble_eq_true rfl, Nat.le_of_ble_eq_true rfl⟩ (w1 := fun u21 => [(b, .inr (0, [.ref (q 0), .ref (q 1), .ref (q 2), .ref (q 3), .ref (q 4), .ref (q 5), .ref (q 6)])), ((q 0), .inl (cI, 10, .inl (fun k => zI ((u21.2 0) k)))), ((q 1), .inl (cI, 30, .inl (fun k => zI ((u21.2 1) k)))), ((q 2), .inl (cI, 3, .inl (fun k => zI ((u21.2 2) k)))), ((q 3), .inl (cI, 3, .inl (fun k => zI ((u21.2 3) k)))), ((q 4), .inl (cI, 3, .inl (fun k => zI ((u21.2 4) k)))), ((q 5), .inl (cI, 3, .inl (fun k => zI ((u21.2 5) k)))), ((q 6), .inl (cI, 6, .inl (fun k => zI ((u21.2 6) k)))), (o, .inr (7, [.int (zI no), .ref (qo 0)])), ((qo 0), .inl (cI, 30, .inl (fun k => zI ((go 0) k))))]) (fun _ => rfl) (fun r22 u21 H locs hp23 hP hD hS => ?_)
          obtain ⟨z24, rfl, h_z24⟩ := hp23
          have hx25 := h_z24.2
          have hh3 : ∀ k : Nat, (k : Int) ≤ v5 → k < 3 → u21.2 2 k < (4 * z4) := by rw [h_z24.2.2]; exact hh2
          refine rz_if_ne (tgt := 85) F (by omega) dX0_seekOf_79 (by decide) (fun h79_25 => ?_) (fun h79_25 => ?_)
          · refine lv_iload hx hb dX0_seekOf_85 (lv_at hl 1 rfl) ?_
            refine lv_iconst (v := zI 1) hx hb dX0_seekOf_87 rfl ?_
            refine r_iadd (v := zI (v5 + 1)) F dX0_seekOf_88 (zI_add _ _) ?_
            refine lv_iload_n hx hb dX0_seekOf_89 rfl (lv_at hl 4 rfl) ?_
            refine rz_icmp_ne (tgt := 95) F (by omega) (by omega) dX0_seekOf_90 (by decide) (fun h90_26 => ?_) (fun h90_26 => ?_)
            · refine lv_iinc (v := zI (v5 + 1)) (lv' := [(5, .int (zI (v5 + 1))), (6, .int (zI v6)), (4, .int (zI (4 * z4))), (0, .ref b), (1, .int (zI n)), (2, .ref o), (3, .int (zI y))]) hx hb dX0_seekOf_95 hl (k := 1) rfl (zI_add _ _) (by decide) rfl (fun ls hl => ?_)
              refine lv_aload_n hx hb dX0_seekOf_98 rfl (lv_at hl 3 rfl) ?_
              refine r_get F hK hP 0 2 rfl rfl in_X0 (by decide) k_450 rfl dX0_seekOf_99 ?_
              refine lv_iload hx hb dX0_seekOf_102 (lv_at hl 0 rfl) ?_
              refine lv_iconst (v := zI (-1)) hx hb dX0_seekOf_104 rfl ?_
              refine rz_iastG F hK hP hD hS 3 0 rfl rfl (by omega) (by omega) dX0_seekOf_105 (w1 := fun g28 => [(b, .inr (0, [.ref (q 0), .ref (q 1), .ref (q 2), .ref (q 3), .ref (q 4), .ref (q 5), .ref (q 6)])), ((q 0), .inl (cI, 10, .inl (fun k => zI ((u21.2 0) k)))), ((q 1), .inl (cI, 30, .inl (fun k => zI ((u21.2 1) k)))), ((q 2), .inl (cI, 3, .inl (fun k => zI (g28 k)))), ((q 3), .inl (cI, 3, .inl (fun k => zI ((u21.2 3) k)))), ((q 4), .inl (cI, 3, .inl (fun k => zI ((u21.2 4) k)))), ((q 5), .inl (cI, 3, .inl (fun k => zI ((u21.2 5) k)))), ((q 6), .inl (cI, 6, .inl (fun k => zI ((u21.2 6) k)))), (o, .inr (7, [.int (zI no), .ref (qo 0)])), ((qo 0), .inl (cI, 30, .inl (fun k => zI ((go 0) k))))]) (fun _ => rfl) (fun g28 e_g28 H locs hP hD hS => ?_)
              have h_g28 : ∀ k, k < 3 → (-1) ≤ g28 k ∧ g28 k ≤ 52 := by rw [e_g28]; exact uZ_all (P := fun _ y9 => (-1) ≤ y9 ∧ y9 ≤ 52) h_z24.1.1 (fun _ => by omega)
              refine lv_iinc (v := zI (v6 + 1)) (lv' := [(6, .int (zI (v6 + 1))), (5, .int (zI (v5 + 1))), (4, .int (zI (4 * z4))), (0, .ref b), (1, .int (zI n)), (2, .ref o), (3, .int (zI y))]) hx hb dX0_seekOf_106 hl (k := 1) rfl (zI_add _ _) (by decide) rfl (fun ls hl => ?_)
              refine lv_goto (tgt := 21) hx hb dX0_seekOf_109 (by decide) ?_
              obtain ⟨i29, e_i29⟩ : ∃ i29 : Nat → Int, i29 = fun k => [].getD k 0 := ⟨_, rfl⟩
              obtain ⟨gg30, e_gg30⟩ : ∃ gg30 : Nat → Nat → Int, gg30 = fun k => [(u21.2 0), (u21.2 1), g28, (u21.2 3), (u21.2 4), (u21.2 5), (u21.2 6)].getD k (fun _ => 0) := ⟨_, rfl⟩
              have hO31 : LeastOk gg30 := by rw [e_gg30]; exact ⟨h_g28, h_z24.1.2.1, h_z24.1.2.2⟩
              have hP : va_P G vwCl [(b, .inr (0, [.ref (q 0), .ref (q 1), .ref (q 2), .ref (q 3), .ref (q 4), .ref (q 5), .ref (q 6)])), ((q 0), .inl (cI, 10, .inl (fun k => zI ((gg30 0) k)))), ((q 1), .inl (cI, 30, .inl (fun k => zI ((gg30 1) k)))), ((q 2), .inl (cI, 3, .inl (fun k => zI ((gg30 2) k)))), ((q 3), .inl (cI, 3, .inl (fun k => zI ((gg30 3) k)))), ((q 4), .inl (cI, 3, .inl (fun k => zI ((gg30 4) k)))), ((q 5), .inl (cI, 3, .inl (fun k => zI ((gg30 5) k)))), ((q 6), .inl (cI, 6, .inl (fun k => zI ((gg30 6) k)))), (o, .inr (7, [.int (zI no), .ref (qo 0)])), ((qo 0), .inl (cI, 30, .inl (fun k => zI ((go 0) k))))] H := by subst e_i29 e_gg30; exact hP
              have hD : va_D A [(b, .inr (0, [.ref (q 0), .ref (q 1), .ref (q 2), .ref (q 3), .ref (q 4), .ref (q 5), .ref (q 6)])), ((q 0), .inl (cI, 10, .inl (fun k => zI ((gg30 0) k)))), ((q 1), .inl (cI, 30, .inl (fun k => zI ((gg30 1) k)))), ((q 2), .inl (cI, 3, .inl (fun k => zI ((gg30 2) k)))), ((q 3), .inl (cI, 3, .inl (fun k => zI ((gg30 3) k)))), ((q 4), .inl (cI, 3, .inl (fun k => zI ((gg30 4) k)))), ((q 5), .inl (cI, 3, .inl (fun k => zI ((gg30 5) k)))), ((q 6), .inl (cI, 6, .inl (fun k => zI ((gg30 6) k)))), (o, .inr (7, [.int (zI no), .ref (qo 0)])), ((qo 0), .inl (cI, 30, .inl (fun k => zI ((go 0) k))))] := by subst e_i29 e_gg30; exact hD
              exact ih1 (v5 + 1) (v6 + 1) gg30 _ _ (by omega) (by omega) hO31 (by subst e_gg30; exact seek_next (by omega) hh3 e_g28 (by omega)) hP hD hS ls (lv_sub hl [0, 1, 2, 3, 4, 5, 6] rfl)
            · refine lv_iconst (v := zI 1) hx hb dX0_seekOf_93 rfl ?_
              exact ret (zI 1) (fun _ => 0, u21.2) _ _ _ _ _ _ rfl ⟨1, rfl, h_z24.1, by omega⟩ (bw_subP (isC := [0, 1, 2, 3, 4, 5, 6, 7, 8, 9]) hP rfl) (hD.sub [0, 1, 2, 3, 4, 5, 6, 7, 8, 9] (by decide) rfl) hS (Nat.le_of_ble_eq_true rfl) (Nat.le_of_ble_eq_true rfl) dX0_seekOf_94
          · refine lv_goto (tgt := 106) hx hb dX0_seekOf_82 (by decide) ?_
            refine lv_iinc (v := zI (v6 + 1)) (lv' := [(6, .int (zI (v6 + 1))), (5, .int (zI v5)), (4, .int (zI (4 * z4))), (0, .ref b), (1, .int (zI n)), (2, .ref o), (3, .int (zI y))]) hx hb dX0_seekOf_106 hl (k := 0) rfl (zI_add _ _) (by decide) rfl (fun ls hl => ?_)
            refine lv_goto (tgt := 21) hx hb dX0_seekOf_109 (by decide) ?_
            exact ih1 v5 (v6 + 1) u21.2 _ _ (by omega) (by omega) h_z24.1 hh3 hP hD hS ls (lv_sub hl [0, 1, 2, 3, 4, 5, 6] rfl)
        · refine lv_iinc (v := zI (v5 + (-1))) (lv' := [(5, .int (zI (v5 + (-1)))), (6, .int (zI v6)), (4, .int (zI (4 * z4))), (0, .ref b), (1, .int (zI n)), (2, .ref o), (3, .int (zI y))]) hx hb dX0_seekOf_56 hl (k := 1) rfl (zI_add _ _) (by decide) rfl (fun ls hl => ?_)
          refine lv_goto (tgt := 106) hx hb dX0_seekOf_59 (by decide) ?_
          refine lv_iinc (v := zI (v6 + 1)) (lv' := [(6, .int (zI (v6 + 1))), (5, .int (zI (v5 + (-1)))), (4, .int (zI (4 * z4))), (0, .ref b), (1, .int (zI n)), (2, .ref o), (3, .int (zI y))]) hx hb dX0_seekOf_106 hl (k := 1) rfl (zI_add _ _) (by decide) rfl (fun ls hl => ?_)
          refine lv_goto (tgt := 21) hx hb dX0_seekOf_109 (by decide) ?_
          obtain ⟨i32, e_i32⟩ : ∃ i32 : Nat → Int, i32 = fun k => [].getD k 0 := ⟨_, rfl⟩
          obtain ⟨gg33, e_gg33⟩ : ∃ gg33 : Nat → Nat → Int, gg33 = fun k => [(gg 0), (gg 1), g12, (gg 3), (gg 4), (gg 5), (gg 6)].getD k (fun _ => 0) := ⟨_, rfl⟩
          have hO34 : LeastOk gg33 := by rw [e_gg33]; exact ⟨h_g12, hG.2.1, hG.2.2⟩
          have hP : va_P G vwCl [(b, .inr (0, [.ref (q 0), .ref (q 1), .ref (q 2), .ref (q 3), .ref (q 4), .ref (q 5), .ref (q 6)])), ((q 0), .inl (cI, 10, .inl (fun k => zI ((gg33 0) k)))), ((q 1), .inl (cI, 30, .inl (fun k => zI ((gg33 1) k)))), ((q 2), .inl (cI, 3, .inl (fun k => zI ((gg33 2) k)))), ((q 3), .inl (cI, 3, .inl (fun k => zI ((gg33 3) k)))), ((q 4), .inl (cI, 3, .inl (fun k => zI ((gg33 4) k)))), ((q 5), .inl (cI, 3, .inl (fun k => zI ((gg33 5) k)))), ((q 6), .inl (cI, 6, .inl (fun k => zI ((gg33 6) k)))), (o, .inr (7, [.int (zI no), .ref (qo 0)])), ((qo 0), .inl (cI, 30, .inl (fun k => zI ((go 0) k))))] H := by subst e_i32 e_gg33; exact hP
          have hD : va_D A [(b, .inr (0, [.ref (q 0), .ref (q 1), .ref (q 2), .ref (q 3), .ref (q 4), .ref (q 5), .ref (q 6)])), ((q 0), .inl (cI, 10, .inl (fun k => zI ((gg33 0) k)))), ((q 1), .inl (cI, 30, .inl (fun k => zI ((gg33 1) k)))), ((q 2), .inl (cI, 3, .inl (fun k => zI ((gg33 2) k)))), ((q 3), .inl (cI, 3, .inl (fun k => zI ((gg33 3) k)))), ((q 4), .inl (cI, 3, .inl (fun k => zI ((gg33 4) k)))), ((q 5), .inl (cI, 3, .inl (fun k => zI ((gg33 5) k)))), ((q 6), .inl (cI, 6, .inl (fun k => zI ((gg33 6) k)))), (o, .inr (7, [.int (zI no), .ref (qo 0)])), ((qo 0), .inl (cI, 30, .inl (fun k => zI ((go 0) k))))] := by subst e_i32 e_gg33; exact hD
          exact ih1 (v5 + (-1)) (v6 + 1) gg33 _ _ (by omega) (by omega) hO34 (by subst e_gg33; exact seek_up (by omega) hln e_g12) hP hD hS ls (lv_sub hl [0, 1, 2, 3, 4, 5, 6] rfl)
theorem dX0_seek_0 : decode cX0_seek 0 = .ok (.iconst 1, 1) := bo_4 (by decide +kernel)
theorem dX0_seek_1 : decode cX0_seek 1 = .ok (.istore_n 3, 1) := bo_62 (by decide +kernel)
theorem dX0_seek_2 : decode cX0_seek 2 = .ok (.iload_n 3, 1) := bo_29 (by decide +kernel)
theorem dX0_seek_3 : decode cX0_seek 3 = .ok (.iconst 3, 1) := bo_6 (by decide +kernel)
theorem dX0_seek_4 : decode cX0_seek 4 = .ok (.if_icmp .gt 21, 3) := bo_163 0 21 (by decide +kernel)
theorem dX0_seek_25 : decode cX0_seek 25 = .ok (.bipush (-2), 2) := bo_16 254 (by decide +kernel)
theorem dX0_seek_27 : decode cX0_seek 27 = .ok (.ireturn, 1) := bo_172 (by decide +kernel)
theorem dX0_seek_7 : decode cX0_seek 7 = .ok (.aload_n 0, 1) := bo_42 (by decide +kernel)
theorem dX0_seek_8 : decode cX0_seek 8 = .ok (.iload_n 3, 1) := bo_29 (by decide +kernel)
theorem dX0_seek_9 : decode cX0_seek 9 = .ok (.aload_n 1, 1) := bo_43 (by decide +kernel)
theorem dX0_seek_10 : decode cX0_seek 10 = .ok (.iload_n 2, 1) := bo_28 (by decide +kernel)
theorem dX0_seek_11 : decode cX0_seek 11 = .ok (.invokevirtual 49, 3) := bo_182 0 49 (by decide +kernel)
theorem k_1017 : Cond.methodLink RX0 49 yX0_seekOf ∈ bw_T := bw_m 1017 (by decide +kernel) rfl
theorem kv_X0_seekOf : bw_KV RX0 yX0_seekOf (Cond.code yX0_seekOf cX0_seekOf 7 (some .boolean)) := ⟨bw_m 1019 (by decide +kernel) rfl, bw_m 39 (by decide +kernel) rfl, bw_m 105 (by decide +kernel) rfl, bw_m 1020 (by decide +kernel) rfl⟩
theorem dX0_seek_14 : decode cX0_seek 14 = .ok (.ifCond .eq 5, 3) := bo_153 0 5 (by decide +kernel)
theorem dX0_seek_19 : decode cX0_seek 19 = .ok (.iinc 3 1, 3) := bo_132 3 1 (by decide +kernel)
theorem dX0_seek_22 : decode cX0_seek 22 = .ok (.goto (-20), 3) := bo_167 255 236 (by decide +kernel)
theorem dX0_seek_17 : decode cX0_seek 17 = .ok (.iload_n 3, 1) := bo_29 (by decide +kernel)
theorem dX0_seek_18 : decode cX0_seek 18 = .ok (.ireturn, 1) := bo_172 (by decide +kernel)
abbrev rm_X0_seek : Room := { frames := 4, cells := 0, slots := 0, locals := 104 }
set_option maxRecDepth 100000 in
set_option maxHeartbeats 8000000 in
theorem c_X0_seek {l : Launch} {E : (Nat → Prop) → State → Prop} (hO : bw_Ok E) {G : va_G} {cI cB cJ cN cW : ClassId} (b : Nat) (q : Nat → Nat) (g : Nat → Nat → Int) (hY : LeastOk g) (o : Nat) (qo : Nat → Nat) (no : Int) (go : Nat → Nat → Int) (hM : WantsOk no) (y : Int) (hy9 : zR y) : bw_Ci (S := zU) l yX0_seek (bw_ws (Cond.code yX0_seek cX0_seek 4 (some .int))) rm_X0_seek E G (bw_kt cI cB cJ cN cW) [.ref b, .ref o, .int (zI y)] [(b, .inr (0, [.ref (q 0), .ref (q 1), .ref (q 2), .ref (q 3), .ref (q 4), .ref (q 5), .ref (q 6)])), ((q 0), .inl (cI, 10, .inl (fun k => zI ((g 0) k)))), ((q 1), .inl (cI, 30, .inl (fun k => zI ((g 1) k)))), ((q 2), .inl (cI, 3, .inl (fun k => zI ((g 2) k)))), ((q 3), .inl (cI, 3, .inl (fun k => zI ((g 3) k)))), ((q 4), .inl (cI, 3, .inl (fun k => zI ((g 4) k)))), ((q 5), .inl (cI, 3, .inl (fun k => zI ((g 5) k)))), ((q 6), .inl (cI, 6, .inl (fun k => zI ((g 6) k)))), (o, .inr (7, [.int (zI no), .ref (qo 0)])), ((qo 0), .inl (cI, 30, .inl (fun k => zI ((go 0) k))))] (fun r u => ∃ z : Int, r = zI z ∧ LeastOk u.2 ∧ (-2 ≤ z ∧ z ≤ 3)) (fun u => [(b, .inr (0, [.ref (q 0), .ref (q 1), .ref (q 2), .ref (q 3), .ref (q 4), .ref (q 5), .ref (q 6)])), ((q 0), .inl (cI, 10, .inl (fun k => zI ((u.2 0) k)))), ((q 1), .inl (cI, 30, .inl (fun k => zI ((u.2 1) k)))), ((q 2), .inl (cI, 3, .inl (fun k => zI ((u.2 2) k)))), ((q 3), .inl (cI, 3, .inl (fun k => zI ((u.2 3) k)))), ((q 4), .inl (cI, 3, .inl (fun k => zI ((u.2 4) k)))), ((q 5), .inl (cI, 3, .inl (fun k => zI ((u.2 5) k)))), ((q 6), .inl (cI, 6, .inl (fun k => zI ((u.2 6) k)))), (o, .inr (7, [.int (zI no), .ref (qo 0)])), ((qo 0), .inl (cI, 30, .inl (fun k => zI ((go 0) k))))]) := by
  refine bw_Ci.of (cc := cX0_seek) (maxL := 4) (ty := .int) (by decide) rfl (Nat.le_of_ble_eq_true rfl) ?_
  intro p e s m below meth c A Q hx hb hml hts hown hin hK hA hS hP hD hE ret ls hl
  have F : CallFix p m c cX0_seek 4 s ([.ref b, .ref o, .int (zI y)] : List Value).toArray bw_T RX0 := ⟨hx, hb, hml, hown, fun w h => hts w (List.mem_cons_of_mem _ h)⟩
  replace hl : lv_has ls 4 [(0, .ref b), (1, .ref o), (2, .int (zI y))] := hl
  refine lv_iconst (v := zI 1) hx hb dX0_seek_0 rfl ?_
  refine lv_istore_n (lv' := [(3, .int (zI 1)), (0, .ref b), (1, .ref o), (2, .int (zI y))]) hx hb dX0_seek_1 rfl hl (by decide) rfl (fun ls hl => ?_)
  refine W.widen (k := 0) (n := 0) (Nat.le_of_ble_eq_true rfl) (Nat.le_of_ble_eq_true rfl) ?_
  refine (?_ : ∀ (n9_1 : Nat) (v3 : Int) (gg : Nat → Nat → Int) (H : Heap) (locs : List Loc), (1 ≤ v3 ∧ v3 ≤ 4) → (4 - v3 : Int).toNat < n9_1 → (LeastOk gg) → va_P G vwCl [(b, .inr (0, [.ref (q 0), .ref (q 1), .ref (q 2), .ref (q 3), .ref (q 4), .ref (q 5), .ref (q 6)])), ((q 0), .inl (cI, 10, .inl (fun k => zI ((gg 0) k)))), ((q 1), .inl (cI, 30, .inl (fun k => zI ((gg 1) k)))), ((q 2), .inl (cI, 3, .inl (fun k => zI ((gg 2) k)))), ((q 3), .inl (cI, 3, .inl (fun k => zI ((gg 3) k)))), ((q 4), .inl (cI, 3, .inl (fun k => zI ((gg 4) k)))), ((q 5), .inl (cI, 3, .inl (fun k => zI ((gg 5) k)))), ((q 6), .inl (cI, 6, .inl (fun k => zI ((gg 6) k)))), (o, .inr (7, [.int (zI no), .ref (qo 0)])), ((qo 0), .inl (cI, 30, .inl (fun k => zI ((go 0) k))))] H → va_D A [(b, .inr (0, [.ref (q 0), .ref (q 1), .ref (q 2), .ref (q 3), .ref (q 4), .ref (q 5), .ref (q 6)])), ((q 0), .inl (cI, 10, .inl (fun k => zI ((gg 0) k)))), ((q 1), .inl (cI, 30, .inl (fun k => zI ((gg 1) k)))), ((q 2), .inl (cI, 3, .inl (fun k => zI ((gg 2) k)))), ((q 3), .inl (cI, 3, .inl (fun k => zI ((gg 3) k)))), ((q 4), .inl (cI, 3, .inl (fun k => zI ((gg 4) k)))), ((q 5), .inl (cI, 3, .inl (fun k => zI ((gg 5) k)))), ((q 6), .inl (cI, 6, .inl (fun k => zI ((gg 6) k)))), (o, .inr (7, [.int (zI no), .ref (qo 0)])), ((qo 0), .inl (cI, 30, .inl (fun k => zI ((go 0) k))))] → va_S A s.heap H locs → ∀ ls : Array Slot, lv_has ls 4 [(3, .int (zI v3)), (0, .ref b), (1, .ref o), (2, .int (zI y))] → W p l e rm_X0_seek s m ([.ref b, .ref o, .int (zI y)] : List Value).toArray below meth c H locs 0 0 Q (F0 m 2 ls [])) ((4 - 1 : Int).toNat + 1) 1 g _ _ (by omega) (by omega) hY hP hD hS ls hl
  clear hP hD hS hl ls
  intro n9_1
  induction n9_1 with
  | zero =>
    intro v3 gg H locs hI hM
    exact absurd hM (by omega)
  | succ n9_1 ih1 =>
    intro v3 gg H locs hI1 hM1 hG hP hD hS ls hl
    refine lv_iload_n hx hb dX0_seek_2 rfl (lv_at hl 0 rfl) ?_
    refine lv_iconst (v := zI 3) hx hb dX0_seek_3 rfl ?_
    refine rz_icmp_gt (tgt := 25) F (by omega) (by omega) dX0_seek_4 (by decide) (fun h4_0 => ?_) (fun h4_0 => ?_)
    · refine lv_bipush (v := zI (-2)) hx hb dX0_seek_25 (by decide) ?_
      exact ret (zI (-2)) (fun _ => 0, gg) _ _ _ _ _ _ rfl ⟨(-2), rfl, hG, by omega⟩ (bw_subP (isC := [0, 1, 2, 3, 4, 5, 6, 7, 8, 9]) hP rfl) (hD.sub [0, 1, 2, 3, 4, 5, 6, 7, 8, 9] (by decide) rfl) hS (Nat.le_of_ble_eq_true rfl) (Nat.le_of_ble_eq_true rfl) dX0_seek_27
    · refine lv_aload_n hx hb dX0_seek_7 rfl (lv_at hl 1 rfl) ?_
      refine lv_iload_n hx hb dX0_seek_8 rfl (lv_at hl 0 rfl) ?_
      refine lv_aload_n hx hb dX0_seek_9 rfl (lv_at hl 2 rfl) ?_
      refine lv_iload_n hx hb dX0_seek_10 rfl (lv_at hl 3 rfl) ?_
      refine r_callVi (As := [.int (zI v3), .ref o, .int (zI y)]) (rest := []) (wr := []) F hK hP hD hS hA hO hE (c_X0_seekOf hO b q gg hG o qo no go hM v3 y (by omega) (by omega)) k_1017 kv_X0_seekOf 3 rfl (by decide +kernel) ⟨Nat.le_of_ble_eq_true rfl, Nat.le_of_ble_eq_true rfl⟩ [0, 1, 2, 3, 4, 5, 6, 7, 8, 9] [] rfl rfl (by decide) (by decide) (by decide) 0 0 rfl rfl rfl hl.1 rfl (Nat.le_of_ble_eq_true rfl) dX0_seek_11 ⟨Nat.le_of_ble_eq_true rfl, Nat.le_of_ble_eq_true rfl⟩ (w1 := fun u2 => [(b, .inr (0, [.ref (q 0), .ref (q 1), .ref (q 2), .ref (q 3), .ref (q 4), .ref (q 5), .ref (q 6)])), ((q 0), .inl (cI, 10, .inl (fun k => zI ((u2.2 0) k)))), ((q 1), .inl (cI, 30, .inl (fun k => zI ((u2.2 1) k)))), ((q 2), .inl (cI, 3, .inl (fun k => zI ((u2.2 2) k)))), ((q 3), .inl (cI, 3, .inl (fun k => zI ((u2.2 3) k)))), ((q 4), .inl (cI, 3, .inl (fun k => zI ((u2.2 4) k)))), ((q 5), .inl (cI, 3, .inl (fun k => zI ((u2.2 5) k)))), ((q 6), .inl (cI, 6, .inl (fun k => zI ((u2.2 6) k)))), (o, .inr (7, [.int (zI no), .ref (qo 0)])), ((qo 0), .inl (cI, 30, .inl (fun k => zI ((go 0) k))))]) (fun _ => rfl) (fun r3 u2 H locs hp4 hP hD hS => ?_)
      obtain ⟨z5, rfl, h_z5⟩ := hp4
      have hx6 := h_z5.2
      refine rz_if_eq (tgt := 19) F (by omega) dX0_seek_14 (by decide) (fun h14_6 => ?_) (fun h14_6 => ?_)
      · refine lv_iinc (v := zI (v3 + 1)) (lv' := [(3, .int (zI (v3 + 1))), (0, .ref b), (1, .ref o), (2, .int (zI y))]) hx hb dX0_seek_19 hl (k := 0) rfl (zI_add _ _) (by decide) rfl (fun ls hl => ?_)
        refine lv_goto (tgt := 2) hx hb dX0_seek_22 (by decide) ?_
        exact ih1 (v3 + 1) u2.2 _ _ (by omega) (by omega) h_z5.1 hP hD hS ls (lv_sub hl [0, 1, 2, 3] rfl)
      · refine lv_iload_n hx hb dX0_seek_17 rfl (lv_at hl 0 rfl) ?_
        exact ret (zI v3) (fun _ => 0, u2.2) _ _ _ _ _ _ rfl ⟨v3, rfl, h_z5.1, by omega⟩ (bw_subP (isC := [0, 1, 2, 3, 4, 5, 6, 7, 8, 9]) hP rfl) (hD.sub [0, 1, 2, 3, 4, 5, 6, 7, 8, 9] (by decide) rfl) hS (Nat.le_of_ble_eq_true rfl) (Nat.le_of_ble_eq_true rfl) dX0_seek_18
theorem dX0_linesOf_0 : decode cX0_linesOf 0 = .ok (.aload_n 0, 1) := bo_42 (by decide +kernel)
theorem dX0_linesOf_1 : decode cX0_linesOf 1 = .ok (.getfield 9, 3) := bo_180 0 9 (by decide +kernel)
theorem dX0_linesOf_4 : decode cX0_linesOf 4 = .ok (.iload_n 2, 1) := bo_28 (by decide +kernel)
theorem dX0_linesOf_5 : decode cX0_linesOf 5 = .ok (.iaload, 1) := bo_46 (by decide +kernel)
theorem dX0_linesOf_6 : decode cX0_linesOf 6 = .ok (.ifCond .ne 31, 3) := bo_154 0 31 (by decide +kernel)
theorem dX0_linesOf_37 : decode cX0_linesOf 37 = .ok (.aload_n 0, 1) := bo_42 (by decide +kernel)
theorem dX0_linesOf_38 : decode cX0_linesOf 38 = .ok (.getfield 9, 3) := bo_180 0 9 (by decide +kernel)
theorem dX0_linesOf_41 : decode cX0_linesOf 41 = .ok (.iload_n 2, 1) := bo_28 (by decide +kernel)
theorem dX0_linesOf_42 : decode cX0_linesOf 42 = .ok (.iaload, 1) := bo_46 (by decide +kernel)
theorem dX0_linesOf_43 : decode cX0_linesOf 43 = .ok (.ireturn, 1) := bo_172 (by decide +kernel)
theorem dX0_linesOf_9 : decode cX0_linesOf 9 = .ok (.aload_n 0, 1) := bo_42 (by decide +kernel)
theorem dX0_linesOf_10 : decode cX0_linesOf 10 = .ok (.getfield 9, 3) := bo_180 0 9 (by decide +kernel)
theorem dX0_linesOf_13 : decode cX0_linesOf 13 = .ok (.iload_n 2, 1) := bo_28 (by decide +kernel)
theorem dX0_linesOf_14 : decode cX0_linesOf 14 = .ok (.aload_n 0, 1) := bo_42 (by decide +kernel)
theorem dX0_linesOf_15 : decode cX0_linesOf 15 = .ok (.aload_n 1, 1) := bo_43 (by decide +kernel)
theorem dX0_linesOf_16 : decode cX0_linesOf 16 = .ok (.iload_n 2, 1) := bo_28 (by decide +kernel)
theorem dX0_linesOf_17 : decode cX0_linesOf 17 = .ok (.invokevirtual 39, 3) := bo_182 0 39 (by decide +kernel)
theorem k_1013 : Cond.methodLink RX0 39 yX0_seek ∈ bw_T := bw_m 1013 (by decide +kernel) rfl
theorem kv_X0_seek : bw_KV RX0 yX0_seek (Cond.code yX0_seek cX0_seek 4 (some .int)) := ⟨bw_m 1015 (by decide +kernel) rfl, bw_m 38 (by decide +kernel) rfl, bw_m 105 (by decide +kernel) rfl, bw_m 1016 (by decide +kernel) rfl⟩
theorem dX0_linesOf_20 : decode cX0_linesOf 20 = .ok (.iastore, 1) := bo_79 (by decide +kernel)
theorem dX0_linesOf_21 : decode cX0_linesOf 21 = .ok (.aload_n 0, 1) := bo_42 (by decide +kernel)
theorem dX0_linesOf_22 : decode cX0_linesOf 22 = .ok (.getfield 18, 3) := bo_180 0 18 (by decide +kernel)
theorem dX0_linesOf_25 : decode cX0_linesOf 25 = .ok (.iconst 0, 1) := bo_3 (by decide +kernel)
theorem dX0_linesOf_26 : decode cX0_linesOf 26 = .ok (.aload_n 0, 1) := bo_42 (by decide +kernel)
theorem dX0_linesOf_27 : decode cX0_linesOf 27 = .ok (.getfield 15, 3) := bo_180 0 15 (by decide +kernel)
theorem dX0_linesOf_30 : decode cX0_linesOf 30 = .ok (.iload_n 2, 1) := bo_28 (by decide +kernel)
theorem dX0_linesOf_31 : decode cX0_linesOf 31 = .ok (.iconst 3, 1) := bo_6 (by decide +kernel)
theorem dX0_linesOf_32 : decode cX0_linesOf 32 = .ok (.imul, 1) := bo_104 (by decide +kernel)
theorem dX0_linesOf_33 : decode cX0_linesOf 33 = .ok (.iconst 3, 1) := bo_6 (by decide +kernel)
theorem dX0_linesOf_34 : decode cX0_linesOf 34 = .ok (.invokestatic 43, 3) := bo_184 0 43 (by decide +kernel)
theorem k_1038 : Cond.methodLink RX0 43 arraycopyName ∈ bw_T := bw_m 1038 (by decide +kernel) rfl
abbrev rm_X0_linesOf : Room := { frames := 5, cells := 0, slots := 0, locals := 127 }
set_option maxRecDepth 100000 in
set_option maxHeartbeats 8000000 in
theorem c_X0_linesOf {l : Launch} {E : (Nat → Prop) → State → Prop} (hO : bw_Ok E) {G : va_G} {cI cB cJ cN cW : ClassId} (b : Nat) (q : Nat → Nat) (g : Nat → Nat → Int) (hY : LeastOk g) (o : Nat) (qo : Nat → Nat) (no : Int) (go : Nat → Nat → Int) (hM : WantsOk no) (x : Int) (hx9 : 1 ≤ x ∧ x ≤ 9) : bw_Ci (S := zU) l yX0_linesOf (bw_ws (Cond.code yX0_linesOf cX0_linesOf 3 (some .int))) rm_X0_linesOf E G (bw_kt cI cB cJ cN cW) [.ref b, .ref o, .int (zI x)] [(b, .inr (0, [.ref (q 0), .ref (q 1), .ref (q 2), .ref (q 3), .ref (q 4), .ref (q 5), .ref (q 6)])), ((q 0), .inl (cI, 10, .inl (fun k => zI ((g 0) k)))), ((q 1), .inl (cI, 30, .inl (fun k => zI ((g 1) k)))), ((q 2), .inl (cI, 3, .inl (fun k => zI ((g 2) k)))), ((q 3), .inl (cI, 3, .inl (fun k => zI ((g 3) k)))), ((q 4), .inl (cI, 3, .inl (fun k => zI ((g 4) k)))), ((q 5), .inl (cI, 3, .inl (fun k => zI ((g 5) k)))), ((q 6), .inl (cI, 6, .inl (fun k => zI ((g 6) k)))), (o, .inr (7, [.int (zI no), .ref (qo 0)])), ((qo 0), .inl (cI, 30, .inl (fun k => zI ((go 0) k))))] (fun r u => ∃ z : Int, r = zI z ∧ LeastOk u.2 ∧ (True)) (fun u => [(b, .inr (0, [.ref (q 0), .ref (q 1), .ref (q 2), .ref (q 3), .ref (q 4), .ref (q 5), .ref (q 6)])), ((q 0), .inl (cI, 10, .inl (fun k => zI ((u.2 0) k)))), ((q 1), .inl (cI, 30, .inl (fun k => zI ((u.2 1) k)))), ((q 2), .inl (cI, 3, .inl (fun k => zI ((u.2 2) k)))), ((q 3), .inl (cI, 3, .inl (fun k => zI ((u.2 3) k)))), ((q 4), .inl (cI, 3, .inl (fun k => zI ((u.2 4) k)))), ((q 5), .inl (cI, 3, .inl (fun k => zI ((u.2 5) k)))), ((q 6), .inl (cI, 6, .inl (fun k => zI ((u.2 6) k)))), (o, .inr (7, [.int (zI no), .ref (qo 0)])), ((qo 0), .inl (cI, 30, .inl (fun k => zI ((go 0) k))))]) := by
  refine bw_Ci.of (cc := cX0_linesOf) (maxL := 3) (ty := .int) (by decide) rfl (Nat.le_of_ble_eq_true rfl) ?_
  intro p e s m below meth c A Q hx hb hml hts hown hin hK hA hS hP hD hE ret ls hl
  have F : CallFix p m c cX0_linesOf 3 s ([.ref b, .ref o, .int (zI x)] : List Value).toArray bw_T RX0 := ⟨hx, hb, hml, hown, fun w h => hts w (List.mem_cons_of_mem _ h)⟩
  replace hl : lv_has ls 3 [(0, .ref b), (1, .ref o), (2, .int (zI x))] := hl
  refine lv_aload_n hx hb dX0_linesOf_0 rfl (lv_at hl 0 rfl) ?_
  refine r_get F hK hP 0 0 rfl rfl in_X0 (by decide) k_448 rfl dX0_linesOf_1 ?_
  refine lv_iload_n hx hb dX0_linesOf_4 rfl (lv_at hl 2 rfl) ?_
  refine rz_iald F hK hP 1 0 rfl rfl (by omega) (by omega) dX0_linesOf_5 ?_
  refine rz_top (fun z1 h_z1 => ?_)
  refine rz_if_ne (tgt := 37) F (by omega) dX0_linesOf_6 (by decide) (fun h6_1 => ?_) (fun h6_1 => ?_)
  · refine lv_aload_n hx hb dX0_linesOf_37 rfl (lv_at hl 0 rfl) ?_
    refine r_get F hK hP 0 0 rfl rfl in_X0 (by decide) k_448 rfl dX0_linesOf_38 ?_
    refine lv_iload_n hx hb dX0_linesOf_41 rfl (lv_at hl 2 rfl) ?_
    refine rz_iald F hK hP 1 0 rfl rfl (by omega) (by omega) dX0_linesOf_42 ?_
    refine rz_top (fun z3 h_z3 => ?_)
    exact ret (zI z3) (fun _ => 0, g) _ _ _ _ _ _ rfl ⟨z3, rfl, hY, trivial⟩ (bw_subP (isC := [0, 1, 2, 3, 4, 5, 6, 7, 8, 9]) hP rfl) (hD.sub [0, 1, 2, 3, 4, 5, 6, 7, 8, 9] (by decide) rfl) hS (Nat.le_of_ble_eq_true rfl) (Nat.le_of_ble_eq_true rfl) dX0_linesOf_43
  · refine lv_aload_n hx hb dX0_linesOf_9 rfl (lv_at hl 0 rfl) ?_
    refine r_get F hK hP 0 0 rfl rfl in_X0 (by decide) k_448 rfl dX0_linesOf_10 ?_
    refine lv_iload_n hx hb dX0_linesOf_13 rfl (lv_at hl 2 rfl) ?_
    refine lv_aload_n hx hb dX0_linesOf_14 rfl (lv_at hl 0 rfl) ?_
    refine lv_aload_n hx hb dX0_linesOf_15 rfl (lv_at hl 1 rfl) ?_
    refine lv_iload_n hx hb dX0_linesOf_16 rfl (lv_at hl 2 rfl) ?_
    refine r_callVi (As := [.ref o, .int (zI x)]) (rest := [.int (zI x), .ref (q 0)]) (wr := []) F hK hP hD hS hA hO hE (c_X0_seek hO b q g hY o qo no go hM x (by omega)) k_1013 kv_X0_seek 2 rfl (by decide +kernel) ⟨Nat.le_of_ble_eq_true rfl, Nat.le_of_ble_eq_true rfl⟩ [0, 1, 2, 3, 4, 5, 6, 7, 8, 9] [] rfl rfl (by decide) (by decide) (by decide) 0 0 rfl rfl rfl hl.1 rfl (Nat.le_of_ble_eq_true rfl) dX0_linesOf_17 ⟨Nat.le_of_ble_eq_true rfl, Nat.le_of_ble_eq_true rfl⟩ (w1 := fun u4 => [(b, .inr (0, [.ref (q 0), .ref (q 1), .ref (q 2), .ref (q 3), .ref (q 4), .ref (q 5), .ref (q 6)])), ((q 0), .inl (cI, 10, .inl (fun k => zI ((u4.2 0) k)))), ((q 1), .inl (cI, 30, .inl (fun k => zI ((u4.2 1) k)))), ((q 2), .inl (cI, 3, .inl (fun k => zI ((u4.2 2) k)))), ((q 3), .inl (cI, 3, .inl (fun k => zI ((u4.2 3) k)))), ((q 4), .inl (cI, 3, .inl (fun k => zI ((u4.2 4) k)))), ((q 5), .inl (cI, 3, .inl (fun k => zI ((u4.2 5) k)))), ((q 6), .inl (cI, 6, .inl (fun k => zI ((u4.2 6) k)))), (o, .inr (7, [.int (zI no), .ref (qo 0)])), ((qo 0), .inl (cI, 30, .inl (fun k => zI ((go 0) k))))]) (fun _ => rfl) (fun r5 u4 H locs hp6 hP hD hS => ?_)
    obtain ⟨z7, rfl, h_z7⟩ := hp6
    have hx8 := h_z7.2
    refine rz_iastG F hK hP hD hS 1 0 rfl rfl (by omega) (by omega) dX0_linesOf_20 (w1 := fun g9 => [(b, .inr (0, [.ref (q 0), .ref (q 1), .ref (q 2), .ref (q 3), .ref (q 4), .ref (q 5), .ref (q 6)])), ((q 0), .inl (cI, 10, .inl (fun k => zI (g9 k)))), ((q 1), .inl (cI, 30, .inl (fun k => zI ((u4.2 1) k)))), ((q 2), .inl (cI, 3, .inl (fun k => zI ((u4.2 2) k)))), ((q 3), .inl (cI, 3, .inl (fun k => zI ((u4.2 3) k)))), ((q 4), .inl (cI, 3, .inl (fun k => zI ((u4.2 4) k)))), ((q 5), .inl (cI, 3, .inl (fun k => zI ((u4.2 5) k)))), ((q 6), .inl (cI, 6, .inl (fun k => zI ((u4.2 6) k)))), (o, .inr (7, [.int (zI no), .ref (qo 0)])), ((qo 0), .inl (cI, 30, .inl (fun k => zI ((go 0) k))))]) (fun _ => rfl) (fun g9 e_g9 H locs hP hD hS => ?_)
    refine lv_aload_n hx hb dX0_linesOf_21 rfl (lv_at hl 0 rfl) ?_
    refine r_get F hK hP 0 2 rfl rfl in_X0 (by decide) k_450 rfl dX0_linesOf_22 ?_
    refine lv_iconst (v := zI 0) hx hb dX0_linesOf_25 rfl ?_
    refine lv_aload_n hx hb dX0_linesOf_26 rfl (lv_at hl 0 rfl) ?_
    refine r_get F hK hP 0 1 rfl rfl in_X0 (by decide) k_449 rfl dX0_linesOf_27 ?_
    refine lv_iload_n hx hb dX0_linesOf_30 rfl (lv_at hl 2 rfl) ?_
    refine lv_iconst (v := zI 3) hx hb dX0_linesOf_31 rfl ?_
    refine r_imul (v := zI (x * 3)) F dX0_linesOf_32 (zI_mul _ _) ?_
    refine lv_iconst (v := zI 3) hx hb dX0_linesOf_33 rfl ?_
    refine rz_copy F k_1038 k_641 k_640 k_108 hK hP hD hS 3 2 0 rfl rfl rfl (by omega) hl.1 (Nat.le_of_ble_eq_true rfl) (Nat.le_of_ble_eq_true rfl) dX0_linesOf_34 (w1 := fun g10 => [(b, .inr (0, [.ref (q 0), .ref (q 1), .ref (q 2), .ref (q 3), .ref (q 4), .ref (q 5), .ref (q 6)])), ((q 0), .inl (cI, 10, .inl (fun k => zI (g9 k)))), ((q 1), .inl (cI, 30, .inl (fun k => zI (g10 k)))), ((q 2), .inl (cI, 3, .inl (fun k => zI ((u4.2 2) k)))), ((q 3), .inl (cI, 3, .inl (fun k => zI ((u4.2 3) k)))), ((q 4), .inl (cI, 3, .inl (fun k => zI ((u4.2 4) k)))), ((q 5), .inl (cI, 3, .inl (fun k => zI ((u4.2 5) k)))), ((q 6), .inl (cI, 6, .inl (fun k => zI ((u4.2 6) k)))), (o, .inr (7, [.int (zI no), .ref (qo 0)])), ((qo 0), .inl (cI, 30, .inl (fun k => zI ((go 0) k))))]) (fun _ => rfl) (fun g10 e_g10 H locs hP hD hS => ?_)
    refine lv_aload_n hx hb dX0_linesOf_37 rfl (lv_at hl 0 rfl) ?_
    refine r_get F hK hP 0 0 rfl rfl in_X0 (by decide) k_448 rfl dX0_linesOf_38 ?_
    refine lv_iload_n hx hb dX0_linesOf_41 rfl (lv_at hl 2 rfl) ?_
    refine rz_iald F hK hP 1 0 rfl rfl (by omega) (by omega) dX0_linesOf_42 ?_
    refine rz_top (fun z11 h_z11 => ?_)
    obtain ⟨i12, e_i12⟩ : ∃ i12 : Nat → Int, i12 = fun k => [].getD k 0 := ⟨_, rfl⟩
    obtain ⟨gg13, e_gg13⟩ : ∃ gg13 : Nat → Nat → Int, gg13 = fun k => [g9, g10, (u4.2 2), (u4.2 3), (u4.2 4), (u4.2 5), (u4.2 6)].getD k (fun _ => 0) := ⟨_, rfl⟩
    have hO14 : LeastOk gg13 := by rw [e_gg13]; exact ⟨h_z7.1.1, h_z7.1.2.1, h_z7.1.2.2⟩
    have hP : va_P G vwCl [(b, .inr (0, [.ref (q 0), .ref (q 1), .ref (q 2), .ref (q 3), .ref (q 4), .ref (q 5), .ref (q 6)])), ((q 0), .inl (cI, 10, .inl (fun k => zI ((gg13 0) k)))), ((q 1), .inl (cI, 30, .inl (fun k => zI ((gg13 1) k)))), ((q 2), .inl (cI, 3, .inl (fun k => zI ((gg13 2) k)))), ((q 3), .inl (cI, 3, .inl (fun k => zI ((gg13 3) k)))), ((q 4), .inl (cI, 3, .inl (fun k => zI ((gg13 4) k)))), ((q 5), .inl (cI, 3, .inl (fun k => zI ((gg13 5) k)))), ((q 6), .inl (cI, 6, .inl (fun k => zI ((gg13 6) k)))), (o, .inr (7, [.int (zI no), .ref (qo 0)])), ((qo 0), .inl (cI, 30, .inl (fun k => zI ((go 0) k))))] H := by subst e_i12 e_gg13; exact hP
    have hD : va_D A [(b, .inr (0, [.ref (q 0), .ref (q 1), .ref (q 2), .ref (q 3), .ref (q 4), .ref (q 5), .ref (q 6)])), ((q 0), .inl (cI, 10, .inl (fun k => zI ((gg13 0) k)))), ((q 1), .inl (cI, 30, .inl (fun k => zI ((gg13 1) k)))), ((q 2), .inl (cI, 3, .inl (fun k => zI ((gg13 2) k)))), ((q 3), .inl (cI, 3, .inl (fun k => zI ((gg13 3) k)))), ((q 4), .inl (cI, 3, .inl (fun k => zI ((gg13 4) k)))), ((q 5), .inl (cI, 3, .inl (fun k => zI ((gg13 5) k)))), ((q 6), .inl (cI, 6, .inl (fun k => zI ((gg13 6) k)))), (o, .inr (7, [.int (zI no), .ref (qo 0)])), ((qo 0), .inl (cI, 30, .inl (fun k => zI ((go 0) k))))] := by subst e_i12 e_gg13; exact hD
    exact ret (zI z11) (fun _ => 0, gg13) _ _ _ _ _ _ rfl ⟨z11, rfl, hO14, trivial⟩ (bw_subP (isC := [0, 1, 2, 3, 4, 5, 6, 7, 8, 9]) hP rfl) (hD.sub [0, 1, 2, 3, 4, 5, 6, 7, 8, 9] (by decide) rfl) hS (Nat.le_of_ble_eq_true rfl) (Nat.le_of_ble_eq_true rfl) dX0_linesOf_43
