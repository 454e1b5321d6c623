theorem WalkOk.zero : WalkOk (fun _ => 0) (fun _ _ => 0) := ⟨by simp, fun k hk => by simp⟩
/-- two objects' numbers as one -/
abbrev uC {α : Type} (f g : Nat → α) (k : Nat) : α := bif Nat.ble 10 k then g (k - 10) else f k
theorem dX6_copyFrom_0 : decode cX6_copyFrom 0 = .ok (.aload_n 0, 1) := bo_42 (by decide +kernel)
theorem dX6_copyFrom_1 : decode cX6_copyFrom 1 = .ok (.aload_n 1, 1) := bo_43 (by decide +kernel)
theorem dX6_copyFrom_2 : decode cX6_copyFrom 2 = .ok (.getfield 9, 3) := bo_180 0 9 (by decide +kernel)
theorem dX6_copyFrom_5 : decode cX6_copyFrom 5 = .ok (.putfield 9, 3) := bo_181 0 9 (by decide +kernel)
theorem dX6_copyFrom_8 : decode cX6_copyFrom 8 = .ok (.aload_n 0, 1) := bo_42 (by decide +kernel)
theorem dX6_copyFrom_9 : decode cX6_copyFrom 9 = .ok (.aload_n 1, 1) := bo_43 (by decide +kernel)
theorem dX6_copyFrom_10 : decode cX6_copyFrom 10 = .ok (.getfield 15, 3) := bo_180 0 15 (by decide +kernel)
theorem dX6_copyFrom_13 : decode cX6_copyFrom 13 = .ok (.putfield 15, 3) := bo_181 0 15 (by decide +kernel)
theorem dX6_copyFrom_16 : decode cX6_copyFrom 16 = .ok (.aload_n 0, 1) := bo_42 (by decide +kernel)
theorem dX6_copyFrom_17 : decode cX6_copyFrom 17 = .ok (.aload_n 1, 1) := bo_43 (by decide +kernel)
theorem dX6_copyFrom_18 : decode cX6_copyFrom 18 = .ok (.getfield 18, 3) := bo_180 0 18 (by decide +kernel)
theorem dX6_copyFrom_21 : decode cX6_copyFrom 21 = .ok (.putfield 18, 3) := bo_181 0 18 (by decide +kernel)
theorem dX6_copyFrom_24 : decode cX6_copyFrom 24 = .ok (.aload_n 0, 1) := bo_42 (by decide +kernel)
theorem dX6_copyFrom_25 : decode cX6_copyFrom 25 = .ok (.aload_n 1, 1) := bo_43 (by decide +kernel)
theorem dX6_copyFrom_26 : decode cX6_copyFrom 26 = .ok (.getfield 21, 3) := bo_180 0 21 (by decide +kernel)
theorem dX6_copyFrom_29 : decode cX6_copyFrom 29 = .ok (.putfield 21, 3) := bo_181 0 21 (by decide +kernel)
theorem dX6_copyFrom_32 : decode cX6_copyFrom 32 = .ok (.aload_n 0, 1) := bo_42 (by decide +kernel)
theorem dX6_copyFrom_33 : decode cX6_copyFrom 33 = .ok (.aload_n 1, 1) := bo_43 (by decide +kernel)
theorem dX6_copyFrom_34 : decode cX6_copyFrom 34 = .ok (.getfield 24, 3) := bo_180 0 24 (by decide +kernel)
theorem dX6_copyFrom_37 : decode cX6_copyFrom 37 = .ok (.putfield 24, 3) := bo_181 0 24 (by decide +kernel)
theorem dX6_copyFrom_40 : decode cX6_copyFrom 40 = .ok (.aload_n 0, 1) := bo_42 (by decide +kernel)
theorem dX6_copyFrom_41 : decode cX6_copyFrom 41 = .ok (.aload_n 1, 1) := bo_43 (by decide +kernel)
theorem dX6_copyFrom_42 : decode cX6_copyFrom 42 = .ok (.getfield 37, 3) := bo_180 0 37 (by decide +kernel)
theorem dX6_copyFrom_45 : decode cX6_copyFrom 45 = .ok (.putfield 37, 3) := bo_181 0 37 (by decide +kernel)
theorem dX6_copyFrom_48 : decode cX6_copyFrom 48 = .ok (.aload_n 1, 1) := bo_43 (by decide +kernel)
theorem dX6_copyFrom_49 : decode cX6_copyFrom 49 = .ok (.getfield 27, 3) := bo_180 0 27 (by decide +kernel)
theorem dX6_copyFrom_52 : decode cX6_copyFrom 52 = .ok (.iconst 0, 1) := bo_3 (by decide +kernel)
theorem dX6_copyFrom_53 : decode cX6_copyFrom 53 = .ok (.aload_n 0, 1) := bo_42 (by decide +kernel)
theorem dX6_copyFrom_54 : decode cX6_copyFrom 54 = .ok (.getfield 27, 3) := bo_180 0 27 (by decide +kernel)
theorem dX6_copyFrom_57 : decode cX6_copyFrom 57 = .ok (.iconst 0, 1) := bo_3 (by decide +kernel)
theorem dX6_copyFrom_58 : decode cX6_copyFrom 58 = .ok (.iconst 4, 1) := bo_7 (by decide +kernel)
theorem dX6_copyFrom_59 : decode cX6_copyFrom 59 = .ok (.invokestatic 65, 3) := bo_184 0 65 (by decide +kernel)
theorem k_779 : Cond.methodLink RX6 65 arraycopyName ∈ bw_T := bw_m 779 (by decide +kernel) rfl
theorem dX6_copyFrom_62 : decode cX6_copyFrom 62 = .ok (.aload_n 1, 1) := bo_43 (by decide +kernel)
theorem dX6_copyFrom_63 : decode cX6_copyFrom 63 = .ok (.getfield 31, 3) := bo_180 0 31 (by decide +kernel)
theorem dX6_copyFrom_66 : decode cX6_copyFrom 66 = .ok (.iconst 0, 1) := bo_3 (by decide +kernel)
theorem dX6_copyFrom_67 : decode cX6_copyFrom 67 = .ok (.aload_n 0, 1) := bo_42 (by decide +kernel)
theorem dX6_copyFrom_68 : decode cX6_copyFrom 68 = .ok (.getfield 31, 3) := bo_180 0 31 (by decide +kernel)
theorem dX6_copyFrom_71 : decode cX6_copyFrom 71 = .ok (.iconst 0, 1) := bo_3 (by decide +kernel)
theorem dX6_copyFrom_72 : decode cX6_copyFrom 72 = .ok (.bipush 20, 2) := bo_16 20 (by decide +kernel)
theorem dX6_copyFrom_74 : decode cX6_copyFrom 74 = .ok (.invokestatic 65, 3) := bo_184 0 65 (by decide +kernel)
theorem dX6_copyFrom_77 : decode cX6_copyFrom 77 = .ok (.aload_n 1, 1) := bo_43 (by decide +kernel)
theorem dX6_copyFrom_78 : decode cX6_copyFrom 78 = .ok (.getfield 34, 3) := bo_180 0 34 (by decide +kernel)
theorem dX6_copyFrom_81 : decode cX6_copyFrom 81 = .ok (.iconst 0, 1) := bo_3 (by decide +kernel)
theorem dX6_copyFrom_82 : decode cX6_copyFrom 82 = .ok (.aload_n 0, 1) := bo_42 (by decide +kernel)
theorem dX6_copyFrom_83 : decode cX6_copyFrom 83 = .ok (.getfield 34, 3) := bo_180 0 34 (by decide +kernel)
theorem dX6_copyFrom_86 : decode cX6_copyFrom 86 = .ok (.iconst 0, 1) := bo_3 (by decide +kernel)
theorem dX6_copyFrom_87 : decode cX6_copyFrom 87 = .ok (.bipush 20, 2) := bo_16 20 (by decide +kernel)
theorem dX6_copyFrom_89 : decode cX6_copyFrom 89 = .ok (.invokestatic 65, 3) := bo_184 0 65 (by decide +kernel)
theorem dX6_copyFrom_92 : decode cX6_copyFrom 92 = .ok (.aload_n 1, 1) := bo_43 (by decide +kernel)
theorem dX6_copyFrom_93 : decode cX6_copyFrom 93 = .ok (.getfield 41, 3) := bo_180 0 41 (by decide +kernel)
theorem dX6_copyFrom_96 : decode cX6_copyFrom 96 = .ok (.iconst 0, 1) := bo_3 (by decide +kernel)
theorem dX6_copyFrom_97 : decode cX6_copyFrom 97 = .ok (.aload_n 0, 1) := bo_42 (by decide +kernel)
theorem dX6_copyFrom_98 : decode cX6_copyFrom 98 = .ok (.getfield 41, 3) := bo_180 0 41 (by decide +kernel)
theorem dX6_copyFrom_101 : decode cX6_copyFrom 101 = .ok (.iconst 0, 1) := bo_3 (by decide +kernel)
theorem dX6_copyFrom_102 : decode cX6_copyFrom 102 = .ok (.bipush 100, 2) := bo_16 100 (by decide +kernel)
theorem dX6_copyFrom_104 : decode cX6_copyFrom 104 = .ok (.invokestatic 65, 3) := bo_184 0 65 (by decide +kernel)
theorem dX6_copyFrom_107 : decode cX6_copyFrom 107 = .ok (.return_, 1) := bo_177 (by decide +kernel)
theorem dX6_burntWays_0 : decode cX6_burntWays 0 = .ok (.iconst 0, 1) := bo_3 (by decide +kernel)
theorem dX6_burntWays_1 : decode cX6_burntWays 1 = .ok (.istore_n 2, 1) := bo_61 (by decide +kernel)
theorem dX6_burntWays_2 : decode cX6_burntWays 2 = .ok (.iconst 0, 1) := bo_3 (by decide +kernel)
theorem dX6_burntWays_3 : decode cX6_burntWays 3 = .ok (.istore_n 3, 1) := bo_62 (by decide +kernel)
theorem dX6_burntWays_4 : decode cX6_burntWays 4 = .ok (.iload_n 3, 1) := bo_29 (by decide +kernel)
theorem dX6_burntWays_5 : decode cX6_burntWays 5 = .ok (.bipush 20, 2) := bo_16 20 (by decide +kernel)
theorem dX6_burntWays_7 : decode cX6_burntWays 7 = .ok (.if_icmp .ge 38, 3) := bo_162 0 38 (by decide +kernel)
theorem dX6_burntWays_45 : decode cX6_burntWays 45 = .ok (.iload_n 2, 1) := bo_28 (by decide +kernel)
theorem dX6_burntWays_46 : decode cX6_burntWays 46 = .ok (.ireturn, 1) := bo_172 (by decide +kernel)
theorem dX6_burntWays_10 : decode cX6_burntWays 10 = .ok (.aload_n 1, 1) := bo_43 (by decide +kernel)
theorem dX6_burntWays_11 : decode cX6_burntWays 11 = .ok (.iload_n 3, 1) := bo_29 (by decide +kernel)
theorem dX6_burntWays_12 : decode cX6_burntWays 12 = .ok (.invokevirtual 103, 3) := bo_182 0 103 (by decide +kernel)
theorem k_738 : Cond.methodLink RX6 103 yX2_hasWay ∈ bw_T := bw_m 738 (by decide +kernel) rfl
theorem dX6_burntWays_15 : decode cX6_burntWays 15 = .ok (.ifCond .eq 24, 3) := bo_153 0 24 (by decide +kernel)
theorem dX6_burntWays_39 : decode cX6_burntWays 39 = .ok (.iinc 3 1, 3) := bo_132 3 1 (by decide +kernel)
theorem dX6_burntWays_42 : decode cX6_burntWays 42 = .ok (.goto (-38), 3) := bo_167 255 218 (by decide +kernel)
theorem dX6_burntWays_18 : decode cX6_burntWays 18 = .ok (.aload_n 0, 1) := bo_42 (by decide +kernel)
theorem dX6_burntWays_19 : decode cX6_burntWays 19 = .ok (.getfield 31, 3) := bo_180 0 31 (by decide +kernel)
theorem dX6_burntWays_22 : decode cX6_burntWays 22 = .ok (.iload_n 3, 1) := bo_29 (by decide +kernel)
theorem dX6_burntWays_23 : decode cX6_burntWays 23 = .ok (.iaload, 1) := bo_46 (by decide +kernel)
theorem dX6_burntWays_24 : decode cX6_burntWays 24 = .ok (.aload_n 1, 1) := bo_43 (by decide +kernel)
theorem dX6_burntWays_25 : decode cX6_burntWays 25 = .ok (.getfield 97, 3) := bo_180 0 97 (by decide +kernel)
theorem dX6_burntWays_28 : decode cX6_burntWays 28 = .ok (.iload_n 3, 1) := bo_29 (by decide +kernel)
theorem dX6_burntWays_29 : decode cX6_burntWays 29 = .ok (.iaload, 1) := bo_46 (by decide +kernel)
theorem dX6_burntWays_30 : decode cX6_burntWays 30 = .ok (.if_icmp .lt 9, 3) := bo_161 0 9 (by decide +kernel)
theorem dX6_burntWays_33 : decode cX6_burntWays 33 = .ok (.iload_n 2, 1) := bo_28 (by decide +kernel)
theorem dX6_burntWays_34 : decode cX6_burntWays 34 = .ok (.iconst 1, 1) := bo_4 (by decide +kernel)
theorem dX6_burntWays_35 : decode cX6_burntWays 35 = .ok (.iload_n 3, 1) := bo_29 (by decide +kernel)
theorem dX6_burntWays_36 : decode cX6_burntWays 36 = .ok (.ishl, 1) := bo_120 (by decide +kernel)
theorem dX6_burntWays_37 : decode cX6_burntWays 37 = .ok (.ior, 1) := bo_128 (by decide +kernel)
theorem dX6_burntWays_38 : decode cX6_burntWays 38 = .ok (.istore_n 2, 1) := bo_61 (by decide +kernel)
abbrev rm_X6_burntWays : Room := { frames := 1, cells := 0, slots := 0, locals := 21 }
set_option maxRecDepth 100000 in
set_option maxHeartbeats 8000000 in
theorem c_X6_burntWays {l : Launch} {E : (Nat → Prop) → State → Prop} (hO : bw_Ok E) {G : va_G} {cI cB cJ cN cW : ClassId} (b : Nat) (q : Nat → Nat) (i : Nat → Int) (g : Nat → Nat → Int) (hW : WalkOk i g) (o : Nat) (qo : Nat → Nat) (no : Int) (go : Nat → Nat → Int) (hM : NetOk no go) : bw_Ci (S := zU) l yX6_burntWays (bw_ws (Cond.code yX6_burntWays cX6_burntWays 4 (some .int))) rm_X6_burntWays E G (bw_kt cI cB cJ cN cW) [.ref b, .ref o] [(b, .inr (6, [.int (zI (i 0)), .int (zI (i 1)), .int (zI (i 2)), .int (zI (i 3)), .int (zI (i 4)), .ref (q 0), .ref (q 1), .ref (q 2), .long (zL (i 5)), .ref (q 3)])), ((q 0), .inl (cI, 4, .inl (fun k => zI ((g 0) k)))), ((q 1), .inl (cI, 20, .inl (fun k => zI ((g 1) k)))), ((q 2), .inl (cI, 20, .inl (fun k => zI ((g 2) k)))), ((q 3), .inl (cI, 100, .inl (fun k => zI ((g 3) k)))), (o, .inr (2, [.int (zI no), .ref (qo 0), .ref (qo 1), .ref (qo 2), .ref (qo 3), .ref (qo 4), .ref (qo 5), .ref (qo 6), .ref (qo 7)])), ((qo 0), .inl (cI, 10, .inl (fun k => zI ((go 0) k)))), ((qo 1), .inl (cI, 10, .inl (fun k => zI ((go 1) k)))), ((qo 2), .inl (cI, 10, .inl (fun k => zI ((go 2) k)))), ((qo 3), .inl (cI, 40, .inl (fun k => zI ((go 3) k)))), ((qo 4), .inl (cI, 40, .inl (fun k => zI ((go 4) k)))), ((qo 5), .inl (cI, 40, .inl (fun k => zI ((go 5) k)))), ((qo 6), .inl (cI, 20, .inl (fun k => zI ((go 6) k)))), ((qo 7), .inl (cI, 20, .inl (fun k => zI ((go 7) k))))] (fun r _ => ∃ z : Int, r = zI z ∧ zR z) (fun _ => [(b, .inr (6, [.int (zI (i 0)), .int (zI (i 1)), .int (zI (i 2)), .int (zI (i 3)), .int (zI (i 4)), .ref (q 0), .ref (q 1), .ref (q 2), .long (zL (i 5)), .ref (q 3)])), ((q 0), .inl (cI, 4, .inl (fun k => zI ((g 0) k)))), ((q 1), .inl (cI, 20, .inl (fun k => zI ((g 1) k)))), ((q 2), .inl (cI, 20, .inl (fun k => zI ((g 2) k)))), ((q 3), .inl (cI, 100, .inl (fun k => zI ((g 3) k)))), (o, .inr (2, [.int (zI no), .ref (qo 0), .ref (qo 1), .ref (qo 2), .ref (qo 3), .ref (qo 4), .ref (qo 5), .ref (qo 6), .ref (qo 7)])), ((qo 0), .inl (cI, 10, .inl (fun k => zI ((go 0) k)))), ((qo 1), .inl (cI, 10, .inl (fun k => zI ((go 1) k)))), ((qo 2), .inl (cI, 10, .inl (fun k => zI ((go 2) k)))), ((qo 3), .inl (cI, 40, .inl (fun k => zI ((go 3) k)))), ((qo 4), .inl (cI, 40, .inl (fun k => zI ((go 4) k)))), ((qo 5), .inl (cI, 40, .inl (fun k => zI ((go 5) k)))), ((qo 6), .inl (cI, 20, .inl (fun k => zI ((go 6) k)))), ((qo 7), .inl (cI, 20, .inl (fun k => zI ((go 7) k))))]) := by
  refine bw_Ci.of (cc := cX6_burntWays) (maxL := 4) (ty := .int) (by decide) rfl (Nat.le_of_ble_eq_true rfl) ?_
  intro p e s m below meth c A Q hx hb hml hts hown hin hK hA hS hP hD hE ret ls hl
  have F : CallFix p m c cX6_burntWays 4 s ([.ref b, .ref o] : List Value).toArray bw_T RX6 := ⟨hx, hb, hml, hown, fun w h => hts w (List.mem_cons_of_mem _ h)⟩
  replace hl : lv_has ls 4 [(0, .ref b), (1, .ref o)] := hl
  have hW1 := hW.1
  have hM0 := hM.1
  refine lv_iconst (v := zI 0) hx hb dX6_burntWays_0 rfl ?_
  refine lv_istore_n (lv' := [(2, .int (zI 0)), (0, .ref b), (1, .ref o)]) hx hb dX6_burntWays_1 rfl hl (by decide) rfl (fun ls hl => ?_)
  refine lv_iconst (v := zI 0) hx hb dX6_burntWays_2 rfl ?_
  refine lv_istore_n (lv' := [(3, .int (zI 0)), (2, .int (zI 0)), (0, .ref b), (1, .ref o)]) hx hb dX6_burntWays_3 rfl hl (by decide) rfl (fun ls hl => ?_)
  refine W.widen (k := 0) (n := 0) (Nat.le_of_ble_eq_true rfl) (Nat.le_of_ble_eq_true rfl) ?_
  refine (?_ : ∀ (n9_1 : Nat) (v2 : Int) (v3 : Int) (H : Heap) (locs : List Loc), (0 ≤ v3 ∧ v3 ≤ 20) → (20 - v3 : Int).toNat < n9_1 → va_P G vwCl [(b, .inr (6, [.int (zI (i 0)), .int (zI (i 1)), .int (zI (i 2)), .int (zI (i 3)), .int (zI (i 4)), .ref (q 0), .ref (q 1), .ref (q 2), .long (zL (i 5)), .ref (q 3)])), ((q 0), .inl (cI, 4, .inl (fun k => zI ((g 0) k)))), ((q 1), .inl (cI, 20, .inl (fun k => zI ((g 1) k)))), ((q 2), .inl (cI, 20, .inl (fun k => zI ((g 2) k)))), ((q 3), .inl (cI, 100, .inl (fun k => zI ((g 3) k)))), (o, .inr (2, [.int (zI no), .ref (qo 0), .ref (qo 1), .ref (qo 2), .ref (qo 3), .ref (qo 4), .ref (qo 5), .ref (qo 6), .ref (qo 7)])), ((qo 0), .inl (cI, 10, .inl (fun k => zI ((go 0) k)))), ((qo 1), .inl (cI, 10, .inl (fun k => zI ((go 1) k)))), ((qo 2), .inl (cI, 10, .inl (fun k => zI ((go 2) k)))), ((qo 3), .inl (cI, 40, .inl (fun k => zI ((go 3) k)))), ((qo 4), .inl (cI, 40, .inl (fun k => zI ((go 4) k)))), ((qo 5), .inl (cI, 40, .inl (fun k => zI ((go 5) k)))), ((qo 6), .inl (cI, 20, .inl (fun k => zI ((go 6) k)))), ((qo 7), .inl (cI, 20, .inl (fun k => zI ((go 7) k))))] H → va_D A [(b, .inr (6, [.int (zI (i 0)), .int (zI (i 1)), .int (zI (i 2)), .int (zI (i 3)), .int (zI (i 4)), .ref (q 0), .ref (q 1), .ref (q 2), .long (zL (i 5)), .ref (q 3)])), ((q 0), .inl (cI, 4, .inl (fun k => zI ((g 0) k)))), ((q 1), .inl (cI, 20, .inl (fun k => zI ((g 1) k)))), ((q 2), .inl (cI, 20, .inl (fun k => zI ((g 2) k)))), ((q 3), .inl (cI, 100, .inl (fun k => zI ((g 3) k)))), (o, .inr (2, [.int (zI no), .ref (qo 0), .ref (qo 1), .ref (qo 2), .ref (qo 3), .ref (qo 4), .ref (qo 5), .ref (qo 6), .ref (qo 7)])), ((qo 0), .inl (cI, 10, .inl (fun k => zI ((go 0) k)))), ((qo 1), .inl (cI, 10, .inl (fun k => zI ((go 1) k)))), ((qo 2), .inl (cI, 10, .inl (fun k => zI ((go 2) k)))), ((qo 3), .inl (cI, 40, .inl (fun k => zI ((go 3) k)))), ((qo 4), .inl (cI, 40, .inl (fun k => zI ((go 4) k)))), ((qo 5), .inl (cI, 40, .inl (fun k => zI ((go 5) k)))), ((qo 6), .inl (cI, 20, .inl (fun k => zI ((go 6) k)))), ((qo 7), .inl (cI, 20, .inl (fun k => zI ((go 7) k))))] → va_S A s.heap H locs → ∀ ls : Array Slot, lv_has ls 4 [(3, .int (zI v3)), (2, .int (zI v2)), (0, .ref b), (1, .ref o)] → W p l e rm_X6_burntWays s m ([.ref b, .ref o] : List Value).toArray below meth c H locs 0 0 Q (F0 m 4 ls [])) ((20 - 0 : Int).toNat + 1) 0 0 _ _ (by omega) (by omega) hP hD hS ls hl
  clear hP hD hS hl ls
  intro n9_1
  induction n9_1 with
  | zero =>
    intro v2 v3 H locs hI hM
    exact absurd hM (by omega)
  | succ n9_1 ih1 =>
    intro v2 v3 H locs hI1 hM1  hP hD hS ls hl
    refine lv_iload_n hx hb dX6_burntWays_4 rfl (lv_at hl 0 rfl) ?_
    refine lv_bipush (v := zI 20) hx hb dX6_burntWays_5 (by decide) ?_
    refine rz_icmp_ge (tgt := 45) F (by omega) (by omega) dX6_burntWays_7 (by decide) (fun h7_0 => ?_) (fun h7_0 => ?_)
    · refine lv_iload_n hx hb dX6_burntWays_45 rfl (lv_at hl 1 rfl) ?_
      exact ret (zI v2) (fun _ => 0, fun _ _ => 0) _ _ _ _ _ _ rfl (zI_any v2) (bw_subP (isC := [0, 1, 2, 3, 4, 5, 6, 7, 8, 9, 10, 11, 12, 13]) hP rfl) (hD.sub [0, 1, 2, 3, 4, 5, 6, 7, 8, 9, 10, 11, 12, 13] (by decide) rfl) hS (Nat.le_of_ble_eq_true rfl) (Nat.le_of_ble_eq_true rfl) dX6_burntWays_46
    · refine lv_aload_n hx hb dX6_burntWays_10 rfl (lv_at hl 3 rfl) ?_
      refine lv_iload_n hx hb dX6_burntWays_11 rfl (lv_at hl 0 rfl) ?_
      refine r_callVi (As := [.int (zI v3)]) (rest := []) (wr := [(b, .inr (6, [.int (zI (i 0)), .int (zI (i 1)), .int (zI (i 2)), .int (zI (i 3)), .int (zI (i 4)), .ref (q 0), .ref (q 1), .ref (q 2), .long (zL (i 5)), .ref (q 3)])), ((q 0), .inl (cI, 4, .inl (fun k => zI ((g 0) k)))), ((q 1), .inl (cI, 20, .inl (fun k => zI ((g 1) k)))), ((q 2), .inl (cI, 20, .inl (fun k => zI ((g 2) k)))), ((q 3), .inl (cI, 100, .inl (fun k => zI ((g 3) k))))]) F hK hP hD hS hA hO hE (c_X2_hasWay hO o qo no go hM v3 (by omega)) k_738 kv_X2_hasWay 1 rfl (by decide +kernel) ⟨Nat.le_of_ble_eq_true rfl, Nat.le_of_ble_eq_true rfl⟩ [5, 6, 7, 8, 9, 10, 11, 12, 13] [0, 1, 2, 3, 4] rfl rfl (by decide) (by decide) (by decide) 0 2 rfl rfl rfl hl.1 rfl (Nat.le_of_ble_eq_true rfl) dX6_burntWays_12 ⟨Nat.le_of_ble_eq_true rfl, Nat.le_of_ble_eq_true rfl⟩ (w1 := fun u2 => [(b, .inr (6, [.int (zI (i 0)), .int (zI (i 1)), .int (zI (i 2)), .int (zI (i 3)), .int (zI (i 4)), .ref (q 0), .ref (q 1), .ref (q 2), .long (zL (i 5)), .ref (q 3)])), ((q 0), .inl (cI, 4, .inl (fun k => zI ((g 0) k)))), ((q 1), .inl (cI, 20, .inl (fun k => zI ((g 1) k)))), ((q 2), .inl (cI, 20, .inl (fun k => zI ((g 2) k)))), ((q 3), .inl (cI, 100, .inl (fun k => zI ((g 3) k)))), (o, .inr (2, [.int (zI no), .ref (qo 0), .ref (qo 1), .ref (qo 2), .ref (qo 3), .ref (qo 4), .ref (qo 5), .ref (qo 6), .ref (qo 7)])), ((qo 0), .inl (cI, 10, .inl (fun k => zI ((go 0) k)))), ((qo 1), .inl (cI, 10, .inl (fun k => zI ((go 1) k)))), ((qo 2), .inl (cI, 10, .inl (fun k => zI ((go 2) k)))), ((qo 3), .inl (cI, 40, .inl (fun k => zI ((go 3) k)))), ((qo 4), .inl (cI, 40, .inl (fun k => zI ((go 4) k)))), ((qo 5), .inl (cI, 40, .inl (fun k => zI ((go 5) k)))), ((qo 6), .inl (cI, 20, .inl (fun k => zI ((go 6) k)))), ((qo 7), .inl (cI, 20, .inl (fun k => zI ((go 7) k))))]) (fun _ => rfl) (fun r3 u2 H locs hp4 hP hD hS => ?_)
      obtain ⟨z5, rfl, h_z5⟩ := hp4
      refine rz_if_eq (tgt := 39) F (by omega) dX6_burntWays_15 (by decide) (fun h15_5 => ?_) (fun h15_5 => ?_)
      · refine lv_iinc (v := zI (v3 + 1)) (lv' := [(3, .int (zI (v3 + 1))), (2, .int (zI v2)), (0, .ref b), (1, .ref o)]) hx hb dX6_burntWays_39 hl (k := 0) rfl (zI_add _ _) (by decide) rfl (fun ls hl => ?_)
        refine lv_goto (tgt := 4) hx hb dX6_burntWays_42 (by decide) ?_
        exact ih1 v2 (v3 + 1) _ _ (by omega) (by omega) hP hD hS ls (lv_sub hl [0, 1, 2, 3] rfl)
      · refine lv_aload_n hx hb dX6_burntWays_18 rfl (lv_at hl 2 rfl) ?_
        refine r_get F hK hP 0 6 rfl rfl in_X6 (by decide) k_334 rfl dX6_burntWays_19 ?_
        refine lv_iload_n hx hb dX6_burntWays_22 rfl (lv_at hl 0 rfl) ?_
        refine rz_iald F hK hP 2 0 rfl rfl (by omega) (by omega) dX6_burntWays_23 ?_
        have h_l23_6 := hW.2 (v3).toNat (by omega)
        refine lv_aload_n hx hb dX6_burntWays_24 rfl (lv_at hl 3 rfl) ?_
        refine r_get F hK hP 5 8 rfl rfl in_X2 (by decide) k_171 rfl dX6_burntWays_25 ?_
        refine lv_iload_n hx hb dX6_burntWays_28 rfl (lv_at hl 0 rfl) ?_
        refine rz_iald F hK hP 13 0 rfl rfl (by omega) (by omega) dX6_burntWays_29 ?_
        have h_l29_7 := hM.2.2.2.2.2.2.2.2 (v3).toNat (by omega)
        refine rz_icmp_lt (tgt := 39) F (by omega) (by omega) dX6_burntWays_30 (by decide) (fun h30_8 => ?_) (fun h30_8 => ?_)
        · refine lv_iinc (v := zI (v3 + 1)) (lv' := [(3, .int (zI (v3 + 1))), (2, .int (zI v2)), (0, .ref b), (1, .ref o)]) hx hb dX6_burntWays_39 hl (k := 0) rfl (zI_add _ _) (by decide) rfl (fun ls hl => ?_)
          refine lv_goto (tgt := 4) hx hb dX6_burntWays_42 (by decide) ?_
          exact ih1 v2 (v3 + 1) _ _ (by omega) (by omega) hP hD hS ls (lv_sub hl [0, 1, 2, 3] rfl)
        · refine lv_iload_n hx hb dX6_burntWays_33 rfl (lv_at hl 1 rfl) ?_
          refine lv_iconst (v := zI 1) hx hb dX6_burntWays_34 rfl ?_
          refine lv_iload_n hx hb dX6_burntWays_35 rfl (lv_at hl 0 rfl) ?_
          refine lv_ishl hx hb dX6_burntWays_36 ?_
          refine rz_top (fun z10 h_z10 => ?_)
          refine lv_ior hx hb dX6_burntWays_37 ?_
          refine rz_top (fun z11 h_z11 => ?_)
          refine lv_istore_n (lv' := [(2, .int (zI z11)), (3, .int (zI v3)), (0, .ref b), (1, .ref o)]) hx hb dX6_burntWays_38 rfl hl (by decide) rfl (fun ls hl => ?_)
          refine lv_iinc (v := zI (v3 + 1)) (lv' := [(3, .int (zI (v3 + 1))), (2, .int (zI z11)), (0, .ref b), (1, .ref o)]) hx hb dX6_burntWays_39 hl (k := 1) rfl (zI_add _ _) (by decide) rfl (fun ls hl => ?_)
          refine lv_goto (tgt := 4) hx hb dX6_burntWays_42 (by decide) ?_
          exact ih1 z11 (v3 + 1) _ _ (by omega) (by omega) hP hD hS ls (lv_sub hl [0, 1, 2, 3] rfl)
theorem dX6_ending_0 : decode cX6_ending 0 = .ok (.aload_n 0, 1) := bo_42 (by decide +kernel)
theorem dX6_ending_1 : decode cX6_ending 1 = .ok (.getfield 18, 3) := bo_180 0 18 (by decide +kernel)
theorem dX6_ending_4 : decode cX6_ending 4 = .ok (.istore_n 1, 1) := bo_60 (by decide +kernel)
theorem dX6_ending_5 : decode cX6_ending 5 = .ok (.iconst 0, 1) := bo_3 (by decide +kernel)
theorem dX6_ending_6 : decode cX6_ending 6 = .ok (.istore_n 2, 1) := bo_61 (by decide +kernel)
theorem dX6_ending_7 : decode cX6_ending 7 = .ok (.iload_n 2, 1) := bo_28 (by decide +kernel)
theorem dX6_ending_8 : decode cX6_ending 8 = .ok (.iconst 4, 1) := bo_7 (by decide +kernel)
theorem dX6_ending_9 : decode cX6_ending 9 = .ok (.if_icmp .ge 21, 3) := bo_162 0 21 (by decide +kernel)
theorem dX6_ending_30 : decode cX6_ending 30 = .ok (.iload_n 1, 1) := bo_27 (by decide +kernel)
theorem dX6_ending_31 : decode cX6_ending 31 = .ok (.ireturn, 1) := bo_172 (by decide +kernel)
theorem dX6_ending_12 : decode cX6_ending 12 = .ok (.iload_n 1, 1) := bo_27 (by decide +kernel)
theorem dX6_ending_13 : decode cX6_ending 13 = .ok (.bipush 100, 2) := bo_16 100 (by decide +kernel)
theorem dX6_ending_15 : decode cX6_ending 15 = .ok (.imul, 1) := bo_104 (by decide +kernel)
theorem dX6_ending_16 : decode cX6_ending 16 = .ok (.aload_n 0, 1) := bo_42 (by decide +kernel)
theorem dX6_ending_17 : decode cX6_ending 17 = .ok (.getfield 27, 3) := bo_180 0 27 (by decide +kernel)
theorem dX6_ending_20 : decode cX6_ending 20 = .ok (.iload_n 2, 1) := bo_28 (by decide +kernel)
theorem dX6_ending_21 : decode cX6_ending 21 = .ok (.iaload, 1) := bo_46 (by decide +kernel)
theorem dX6_ending_22 : decode cX6_ending 22 = .ok (.iadd, 1) := bo_96 (by decide +kernel)
theorem dX6_ending_23 : decode cX6_ending 23 = .ok (.istore_n 1, 1) := bo_60 (by decide +kernel)
theorem dX6_ending_24 : decode cX6_ending 24 = .ok (.iinc 2 1, 3) := bo_132 2 1 (by decide +kernel)
theorem dX6_ending_27 : decode cX6_ending 27 = .ok (.goto (-20), 3) := bo_167 255 236 (by decide +kernel)
abbrev rm_X6_ending : Room := { frames := 0, cells := 0, slots := 0, locals := 0 }
set_option maxRecDepth 100000 in
set_option maxHeartbeats 8000000 in
theorem c_X6_ending {l : Launch} {E : (Nat → Prop) → State → Prop} (hO : bw_Ok E) {G : va_G} {cI cB cJ cN cW : ClassId} (b : Nat) (q : Nat → Nat) (i : Nat → Int) (g : Nat → Nat → Int) (hW : WalkOk i g) : bw_Ci (S := zU) l yX6_ending (bw_ws (Cond.code yX6_ending cX6_ending 3 (some .int))) rm_X6_ending E G (bw_kt cI cB cJ cN cW) [.ref b] [(b, .inr (6, [.int (zI (i 0)), .int (zI (i 1)), .int (zI (i 2)), .int (zI (i 3)), .int (zI (i 4)), .ref (q 0), .ref (q 1), .ref (q 2), .long (zL (i 5)), .ref (q 3)])), ((q 0), .inl (cI, 4, .inl (fun k => zI ((g 0) k)))), ((q 1), .inl (cI, 20, .inl (fun k => zI ((g 1) k)))), ((q 2), .inl (cI, 20, .inl (fun k => zI ((g 2) k)))), ((q 3), .inl (cI, 100, .inl (fun k => zI ((g 3) k))))] (fun r _ => ∃ z : Int, r = zI z ∧ zR z) (fun _ => [(b, .inr (6, [.int (zI (i 0)), .int (zI (i 1)), .int (zI (i 2)), .int (zI (i 3)), .int (zI (i 4)), .ref (q 0), .ref (q 1), .ref (q 2), .long (zL (i 5)), .ref (q 3)])), ((q 0), .inl (cI, 4, .inl (fun k => zI ((g 0) k)))), ((q 1), .inl (cI, 20, .inl (fun k => zI ((g 1) k)))), ((q 2), .inl (cI, 20, .inl (fun k => zI ((g 2) k)))), ((q 3), .inl (cI, 100, .inl (fun k => zI ((g 3) k))))]) := by
  refine bw_Ci.of (cc := cX6_ending) (maxL := 3) (ty := .int) (by decide) rfl (Nat.le_of_ble_eq_true rfl) ?_
  intro p e s m below meth c A Q hx hb hml hts hown hin hK hA hS hP hD hE ret ls hl
  have F : CallFix p m c cX6_ending 3 s ([.ref b] : List Value).toArray bw_T RX6 := ⟨hx, hb, hml, hown, fun w h => hts w (List.mem_cons_of_mem _ h)⟩
  replace hl : lv_has ls 3 [(0, .ref b)] := hl
  have hW1 := hW.1
  refine lv_aload_n hx hb dX6_ending_0 rfl (lv_at hl 0 rfl) ?_
  refine r_get F hK hP 0 2 rfl rfl in_X6 (by decide) k_325 rfl dX6_ending_1 ?_
  refine lv_istore_n (lv' := [(1, .int (zI (i 2))), (0, .ref b)]) hx hb dX6_ending_4 rfl hl (by decide) rfl (fun ls hl => ?_)
  refine lv_iconst (v := zI 0) hx hb dX6_ending_5 rfl ?_
  refine lv_istore_n (lv' := [(2, .int (zI 0)), (1, .int (zI (i 2))), (0, .ref b)]) hx hb dX6_ending_6 rfl hl (by decide) rfl (fun ls hl => ?_)
  refine W.widen (k := 0) (n := 0) (Nat.le_of_ble_eq_true rfl) (Nat.le_of_ble_eq_true rfl) ?_
  refine (?_ : ∀ (n9_1 : Nat) (v1 : Int) (v2 : Int) (H : Heap) (locs : List Loc), (0 ≤ v2 ∧ v2 ≤ 4) → (4 - v2 : Int).toNat < n9_1 → va_P G vwCl [(b, .inr (6, [.int (zI (i 0)), .int (zI (i 1)), .int (zI (i 2)), .int (zI (i 3)), .int (zI (i 4)), .ref (q 0), .ref (q 1), .ref (q 2), .long (zL (i 5)), .ref (q 3)])), ((q 0), .inl (cI, 4, .inl (fun k => zI ((g 0) k)))), ((q 1), .inl (cI, 20, .inl (fun k => zI ((g 1) k)))), ((q 2), .inl (cI, 20, .inl (fun k => zI ((g 2) k)))), ((q 3), .inl (cI, 100, .inl (fun k => zI ((g 3) k))))] H → va_D A [(b, .inr (6, [.int (zI (i 0)), .int (zI (i 1)), .int (zI (i 2)), .int (zI (i 3)), .int (zI (i 4)), .ref (q 0), .ref (q 1), .ref (q 2), .long (zL (i 5)), .ref (q 3)])), ((q 0), .inl (cI, 4, .inl (fun k => zI ((g 0) k)))), ((q 1), .inl (cI, 20, .inl (fun k => zI ((g 1) k)))), ((q 2), .inl (cI, 20, .inl (fun k => zI ((g 2) k)))), ((q 3), .inl (cI, 100, .inl (fun k => zI ((g 3) k))))] → va_S A s.heap H locs → ∀ ls : Array Slot, lv_has ls 3 [(2, .int (zI v2)), (1, .int (zI v1)), (0, .ref b)] → W p l e rm_X6_ending s m ([.ref b] : List Value).toArray below meth c H locs 0 0 Q (F0 m 7 ls [])) ((4 - 0 : Int).toNat + 1) (i 2) 0 _ _ (by omega) (by omega) hP hD hS ls hl
  clear hP hD hS hl ls
  intro n9_1
  induction n9_1 with
  | zero =>
    intro v1 v2 H locs hI hM
    exact absurd hM (by omega)
  | succ n9_1 ih1 =>
    intro v1 v2 H locs hI1 hM1  hP hD hS ls hl
    refine lv_iload_n hx hb dX6_ending_7 rfl (lv_at hl 0 rfl) ?_
    refine lv_iconst (v := zI 4) hx hb dX6_ending_8 rfl ?_
    refine rz_icmp_ge (tgt := 30) F (by omega) (by omega) dX6_ending_9 (by decide) (fun h9_0 => ?_) (fun h9_0 => ?_)
    · refine lv_iload_n hx hb dX6_ending_30 rfl (lv_at hl 1 rfl) ?_
      exact ret (zI v1) (fun _ => 0, fun _ _ => 0) _ _ _ _ _ _ rfl (zI_any v1) (bw_subP (isC := [0, 1, 2, 3, 4]) hP rfl) (hD.sub [0, 1, 2, 3, 4] (by decide) rfl) hS (Nat.le_of_ble_eq_true rfl) (Nat.le_of_ble_eq_true rfl) dX6_ending_31
    · refine lv_iload_n hx hb dX6_ending_12 rfl (lv_at hl 1 rfl) ?_
      refine lv_bipush (v := zI 100) hx hb dX6_ending_13 (by decide) ?_
      refine r_imul (v := zI (v1 * 100)) F dX6_ending_15 (zI_mul _ _) ?_
      refine lv_aload_n hx hb dX6_ending_16 rfl (lv_at hl 2 rfl) ?_
      refine r_get F hK hP 0 5 rfl rfl in_X6 (by decide) k_332 rfl dX6_ending_17 ?_
      refine lv_iload_n hx hb dX6_ending_20 rfl (lv_at hl 0 rfl) ?_
      refine rz_iald F hK hP 1 0 rfl rfl (by omega) (by omega) dX6_ending_21 ?_
      refine rz_top (fun z2 h_z2 => ?_)
      refine r_iadd (v := zI ((v1 * 100) + z2)) F dX6_ending_22 (zI_add _ _) ?_
      refine lv_istore_n (lv' := [(1, .int (zI ((v1 * 100) + z2))), (2, .int (zI v2)), (0, .ref b)]) hx hb dX6_ending_23 rfl hl (by decide) rfl (fun ls hl => ?_)
      refine lv_iinc (v := zI (v2 + 1)) (lv' := [(2, .int (zI (v2 + 1))), (1, .int (zI ((v1 * 100) + z2))), (0, .ref b)]) hx hb dX6_ending_24 hl (k := 1) rfl (zI_add _ _) (by decide) rfl (fun ls hl => ?_)
      refine lv_goto (tgt := 7) hx hb dX6_ending_27 (by decide) ?_
      exact ih1 ((v1 * 100) + z2) (v2 + 1) _ _ (by omega) (by omega) hP hD hS ls (lv_sub hl [0, 1, 2] rfl)
theorem dX6_partsFrom_0 : decode cX6_partsFrom 0 = .ok (.iconst 0, 1) := bo_3 (by decide +kernel)
theorem dX6_partsFrom_1 : decode cX6_partsFrom 1 = .ok (.istore_n 3, 1) := bo_62 (by decide +kernel)
theorem dX6_partsFrom_2 : decode cX6_partsFrom 2 = .ok (.iload_n 3, 1) := bo_29 (by decide +kernel)
theorem dX6_partsFrom_3 : decode cX6_partsFrom 3 = .ok (.sipush 1000, 3) := bo_17 3 232 (by decide +kernel)
theorem dX6_partsFrom_6 : decode cX6_partsFrom 6 = .ok (.if_icmp .ge 53, 3) := bo_162 0 53 (by decide +kernel)
theorem dX6_partsFrom_59 : decode cX6_partsFrom 59 = .ok (.bipush (-2), 2) := bo_16 254 (by decide +kernel)
theorem dX6_partsFrom_61 : decode cX6_partsFrom 61 = .ok (.ireturn, 1) := bo_172 (by decide +kernel)
theorem dX6_partsFrom_9 : decode cX6_partsFrom 9 = .ok (.aload_n 0, 1) := bo_42 (by decide +kernel)
theorem dX6_partsFrom_10 : decode cX6_partsFrom 10 = .ok (.getfield 18, 3) := bo_180 0 18 (by decide +kernel)
theorem dX6_partsFrom_13 : decode cX6_partsFrom 13 = .ok (.ifCond .ne 46, 3) := bo_154 0 46 (by decide +kernel)
theorem dX6_partsFrom_16 : decode cX6_partsFrom 16 = .ok (.aload_n 0, 1) := bo_42 (by decide +kernel)
theorem dX6_partsFrom_17 : decode cX6_partsFrom 17 = .ok (.aload_n 2, 1) := bo_44 (by decide +kernel)
theorem dX6_partsFrom_18 : decode cX6_partsFrom 18 = .ok (.invokevirtual 71, 3) := bo_182 0 71 (by decide +kernel)
theorem dX6_partsFrom_21 : decode cX6_partsFrom 21 = .ok (.aload_n 1, 1) := bo_43 (by decide +kernel)
theorem dX6_partsFrom_22 : decode cX6_partsFrom 22 = .ok (.aload_n 2, 1) := bo_44 (by decide +kernel)
theorem dX6_partsFrom_23 : decode cX6_partsFrom 23 = .ok (.invokevirtual 71, 3) := bo_182 0 71 (by decide +kernel)
theorem dX6_partsFrom_26 : decode cX6_partsFrom 26 = .ok (.aload_n 0, 1) := bo_42 (by decide +kernel)
theorem dX6_partsFrom_27 : decode cX6_partsFrom 27 = .ok (.getfield 9, 3) := bo_180 0 9 (by decide +kernel)
theorem dX6_partsFrom_30 : decode cX6_partsFrom 30 = .ok (.aload_n 1, 1) := bo_43 (by decide +kernel)
theorem dX6_partsFrom_31 : decode cX6_partsFrom 31 = .ok (.getfield 9, 3) := bo_180 0 9 (by decide +kernel)
theorem dX6_partsFrom_34 : decode cX6_partsFrom 34 = .ok (.if_icmp .ne 14, 3) := bo_160 0 14 (by decide +kernel)
theorem dX6_partsFrom_48 : decode cX6_partsFrom 48 = .ok (.aload_n 0, 1) := bo_42 (by decide +kernel)
theorem dX6_partsFrom_49 : decode cX6_partsFrom 49 = .ok (.getfield 15, 3) := bo_180 0 15 (by decide +kernel)
theorem dX6_partsFrom_52 : decode cX6_partsFrom 52 = .ok (.ireturn, 1) := bo_172 (by decide +kernel)
theorem dX6_partsFrom_37 : decode cX6_partsFrom 37 = .ok (.aload_n 0, 1) := bo_42 (by decide +kernel)
theorem dX6_partsFrom_38 : decode cX6_partsFrom 38 = .ok (.getfield 18, 3) := bo_180 0 18 (by decide +kernel)
theorem dX6_partsFrom_41 : decode cX6_partsFrom 41 = .ok (.aload_n 1, 1) := bo_43 (by decide +kernel)
theorem dX6_partsFrom_42 : decode cX6_partsFrom 42 = .ok (.getfield 18, 3) := bo_180 0 18 (by decide +kernel)
theorem dX6_partsFrom_45 : decode cX6_partsFrom 45 = .ok (.if_icmp .eq 8, 3) := bo_159 0 8 (by decide +kernel)
theorem dX6_partsFrom_53 : decode cX6_partsFrom 53 = .ok (.iinc 3 1, 3) := bo_132 3 1 (by decide +kernel)
theorem dX6_partsFrom_56 : decode cX6_partsFrom 56 = .ok (.goto (-54), 3) := bo_167 255 202 (by decide +kernel)
abbrev rm_X6_partsFrom : Room := { frames := 2, cells := 0, slots := 0, locals := 48 }
set_option maxRecDepth 100000 in
set_option maxHeartbeats 8000000 in
theorem c_X6_partsFrom {l : Launch} {E : (Nat → Prop) → State → Prop} (hO : bw_Ok E) {G : va_G} {cI cB cJ cN cW : ClassId} (b : Nat) (q : Nat → Nat) (i : Nat → Int) (g : Nat → Nat → Int) (hW : WalkOk i g) (w : Nat) (qw : Nat → Nat) (iw : Nat → Int) (gw : Nat → Nat → Int) (hV : WalkOk iw gw) (o : Nat) (qo : Nat → Nat) (no : Int) (go : Nat → Nat → Int) (hM : NetOk no go) (hK : i 1 ≤ 1999990000) (hK2 : iw 1 ≤ 1999990000) : bw_Ci (S := zU) l yX6_partsFrom (bw_ws (Cond.code yX6_partsFrom cX6_partsFrom 4 (some .int))) rm_X6_partsFrom E G (bw_kt cI cB cJ cN cW) [.ref b, .ref w, .ref o] [(b, .inr (6, [.int (zI (i 0)), .int (zI (i 1)), .int (zI (i 2)), .int (zI (i 3)), .int (zI (i 4)), .ref (q 0), .ref (q 1), .ref (q 2), .long (zL (i 5)), .ref (q 3)])), ((q 0), .inl (cI, 4, .inl (fun k => zI ((g 0) k)))), ((q 1), .inl (cI, 20, .inl (fun k => zI ((g 1) k)))), ((q 2), .inl (cI, 20, .inl (fun k => zI ((g 2) k)))), ((q 3), .inl (cI, 100, .inl (fun k => zI ((g 3) k)))), (w, .inr (6, [.int (zI (iw 0)), .int (zI (iw 1)), .int (zI (iw 2)), .int (zI (iw 3)), .int (zI (iw 4)), .ref (qw 0), .ref (qw 1), .ref (qw 2), .long (zL (iw 5)), .ref (qw 3)])), ((qw 0), .inl (cI, 4, .inl (fun k => zI ((gw 0) k)))), ((qw 1), .inl (cI, 20, .inl (fun k => zI ((gw 1) k)))), ((qw 2), .inl (cI, 20, .inl (fun k => zI ((gw 2) k)))), ((qw 3), .inl (cI, 100, .inl (fun k => zI ((gw 3) k)))), (o, .inr (2, [.int (zI no), .ref (qo 0), .ref (qo 1), .ref (qo 2), .ref (qo 3), .ref (qo 4), .ref (qo 5), .ref (qo 6), .ref (qo 7)])), ((qo 0), .inl (cI, 10, .inl (fun k => zI ((go 0) k)))), ((qo 1), .inl (cI, 10, .inl (fun k => zI ((go 1) k)))), ((qo 2), .inl (cI, 10, .inl (fun k => zI ((go 2) k)))), ((qo 3), .inl (cI, 40, .inl (fun k => zI ((go 3) k)))), ((qo 4), .inl (cI, 40, .inl (fun k => zI ((go 4) k)))), ((qo 5), .inl (cI, 40, .inl (fun k => zI ((go 5) k)))), ((qo 6), .inl (cI, 20, .inl (fun k => zI ((go 6) k)))), ((qo 7), .inl (cI, 20, .inl (fun k => zI ((go 7) k))))] (fun r u => ∃ z : Int, r = zI z ∧ WalkOk u.1 u.2 ∧ WalkOk (fun k => u.1 (10 + k)) (fun k => u.2 (10 + k)) ∧ (True)) (fun u => [(b, .inr (6, [.int (zI (u.1 0)), .int (zI (u.1 1)), .int (zI (u.1 2)), .int (zI (u.1 3)), .int (zI (u.1 4)), .ref (q 0), .ref (q 1), .ref (q 2), .long (zL (u.1 5)), .ref (q 3)])), ((q 0), .inl (cI, 4, .inl (fun k => zI ((u.2 0) k)))), ((q 1), .inl (cI, 20, .inl (fun k => zI ((u.2 1) k)))), ((q 2), .inl (cI, 20, .inl (fun k => zI ((u.2 2) k)))), ((q 3), .inl (cI, 100, .inl (fun k => zI ((u.2 3) k)))), (w, .inr (6, [.int (zI ((fun k => u.1 (10 + k)) 0)), .int (zI ((fun k => u.1 (10 + k)) 1)), .int (zI ((fun k => u.1 (10 + k)) 2)), .int (zI ((fun k => u.1 (10 + k)) 3)), .int (zI ((fun k => u.1 (10 + k)) 4)), .ref (qw 0), .ref (qw 1), .ref (qw 2), .long (zL ((fun k => u.1 (10 + k)) 5)), .ref (qw 3)])), ((qw 0), .inl (cI, 4, .inl (fun k => zI (((fun k => u.2 (10 + k)) 0) k)))), ((qw 1), .inl (cI, 20, .inl (fun k => zI (((fun k => u.2 (10 + k)) 1) k)))), ((qw 2), .inl (cI, 20, .inl (fun k => zI (((fun k => u.2 (10 + k)) 2) k)))), ((qw 3), .inl (cI, 100, .inl (fun k => zI (((fun k => u.2 (10 + k)) 3) k)))), (o, .inr (2, [.int (zI no), .ref (qo 0), .ref (qo 1), .ref (qo 2), .ref (qo 3), .ref (qo 4), .ref (qo 5), .ref (qo 6), .ref (qo 7)])), ((qo 0), .inl (cI, 10, .inl (fun k => zI ((go 0) k)))), ((qo 1), .inl (cI, 10, .inl (fun k => zI ((go 1) k)))), ((qo 2), .inl (cI, 10, .inl (fun k => zI ((go 2) k)))), ((qo 3), .inl (cI, 40, .inl (fun k => zI ((go 3) k)))), ((qo 4), .inl (cI, 40, .inl (fun k => zI ((go 4) k)))), ((qo 5), .inl (cI, 40, .inl (fun k => zI ((go 5) k)))), ((qo 6), .inl (cI, 20, .inl (fun k => zI ((go 6) k)))), ((qo 7), .inl (cI, 20, .inl (fun k => zI ((go 7) k))))]) := by
  refine bw_Ci.of (cc := cX6_partsFrom) (maxL := 4) (ty := .int) (by decide) rfl (Nat.le_of_ble_eq_true rfl) ?_
  intro p e s m below meth c A Q hx hb hml hts hown hin hK hA hS hP hD hE ret ls hl
  have F : CallFix p m c cX6_partsFrom 4 s ([.ref b, .ref w, .ref o] : List Value).toArray bw_T RX6 := ⟨hx, hb, hml, hown, fun w h => hts w (List.mem_cons_of_mem _ h)⟩
  replace hl : lv_has ls 4 [(0, .ref b), (1, .ref w), (2, .ref o)] := hl
  have hW1 := hW.1
  have hM0 := hM.1
  have hV1 := hV.1
  refine lv_iconst (v := zI 0) hx hb dX6_partsFrom_0 rfl ?_
  refine lv_istore_n (lv' := [(3, .int (zI 0)), (0, .ref b), (1, .ref w), (2, .ref o)]) hx hb dX6_partsFrom_1 rfl hl (by decide) rfl (fun ls hl => ?_)
  refine W.widen (k := 0) (n := 0) (Nat.le_of_ble_eq_true rfl) (Nat.le_of_ble_eq_true rfl) ?_
  refine (?_ : ∀ (n9_1 : Nat) (v3 : Int) (ii : Nat → Int) (gg : Nat → Nat → Int) (ij : Nat → Int) (gj : Nat → Nat → Int) (H : Heap) (locs : List Loc), (0 ≤ v3 ∧ v3 ≤ 1000 ∧ ii 1 ≤ i 1 + v3 ∧ ij 1 ≤ iw 1 + v3) → (1000 - v3 : Int).toNat < n9_1 → (WalkOk ii gg) → (WalkOk ij gj) → va_P G vwCl [(b, .inr (6, [.int (zI (ii 0)), .int (zI (ii 1)), .int (zI (ii 2)), .int (zI (ii 3)), .int (zI (ii 4)), .ref (q 0), .ref (q 1), .ref (q 2), .long (zL (ii 5)), .ref (q 3)])), ((q 0), .inl (cI, 4, .inl (fun k => zI ((gg 0) k)))), ((q 1), .inl (cI, 20, .inl (fun k => zI ((gg 1) k)))), ((q 2), .inl (cI, 20, .inl (fun k => zI ((gg 2) k)))), ((q 3), .inl (cI, 100, .inl (fun k => zI ((gg 3) k)))), (w, .inr (6, [.int (zI (ij 0)), .int (zI (ij 1)), .int (zI (ij 2)), .int (zI (ij 3)), .int (zI (ij 4)), .ref (qw 0), .ref (qw 1), .ref (qw 2), .long (zL (ij 5)), .ref (qw 3)])), ((qw 0), .inl (cI, 4, .inl (fun k => zI ((gj 0) k)))), ((qw 1), .inl (cI, 20, .inl (fun k => zI ((gj 1) k)))), ((qw 2), .inl (cI, 20, .inl (fun k => zI ((gj 2) k)))), ((qw 3), .inl (cI, 100, .inl (fun k => zI ((gj 3) k)))), (o, .inr (2, [.int (zI no), .ref (qo 0), .ref (qo 1), .ref (qo 2), .ref (qo 3), .ref (qo 4), .ref (qo 5), .ref (qo 6), .ref (qo 7)])), ((qo 0), .inl (cI, 10, .inl (fun k => zI ((go 0) k)))), ((qo 1), .inl (cI, 10, .inl (fun k => zI ((go 1) k)))), ((qo 2), .inl (cI, 10, .inl (fun k => zI ((go 2) k)))), ((qo 3), .inl (cI, 40, .inl (fun k => zI ((go 3) k)))), ((qo 4), .inl (cI, 40, .inl (fun k => zI ((go 4) k)))), ((qo 5), .inl (cI, 40, .inl (fun k => zI ((go 5) k)))), ((qo 6), .inl (cI, 20, .inl (fun k => zI ((go 6) k)))), ((qo 7), .inl (cI, 20, .inl (fun k => zI ((go 7) k))))] H → va_D A [(b, .inr (6, [.int (zI (ii 0)), .int (zI (ii 1)), .int (zI (ii 2)), .int (zI (ii 3)), .int (zI (ii 4)), .ref (q 0), .ref (q 1), .ref (q 2), .long (zL (ii 5)), .ref (q 3)])), ((q 0), .inl (cI, 4, .inl (fun k => zI ((gg 0) k)))), ((q 1), .inl (cI, 20, .inl (fun k => zI ((gg 1) k)))), ((q 2), .inl (cI, 20, .inl (fun k => zI ((gg 2) k)))), ((q 3), .inl (cI, 100, .inl (fun k => zI ((gg 3) k)))), (w, .inr (6, [.int (zI (ij 0)), .int (zI (ij 1)), .int (zI (ij 2)), .int (zI (ij 3)), .int (zI (ij 4)), .ref (qw 0), .ref (qw 1), .ref (qw 2), .long (zL (ij 5)), .ref (qw 3)])), ((qw 0), .inl (cI, 4, .inl (fun k => zI ((gj 0) k)))), ((qw 1), .inl (cI, 20, .inl (fun k => zI ((gj 1) k)))), ((qw 2), .inl (cI, 20, .inl (fun k => zI ((gj 2) k)))), ((qw 3), .inl (cI, 100, .inl (fun k => zI ((gj 3) k)))), (o, .inr (2, [.int (zI no), .ref (qo 0), .ref (qo 1), .ref (qo 2), .ref (qo 3), .ref (qo 4), .ref (qo 5), .ref (qo 6), .ref (qo 7)])), ((qo 0), .inl (cI, 10, .inl (fun k => zI ((go 0) k)))), ((qo 1), .inl (cI, 10, .inl (fun k => zI ((go 1) k)))), ((qo 2), .inl (cI, 10, .inl (fun k => zI ((go 2) k)))), ((qo 3), .inl (cI, 40, .inl (fun k => zI ((go 3) k)))), ((qo 4), .inl (cI, 40, .inl (fun k => zI ((go 4) k)))), ((qo 5), .inl (cI, 40, .inl (fun k => zI ((go 5) k)))), ((qo 6), .inl (cI, 20, .inl (fun k => zI ((go 6) k)))), ((qo 7), .inl (cI, 20, .inl (fun k => zI ((go 7) k))))] → va_S A s.heap H locs → ∀ ls : Array Slot, lv_has ls 4 [(3, .int (zI v3)), (0, .ref b), (1, .ref w), (2, .ref o)] → W p l e rm_X6_partsFrom s m ([.ref b, .ref w, .ref o] : List Value).toArray below meth c H locs 0 0 Q (F0 m 2 ls [])) ((1000 - 0 : Int).toNat + 1) 0 i g iw gw _ _ (by omega) (by omega) hW hV hP hD hS ls hl
  clear hP hD hS hl ls
  intro n9_1
  induction n9_1 with
  | zero =>
    intro v3 ii gg ij gj H locs hI hM
    exact absurd hM (by omega)
  | succ n9_1 ih1 =>
    intro v3 ii gg ij gj H locs hI1 hM1 hG hJ hP hD hS ls hl
    have hf1 := hG.1
    have hf2 := hJ.1
    refine lv_iload_n hx hb dX6_partsFrom_2 rfl (lv_at hl 0 rfl) ?_
    refine lv_sipush (v := zI 1000) hx hb dX6_partsFrom_3 (by decide) ?_
    refine rz_icmp_ge (tgt := 59) F (by omega) (by omega) dX6_partsFrom_6 (by decide) (fun h6_2 => ?_) (fun h6_2 => ?_)
    · refine lv_bipush (v := zI (-2)) hx hb dX6_partsFrom_59 (by decide) ?_
      exact ret (zI (-2)) (uC ii ij, uC gg gj) _ _ _ _ _ _ rfl ⟨(-2), rfl, hG, hJ, trivial⟩ (bw_subP (isC := [0, 1, 2, 3, 4, 5, 6, 7, 8, 9, 10, 11, 12, 13, 14, 15, 16, 17, 18]) hP rfl) (hD.sub [0, 1, 2, 3, 4, 5, 6, 7, 8, 9, 10, 11, 12, 13, 14, 15, 16, 17, 18] (by decide) rfl) hS (Nat.le_of_ble_eq_true rfl) (Nat.le_of_ble_eq_true rfl) dX6_partsFrom_61
    · refine lv_aload_n hx hb dX6_partsFrom_9 rfl (lv_at hl 1 rfl) ?_
      refine r_get F hK hP 0 2 rfl rfl in_X6 (by decide) k_325 rfl dX6_partsFrom_10 ?_
      refine rz_if_ne (tgt := 59) F (by omega) dX6_partsFrom_13 (by decide) (fun h13_3 => ?_) (fun h13_3 => ?_)
      · refine lv_bipush (v := zI (-2)) hx hb dX6_partsFrom_59 (by decide) ?_
        exact ret (zI (-2)) (uC ii ij, uC gg gj) _ _ _ _ _ _ rfl ⟨(-2), rfl, hG, hJ, trivial⟩ (bw_subP (isC := [0, 1, 2, 3, 4, 5, 6, 7, 8, 9, 10, 11, 12, 13, 14, 15, 16, 17, 18]) hP rfl) (hD.sub [0, 1, 2, 3, 4, 5, 6, 7, 8, 9, 10, 11, 12, 13, 14, 15, 16, 17, 18] (by decide) rfl) hS (Nat.le_of_ble_eq_true rfl) (Nat.le_of_ble_eq_true rfl) dX6_partsFrom_61
      · refine lv_aload_n hx hb dX6_partsFrom_16 rfl (lv_at hl 1 rfl) ?_
        refine lv_aload_n hx hb dX6_partsFrom_17 rfl (lv_at hl 3 rfl) ?_
        refine r_callVv (As := [.ref o]) (rest := []) (wr := [(w, .inr (6, [.int (zI (ij 0)), .int (zI (ij 1)), .int (zI (ij 2)), .int (zI (ij 3)), .int (zI (ij 4)), .ref (qw 0), .ref (qw 1), .ref (qw 2), .long (zL (ij 5)), .ref (qw 3)])), ((qw 0), .inl (cI, 4, .inl (fun k => zI ((gj 0) k)))), ((qw 1), .inl (cI, 20, .inl (fun k => zI ((gj 1) k)))), ((qw 2), .inl (cI, 20, .inl (fun k => zI ((gj 2) k)))), ((qw 3), .inl (cI, 100, .inl (fun k => zI ((gj 3) k))))]) F hK hP hD hS hA hO hE (c_X6_step hO b q ii gg hG o qo no go hM (by omega)) k_698 kv_X6_step 1 rfl (by decide +kernel) ⟨Nat.le_of_ble_eq_true rfl, Nat.le_of_ble_eq_true rfl⟩ [0, 1, 2, 3, 4, 10, 11, 12, 13, 14, 15, 16, 17, 18] [5, 6, 7, 8, 9] rfl rfl (by decide) (by decide) (by decide) 0 6 rfl rfl rfl hl.1 rfl (Nat.le_of_ble_eq_true rfl) dX6_partsFrom_18 ⟨Nat.le_of_ble_eq_true rfl, Nat.le_of_ble_eq_true rfl⟩ (w1 := fun u5 => [(w, .inr (6, [.int (zI (ij 0)), .int (zI (ij 1)), .int (zI (ij 2)), .int (zI (ij 3)), .int (zI (ij 4)), .ref (qw 0), .ref (qw 1), .ref (qw 2), .long (zL (ij 5)), .ref (qw 3)])), ((qw 0), .inl (cI, 4, .inl (fun k => zI ((gj 0) k)))), ((qw 1), .inl (cI, 20, .inl (fun k => zI ((gj 1) k)))), ((qw 2), .inl (cI, 20, .inl (fun k => zI ((gj 2) k)))), ((qw 3), .inl (cI, 100, .inl (fun k => zI ((gj 3) k)))), (b, .inr (6, [.int (zI (u5.1 0)), .int (zI (u5.1 1)), .int (zI (u5.1 2)), .int (zI (u5.1 3)), .int (zI (u5.1 4)), .ref (q 0), .ref (q 1), .ref (q 2), .long (zL (u5.1 5)), .ref (q 3)])), ((q 0), .inl (cI, 4, .inl (fun k => zI ((u5.2 0) k)))), ((q 1), .inl (cI, 20, .inl (fun k => zI ((u5.2 1) k)))), ((q 2), .inl (cI, 20, .inl (fun k => zI ((u5.2 2) k)))), ((q 3), .inl (cI, 100, .inl (fun k => zI ((u5.2 3) k)))), (o, .inr (2, [.int (zI no), .ref (qo 0), .ref (qo 1), .ref (qo 2), .ref (qo 3), .ref (qo 4), .ref (qo 5), .ref (qo 6), .ref (qo 7)])), ((qo 0), .inl (cI, 10, .inl (fun k => zI ((go 0) k)))), ((qo 1), .inl (cI, 10, .inl (fun k => zI ((go 1) k)))), ((qo 2), .inl (cI, 10, .inl (fun k => zI ((go 2) k)))), ((qo 3), .inl (cI, 40, .inl (fun k => zI ((go 3) k)))), ((qo 4), .inl (cI, 40, .inl (fun k => zI ((go 4) k)))), ((qo 5), .inl (cI, 40, .inl (fun k => zI ((go 5) k)))), ((qo 6), .inl (cI, 20, .inl (fun k => zI ((go 6) k)))), ((qo 7), .inl (cI, 20, .inl (fun k => zI ((go 7) k))))]) (fun _ => rfl) (fun  u5 H locs hp6 hP hD hS => ?_)
        have hx7 := hp6.2
        have hf8 := hp6.1.1
        refine lv_aload_n hx hb dX6_partsFrom_21 rfl (lv_at hl 2 rfl) ?_
        refine lv_aload_n hx hb dX6_partsFrom_22 rfl (lv_at hl 3 rfl) ?_
        refine r_callVv (As := [.ref o]) (rest := []) (wr := [(b, .inr (6, [.int (zI (u5.1 0)), .int (zI (u5.1 1)), .int (zI (u5.1 2)), .int (zI (u5.1 3)), .int (zI (u5.1 4)), .ref (q 0), .ref (q 1), .ref (q 2), .long (zL (u5.1 5)), .ref (q 3)])), ((q 0), .inl (cI, 4, .inl (fun k => zI ((u5.2 0) k)))), ((q 1), .inl (cI, 20, .inl (fun k => zI ((u5.2 1) k)))), ((q 2), .inl (cI, 20, .inl (fun k => zI ((u5.2 2) k)))), ((q 3), .inl (cI, 100, .inl (fun k => zI ((u5.2 3) k))))]) F hK hP hD hS hA hO hE (c_X6_step hO w qw ij gj hJ o qo no go hM (by omega)) k_698 kv_X6_step 1 rfl (by decide +kernel) ⟨Nat.le_of_ble_eq_true rfl, Nat.le_of_ble_eq_true rfl⟩ [0, 1, 2, 3, 4, 10, 11, 12, 13, 14, 15, 16, 17, 18] [5, 6, 7, 8, 9] rfl rfl (by decide) (by decide) (by decide) 0 6 rfl rfl rfl hl.1 rfl (Nat.le_of_ble_eq_true rfl) dX6_partsFrom_23 ⟨Nat.le_of_ble_eq_true rfl, Nat.le_of_ble_eq_true rfl⟩ (w1 := fun u9 => [(b, .inr (6, [.int (zI (u5.1 0)), .int (zI (u5.1 1)), .int (zI (u5.1 2)), .int (zI (u5.1 3)), .int (zI (u5.1 4)), .ref (q 0), .ref (q 1), .ref (q 2), .long (zL (u5.1 5)), .ref (q 3)])), ((q 0), .inl (cI, 4, .inl (fun k => zI ((u5.2 0) k)))), ((q 1), .inl (cI, 20, .inl (fun k => zI ((u5.2 1) k)))), ((q 2), .inl (cI, 20, .inl (fun k => zI ((u5.2 2) k)))), ((q 3), .inl (cI, 100, .inl (fun k => zI ((u5.2 3) k)))), (w, .inr (6, [.int (zI (u9.1 0)), .int (zI (u9.1 1)), .int (zI (u9.1 2)), .int (zI (u9.1 3)), .int (zI (u9.1 4)), .ref (qw 0), .ref (qw 1), .ref (qw 2), .long (zL (u9.1 5)), .ref (qw 3)])), ((qw 0), .inl (cI, 4, .inl (fun k => zI ((u9.2 0) k)))), ((qw 1), .inl (cI, 20, .inl (fun k => zI ((u9.2 1) k)))), ((qw 2), .inl (cI, 20, .inl (fun k => zI ((u9.2 2) k)))), ((qw 3), .inl (cI, 100, .inl (fun k => zI ((u9.2 3) k)))), (o, .inr (2, [.int (zI no), .ref (qo 0), .ref (qo 1), .ref (qo 2), .ref (qo 3), .ref (qo 4), .ref (qo 5), .ref (qo 6), .ref (qo 7)])), ((qo 0), .inl (cI, 10, .inl (fun k => zI ((go 0) k)))), ((qo 1), .inl (cI, 10, .inl (fun k => zI ((go 1) k)))), ((qo 2), .inl (cI, 10, .inl (fun k => zI ((go 2) k)))), ((qo 3), .inl (cI, 40, .inl (fun k => zI ((go 3) k)))), ((qo 4), .inl (cI, 40, .inl (fun k => zI ((go 4) k)))), ((qo 5), .inl (cI, 40, .inl (fun k => zI ((go 5) k)))), ((qo 6), .inl (cI, 20, .inl (fun k => zI ((go 6) k)))), ((qo 7), .inl (cI, 20, .inl (fun k => zI ((go 7) k))))]) (fun _ => rfl) (fun  u9 H locs hp10 hP hD hS => ?_)
        have hx11 := hp10.2
        have hf12 := hp10.1.1
        refine lv_aload_n hx hb dX6_partsFrom_26 rfl (lv_at hl 1 rfl) ?_
        refine r_get F hK hP 0 0 rfl rfl in_X6 (by decide) k_320 rfl dX6_partsFrom_27 ?_
        refine lv_aload_n hx hb dX6_partsFrom_30 rfl (lv_at hl 2 rfl) ?_
        refine r_get F hK hP 5 0 rfl rfl in_X6 (by decide) k_320 rfl dX6_partsFrom_31 ?_
        refine rz_icmp_ne (tgt := 48) F (by omega) (by omega) dX6_partsFrom_34 (by decide) (fun h34_12 => ?_) (fun h34_12 => ?_)
        · refine lv_aload_n hx hb dX6_partsFrom_48 rfl (lv_at hl 1 rfl) ?_
          refine r_get F hK hP 0 1 rfl rfl in_X6 (by decide) k_322 rfl dX6_partsFrom_49 ?_
          exact ret (zI (u5.1 1)) (uC u5.1 u9.1, uC u5.2 u9.2) _ _ _ _ _ _ rfl ⟨(u5.1 1), rfl, hp6.1, hp10.1, trivial⟩ (bw_subP (isC := [0, 1, 2, 3, 4, 5, 6, 7, 8, 9, 10, 11, 12, 13, 14, 15, 16, 17, 18]) hP rfl) (hD.sub [0, 1, 2, 3, 4, 5, 6, 7, 8, 9, 10, 11, 12, 13, 14, 15, 16, 17, 18] (by decide) rfl) hS (Nat.le_of_ble_eq_true rfl) (Nat.le_of_ble_eq_true rfl) dX6_partsFrom_52
        · refine lv_aload_n hx hb dX6_partsFrom_37 rfl (lv_at hl 1 rfl) ?_
          refine r_get F hK hP 0 2 rfl rfl in_X6 (by decide) k_325 rfl dX6_partsFrom_38 ?_
          refine lv_aload_n hx hb dX6_partsFrom_41 rfl (lv_at hl 2 rfl) ?_
          refine r_get F hK hP 5 2 rfl rfl in_X6 (by decide) k_325 rfl dX6_partsFrom_42 ?_
          refine rz_icmp_eq (tgt := 53) F (by omega) (by omega) dX6_partsFrom_45 (by decide) (fun h45_13 => ?_) (fun h45_13 => ?_)
          · refine lv_iinc (v := zI (v3 + 1)) (lv' := [(3, .int (zI (v3 + 1))), (0, .ref b), (1, .ref w), (2, .ref o)]) hx hb dX6_partsFrom_53 hl (k := 0) rfl (zI_add _ _) (by decide) rfl (fun ls hl => ?_)
            refine lv_goto (tgt := 2) hx hb dX6_partsFrom_56 (by decide) ?_
            exact ih1 (v3 + 1) u5.1 u5.2 u9.1 u9.2 _ _ (by omega) (by omega) hp6.1 hp10.1 hP hD hS ls (lv_sub hl [0, 1, 2, 3] rfl)
          · refine lv_aload_n hx hb dX6_partsFrom_48 rfl (lv_at hl 1 rfl) ?_
            refine r_get F hK hP 0 1 rfl rfl in_X6 (by decide) k_322 rfl dX6_partsFrom_49 ?_
            exact ret (zI (u5.1 1)) (uC u5.1 u9.1, uC u5.2 u9.2) _ _ _ _ _ _ rfl ⟨(u5.1 1), rfl, hp6.1, hp10.1, trivial⟩ (bw_subP (isC := [0, 1, 2, 3, 4, 5, 6, 7, 8, 9, 10, 11, 12, 13, 14, 15, 16, 17, 18]) hP rfl) (hD.sub [0, 1, 2, 3, 4, 5, 6, 7, 8, 9, 10, 11, 12, 13, 14, 15, 16, 17, 18] (by decide) rfl) hS (Nat.le_of_ble_eq_true rfl) (Nat.le_of_ble_eq_true rfl) dX6_partsFrom_52
theorem dX6_init_0 : decode cX6_init 0 = .ok (.aload_n 0, 1) := bo_42 (by decide +kernel)
theorem dX6_init_1 : decode cX6_init 1 = .ok (.invokespecial 3, 3) := bo_183 0 3 (by decide +kernel)
theorem k_319 : Cond.methodLink RX6 3 Lib.objectInit ∈ bw_T := bw_m 319 (by decide +kernel) rfl
theorem dX6_init_4 : decode cX6_init 4 = .ok (.aload_n 0, 1) := bo_42 (by decide +kernel)
theorem dX6_init_5 : decode cX6_init 5 = .ok (.iconst 0, 1) := bo_3 (by decide +kernel)
theorem dX6_init_6 : decode cX6_init 6 = .ok (.putfield 9, 3) := bo_181 0 9 (by decide +kernel)
theorem dX6_init_9 : decode cX6_init 9 = .ok (.aload_n 0, 1) := bo_42 (by decide +kernel)
theorem dX6_init_10 : decode cX6_init 10 = .ok (.iconst 0, 1) := bo_3 (by decide +kernel)
theorem dX6_init_11 : decode cX6_init 11 = .ok (.putfield 15, 3) := bo_181 0 15 (by decide +kernel)
theorem dX6_init_14 : decode cX6_init 14 = .ok (.aload_n 0, 1) := bo_42 (by decide +kernel)
theorem dX6_init_15 : decode cX6_init 15 = .ok (.iconst 0, 1) := bo_3 (by decide +kernel)
theorem dX6_init_16 : decode cX6_init 16 = .ok (.putfield 18, 3) := bo_181 0 18 (by decide +kernel)
theorem dX6_init_19 : decode cX6_init 19 = .ok (.aload_n 0, 1) := bo_42 (by decide +kernel)
theorem dX6_init_20 : decode cX6_init 20 = .ok (.iconst 0, 1) := bo_3 (by decide +kernel)
theorem dX6_init_21 : decode cX6_init 21 = .ok (.putfield 21, 3) := bo_181 0 21 (by decide +kernel)
theorem dX6_init_24 : decode cX6_init 24 = .ok (.aload_n 0, 1) := bo_42 (by decide +kernel)
theorem dX6_init_25 : decode cX6_init 25 = .ok (.iconst 0, 1) := bo_3 (by decide +kernel)
theorem dX6_init_26 : decode cX6_init 26 = .ok (.putfield 24, 3) := bo_181 0 24 (by decide +kernel)
theorem dX6_init_29 : decode cX6_init 29 = .ok (.aload_n 0, 1) := bo_42 (by decide +kernel)
theorem dX6_init_30 : decode cX6_init 30 = .ok (.iconst 4, 1) := bo_7 (by decide +kernel)
theorem dX6_init_31 : decode cX6_init 31 = .ok (.newarray .int, 2) := by decide +kernel
theorem dX6_init_33 : decode cX6_init 33 = .ok (.putfield 27, 3) := bo_181 0 27 (by decide +kernel)
theorem dX6_init_36 : decode cX6_init 36 = .ok (.aload_n 0, 1) := bo_42 (by decide +kernel)
theorem dX6_init_37 : decode cX6_init 37 = .ok (.bipush 20, 2) := bo_16 20 (by decide +kernel)
theorem dX6_init_39 : decode cX6_init 39 = .ok (.newarray .int, 2) := by decide +kernel
theorem dX6_init_41 : decode cX6_init 41 = .ok (.putfield 31, 3) := bo_181 0 31 (by decide +kernel)
theorem dX6_init_44 : decode cX6_init 44 = .ok (.aload_n 0, 1) := bo_42 (by decide +kernel)
theorem dX6_init_45 : decode cX6_init 45 = .ok (.bipush 20, 2) := bo_16 20 (by decide +kernel)
theorem dX6_init_47 : decode cX6_init 47 = .ok (.newarray .int, 2) := by decide +kernel
theorem dX6_init_49 : decode cX6_init 49 = .ok (.putfield 34, 3) := bo_181 0 34 (by decide +kernel)
theorem dX6_init_52 : decode cX6_init 52 = .ok (.aload_n 0, 1) := bo_42 (by decide +kernel)
theorem dX6_init_53 : decode cX6_init 53 = .ok (.lconst 0, 1) := bo_9 (by decide +kernel)
theorem dX6_init_54 : decode cX6_init 54 = .ok (.putfield 37, 3) := bo_181 0 37 (by decide +kernel)
theorem dX6_init_57 : decode cX6_init 57 = .ok (.aload_n 0, 1) := bo_42 (by decide +kernel)
theorem dX6_init_58 : decode cX6_init 58 = .ok (.bipush 100, 2) := bo_16 100 (by decide +kernel)
theorem dX6_init_60 : decode cX6_init 60 = .ok (.newarray .int, 2) := by decide +kernel
theorem dX6_init_62 : decode cX6_init 62 = .ok (.putfield 41, 3) := bo_181 0 41 (by decide +kernel)
theorem dX6_init_65 : decode cX6_init 65 = .ok (.return_, 1) := bo_177 (by decide +kernel)
abbrev rm_X6_init : Room := { frames := 1, cells := 4, slots := 144, locals := 12 }
set_option maxRecDepth 100000 in
set_option maxHeartbeats 8000000 in
theorem c_X6_init {l : Launch} {E : (Nat → Prop) → State → Prop} (hO : bw_Ok E) {G : va_G} {cI cB cJ cN cW : ClassId} (b : Nat) : bw_Cv (S := zU) l yX6_init (bw_ws (Cond.code yX6_init cX6_init 1 none)) rm_X6_init E G (bw_kt cI cB cJ cN cW) [.ref b] [(b, .inr (6, [.int (zI 0), .int (zI 0), .int (zI 0), .int (zI 0), .int (zI 0), .null, .null, .null, .long (zL 0), .null]))] (fun _ => True) (fun u => [(b, .inr (6, [.int (zI ((fun _ => 0) 0)), .int (zI ((fun _ => 0) 1)), .int (zI ((fun _ => 0) 2)), .int (zI ((fun _ => 0) 3)), .int (zI ((fun _ => 0) 4)), .ref ((aU u 0) 0), .ref ((aU u 0) 1), .ref ((aU u 0) 2), .long (zL ((fun _ => 0) 5)), .ref ((aU u 0) 3)])), (((aU u 0) 0), .inl (cI, 4, .inl (fun k => zI (((fun _ _ => 0) 0) k)))), (((aU u 0) 1), .inl (cI, 20, .inl (fun k => zI (((fun _ _ => 0) 1) k)))), (((aU u 0) 2), .inl (cI, 20, .inl (fun k => zI (((fun _ _ => 0) 2) k)))), (((aU u 0) 3), .inl (cI, 100, .inl (fun k => zI (((fun _ _ => 0) 3) k))))]) := by
  refine bw_Cv.of (cc := cX6_init) (maxL := 1) (by decide) rfl (Nat.le_of_ble_eq_true rfl) ?_
  intro p e s m below meth c A Q hx hb hml hts hown hin hK hA hS hP hD hE ret ls hl
  have F : CallFix p m c cX6_init 1 s ([.ref b] : List Value).toArray bw_T RX6 := ⟨hx, hb, hml, hown, fun w h => hts w (List.mem_cons_of_mem _ h)⟩
  replace hl : lv_has ls 1 [(0, .ref b)] := hl
  refine lv_aload_n hx hb dX6_init_0 rfl (lv_at hl 0 rfl) ?_
  refine r_objInit F k_319 k_oi k_oc hl.1 dX6_init_1 (Nat.le_of_ble_eq_true rfl) (Nat.le_of_ble_eq_true rfl) ?_
  refine lv_aload_n hx hb dX6_init_4 rfl (lv_at hl 0 rfl) ?_
  refine lv_iconst (v := zI 0) hx hb dX6_init_5 rfl ?_
  refine r_put F hK hP hD hS 0 0 rfl rfl in_X6 tyX6 tyX6_ok nmX6 (by decide) k_320 rfl rfl rfl (Nat.le_of_ble_eq_true rfl) dX6_init_6 (w1 := [(b, .inr (6, [.int (zI 0), .int (zI 0), .int (zI 0), .int (zI 0), .int (zI 0), .null, .null, .null, .long (zL 0), .null]))]) rfl (fun H locs hP hD hS => ?_)
  refine lv_aload_n hx hb dX6_init_9 rfl (lv_at hl 0 rfl) ?_
  refine lv_iconst (v := zI 0) hx hb dX6_init_10 rfl ?_
  refine r_put F hK hP hD hS 0 1 rfl rfl in_X6 tyX6 tyX6_ok nmX6 (by decide) k_322 rfl rfl rfl (Nat.le_of_ble_eq_true rfl) dX6_init_11 (w1 := [(b, .inr (6, [.int (zI 0), .int (zI 0), .int (zI 0), .int (zI 0), .int (zI 0), .null, .null, .null, .long (zL 0), .null]))]) rfl (fun H locs hP hD hS => ?_)
  refine lv_aload_n hx hb dX6_init_14 rfl (lv_at hl 0 rfl) ?_
  refine lv_iconst (v := zI 0) hx hb dX6_init_15 rfl ?_
  refine r_put F hK hP hD hS 0 2 rfl rfl in_X6 tyX6 tyX6_ok nmX6 (by decide) k_325 rfl rfl rfl (Nat.le_of_ble_eq_true rfl) dX6_init_16 (w1 := [(b, .inr (6, [.int (zI 0), .int (zI 0), .int (zI 0), .int (zI 0), .int (zI 0), .null, .null, .null, .long (zL 0), .null]))]) rfl (fun H locs hP hD hS => ?_)
  refine lv_aload_n hx hb dX6_init_19 rfl (lv_at hl 0 rfl) ?_
  refine lv_iconst (v := zI 0) hx hb dX6_init_20 rfl ?_
  refine r_put F hK hP hD hS 0 3 rfl rfl in_X6 tyX6 tyX6_ok nmX6 (by decide) k_328 rfl rfl rfl (Nat.le_of_ble_eq_true rfl) dX6_init_21 (w1 := [(b, .inr (6, [.int (zI 0), .int (zI 0), .int (zI 0), .int (zI 0), .int (zI 0), .null, .null, .null, .long (zL 0), .null]))]) rfl (fun H locs hP hD hS => ?_)
  refine lv_aload_n hx hb dX6_init_24 rfl (lv_at hl 0 rfl) ?_
  refine lv_iconst (v := zI 0) hx hb dX6_init_25 rfl ?_
  refine r_put F hK hP hD hS 0 4 rfl rfl in_X6 tyX6 tyX6_ok nmX6 (by decide) k_330 rfl rfl rfl (Nat.le_of_ble_eq_true rfl) dX6_init_26 (w1 := [(b, .inr (6, [.int (zI 0), .int (zI 0), .int (zI 0), .int (zI 0), .int (zI 0), .null, .null, .null, .long (zL 0), .null]))]) rfl (fun H locs hP hD hS => ?_)
  refine lv_aload_n hx hb dX6_init_29 rfl (lv_at hl 0 rfl) ?_
  refine lv_iconst (v := zI 4) hx hb dX6_init_30 rfl ?_
  refine r_newa (atype := .int) (ty := .int) F rfl k_194 hK hP hD hS hA 0 rfl 4 (4, .inl (fun _ => 0)) (bw_cI 4) (by decide) (by decide) (bw_by (k := 4) rfl (by omega)) (Nat.le_of_ble_eq_true rfl) (Nat.le_of_ble_eq_true rfl) dX6_init_31 (w1 := fun q1 => [(b, .inr (6, [.int (zI 0), .int (zI 0), .int (zI 0), .int (zI 0), .int (zI 0), .null, .null, .null, .long (zL 0), .null])), (q1, .inl (cI, 4, .inl (fun k => zI ((fun _ => 0) k))))]) (fun _ => rfl) (fun q1 H hP hD hS => ?_)
  refine r_putF F hK hP hD hS 0 5 rfl rfl in_X6 tyX6 tyX6_ok nmX6 (by decide) k_332 rfl hin rfl rfl rfl (Nat.le_of_ble_eq_true rfl) dX6_init_33 (w1 := [(b, .inr (6, [.int (zI 0), .int (zI 0), .int (zI 0), .int (zI 0), .int (zI 0), .ref q1, .null, .null, .long (zL 0), .null])), (q1, .inl (cI, 4, .inl (fun k => zI ((fun _ => 0) k))))]) rfl (fun H locs hP hD hS => ?_)
  refine lv_aload_n hx hb dX6_init_36 rfl (lv_at hl 0 rfl) ?_
  refine lv_bipush (v := zI 20) hx hb dX6_init_37 (by decide) ?_
  refine r_newa (atype := .int) (ty := .int) F rfl k_194 hK hP hD hS hA 0 rfl 20 (20, .inl (fun _ => 0)) (bw_cI 20) (by decide) (by decide) (bw_by (k := 4) rfl (by omega)) (Nat.le_of_ble_eq_true rfl) (Nat.le_of_ble_eq_true rfl) dX6_init_39 (w1 := fun q2 => [(b, .inr (6, [.int (zI 0), .int (zI 0), .int (zI 0), .int (zI 0), .int (zI 0), .ref q1, .null, .null, .long (zL 0), .null])), (q1, .inl (cI, 4, .inl (fun k => zI ((fun _ => 0) k)))), (q2, .inl (cI, 20, .inl (fun k => zI ((fun _ => 0) k))))]) (fun _ => rfl) (fun q2 H hP hD hS => ?_)
  refine r_putF F hK hP hD hS 0 6 rfl rfl in_X6 tyX6 tyX6_ok nmX6 (by decide) k_334 rfl hin rfl rfl rfl (Nat.le_of_ble_eq_true rfl) dX6_init_41 (w1 := [(b, .inr (6, [.int (zI 0), .int (zI 0), .int (zI 0), .int (zI 0), .int (zI 0), .ref q1, .ref q2, .null, .long (zL 0), .null])), (q1, .inl (cI, 4, .inl (fun k => zI ((fun _ => 0) k)))), (q2, .inl (cI, 20, .inl (fun k => zI ((fun _ => 0) k))))]) rfl (fun H locs hP hD hS => ?_)
  refine lv_aload_n hx hb dX6_init_44 rfl (lv_at hl 0 rfl) ?_
  refine lv_bipush (v := zI 20) hx hb dX6_init_45 (by decide) ?_
  refine r_newa (atype := .int) (ty := .int) F rfl k_194 hK hP hD hS hA 0 rfl 20 (20, .inl (fun _ => 0)) (bw_cI 20) (by decide) (by decide) (bw_by (k := 4) rfl (by omega)) (Nat.le_of_ble_eq_true rfl) (Nat.le_of_ble_eq_true rfl) dX6_init_47 (w1 := fun q3 => [(b, .inr (6, [.int (zI 0), .int (zI 0), .int (zI 0), .int (zI 0), .int (zI 0), .ref q1, .ref q2, .null, .long (zL 0), .null])), (q1, .inl (cI, 4, .inl (fun k => zI ((fun _ => 0) k)))), (q2, .inl (cI, 20, .inl (fun k => zI ((fun _ => 0) k)))), (q3, .inl (cI, 20, .inl (fun k => zI ((fun _ => 0) k))))]) (fun _ => rfl) (fun q3 H hP hD hS => ?_)
  refine r_putF F hK hP hD hS 0 7 rfl rfl in_X6 tyX6 tyX6_ok nmX6 (by decide) k_336 rfl hin rfl rfl rfl (Nat.le_of_ble_eq_true rfl) dX6_init_49 (w1 := [(b, .inr (6, [.int (zI 0), .int (zI 0), .int (zI 0), .int (zI 0), .int (zI 0), .ref q1, .ref q2, .ref q3, .long (zL 0), .null])), (q1, .inl (cI, 4, .inl (fun k => zI ((fun _ => 0) k)))), (q2, .inl (cI, 20, .inl (fun k => zI ((fun _ => 0) k)))), (q3, .inl (cI, 20, .inl (fun k => zI ((fun _ => 0) k))))]) rfl (fun H locs hP hD hS => ?_)
  refine lv_aload_n hx hb dX6_init_52 rfl (lv_at hl 0 rfl) ?_
  refine lv_lconst (v := (zL 0)) hx hb dX6_init_53 rfl ?_
  refine r_put F hK hP hD hS 0 8 rfl rfl in_X6 tyX6 tyX6_ok nmX6 (by decide) k_338 rfl rfl rfl (Nat.le_of_ble_eq_true rfl) dX6_init_54 (w1 := [(b, .inr (6, [.int (zI 0), .int (zI 0), .int (zI 0), .int (zI 0), .int (zI 0), .ref q1, .ref q2, .ref q3, .long (zL 0), .null])), (q1, .inl (cI, 4, .inl (fun k => zI ((fun _ => 0) k)))), (q2, .inl (cI, 20, .inl (fun k => zI ((fun _ => 0) k)))), (q3, .inl (cI, 20, .inl (fun k => zI ((fun _ => 0) k))))]) rfl (fun H locs hP hD hS => ?_)
  refine lv_aload_n hx hb dX6_init_57 rfl (lv_at hl 0 rfl) ?_
  refine lv_bipush (v := zI 100) hx hb dX6_init_58 (by decide) ?_
  refine r_newa (atype := .int) (ty := .int) F rfl k_194 hK hP hD hS hA 0 rfl 100 (100, .inl (fun _ => 0)) (bw_cI 100) (by decide) (by decide) (bw_by (k := 4) rfl (by omega)) (Nat.le_of_ble_eq_true rfl) (Nat.le_of_ble_eq_true rfl) dX6_init_60 (w1 := fun q4 => [(b, .inr (6, [.int (zI 0), .int (zI 0), .int (zI 0), .int (zI 0), .int (zI 0), .ref q1, .ref q2, .ref q3, .long (zL 0), .null])), (q1, .inl (cI, 4, .inl (fun k => zI ((fun _ => 0) k)))), (q2, .inl (cI, 20, .inl (fun k => zI ((fun _ => 0) k)))), (q3, .inl (cI, 20, .inl (fun k => zI ((fun _ => 0) k)))), (q4, .inl (cI, 100, .inl (fun k => zI ((fun _ => 0) k))))]) (fun _ => rfl) (fun q4 H hP hD hS => ?_)
  refine r_putF F hK hP hD hS 0 9 rfl rfl in_X6 tyX6 tyX6_ok nmX6 (by decide) k_339 rfl hin rfl rfl rfl (Nat.le_of_ble_eq_true rfl) dX6_init_62 (w1 := [(b, .inr (6, [.int (zI 0), .int (zI 0), .int (zI 0), .int (zI 0), .int (zI 0), .ref q1, .ref q2, .ref q3, .long (zL 0), .ref q4])), (q1, .inl (cI, 4, .inl (fun k => zI ((fun _ => 0) k)))), (q2, .inl (cI, 20, .inl (fun k => zI ((fun _ => 0) k)))), (q3, .inl (cI, 20, .inl (fun k => zI ((fun _ => 0) k)))), (q4, .inl (cI, 100, .inl (fun k => zI ((fun _ => 0) k))))]) rfl (fun H locs hP hD hS => ?_)
  exact ret (fun k => [(q1 : Int), (q2 : Int), (q3 : Int), (q4 : Int)].getD k 0, fun _ _ => 0) _ _ _ _ _ _ trivial (bw_subP (isC := [0, 1, 2, 3, 4]) hP rfl) (hD.sub [0, 1, 2, 3, 4] (by decide) rfl) hS (Nat.le_of_ble_eq_true rfl) (Nat.le_of_ble_eq_true rfl) dX6_init_65
