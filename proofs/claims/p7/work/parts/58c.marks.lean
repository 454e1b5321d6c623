/-- what is kept at a mark: a program and a run of it -/
def KeptOk (a b : Nat → Int) : Prop := ∀ m : Nat, m < 4 → ProgOk (fun k => a (200 * m + k)) ∧ StOk (fun k => a (200 * m + k)) (fun k => b (159 * m + k))
theorem km_step {f g g' G : Nat → Int} {a v : Int} (h0 : 0 ≤ a ∧ 0 ≤ v) (h : ∀ k : Nat, g k = if a ≤ (k : Int) ∧ (k : Int) < a + v then f ((k : Int) - a).toNat else G k) (e : g' = uZ g (a + v).toNat (f v.toNat)) : ∀ k : Nat, g' k = if a ≤ (k : Int) ∧ (k : Int) < a + (v + 1) then f ((k : Int) - a).toNat else G k := by
  intro k
  by_cases q : k = (a + v).toNat
  · rw [uZ_at e q, if_pos (by omega), show ((k : Int) - a).toNat = v.toNat by omega]
  · rw [uZ_off e q, h k]
    by_cases z : a ≤ (k : Int) ∧ (k : Int) < a + v
    · rw [if_pos z, if_pos (by omega)]
    · rw [if_neg z, if_neg (by omega)]
theorem KeptOk.put {a b a' b' p s : Nat → Int} {m : Int} (h : KeptOk a b) (hm : 0 ≤ m ∧ m < 4) (hp : ProgOk p) (hs : StOk p s) (ea : ∀ k : Nat, a' k = if 200 * m ≤ (k : Int) ∧ (k : Int) < 200 * m + 200 then p ((k : Int) - 200 * m).toNat else a k) (eb : ∀ k : Nat, b' k = if 159 * m ≤ (k : Int) ∧ (k : Int) < 159 * m + 159 then s ((k : Int) - 159 * m).toNat else b k) : KeptOk a' b' := by
  intro j hj
  by_cases q : (j : Int) = m
  · have e1 : ∀ k, k < 200 → a' (200 * j + k) = p k := fun k hk => by rw [ea, if_pos (by omega), show (((200 * j + k : Nat) : Int) - 200 * m).toNat = k by omega]
    have e2 : ∀ k, k < 159 → b' (159 * j + k) = s k := fun k hk => by rw [eb, if_pos (by omega), show (((159 * j + k : Nat) : Int) - 159 * m).toNat = k by omega]
    exact ⟨hp.congr e1, hs.congr e1 e2⟩
  · have e1 : ∀ k, k < 200 → a' (200 * j + k) = a (200 * j + k) := fun k hk => by rw [ea, if_neg (by omega)]
    have e2 : ∀ k, k < 159 → b' (159 * j + k) = b (159 * j + k) := fun k hk => by rw [eb, if_neg (by omega)]
    exact ⟨(h j hj).1.congr e1, (h j hj).2.congr e1 e2⟩
theorem KeptOk.zero : KeptOk (fun _ => 0) (fun _ => 0) := fun m _ => ⟨ProgOk.zero (fun _ _ => rfl), StOk.begun (g := fun _ => 0) (g0 := fun _ => 0) (g1 := fun _ => 0) (g2 := fun _ => 0) (g3 := fun _ => 0) (a := 0) (b := 0) (c := 0) (d := 0) (v := 0) (fun _ _ => Int.le_refl _) (fun _ _ => rfl) (by funext k; simp [uZ]) (by funext k; simp [uZ]) (by funext k; simp [uZ]) (by funext k; simp [uZ]) (by funext k; simp [uZ]) (by omega) (by omega) (by omega) (by omega) (by omega)⟩
theorem dX9_mark_0 : decode cX9_mark 0 = .ok (.aload_n 0, 1) := by decide +kernel
theorem dX9_mark_1 : decode cX9_mark 1 = .ok (.invokevirtual 197, 3) := by decide +kernel
theorem dX9_mark_4 : decode cX9_mark 4 = .ok (.aload_n 0, 1) := by decide +kernel
theorem dX9_mark_5 : decode cX9_mark 5 = .ok (.getfield 222, 3) := by decide +kernel
theorem dX9_mark_8 : decode cX9_mark 8 = .ok (.ifCond .ne 9, 3) := by decide +kernel
theorem dX9_mark_17 : decode cX9_mark 17 = .ok (.aload_n 0, 1) := by decide +kernel
theorem dX9_mark_18 : decode cX9_mark 18 = .ok (.getfield 219, 3) := by decide +kernel
theorem k_1197 : Cond.fieldLink RX9 219 "BurntWaysModel" "marks" "I" ∈ bw_T := bw_m 1197 (by decide +kernel) rfl
theorem dX9_mark_21 : decode cX9_mark 21 = .ok (.iconst 4, 1) := by decide +kernel
theorem dX9_mark_22 : decode cX9_mark 22 = .ok (.if_icmp .ne 9, 3) := by decide +kernel
theorem dX9_mark_31 : decode cX9_mark 31 = .ok (.iconst 0, 1) := by decide +kernel
theorem dX9_mark_32 : decode cX9_mark 32 = .ok (.istore_n 1, 1) := by decide +kernel
theorem dX9_mark_33 : decode cX9_mark 33 = .ok (.iload_n 1, 1) := by decide +kernel
theorem dX9_mark_34 : decode cX9_mark 34 = .ok (.sipush 200, 3) := by decide +kernel
theorem dX9_mark_37 : decode cX9_mark 37 = .ok (.if_icmp .ge 30, 3) := by decide +kernel
theorem dX9_mark_67 : decode cX9_mark 67 = .ok (.iconst 0, 1) := by decide +kernel
theorem dX9_mark_68 : decode cX9_mark 68 = .ok (.istore_n 1, 1) := by decide +kernel
theorem dX9_mark_69 : decode cX9_mark 69 = .ok (.iload_n 1, 1) := by decide +kernel
theorem dX9_mark_70 : decode cX9_mark 70 = .ok (.sipush 159, 3) := by decide +kernel
theorem dX9_mark_73 : decode cX9_mark 73 = .ok (.if_icmp .ge 30, 3) := by decide +kernel
theorem dX9_mark_103 : decode cX9_mark 103 = .ok (.aload_n 0, 1) := by decide +kernel
theorem dX9_mark_104 : decode cX9_mark 104 = .ok (.dup, 1) := by decide +kernel
theorem dX9_mark_105 : decode cX9_mark 105 = .ok (.getfield 219, 3) := by decide +kernel
theorem dX9_mark_108 : decode cX9_mark 108 = .ok (.iconst 1, 1) := by decide +kernel
theorem dX9_mark_109 : decode cX9_mark 109 = .ok (.iadd, 1) := by decide +kernel
theorem dX9_mark_110 : decode cX9_mark 110 = .ok (.putfield 219, 3) := by decide +kernel
theorem dX9_mark_113 : decode cX9_mark 113 = .ok (.aload_n 0, 1) := by decide +kernel
theorem dX9_mark_114 : decode cX9_mark 114 = .ok (.getfield 219, 3) := by decide +kernel
theorem dX9_mark_117 : decode cX9_mark 117 = .ok (.iconst 1, 1) := by decide +kernel
theorem dX9_mark_118 : decode cX9_mark 118 = .ok (.isub, 1) := by decide +kernel
theorem dX9_mark_119 : decode cX9_mark 119 = .ok (.ireturn, 1) := by decide +kernel
theorem dX9_mark_76 : decode cX9_mark 76 = .ok (.aload_n 0, 1) := by decide +kernel
theorem dX9_mark_77 : decode cX9_mark 77 = .ok (.getfield 62, 3) := by decide +kernel
theorem k_1192 : Cond.fieldLink RX9 62 "BurntWaysModel" "keptRuns" "[I" ∈ bw_T := bw_m 1192 (by decide +kernel) rfl
theorem dX9_mark_80 : decode cX9_mark 80 = .ok (.sipush 159, 3) := by decide +kernel
theorem dX9_mark_83 : decode cX9_mark 83 = .ok (.aload_n 0, 1) := by decide +kernel
theorem dX9_mark_84 : decode cX9_mark 84 = .ok (.getfield 219, 3) := by decide +kernel
theorem dX9_mark_87 : decode cX9_mark 87 = .ok (.imul, 1) := by decide +kernel
theorem dX9_mark_88 : decode cX9_mark 88 = .ok (.iload_n 1, 1) := by decide +kernel
theorem dX9_mark_89 : decode cX9_mark 89 = .ok (.iadd, 1) := by decide +kernel
theorem dX9_mark_90 : decode cX9_mark 90 = .ok (.aload_n 0, 1) := by decide +kernel
theorem dX9_mark_91 : decode cX9_mark 91 = .ok (.getfield 53, 3) := by decide +kernel
theorem dX9_mark_94 : decode cX9_mark 94 = .ok (.iload_n 1, 1) := by decide +kernel
theorem dX9_mark_95 : decode cX9_mark 95 = .ok (.iaload, 1) := by decide +kernel
theorem dX9_mark_96 : decode cX9_mark 96 = .ok (.iastore, 1) := by decide +kernel
theorem dX9_mark_97 : decode cX9_mark 97 = .ok (.iinc 1 1, 3) := by decide +kernel
theorem dX9_mark_100 : decode cX9_mark 100 = .ok (.goto (-31), 3) := by decide +kernel
theorem dX9_mark_40 : decode cX9_mark 40 = .ok (.aload_n 0, 1) := by decide +kernel
theorem dX9_mark_41 : decode cX9_mark 41 = .ok (.getfield 32, 3) := by decide +kernel
theorem k_1182 : Cond.fieldLink RX9 32 "BurntWaysModel" "kept" "[I" ∈ bw_T := bw_m 1182 (by decide +kernel) rfl
theorem dX9_mark_44 : decode cX9_mark 44 = .ok (.sipush 200, 3) := by decide +kernel
theorem dX9_mark_47 : decode cX9_mark 47 = .ok (.aload_n 0, 1) := by decide +kernel
theorem dX9_mark_48 : decode cX9_mark 48 = .ok (.getfield 219, 3) := by decide +kernel
theorem dX9_mark_51 : decode cX9_mark 51 = .ok (.imul, 1) := by decide +kernel
theorem dX9_mark_52 : decode cX9_mark 52 = .ok (.iload_n 1, 1) := by decide +kernel
theorem dX9_mark_53 : decode cX9_mark 53 = .ok (.iadd, 1) := by decide +kernel
theorem dX9_mark_54 : decode cX9_mark 54 = .ok (.aload_n 0, 1) := by decide +kernel
theorem dX9_mark_55 : decode cX9_mark 55 = .ok (.getfield 23, 3) := by decide +kernel
theorem dX9_mark_58 : decode cX9_mark 58 = .ok (.iload_n 1, 1) := by decide +kernel
theorem dX9_mark_59 : decode cX9_mark 59 = .ok (.iaload, 1) := by decide +kernel
theorem dX9_mark_60 : decode cX9_mark 60 = .ok (.iastore, 1) := by decide +kernel
theorem dX9_mark_61 : decode cX9_mark 61 = .ok (.iinc 1 1, 3) := by decide +kernel
theorem dX9_mark_64 : decode cX9_mark 64 = .ok (.goto (-31), 3) := by decide +kernel
theorem dX9_mark_25 : decode cX9_mark 25 = .ok (.aload_n 0, 1) := by decide +kernel
theorem dX9_mark_26 : decode cX9_mark 26 = .ok (.iconst 3, 1) := by decide +kernel
theorem dX9_mark_27 : decode cX9_mark 27 = .ok (.invokevirtual 200, 3) := by decide +kernel
theorem dX9_mark_30 : decode cX9_mark 30 = .ok (.ireturn, 1) := by decide +kernel
theorem dX9_mark_11 : decode cX9_mark 11 = .ok (.aload_n 0, 1) := by decide +kernel
theorem dX9_mark_12 : decode cX9_mark 12 = .ok (.iconst 1, 1) := by decide +kernel
theorem dX9_mark_13 : decode cX9_mark 13 = .ok (.invokevirtual 200, 3) := by decide +kernel
theorem dX9_mark_16 : decode cX9_mark 16 = .ok (.ireturn, 1) := by decide +kernel
theorem bk_step {f g g' : Nat → Int} {v : Int} {o : Int} (h0 : 0 ≤ v ∧ 0 ≤ o) (h : ∀ k : Nat, (k : Int) < v → g k = f (o.toNat + k)) (e : g' = uZ g v.toNat (f (o + v).toNat)) : ∀ k : Nat, (k : Int) < v + 1 → g' k = f (o.toNat + k) := by
  intro k hk
  by_cases q : k = v.toNat
  · rw [uZ_at e q, show (o + v).toNat = o.toNat + k by omega]
  · rw [uZ_off e q]; exact h k (by omega)
theorem dX9_back_0 : decode cX9_back 0 = .ok (.aload_n 0, 1) := by decide +kernel
theorem dX9_back_1 : decode cX9_back 1 = .ok (.invokevirtual 197, 3) := by decide +kernel
theorem dX9_back_4 : decode cX9_back 4 = .ok (.iload_n 1, 1) := by decide +kernel
theorem dX9_back_5 : decode cX9_back 5 = .ok (.iconst 0, 1) := by decide +kernel
theorem dX9_back_6 : decode cX9_back 6 = .ok (.aload_n 0, 1) := by decide +kernel
theorem dX9_back_7 : decode cX9_back 7 = .ok (.getfield 219, 3) := by decide +kernel
theorem dX9_back_10 : decode cX9_back 10 = .ok (.iconst 1, 1) := by decide +kernel
theorem dX9_back_11 : decode cX9_back 11 = .ok (.isub, 1) := by decide +kernel
theorem dX9_back_12 : decode cX9_back 12 = .ok (.invokestatic 146, 3) := by decide +kernel
theorem dX9_back_15 : decode cX9_back 15 = .ok (.ifCond .ne 9, 3) := by decide +kernel
theorem dX9_back_24 : decode cX9_back 24 = .ok (.iconst 0, 1) := by decide +kernel
theorem dX9_back_25 : decode cX9_back 25 = .ok (.istore_n 2, 1) := by decide +kernel
theorem dX9_back_26 : decode cX9_back 26 = .ok (.iload_n 2, 1) := by decide +kernel
theorem dX9_back_27 : decode cX9_back 27 = .ok (.sipush 200, 3) := by decide +kernel
theorem dX9_back_30 : decode cX9_back 30 = .ok (.if_icmp .ge 27, 3) := by decide +kernel
theorem dX9_back_57 : decode cX9_back 57 = .ok (.iconst 0, 1) := by decide +kernel
theorem dX9_back_58 : decode cX9_back 58 = .ok (.istore_n 2, 1) := by decide +kernel
theorem dX9_back_59 : decode cX9_back 59 = .ok (.iload_n 2, 1) := by decide +kernel
theorem dX9_back_60 : decode cX9_back 60 = .ok (.sipush 159, 3) := by decide +kernel
theorem dX9_back_63 : decode cX9_back 63 = .ok (.if_icmp .ge 27, 3) := by decide +kernel
theorem dX9_back_90 : decode cX9_back 90 = .ok (.iconst 1, 1) := by decide +kernel
theorem dX9_back_91 : decode cX9_back 91 = .ok (.ireturn, 1) := by decide +kernel
theorem dX9_back_66 : decode cX9_back 66 = .ok (.aload_n 0, 1) := by decide +kernel
theorem dX9_back_67 : decode cX9_back 67 = .ok (.getfield 53, 3) := by decide +kernel
theorem dX9_back_70 : decode cX9_back 70 = .ok (.iload_n 2, 1) := by decide +kernel
theorem dX9_back_71 : decode cX9_back 71 = .ok (.aload_n 0, 1) := by decide +kernel
theorem dX9_back_72 : decode cX9_back 72 = .ok (.getfield 62, 3) := by decide +kernel
theorem dX9_back_75 : decode cX9_back 75 = .ok (.sipush 159, 3) := by decide +kernel
theorem dX9_back_78 : decode cX9_back 78 = .ok (.iload_n 1, 1) := by decide +kernel
theorem dX9_back_79 : decode cX9_back 79 = .ok (.imul, 1) := by decide +kernel
theorem dX9_back_80 : decode cX9_back 80 = .ok (.iload_n 2, 1) := by decide +kernel
theorem dX9_back_81 : decode cX9_back 81 = .ok (.iadd, 1) := by decide +kernel
theorem dX9_back_82 : decode cX9_back 82 = .ok (.iaload, 1) := by decide +kernel
theorem dX9_back_83 : decode cX9_back 83 = .ok (.iastore, 1) := by decide +kernel
theorem dX9_back_84 : decode cX9_back 84 = .ok (.iinc 2 1, 3) := by decide +kernel
theorem dX9_back_87 : decode cX9_back 87 = .ok (.goto (-28), 3) := by decide +kernel
theorem dX9_back_33 : decode cX9_back 33 = .ok (.aload_n 0, 1) := by decide +kernel
theorem dX9_back_34 : decode cX9_back 34 = .ok (.getfield 23, 3) := by decide +kernel
theorem dX9_back_37 : decode cX9_back 37 = .ok (.iload_n 2, 1) := by decide +kernel
theorem dX9_back_38 : decode cX9_back 38 = .ok (.aload_n 0, 1) := by decide +kernel
theorem dX9_back_39 : decode cX9_back 39 = .ok (.getfield 32, 3) := by decide +kernel
theorem dX9_back_42 : decode cX9_back 42 = .ok (.sipush 200, 3) := by decide +kernel
theorem dX9_back_45 : decode cX9_back 45 = .ok (.iload_n 1, 1) := by decide +kernel
theorem dX9_back_46 : decode cX9_back 46 = .ok (.imul, 1) := by decide +kernel
theorem dX9_back_47 : decode cX9_back 47 = .ok (.iload_n 2, 1) := by decide +kernel
theorem dX9_back_48 : decode cX9_back 48 = .ok (.iadd, 1) := by decide +kernel
theorem dX9_back_49 : decode cX9_back 49 = .ok (.iaload, 1) := by decide +kernel
theorem dX9_back_50 : decode cX9_back 50 = .ok (.iastore, 1) := by decide +kernel
theorem dX9_back_51 : decode cX9_back 51 = .ok (.iinc 2 1, 3) := by decide +kernel
theorem dX9_back_54 : decode cX9_back 54 = .ok (.goto (-28), 3) := by decide +kernel
theorem dX9_back_18 : decode cX9_back 18 = .ok (.aload_n 0, 1) := by decide +kernel
theorem dX9_back_19 : decode cX9_back 19 = .ok (.iconst 1, 1) := by decide +kernel
theorem dX9_back_20 : decode cX9_back 20 = .ok (.invokevirtual 291, 3) := by decide +kernel
theorem dX9_back_23 : decode cX9_back 23 = .ok (.ireturn, 1) := by decide +kernel