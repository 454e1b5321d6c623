def netLen (j : Nat) : Nat := [10, 10, 10, 40, 40, 40, 20, 20].getD j 0
theorem NetOk.congr {n : Int} {g g' : Nat → Nat → Int} (h : NetOk n g) (e : ∀ j k, k < netLen j → g' j k = g j k) : NetOk n g' := by
  obtain ⟨h0, h1, h2, h3, h4, h5, h6, h7, h8⟩ := h
  refine ⟨h0, ?_, ?_, ?_, ?_, ?_, ?_, ?_, ?_⟩
  · intro k hk; rw [e 0 k hk]; exact h1 k hk
  · intro k hk; rw [e 1 k hk, e 0 k hk]; exact h2 k hk
  · intro k hk; rw [e 2 k hk]; exact h3 k hk
  · intro k hk; rw [e 3 k hk]; exact h4 k hk
  · intro k hk; rw [e 4 k hk, e 3 k hk]; exact h5 k hk
  · intro k hk; rw [e 5 k hk]; exact h6 k hk
  · intro k hk; rw [e 6 k hk, e 7 k hk]; exact h7 k hk
  · intro k hk; rw [e 7 k hk]; exact h8 k hk
theorem net_copied {g : Nat → Nat → Int} {f : Nat → Nat → Int} {a0 a1 a2 a3 a4 a5 a6 a7 : Nat → Int} (e0 : a0 = va_cpy (g 0) (f 0) 0 0 10) (e1 : a1 = va_cpy (g 1) (f 1) 0 0 10) (e2 : a2 = va_cpy (g 2) (f 2) 0 0 10) (e3 : a3 = va_cpy (g 3) (f 3) 0 0 40) (e4 : a4 = va_cpy (g 4) (f 4) 0 0 40) (e5 : a5 = va_cpy (g 5) (f 5) 0 0 40) (e6 : a6 = va_cpy (g 6) (f 6) 0 0 20) (e7 : a7 = va_cpy (g 7) (f 7) 0 0 20) : ∀ j k, k < netLen j → (fun k => [a0, a1, a2, a3, a4, a5, a6, a7].getD k (fun _ => 0)) j k = g j k := by
  have c : ∀ (F G : Nat → Int) (n k : Nat), k < n → va_cpy F G 0 0 n k = F k := fun F G n k hk => by simp [va_cpy, hk]
  subst e0 e1 e2 e3 e4 e5 e6 e7
  intro j k hk
  match j, hk with
  | 0, hk => exact c _ _ _ _ hk
  | 1, hk => exact c _ _ _ _ hk
  | 2, hk => exact c _ _ _ _ hk
  | 3, hk => exact c _ _ _ _ hk
  | 4, hk => exact c _ _ _ _ hk
  | 5, hk => exact c _ _ _ _ hk
  | 6, hk => exact c _ _ _ _ hk
  | 7, hk => exact c _ _ _ _ hk
  | j + 8, hk => exact absurd hk (by simp [netLen])
abbrev nSet (g : Nat → Nat → Int) (j : Nat) (f : Nat → Int) : Nat → Nat → Int := fun k => if k = j then f else g k
theorem NetOk.set7 {n : Int} {g : Nat → Nat → Int} (h : NetOk n g) {f : Nat → Int} {i v : Int} (e : f = uZ (g 7) i.toNat v) (hv : 0 ≤ v ∧ v ≤ 9 ∧ (0 < v → 0 ≤ g 6 i.toNat)) : NetOk n (nSet g 7 f) := by
  obtain ⟨h0, h1, h2, h3, h4, h5, h6, h7, h8⟩ := h
  subst e
  refine ⟨h0, h1, h2, h3, h4, h5, h6, ?_, ?_⟩
  · intro k hk
    have z := h7 k hk
    show -2 ≤ g 6 k ∧ g 6 k ≤ 9 ∧ (0 < uZ (g 7) i.toNat v k → 0 ≤ g 6 k)
    by_cases e : k = i.toNat
    · subst e; simp only [uZ, if_true]; exact ⟨z.1, z.2.1, hv.2.2⟩
    · simp only [uZ, if_neg e]; exact z
  · exact uZ_all (P := fun _ y => 0 ≤ y ∧ y ≤ 9) h8 (fun _ => ⟨hv.1, hv.2.1⟩)
theorem NetOk.set6 {n : Int} {g : Nat → Nat → Int} (h : NetOk n g) {f : Nat → Int} {i v : Int} (e : f = uZ (g 6) i.toNat v) (hv : -2 ≤ v ∧ v ≤ 9 ∧ (0 < g 7 i.toNat → 0 ≤ v)) : NetOk n (nSet g 6 f) := by
  obtain ⟨h0, h1, h2, h3, h4, h5, h6, h7, h8⟩ := h
  subst e
  refine ⟨h0, h1, h2, h3, h4, h5, h6, ?_, h8⟩
  intro k hk
  have z := h7 k hk
  show -2 ≤ uZ (g 6) i.toNat v k ∧ uZ (g 6) i.toNat v k ≤ 9 ∧ (0 < g 7 k → 0 ≤ uZ (g 6) i.toNat v k)
  by_cases e : k = i.toNat
  · subst e; simp only [uZ, if_true]; exact hv
  · simp only [uZ, if_neg e]; exact z
theorem NetOk.set4 {n : Int} {g : Nat → Nat → Int} (h : NetOk n g) {f : Nat → Int} {i v : Int} (e : f = uZ (g 4) i.toNat v) (hv : 0 ≤ v ∧ v ≤ 9 ∧ (g 3 i.toNat ≠ 3 → v ≤ 3)) : NetOk n (nSet g 4 f) := by
  obtain ⟨h0, h1, h2, h3, h4, h5, h6, h7, h8⟩ := h
  subst e
  refine ⟨h0, h1, h2, h3, h4, ?_, h6, h7, h8⟩
  intro k hk
  have z := h5 k hk
  show 0 ≤ uZ (g 4) i.toNat v k ∧ uZ (g 4) i.toNat v k ≤ 9 ∧ (g 3 k ≠ 3 → uZ (g 4) i.toNat v k ≤ 3)
  by_cases e : k = i.toNat
  · subst e; simp only [uZ, if_true]; exact hv
  · simp only [uZ, if_neg e]; exact z
theorem dX2_copyFrom_0 : decode cX2_copyFrom 0 = .ok (.aload_n 0, 1) := bo_42 (by decide +kernel)
theorem dX2_copyFrom_1 : decode cX2_copyFrom 1 = .ok (.aload_n 1, 1) := bo_43 (by decide +kernel)
theorem dX2_copyFrom_2 : decode cX2_copyFrom 2 = .ok (.getfield 9, 3) := bo_180 0 9 (by decide +kernel)
theorem dX2_copyFrom_5 : decode cX2_copyFrom 5 = .ok (.putfield 9, 3) := bo_181 0 9 (by decide +kernel)
theorem dX2_copyFrom_8 : decode cX2_copyFrom 8 = .ok (.aload_n 1, 1) := bo_43 (by decide +kernel)
theorem dX2_copyFrom_9 : decode cX2_copyFrom 9 = .ok (.getfield 15, 3) := bo_180 0 15 (by decide +kernel)
theorem dX2_copyFrom_12 : decode cX2_copyFrom 12 = .ok (.iconst 0, 1) := bo_3 (by decide +kernel)
theorem dX2_copyFrom_13 : decode cX2_copyFrom 13 = .ok (.aload_n 0, 1) := bo_42 (by decide +kernel)
theorem dX2_copyFrom_14 : decode cX2_copyFrom 14 = .ok (.getfield 15, 3) := bo_180 0 15 (by decide +kernel)
theorem dX2_copyFrom_17 : decode cX2_copyFrom 17 = .ok (.iconst 0, 1) := bo_3 (by decide +kernel)
theorem dX2_copyFrom_18 : decode cX2_copyFrom 18 = .ok (.bipush 10, 2) := bo_16 10 (by decide +kernel)
theorem dX2_copyFrom_20 : decode cX2_copyFrom 20 = .ok (.invokestatic 47, 3) := bo_184 0 47 (by decide +kernel)
theorem k_639 : Cond.methodLink RX2 47 arraycopyName ∈ bw_T := bw_m 639 (by decide +kernel) rfl
theorem k_641 : Cond.native arraycopyName ∈ bw_T := bw_m 641 (by decide +kernel) rfl
theorem k_640 : Cond.static arraycopyName ∈ bw_T := bw_m 640 (by decide +kernel) rfl
theorem k_108 : Cond.initialized "java/lang/System" ∈ bw_T := bw_m 108 (by decide +kernel) rfl
theorem dX2_copyFrom_23 : decode cX2_copyFrom 23 = .ok (.aload_n 1, 1) := bo_43 (by decide +kernel)
theorem dX2_copyFrom_24 : decode cX2_copyFrom 24 = .ok (.getfield 19, 3) := bo_180 0 19 (by decide +kernel)
theorem dX2_copyFrom_27 : decode cX2_copyFrom 27 = .ok (.iconst 0, 1) := bo_3 (by decide +kernel)
theorem dX2_copyFrom_28 : decode cX2_copyFrom 28 = .ok (.aload_n 0, 1) := bo_42 (by decide +kernel)
theorem dX2_copyFrom_29 : decode cX2_copyFrom 29 = .ok (.getfield 19, 3) := bo_180 0 19 (by decide +kernel)
theorem dX2_copyFrom_32 : decode cX2_copyFrom 32 = .ok (.iconst 0, 1) := bo_3 (by decide +kernel)
theorem dX2_copyFrom_33 : decode cX2_copyFrom 33 = .ok (.bipush 10, 2) := bo_16 10 (by decide +kernel)
theorem dX2_copyFrom_35 : decode cX2_copyFrom 35 = .ok (.invokestatic 47, 3) := bo_184 0 47 (by decide +kernel)
theorem dX2_copyFrom_38 : decode cX2_copyFrom 38 = .ok (.aload_n 1, 1) := bo_43 (by decide +kernel)
theorem dX2_copyFrom_39 : decode cX2_copyFrom 39 = .ok (.getfield 22, 3) := bo_180 0 22 (by decide +kernel)
theorem dX2_copyFrom_42 : decode cX2_copyFrom 42 = .ok (.iconst 0, 1) := bo_3 (by decide +kernel)
theorem dX2_copyFrom_43 : decode cX2_copyFrom 43 = .ok (.aload_n 0, 1) := bo_42 (by decide +kernel)
theorem dX2_copyFrom_44 : decode cX2_copyFrom 44 = .ok (.getfield 22, 3) := bo_180 0 22 (by decide +kernel)
theorem dX2_copyFrom_47 : decode cX2_copyFrom 47 = .ok (.iconst 0, 1) := bo_3 (by decide +kernel)
theorem dX2_copyFrom_48 : decode cX2_copyFrom 48 = .ok (.bipush 10, 2) := bo_16 10 (by decide +kernel)
theorem dX2_copyFrom_50 : decode cX2_copyFrom 50 = .ok (.invokestatic 47, 3) := bo_184 0 47 (by decide +kernel)
theorem dX2_copyFrom_53 : decode cX2_copyFrom 53 = .ok (.aload_n 1, 1) := bo_43 (by decide +kernel)
theorem dX2_copyFrom_54 : decode cX2_copyFrom 54 = .ok (.getfield 25, 3) := bo_180 0 25 (by decide +kernel)
theorem dX2_copyFrom_57 : decode cX2_copyFrom 57 = .ok (.iconst 0, 1) := bo_3 (by decide +kernel)
theorem dX2_copyFrom_58 : decode cX2_copyFrom 58 = .ok (.aload_n 0, 1) := bo_42 (by decide +kernel)
theorem dX2_copyFrom_59 : decode cX2_copyFrom 59 = .ok (.getfield 25, 3) := bo_180 0 25 (by decide +kernel)
theorem dX2_copyFrom_62 : decode cX2_copyFrom 62 = .ok (.iconst 0, 1) := bo_3 (by decide +kernel)
theorem dX2_copyFrom_63 : decode cX2_copyFrom 63 = .ok (.bipush 40, 2) := bo_16 40 (by decide +kernel)
theorem dX2_copyFrom_65 : decode cX2_copyFrom 65 = .ok (.invokestatic 47, 3) := bo_184 0 47 (by decide +kernel)
theorem dX2_copyFrom_68 : decode cX2_copyFrom 68 = .ok (.aload_n 1, 1) := bo_43 (by decide +kernel)
theorem dX2_copyFrom_69 : decode cX2_copyFrom 69 = .ok (.getfield 28, 3) := bo_180 0 28 (by decide +kernel)
theorem dX2_copyFrom_72 : decode cX2_copyFrom 72 = .ok (.iconst 0, 1) := bo_3 (by decide +kernel)
theorem dX2_copyFrom_73 : decode cX2_copyFrom 73 = .ok (.aload_n 0, 1) := bo_42 (by decide +kernel)
theorem dX2_copyFrom_74 : decode cX2_copyFrom 74 = .ok (.getfield 28, 3) := bo_180 0 28 (by decide +kernel)
theorem dX2_copyFrom_77 : decode cX2_copyFrom 77 = .ok (.iconst 0, 1) := bo_3 (by decide +kernel)
theorem dX2_copyFrom_78 : decode cX2_copyFrom 78 = .ok (.bipush 40, 2) := bo_16 40 (by decide +kernel)
theorem dX2_copyFrom_80 : decode cX2_copyFrom 80 = .ok (.invokestatic 47, 3) := bo_184 0 47 (by decide +kernel)
theorem dX2_copyFrom_83 : decode cX2_copyFrom 83 = .ok (.aload_n 1, 1) := bo_43 (by decide +kernel)
theorem dX2_copyFrom_84 : decode cX2_copyFrom 84 = .ok (.getfield 31, 3) := bo_180 0 31 (by decide +kernel)
theorem dX2_copyFrom_87 : decode cX2_copyFrom 87 = .ok (.iconst 0, 1) := bo_3 (by decide +kernel)
theorem dX2_copyFrom_88 : decode cX2_copyFrom 88 = .ok (.aload_n 0, 1) := bo_42 (by decide +kernel)
theorem dX2_copyFrom_89 : decode cX2_copyFrom 89 = .ok (.getfield 31, 3) := bo_180 0 31 (by decide +kernel)
theorem dX2_copyFrom_92 : decode cX2_copyFrom 92 = .ok (.iconst 0, 1) := bo_3 (by decide +kernel)
theorem dX2_copyFrom_93 : decode cX2_copyFrom 93 = .ok (.bipush 40, 2) := bo_16 40 (by decide +kernel)
theorem dX2_copyFrom_95 : decode cX2_copyFrom 95 = .ok (.invokestatic 47, 3) := bo_184 0 47 (by decide +kernel)
theorem dX2_copyFrom_98 : decode cX2_copyFrom 98 = .ok (.aload_n 1, 1) := bo_43 (by decide +kernel)
theorem dX2_copyFrom_99 : decode cX2_copyFrom 99 = .ok (.getfield 34, 3) := bo_180 0 34 (by decide +kernel)
theorem dX2_copyFrom_102 : decode cX2_copyFrom 102 = .ok (.iconst 0, 1) := bo_3 (by decide +kernel)
theorem dX2_copyFrom_103 : decode cX2_copyFrom 103 = .ok (.aload_n 0, 1) := bo_42 (by decide +kernel)
theorem dX2_copyFrom_104 : decode cX2_copyFrom 104 = .ok (.getfield 34, 3) := bo_180 0 34 (by decide +kernel)
theorem dX2_copyFrom_107 : decode cX2_copyFrom 107 = .ok (.iconst 0, 1) := bo_3 (by decide +kernel)
theorem dX2_copyFrom_108 : decode cX2_copyFrom 108 = .ok (.bipush 20, 2) := bo_16 20 (by decide +kernel)
theorem dX2_copyFrom_110 : decode cX2_copyFrom 110 = .ok (.invokestatic 47, 3) := bo_184 0 47 (by decide +kernel)
theorem dX2_copyFrom_113 : decode cX2_copyFrom 113 = .ok (.aload_n 1, 1) := bo_43 (by decide +kernel)
theorem dX2_copyFrom_114 : decode cX2_copyFrom 114 = .ok (.getfield 37, 3) := bo_180 0 37 (by decide +kernel)
theorem dX2_copyFrom_117 : decode cX2_copyFrom 117 = .ok (.iconst 0, 1) := bo_3 (by decide +kernel)
theorem dX2_copyFrom_118 : decode cX2_copyFrom 118 = .ok (.aload_n 0, 1) := bo_42 (by decide +kernel)
theorem dX2_copyFrom_119 : decode cX2_copyFrom 119 = .ok (.getfield 37, 3) := bo_180 0 37 (by decide +kernel)
theorem dX2_copyFrom_122 : decode cX2_copyFrom 122 = .ok (.iconst 0, 1) := bo_3 (by decide +kernel)
theorem dX2_copyFrom_123 : decode cX2_copyFrom 123 = .ok (.bipush 20, 2) := bo_16 20 (by decide +kernel)
theorem dX2_copyFrom_125 : decode cX2_copyFrom 125 = .ok (.invokestatic 47, 3) := bo_184 0 47 (by decide +kernel)
theorem dX2_copyFrom_128 : decode cX2_copyFrom 128 = .ok (.return_, 1) := bo_177 (by decide +kernel)
abbrev rm_X2_copyFrom : Room := { frames := 1, cells := 0, slots := 0, locals := 40 }
set_option maxRecDepth 100000 in
set_option maxHeartbeats 8000000 in
theorem c_X2_copyFrom {l : Launch} {E : (Nat → Prop) → State → Prop} (hO : bw_Ok E) {G : va_G} {cI cB cJ cN cW : ClassId} (b : Nat) (q : Nat → Nat) (n : Int) (g : Nat → Nat → Int) (hN : NetOk n g) (o : Nat) (qo : Nat → Nat) (no : Int) (go : Nat → Nat → Int) (hM : NetOk no go) : bw_Cv (S := zU) l yX2_copyFrom (bw_ws (Cond.code yX2_copyFrom cX2_copyFrom 2 none)) rm_X2_copyFrom E G (bw_kt cI cB cJ cN cW) [.ref b, .ref o] [(b, .inr (2, [.int (zI n), .ref (q 0), .ref (q 1), .ref (q 2), .ref (q 3), .ref (q 4), .ref (q 5), .ref (q 6), .ref (q 7)])), ((q 0), .inl (cI, 10, .inl (fun k => zI ((g 0) k)))), ((q 1), .inl (cI, 10, .inl (fun k => zI ((g 1) k)))), ((q 2), .inl (cI, 10, .inl (fun k => zI ((g 2) k)))), ((q 3), .inl (cI, 40, .inl (fun k => zI ((g 3) k)))), ((q 4), .inl (cI, 40, .inl (fun k => zI ((g 4) k)))), ((q 5), .inl (cI, 40, .inl (fun k => zI ((g 5) k)))), ((q 6), .inl (cI, 20, .inl (fun k => zI ((g 6) k)))), ((q 7), .inl (cI, 20, .inl (fun k => zI ((g 7) k)))), (o, .inr (2, [.int (zI no), .ref (qo 0), .ref (qo 1), .ref (qo 2), .ref (qo 3), .ref (qo 4), .ref (qo 5), .ref (qo 6), .ref (qo 7)])), ((qo 0), .inl (cI, 10, .inl (fun k => zI ((go 0) k)))), ((qo 1), .inl (cI, 10, .inl (fun k => zI ((go 1) k)))), ((qo 2), .inl (cI, 10, .inl (fun k => zI ((go 2) k)))), ((qo 3), .inl (cI, 40, .inl (fun k => zI ((go 3) k)))), ((qo 4), .inl (cI, 40, .inl (fun k => zI ((go 4) k)))), ((qo 5), .inl (cI, 40, .inl (fun k => zI ((go 5) k)))), ((qo 6), .inl (cI, 20, .inl (fun k => zI ((go 6) k)))), ((qo 7), .inl (cI, 20, .inl (fun k => zI ((go 7) k))))] (fun u => ∀ j k, k < netLen j → u.2 j k = go j k) (fun u => [(b, .inr (2, [.int (zI no), .ref (q 0), .ref (q 1), .ref (q 2), .ref (q 3), .ref (q 4), .ref (q 5), .ref (q 6), .ref (q 7)])), ((q 0), .inl (cI, 10, .inl (fun k => zI ((u.2 0) k)))), ((q 1), .inl (cI, 10, .inl (fun k => zI ((u.2 1) k)))), ((q 2), .inl (cI, 10, .inl (fun k => zI ((u.2 2) k)))), ((q 3), .inl (cI, 40, .inl (fun k => zI ((u.2 3) k)))), ((q 4), .inl (cI, 40, .inl (fun k => zI ((u.2 4) k)))), ((q 5), .inl (cI, 40, .inl (fun k => zI ((u.2 5) k)))), ((q 6), .inl (cI, 20, .inl (fun k => zI ((u.2 6) k)))), ((q 7), .inl (cI, 20, .inl (fun k => zI ((u.2 7) k)))), (o, .inr (2, [.int (zI no), .ref (qo 0), .ref (qo 1), .ref (qo 2), .ref (qo 3), .ref (qo 4), .ref (qo 5), .ref (qo 6), .ref (qo 7)])), ((qo 0), .inl (cI, 10, .inl (fun k => zI ((go 0) k)))), ((qo 1), .inl (cI, 10, .inl (fun k => zI ((go 1) k)))), ((qo 2), .inl (cI, 10, .inl (fun k => zI ((go 2) k)))), ((qo 3), .inl (cI, 40, .inl (fun k => zI ((go 3) k)))), ((qo 4), .inl (cI, 40, .inl (fun k => zI ((go 4) k)))), ((qo 5), .inl (cI, 40, .inl (fun k => zI ((go 5) k)))), ((qo 6), .inl (cI, 20, .inl (fun k => zI ((go 6) k)))), ((qo 7), .inl (cI, 20, .inl (fun k => zI ((go 7) k))))]) := by
  refine bw_Cv.of (cc := cX2_copyFrom) (maxL := 2) (by decide) rfl (Nat.le_of_ble_eq_true rfl) ?_
  intro p e s m below meth c A Q hx hb hml hts hown hin hK hA hS hP hD hE ret ls hl
  have F : CallFix p m c cX2_copyFrom 2 s ([.ref b, .ref o] : List Value).toArray bw_T RX2 := ⟨hx, hb, hml, hown, fun w h => hts w (List.mem_cons_of_mem _ h)⟩
  replace hl : lv_has ls 2 [(0, .ref b), (1, .ref o)] := hl
  have hN0 := hN.1
  have hM0 := hM.1
  refine lv_aload_n hx hb dX2_copyFrom_0 rfl (lv_at hl 0 rfl) ?_
  refine lv_aload_n hx hb dX2_copyFrom_1 rfl (lv_at hl 1 rfl) ?_
  refine r_get F hK hP 9 0 rfl rfl in_X2 (by decide) k_144 rfl dX2_copyFrom_2 ?_
  refine r_put F hK hP hD hS 0 0 rfl rfl in_X2 tyX2 tyX2_ok nmX2 (by decide) k_144 rfl rfl rfl (Nat.le_of_ble_eq_true rfl) dX2_copyFrom_5 (w1 := [(b, .inr (2, [.int (zI no), .ref (q 0), .ref (q 1), .ref (q 2), .ref (q 3), .ref (q 4), .ref (q 5), .ref (q 6), .ref (q 7)])), ((q 0), .inl (cI, 10, .inl (fun k => zI ((g 0) k)))), ((q 1), .inl (cI, 10, .inl (fun k => zI ((g 1) k)))), ((q 2), .inl (cI, 10, .inl (fun k => zI ((g 2) k)))), ((q 3), .inl (cI, 40, .inl (fun k => zI ((g 3) k)))), ((q 4), .inl (cI, 40, .inl (fun k => zI ((g 4) k)))), ((q 5), .inl (cI, 40, .inl (fun k => zI ((g 5) k)))), ((q 6), .inl (cI, 20, .inl (fun k => zI ((g 6) k)))), ((q 7), .inl (cI, 20, .inl (fun k => zI ((g 7) k)))), (o, .inr (2, [.int (zI no), .ref (qo 0), .ref (qo 1), .ref (qo 2), .ref (qo 3), .ref (qo 4), .ref (qo 5), .ref (qo 6), .ref (qo 7)])), ((qo 0), .inl (cI, 10, .inl (fun k => zI ((go 0) k)))), ((qo 1), .inl (cI, 10, .inl (fun k => zI ((go 1) k)))), ((qo 2), .inl (cI, 10, .inl (fun k => zI ((go 2) k)))), ((qo 3), .inl (cI, 40, .inl (fun k => zI ((go 3) k)))), ((qo 4), .inl (cI, 40, .inl (fun k => zI ((go 4) k)))), ((qo 5), .inl (cI, 40, .inl (fun k => zI ((go 5) k)))), ((qo 6), .inl (cI, 20, .inl (fun k => zI ((go 6) k)))), ((qo 7), .inl (cI, 20, .inl (fun k => zI ((go 7) k))))]) rfl (fun H locs hP hD hS => ?_)
  refine lv_aload_n hx hb dX2_copyFrom_8 rfl (lv_at hl 1 rfl) ?_
  refine r_get F hK hP 9 1 rfl rfl in_X2 (by decide) k_147 rfl dX2_copyFrom_9 ?_
  refine lv_iconst (v := zI 0) hx hb dX2_copyFrom_12 rfl ?_
  refine lv_aload_n hx hb dX2_copyFrom_13 rfl (lv_at hl 0 rfl) ?_
  refine r_get F hK hP 0 1 rfl rfl in_X2 (by decide) k_147 rfl dX2_copyFrom_14 ?_
  refine lv_iconst (v := zI 0) hx hb dX2_copyFrom_17 rfl ?_
  refine lv_bipush (v := zI 10) hx hb dX2_copyFrom_18 (by decide) ?_
  refine rz_copy F k_639 k_641 k_640 k_108 hK hP hD hS 10 1 0 rfl rfl rfl (by omega) hl.1 (Nat.le_of_ble_eq_true rfl) (Nat.le_of_ble_eq_true rfl) dX2_copyFrom_20 (w1 := fun g1 => [(b, .inr (2, [.int (zI no), .ref (q 0), .ref (q 1), .ref (q 2), .ref (q 3), .ref (q 4), .ref (q 5), .ref (q 6), .ref (q 7)])), ((q 0), .inl (cI, 10, .inl (fun k => zI (g1 k)))), ((q 1), .inl (cI, 10, .inl (fun k => zI ((g 1) k)))), ((q 2), .inl (cI, 10, .inl (fun k => zI ((g 2) k)))), ((q 3), .inl (cI, 40, .inl (fun k => zI ((g 3) k)))), ((q 4), .inl (cI, 40, .inl (fun k => zI ((g 4) k)))), ((q 5), .inl (cI, 40, .inl (fun k => zI ((g 5) k)))), ((q 6), .inl (cI, 20, .inl (fun k => zI ((g 6) k)))), ((q 7), .inl (cI, 20, .inl (fun k => zI ((g 7) k)))), (o, .inr (2, [.int (zI no), .ref (qo 0), .ref (qo 1), .ref (qo 2), .ref (qo 3), .ref (qo 4), .ref (qo 5), .ref (qo 6), .ref (qo 7)])), ((qo 0), .inl (cI, 10, .inl (fun k => zI ((go 0) k)))), ((qo 1), .inl (cI, 10, .inl (fun k => zI ((go 1) k)))), ((qo 2), .inl (cI, 10, .inl (fun k => zI ((go 2) k)))), ((qo 3), .inl (cI, 40, .inl (fun k => zI ((go 3) k)))), ((qo 4), .inl (cI, 40, .inl (fun k => zI ((go 4) k)))), ((qo 5), .inl (cI, 40, .inl (fun k => zI ((go 5) k)))), ((qo 6), .inl (cI, 20, .inl (fun k => zI ((go 6) k)))), ((qo 7), .inl (cI, 20, .inl (fun k => zI ((go 7) k))))]) (fun _ => rfl) (fun g1 e_g1 H locs hP hD hS => ?_)
  refine lv_aload_n hx hb dX2_copyFrom_23 rfl (lv_at hl 1 rfl) ?_
  refine r_get F hK hP 9 2 rfl rfl in_X2 (by decide) k_150 rfl dX2_copyFrom_24 ?_
  refine lv_iconst (v := zI 0) hx hb dX2_copyFrom_27 rfl ?_
  refine lv_aload_n hx hb dX2_copyFrom_28 rfl (lv_at hl 0 rfl) ?_
  refine r_get F hK hP 0 2 rfl rfl in_X2 (by decide) k_150 rfl dX2_copyFrom_29 ?_
  refine lv_iconst (v := zI 0) hx hb dX2_copyFrom_32 rfl ?_
  refine lv_bipush (v := zI 10) hx hb dX2_copyFrom_33 (by decide) ?_
  refine rz_copy F k_639 k_641 k_640 k_108 hK hP hD hS 11 2 0 rfl rfl rfl (by omega) hl.1 (Nat.le_of_ble_eq_true rfl) (Nat.le_of_ble_eq_true rfl) dX2_copyFrom_35 (w1 := fun g2 => [(b, .inr (2, [.int (zI no), .ref (q 0), .ref (q 1), .ref (q 2), .ref (q 3), .ref (q 4), .ref (q 5), .ref (q 6), .ref (q 7)])), ((q 0), .inl (cI, 10, .inl (fun k => zI (g1 k)))), ((q 1), .inl (cI, 10, .inl (fun k => zI (g2 k)))), ((q 2), .inl (cI, 10, .inl (fun k => zI ((g 2) k)))), ((q 3), .inl (cI, 40, .inl (fun k => zI ((g 3) k)))), ((q 4), .inl (cI, 40, .inl (fun k => zI ((g 4) k)))), ((q 5), .inl (cI, 40, .inl (fun k => zI ((g 5) k)))), ((q 6), .inl (cI, 20, .inl (fun k => zI ((g 6) k)))), ((q 7), .inl (cI, 20, .inl (fun k => zI ((g 7) k)))), (o, .inr (2, [.int (zI no), .ref (qo 0), .ref (qo 1), .ref (qo 2), .ref (qo 3), .ref (qo 4), .ref (qo 5), .ref (qo 6), .ref (qo 7)])), ((qo 0), .inl (cI, 10, .inl (fun k => zI ((go 0) k)))), ((qo 1), .inl (cI, 10, .inl (fun k => zI ((go 1) k)))), ((qo 2), .inl (cI, 10, .inl (fun k => zI ((go 2) k)))), ((qo 3), .inl (cI, 40, .inl (fun k => zI ((go 3) k)))), ((qo 4), .inl (cI, 40, .inl (fun k => zI ((go 4) k)))), ((qo 5), .inl (cI, 40, .inl (fun k => zI ((go 5) k)))), ((qo 6), .inl (cI, 20, .inl (fun k => zI ((go 6) k)))), ((qo 7), .inl (cI, 20, .inl (fun k => zI ((go 7) k))))]) (fun _ => rfl) (fun g2 e_g2 H locs hP hD hS => ?_)
  refine lv_aload_n hx hb dX2_copyFrom_38 rfl (lv_at hl 1 rfl) ?_
  refine r_get F hK hP 9 3 rfl rfl in_X2 (by decide) k_153 rfl dX2_copyFrom_39 ?_
  refine lv_iconst (v := zI 0) hx hb dX2_copyFrom_42 rfl ?_
  refine lv_aload_n hx hb dX2_copyFrom_43 rfl (lv_at hl 0 rfl) ?_
  refine r_get F hK hP 0 3 rfl rfl in_X2 (by decide) k_153 rfl dX2_copyFrom_44 ?_
  refine lv_iconst (v := zI 0) hx hb dX2_copyFrom_47 rfl ?_
  refine lv_bipush (v := zI 10) hx hb dX2_copyFrom_48 (by decide) ?_
  refine rz_copy F k_639 k_641 k_640 k_108 hK hP hD hS 12 3 0 rfl rfl rfl (by omega) hl.1 (Nat.le_of_ble_eq_true rfl) (Nat.le_of_ble_eq_true rfl) dX2_copyFrom_50 (w1 := fun g3 => [(b, .inr (2, [.int (zI no), .ref (q 0), .ref (q 1), .ref (q 2), .ref (q 3), .ref (q 4), .ref (q 5), .ref (q 6), .ref (q 7)])), ((q 0), .inl (cI, 10, .inl (fun k => zI (g1 k)))), ((q 1), .inl (cI, 10, .inl (fun k => zI (g2 k)))), ((q 2), .inl (cI, 10, .inl (fun k => zI (g3 k)))), ((q 3), .inl (cI, 40, .inl (fun k => zI ((g 3) k)))), ((q 4), .inl (cI, 40, .inl (fun k => zI ((g 4) k)))), ((q 5), .inl (cI, 40, .inl (fun k => zI ((g 5) k)))), ((q 6), .inl (cI, 20, .inl (fun k => zI ((g 6) k)))), ((q 7), .inl (cI, 20, .inl (fun k => zI ((g 7) k)))), (o, .inr (2, [.int (zI no), .ref (qo 0), .ref (qo 1), .ref (qo 2), .ref (qo 3), .ref (qo 4), .ref (qo 5), .ref (qo 6), .ref (qo 7)])), ((qo 0), .inl (cI, 10, .inl (fun k => zI ((go 0) k)))), ((qo 1), .inl (cI, 10, .inl (fun k => zI ((go 1) k)))), ((qo 2), .inl (cI, 10, .inl (fun k => zI ((go 2) k)))), ((qo 3), .inl (cI, 40, .inl (fun k => zI ((go 3) k)))), ((qo 4), .inl (cI, 40, .inl (fun k => zI ((go 4) k)))), ((qo 5), .inl (cI, 40, .inl (fun k => zI ((go 5) k)))), ((qo 6), .inl (cI, 20, .inl (fun k => zI ((go 6) k)))), ((qo 7), .inl (cI, 20, .inl (fun k => zI ((go 7) k))))]) (fun _ => rfl) (fun g3 e_g3 H locs hP hD hS => ?_)
  refine lv_aload_n hx hb dX2_copyFrom_53 rfl (lv_at hl 1 rfl) ?_
  refine r_get F hK hP 9 4 rfl rfl in_X2 (by decide) k_156 rfl dX2_copyFrom_54 ?_
  refine lv_iconst (v := zI 0) hx hb dX2_copyFrom_57 rfl ?_
  refine lv_aload_n hx hb dX2_copyFrom_58 rfl (lv_at hl 0 rfl) ?_
  refine r_get F hK hP 0 4 rfl rfl in_X2 (by decide) k_156 rfl dX2_copyFrom_59 ?_
  refine lv_iconst (v := zI 0) hx hb dX2_copyFrom_62 rfl ?_
  refine lv_bipush (v := zI 40) hx hb dX2_copyFrom_63 (by decide) ?_
  refine rz_copy F k_639 k_641 k_640 k_108 hK hP hD hS 13 4 0 rfl rfl rfl (by omega) hl.1 (Nat.le_of_ble_eq_true rfl) (Nat.le_of_ble_eq_true rfl) dX2_copyFrom_65 (w1 := fun g4 => [(b, .inr (2, [.int (zI no), .ref (q 0), .ref (q 1), .ref (q 2), .ref (q 3), .ref (q 4), .ref (q 5), .ref (q 6), .ref (q 7)])), ((q 0), .inl (cI, 10, .inl (fun k => zI (g1 k)))), ((q 1), .inl (cI, 10, .inl (fun k => zI (g2 k)))), ((q 2), .inl (cI, 10, .inl (fun k => zI (g3 k)))), ((q 3), .inl (cI, 40, .inl (fun k => zI (g4 k)))), ((q 4), .inl (cI, 40, .inl (fun k => zI ((g 4) k)))), ((q 5), .inl (cI, 40, .inl (fun k => zI ((g 5) k)))), ((q 6), .inl (cI, 20, .inl (fun k => zI ((g 6) k)))), ((q 7), .inl (cI, 20, .inl (fun k => zI ((g 7) k)))), (o, .inr (2, [.int (zI no), .ref (qo 0), .ref (qo 1), .ref (qo 2), .ref (qo 3), .ref (qo 4), .ref (qo 5), .ref (qo 6), .ref (qo 7)])), ((qo 0), .inl (cI, 10, .inl (fun k => zI ((go 0) k)))), ((qo 1), .inl (cI, 10, .inl (fun k => zI ((go 1) k)))), ((qo 2), .inl (cI, 10, .inl (fun k => zI ((go 2) k)))), ((qo 3), .inl (cI, 40, .inl (fun k => zI ((go 3) k)))), ((qo 4), .inl (cI, 40, .inl (fun k => zI ((go 4) k)))), ((qo 5), .inl (cI, 40, .inl (fun k => zI ((go 5) k)))), ((qo 6), .inl (cI, 20, .inl (fun k => zI ((go 6) k)))), ((qo 7), .inl (cI, 20, .inl (fun k => zI ((go 7) k))))]) (fun _ => rfl) (fun g4 e_g4 H locs hP hD hS => ?_)
  refine lv_aload_n hx hb dX2_copyFrom_68 rfl (lv_at hl 1 rfl) ?_
  refine r_get F hK hP 9 5 rfl rfl in_X2 (by decide) k_159 rfl dX2_copyFrom_69 ?_
  refine lv_iconst (v := zI 0) hx hb dX2_copyFrom_72 rfl ?_
  refine lv_aload_n hx hb dX2_copyFrom_73 rfl (lv_at hl 0 rfl) ?_
  refine r_get F hK hP 0 5 rfl rfl in_X2 (by decide) k_159 rfl dX2_copyFrom_74 ?_
  refine lv_iconst (v := zI 0) hx hb dX2_copyFrom_77 rfl ?_
  refine lv_bipush (v := zI 40) hx hb dX2_copyFrom_78 (by decide) ?_
  refine rz_copy F k_639 k_641 k_640 k_108 hK hP hD hS 14 5 0 rfl rfl rfl (by omega) hl.1 (Nat.le_of_ble_eq_true rfl) (Nat.le_of_ble_eq_true rfl) dX2_copyFrom_80 (w1 := fun g5 => [(b, .inr (2, [.int (zI no), .ref (q 0), .ref (q 1), .ref (q 2), .ref (q 3), .ref (q 4), .ref (q 5), .ref (q 6), .ref (q 7)])), ((q 0), .inl (cI, 10, .inl (fun k => zI (g1 k)))), ((q 1), .inl (cI, 10, .inl (fun k => zI (g2 k)))), ((q 2), .inl (cI, 10, .inl (fun k => zI (g3 k)))), ((q 3), .inl (cI, 40, .inl (fun k => zI (g4 k)))), ((q 4), .inl (cI, 40, .inl (fun k => zI (g5 k)))), ((q 5), .inl (cI, 40, .inl (fun k => zI ((g 5) k)))), ((q 6), .inl (cI, 20, .inl (fun k => zI ((g 6) k)))), ((q 7), .inl (cI, 20, .inl (fun k => zI ((g 7) k)))), (o, .inr (2, [.int (zI no), .ref (qo 0), .ref (qo 1), .ref (qo 2), .ref (qo 3), .ref (qo 4), .ref (qo 5), .ref (qo 6), .ref (qo 7)])), ((qo 0), .inl (cI, 10, .inl (fun k => zI ((go 0) k)))), ((qo 1), .inl (cI, 10, .inl (fun k => zI ((go 1) k)))), ((qo 2), .inl (cI, 10, .inl (fun k => zI ((go 2) k)))), ((qo 3), .inl (cI, 40, .inl (fun k => zI ((go 3) k)))), ((qo 4), .inl (cI, 40, .inl (fun k => zI ((go 4) k)))), ((qo 5), .inl (cI, 40, .inl (fun k => zI ((go 5) k)))), ((qo 6), .inl (cI, 20, .inl (fun k => zI ((go 6) k)))), ((qo 7), .inl (cI, 20, .inl (fun k => zI ((go 7) k))))]) (fun _ => rfl) (fun g5 e_g5 H locs hP hD hS => ?_)
  refine lv_aload_n hx hb dX2_copyFrom_83 rfl (lv_at hl 1 rfl) ?_
  refine r_get F hK hP 9 6 rfl rfl in_X2 (by decide) k_162 rfl dX2_copyFrom_84 ?_
  refine lv_iconst (v := zI 0) hx hb dX2_copyFrom_87 rfl ?_
  refine lv_aload_n hx hb dX2_copyFrom_88 rfl (lv_at hl 0 rfl) ?_
  refine r_get F hK hP 0 6 rfl rfl in_X2 (by decide) k_162 rfl dX2_copyFrom_89 ?_
  refine lv_iconst (v := zI 0) hx hb dX2_copyFrom_92 rfl ?_
  refine lv_bipush (v := zI 40) hx hb dX2_copyFrom_93 (by decide) ?_
  refine rz_copy F k_639 k_641 k_640 k_108 hK hP hD hS 15 6 0 rfl rfl rfl (by omega) hl.1 (Nat.le_of_ble_eq_true rfl) (Nat.le_of_ble_eq_true rfl) dX2_copyFrom_95 (w1 := fun g6 => [(b, .inr (2, [.int (zI no), .ref (q 0), .ref (q 1), .ref (q 2), .ref (q 3), .ref (q 4), .ref (q 5), .ref (q 6), .ref (q 7)])), ((q 0), .inl (cI, 10, .inl (fun k => zI (g1 k)))), ((q 1), .inl (cI, 10, .inl (fun k => zI (g2 k)))), ((q 2), .inl (cI, 10, .inl (fun k => zI (g3 k)))), ((q 3), .inl (cI, 40, .inl (fun k => zI (g4 k)))), ((q 4), .inl (cI, 40, .inl (fun k => zI (g5 k)))), ((q 5), .inl (cI, 40, .inl (fun k => zI (g6 k)))), ((q 6), .inl (cI, 20, .inl (fun k => zI ((g 6) k)))), ((q 7), .inl (cI, 20, .inl (fun k => zI ((g 7) k)))), (o, .inr (2, [.int (zI no), .ref (qo 0), .ref (qo 1), .ref (qo 2), .ref (qo 3), .ref (qo 4), .ref (qo 5), .ref (qo 6), .ref (qo 7)])), ((qo 0), .inl (cI, 10, .inl (fun k => zI ((go 0) k)))), ((qo 1), .inl (cI, 10, .inl (fun k => zI ((go 1) k)))), ((qo 2), .inl (cI, 10, .inl (fun k => zI ((go 2) k)))), ((qo 3), .inl (cI, 40, .inl (fun k => zI ((go 3) k)))), ((qo 4), .inl (cI, 40, .inl (fun k => zI ((go 4) k)))), ((qo 5), .inl (cI, 40, .inl (fun k => zI ((go 5) k)))), ((qo 6), .inl (cI, 20, .inl (fun k => zI ((go 6) k)))), ((qo 7), .inl (cI, 20, .inl (fun k => zI ((go 7) k))))]) (fun _ => rfl) (fun g6 e_g6 H locs hP hD hS => ?_)
  refine lv_aload_n hx hb dX2_copyFrom_98 rfl (lv_at hl 1 rfl) ?_
  refine r_get F hK hP 9 7 rfl rfl in_X2 (by decide) k_165 rfl dX2_copyFrom_99 ?_
  refine lv_iconst (v := zI 0) hx hb dX2_copyFrom_102 rfl ?_
  refine lv_aload_n hx hb dX2_copyFrom_103 rfl (lv_at hl 0 rfl) ?_
  refine r_get F hK hP 0 7 rfl rfl in_X2 (by decide) k_165 rfl dX2_copyFrom_104 ?_
  refine lv_iconst (v := zI 0) hx hb dX2_copyFrom_107 rfl ?_
  refine lv_bipush (v := zI 20) hx hb dX2_copyFrom_108 (by decide) ?_
  refine rz_copy F k_639 k_641 k_640 k_108 hK hP hD hS 16 7 0 rfl rfl rfl (by omega) hl.1 (Nat.le_of_ble_eq_true rfl) (Nat.le_of_ble_eq_true rfl) dX2_copyFrom_110 (w1 := fun g7 => [(b, .inr (2, [.int (zI no), .ref (q 0), .ref (q 1), .ref (q 2), .ref (q 3), .ref (q 4), .ref (q 5), .ref (q 6), .ref (q 7)])), ((q 0), .inl (cI, 10, .inl (fun k => zI (g1 k)))), ((q 1), .inl (cI, 10, .inl (fun k => zI (g2 k)))), ((q 2), .inl (cI, 10, .inl (fun k => zI (g3 k)))), ((q 3), .inl (cI, 40, .inl (fun k => zI (g4 k)))), ((q 4), .inl (cI, 40, .inl (fun k => zI (g5 k)))), ((q 5), .inl (cI, 40, .inl (fun k => zI (g6 k)))), ((q 6), .inl (cI, 20, .inl (fun k => zI (g7 k)))), ((q 7), .inl (cI, 20, .inl (fun k => zI ((g 7) k)))), (o, .inr (2, [.int (zI no), .ref (qo 0), .ref (qo 1), .ref (qo 2), .ref (qo 3), .ref (qo 4), .ref (qo 5), .ref (qo 6), .ref (qo 7)])), ((qo 0), .inl (cI, 10, .inl (fun k => zI ((go 0) k)))), ((qo 1), .inl (cI, 10, .inl (fun k => zI ((go 1) k)))), ((qo 2), .inl (cI, 10, .inl (fun k => zI ((go 2) k)))), ((qo 3), .inl (cI, 40, .inl (fun k => zI ((go 3) k)))), ((qo 4), .inl (cI, 40, .inl (fun k => zI ((go 4) k)))), ((qo 5), .inl (cI, 40, .inl (fun k => zI ((go 5) k)))), ((qo 6), .inl (cI, 20, .inl (fun k => zI ((go 6) k)))), ((qo 7), .inl (cI, 20, .inl (fun k => zI ((go 7) k))))]) (fun _ => rfl) (fun g7 e_g7 H locs hP hD hS => ?_)
  refine lv_aload_n hx hb dX2_copyFrom_113 rfl (lv_at hl 1 rfl) ?_
  refine r_get F hK hP 9 8 rfl rfl in_X2 (by decide) k_169 rfl dX2_copyFrom_114 ?_
  refine lv_iconst (v := zI 0) hx hb dX2_copyFrom_117 rfl ?_
  refine lv_aload_n hx hb dX2_copyFrom_118 rfl (lv_at hl 0 rfl) ?_
  refine r_get F hK hP 0 8 rfl rfl in_X2 (by decide) k_169 rfl dX2_copyFrom_119 ?_
  refine lv_iconst (v := zI 0) hx hb dX2_copyFrom_122 rfl ?_
  refine lv_bipush (v := zI 20) hx hb dX2_copyFrom_123 (by decide) ?_
  refine rz_copy F k_639 k_641 k_640 k_108 hK hP hD hS 17 8 0 rfl rfl rfl (by omega) hl.1 (Nat.le_of_ble_eq_true rfl) (Nat.le_of_ble_eq_true rfl) dX2_copyFrom_125 (w1 := fun g8 => [(b, .inr (2, [.int (zI no), .ref (q 0), .ref (q 1), .ref (q 2), .ref (q 3), .ref (q 4), .ref (q 5), .ref (q 6), .ref (q 7)])), ((q 0), .inl (cI, 10, .inl (fun k => zI (g1 k)))), ((q 1), .inl (cI, 10, .inl (fun k => zI (g2 k)))), ((q 2), .inl (cI, 10, .inl (fun k => zI (g3 k)))), ((q 3), .inl (cI, 40, .inl (fun k => zI (g4 k)))), ((q 4), .inl (cI, 40, .inl (fun k => zI (g5 k)))), ((q 5), .inl (cI, 40, .inl (fun k => zI (g6 k)))), ((q 6), .inl (cI, 20, .inl (fun k => zI (g7 k)))), ((q 7), .inl (cI, 20, .inl (fun k => zI (g8 k)))), (o, .inr (2, [.int (zI no), .ref (qo 0), .ref (qo 1), .ref (qo 2), .ref (qo 3), .ref (qo 4), .ref (qo 5), .ref (qo 6), .ref (qo 7)])), ((qo 0), .inl (cI, 10, .inl (fun k => zI ((go 0) k)))), ((qo 1), .inl (cI, 10, .inl (fun k => zI ((go 1) k)))), ((qo 2), .inl (cI, 10, .inl (fun k => zI ((go 2) k)))), ((qo 3), .inl (cI, 40, .inl (fun k => zI ((go 3) k)))), ((qo 4), .inl (cI, 40, .inl (fun k => zI ((go 4) k)))), ((qo 5), .inl (cI, 40, .inl (fun k => zI ((go 5) k)))), ((qo 6), .inl (cI, 20, .inl (fun k => zI ((go 6) k)))), ((qo 7), .inl (cI, 20, .inl (fun k => zI ((go 7) k))))]) (fun _ => rfl) (fun g8 e_g8 H locs hP hD hS => ?_)
  exact ret (fun _ => 0, fun k => [g1, g2, g3, g4, g5, g6, g7, g8].getD k (fun _ => 0)) _ _ _ _ _ _ (net_copied (f := g) e_g1 e_g2 e_g3 e_g4 e_g5 e_g6 e_g7 e_g8) (bw_subP (isC := [0, 1, 2, 3, 4, 5, 6, 7, 8, 9, 10, 11, 12, 13, 14, 15, 16, 17]) hP rfl) (hD.sub [0, 1, 2, 3, 4, 5, 6, 7, 8, 9, 10, 11, 12, 13, 14, 15, 16, 17] (by decide) rfl) hS (Nat.le_of_ble_eq_true rfl) (Nat.le_of_ble_eq_true rfl) dX2_copyFrom_128
theorem dX2_copyMerged_0 : decode cX2_copyMerged 0 = .ok (.aload_n 0, 1) := bo_42 (by decide +kernel)
theorem dX2_copyMerged_1 : decode cX2_copyMerged 1 = .ok (.aload_n 1, 1) := bo_43 (by decide +kernel)
theorem dX2_copyMerged_2 : decode cX2_copyMerged 2 = .ok (.invokevirtual 88, 3) := bo_182 0 88 (by decide +kernel)
theorem k_982 : Cond.methodLink RX2 88 yX2_copyFrom ∈ bw_T := bw_m 982 (by decide +kernel) rfl
theorem kv_X2_copyFrom : bw_KV RX2 yX2_copyFrom (Cond.code yX2_copyFrom cX2_copyFrom 2 none) := ⟨bw_m 636 (by decide +kernel) rfl, bw_m 637 (by decide +kernel) rfl, bw_m 96 (by decide +kernel) rfl, bw_m 638 (by decide +kernel) rfl⟩
theorem dX2_copyMerged_5 : decode cX2_copyMerged 5 = .ok (.iconst 0, 1) := bo_3 (by decide +kernel)
theorem dX2_copyMerged_6 : decode cX2_copyMerged 6 = .ok (.istore 4, 2) := bo_54 (by decide +kernel)
theorem dX2_copyMerged_8 : decode cX2_copyMerged 8 = .ok (.iload 4, 2) := bo_21 (by decide +kernel)
theorem dX2_copyMerged_10 : decode cX2_copyMerged 10 = .ok (.iconst 1, 1) := bo_4 (by decide +kernel)
theorem dX2_copyMerged_11 : decode cX2_copyMerged 11 = .ok (.if_icmp .gt 48, 3) := bo_163 0 48 (by decide +kernel)
theorem dX2_copyMerged_59 : decode cX2_copyMerged 59 = .ok (.aload_n 0, 1) := bo_42 (by decide +kernel)
theorem dX2_copyMerged_60 : decode cX2_copyMerged 60 = .ok (.iload_n 3, 1) := bo_29 (by decide +kernel)
theorem dX2_copyMerged_61 : decode cX2_copyMerged 61 = .ok (.invokevirtual 43, 3) := bo_182 0 43 (by decide +kernel)
theorem dX2_copyMerged_64 : decode cX2_copyMerged 64 = .ok (.iconst 0, 1) := bo_3 (by decide +kernel)
theorem dX2_copyMerged_65 : decode cX2_copyMerged 65 = .ok (.istore 4, 2) := bo_54 (by decide +kernel)
theorem dX2_copyMerged_67 : decode cX2_copyMerged 67 = .ok (.iload 4, 2) := bo_21 (by decide +kernel)
theorem dX2_copyMerged_69 : decode cX2_copyMerged 69 = .ok (.bipush 20, 2) := bo_16 20 (by decide +kernel)
theorem dX2_copyMerged_71 : decode cX2_copyMerged 71 = .ok (.if_icmp .ge 38, 3) := bo_162 0 38 (by decide +kernel)
theorem dX2_copyMerged_109 : decode cX2_copyMerged 109 = .ok (.iconst 0, 1) := bo_3 (by decide +kernel)
theorem dX2_copyMerged_110 : decode cX2_copyMerged 110 = .ok (.istore 4, 2) := bo_54 (by decide +kernel)
theorem dX2_copyMerged_112 : decode cX2_copyMerged 112 = .ok (.iload 4, 2) := bo_21 (by decide +kernel)
theorem dX2_copyMerged_114 : decode cX2_copyMerged 114 = .ok (.bipush 40, 2) := bo_16 40 (by decide +kernel)
theorem dX2_copyMerged_116 : decode cX2_copyMerged 116 = .ok (.if_icmp .ge 39, 3) := bo_162 0 39 (by decide +kernel)
theorem dX2_copyMerged_155 : decode cX2_copyMerged 155 = .ok (.return_, 1) := bo_177 (by decide +kernel)
theorem dX2_copyMerged_119 : decode cX2_copyMerged 119 = .ok (.aload_n 0, 1) := bo_42 (by decide +kernel)
theorem dX2_copyMerged_120 : decode cX2_copyMerged 120 = .ok (.getfield 25, 3) := bo_180 0 25 (by decide +kernel)
theorem dX2_copyMerged_123 : decode cX2_copyMerged 123 = .ok (.iload 4, 2) := bo_21 (by decide +kernel)
theorem dX2_copyMerged_125 : decode cX2_copyMerged 125 = .ok (.iaload, 1) := bo_46 (by decide +kernel)
theorem dX2_copyMerged_126 : decode cX2_copyMerged 126 = .ok (.iconst 3, 1) := bo_6 (by decide +kernel)
theorem dX2_copyMerged_127 : decode cX2_copyMerged 127 = .ok (.if_icmp .ne 22, 3) := bo_160 0 22 (by decide +kernel)
theorem dX2_copyMerged_149 : decode cX2_copyMerged 149 = .ok (.iinc 4 1, 3) := bo_132 4 1 (by decide +kernel)
theorem dX2_copyMerged_152 : decode cX2_copyMerged 152 = .ok (.goto (-40), 3) := bo_167 255 216 (by decide +kernel)
theorem dX2_copyMerged_130 : decode cX2_copyMerged 130 = .ok (.aload_n 0, 1) := bo_42 (by decide +kernel)
theorem dX2_copyMerged_131 : decode cX2_copyMerged 131 = .ok (.getfield 28, 3) := bo_180 0 28 (by decide +kernel)
theorem dX2_copyMerged_134 : decode cX2_copyMerged 134 = .ok (.iload 4, 2) := bo_21 (by decide +kernel)
theorem dX2_copyMerged_136 : decode cX2_copyMerged 136 = .ok (.iaload, 1) := bo_46 (by decide +kernel)
theorem dX2_copyMerged_137 : decode cX2_copyMerged 137 = .ok (.iload_n 3, 1) := bo_29 (by decide +kernel)
theorem dX2_copyMerged_138 : decode cX2_copyMerged 138 = .ok (.if_icmp .ne 11, 3) := bo_160 0 11 (by decide +kernel)
theorem dX2_copyMerged_141 : decode cX2_copyMerged 141 = .ok (.aload_n 0, 1) := bo_42 (by decide +kernel)
theorem dX2_copyMerged_142 : decode cX2_copyMerged 142 = .ok (.getfield 28, 3) := bo_180 0 28 (by decide +kernel)
theorem dX2_copyMerged_145 : decode cX2_copyMerged 145 = .ok (.iload 4, 2) := bo_21 (by decide +kernel)
theorem dX2_copyMerged_147 : decode cX2_copyMerged 147 = .ok (.iload_n 2, 1) := bo_28 (by decide +kernel)
theorem dX2_copyMerged_148 : decode cX2_copyMerged 148 = .ok (.iastore, 1) := bo_79 (by decide +kernel)
theorem dX2_copyMerged_74 : decode cX2_copyMerged 74 = .ok (.aload_n 0, 1) := bo_42 (by decide +kernel)
theorem dX2_copyMerged_75 : decode cX2_copyMerged 75 = .ok (.getfield 34, 3) := bo_180 0 34 (by decide +kernel)
theorem dX2_copyMerged_78 : decode cX2_copyMerged 78 = .ok (.iload 4, 2) := bo_21 (by decide +kernel)
theorem dX2_copyMerged_80 : decode cX2_copyMerged 80 = .ok (.aload_n 0, 1) := bo_42 (by decide +kernel)
theorem dX2_copyMerged_81 : decode cX2_copyMerged 81 = .ok (.getfield 34, 3) := bo_180 0 34 (by decide +kernel)
theorem dX2_copyMerged_84 : decode cX2_copyMerged 84 = .ok (.iload 4, 2) := bo_21 (by decide +kernel)
theorem dX2_copyMerged_86 : decode cX2_copyMerged 86 = .ok (.iaload, 1) := bo_46 (by decide +kernel)
theorem dX2_copyMerged_87 : decode cX2_copyMerged 87 = .ok (.iload_n 3, 1) := bo_29 (by decide +kernel)
theorem dX2_copyMerged_88 : decode cX2_copyMerged 88 = .ok (.if_icmp .ne 7, 3) := bo_160 0 7 (by decide +kernel)
theorem dX2_copyMerged_95 : decode cX2_copyMerged 95 = .ok (.aload_n 0, 1) := bo_42 (by decide +kernel)
theorem dX2_copyMerged_96 : decode cX2_copyMerged 96 = .ok (.getfield 34, 3) := bo_180 0 34 (by decide +kernel)
theorem dX2_copyMerged_99 : decode cX2_copyMerged 99 = .ok (.iload 4, 2) := bo_21 (by decide +kernel)
theorem dX2_copyMerged_101 : decode cX2_copyMerged 101 = .ok (.iaload, 1) := bo_46 (by decide +kernel)
theorem dX2_copyMerged_102 : decode cX2_copyMerged 102 = .ok (.iastore, 1) := bo_79 (by decide +kernel)
theorem dX2_copyMerged_103 : decode cX2_copyMerged 103 = .ok (.iinc 4 1, 3) := bo_132 4 1 (by decide +kernel)
theorem dX2_copyMerged_106 : decode cX2_copyMerged 106 = .ok (.goto (-39), 3) := bo_167 255 217 (by decide +kernel)
theorem dX2_copyMerged_91 : decode cX2_copyMerged 91 = .ok (.iload_n 2, 1) := bo_28 (by decide +kernel)
theorem dX2_copyMerged_92 : decode cX2_copyMerged 92 = .ok (.goto 10, 3) := bo_167 0 10 (by decide +kernel)
theorem dX2_copyMerged_14 : decode cX2_copyMerged 14 = .ok (.iconst 2, 1) := bo_5 (by decide +kernel)
theorem dX2_copyMerged_15 : decode cX2_copyMerged 15 = .ok (.iload_n 2, 1) := bo_28 (by decide +kernel)
theorem dX2_copyMerged_16 : decode cX2_copyMerged 16 = .ok (.imul, 1) := bo_104 (by decide +kernel)
theorem dX2_copyMerged_17 : decode cX2_copyMerged 17 = .ok (.iload 4, 2) := bo_21 (by decide +kernel)
theorem dX2_copyMerged_19 : decode cX2_copyMerged 19 = .ok (.iadd, 1) := bo_96 (by decide +kernel)
theorem dX2_copyMerged_20 : decode cX2_copyMerged 20 = .ok (.istore 5, 2) := bo_54 (by decide +kernel)
theorem dX2_copyMerged_22 : decode cX2_copyMerged 22 = .ok (.aload_n 0, 1) := bo_42 (by decide +kernel)
theorem dX2_copyMerged_23 : decode cX2_copyMerged 23 = .ok (.getfield 37, 3) := bo_180 0 37 (by decide +kernel)
theorem dX2_copyMerged_26 : decode cX2_copyMerged 26 = .ok (.iload 5, 2) := bo_21 (by decide +kernel)
theorem dX2_copyMerged_28 : decode cX2_copyMerged 28 = .ok (.bipush 9, 2) := bo_16 9 (by decide +kernel)
theorem dX2_copyMerged_30 : decode cX2_copyMerged 30 = .ok (.aload_n 0, 1) := bo_42 (by decide +kernel)
theorem dX2_copyMerged_31 : decode cX2_copyMerged 31 = .ok (.getfield 37, 3) := bo_180 0 37 (by decide +kernel)
theorem dX2_copyMerged_34 : decode cX2_copyMerged 34 = .ok (.iload 5, 2) := bo_21 (by decide +kernel)
theorem dX2_copyMerged_36 : decode cX2_copyMerged 36 = .ok (.iaload, 1) := bo_46 (by decide +kernel)
theorem dX2_copyMerged_37 : decode cX2_copyMerged 37 = .ok (.aload_n 0, 1) := bo_42 (by decide +kernel)
theorem dX2_copyMerged_38 : decode cX2_copyMerged 38 = .ok (.getfield 37, 3) := bo_180 0 37 (by decide +kernel)
theorem dX2_copyMerged_41 : decode cX2_copyMerged 41 = .ok (.iconst 2, 1) := bo_5 (by decide +kernel)
theorem dX2_copyMerged_42 : decode cX2_copyMerged 42 = .ok (.iload_n 3, 1) := bo_29 (by decide +kernel)
theorem dX2_copyMerged_43 : decode cX2_copyMerged 43 = .ok (.imul, 1) := bo_104 (by decide +kernel)
theorem dX2_copyMerged_44 : decode cX2_copyMerged 44 = .ok (.iload 4, 2) := bo_21 (by decide +kernel)
theorem dX2_copyMerged_46 : decode cX2_copyMerged 46 = .ok (.iadd, 1) := bo_96 (by decide +kernel)
theorem dX2_copyMerged_47 : decode cX2_copyMerged 47 = .ok (.iaload, 1) := bo_46 (by decide +kernel)
theorem dX2_copyMerged_48 : decode cX2_copyMerged 48 = .ok (.iadd, 1) := bo_96 (by decide +kernel)
theorem dX2_copyMerged_49 : decode cX2_copyMerged 49 = .ok (.invokestatic 92, 3) := bo_184 0 92 (by decide +kernel)
theorem k_983 : Cond.methodLink RX2 92 Lib.Math.min.name ∈ bw_T := bw_m 983 (by decide +kernel) rfl
theorem k_984 : Cond.static Lib.Math.min.name ∈ bw_T := bw_m 984 (by decide +kernel) rfl
theorem k_110 : Cond.initialized "java/lang/Math" ∈ bw_T := bw_m 110 (by decide +kernel) rfl
theorem k_985 : Cond.code Lib.Math.min.name Lib.Math.min.code 2 (some .int) ∈ bw_T := bw_m 985 (by decide +kernel) rfl
theorem dX2_copyMerged_52 : decode cX2_copyMerged 52 = .ok (.iastore, 1) := bo_79 (by decide +kernel)
theorem dX2_copyMerged_53 : decode cX2_copyMerged 53 = .ok (.iinc 4 1, 3) := bo_132 4 1 (by decide +kernel)
theorem dX2_copyMerged_56 : decode cX2_copyMerged 56 = .ok (.goto (-48), 3) := bo_167 255 208 (by decide +kernel)
abbrev rm_X2_copyMerged : Room := { frames := 2, cells := 0, slots := 0, locals := 61 }
set_option maxRecDepth 100000 in
set_option maxHeartbeats 8000000 in
theorem c_X2_copyMerged {l : Launch} {E : (Nat → Prop) → State → Prop} (hO : bw_Ok E) {G : va_G} {cI cB cJ cN cW : ClassId} (b : Nat) (q : Nat → Nat) (n : Int) (g : Nat → Nat → Int) (hN : NetOk n g) (o : Nat) (qo : Nat → Nat) (no : Int) (go : Nat → Nat → Int) (hM : NetOk no go) (x y : Int) (hx9 : 0 ≤ x ∧ x < 10) (hy9 : 0 ≤ y ∧ y < 10) (hq : ∀ t : Int, (t = 0 ∨ t = 1) → go 6 ((2 * x) + t).toNat = go 6 ((2 * y) + t).toNat) : bw_Cv (S := zU) l yX2_copyMerged (bw_ws (Cond.code yX2_copyMerged cX2_copyMerged 6 none)) rm_X2_copyMerged E G (bw_kt cI cB cJ cN cW) [.ref b, .ref o, .int (zI x), .int (zI y)] [(b, .inr (2, [.int (zI n), .ref (q 0), .ref (q 1), .ref (q 2), .ref (q 3), .ref (q 4), .ref (q 5), .ref (q 6), .ref (q 7)])), ((q 0), .inl (cI, 10, .inl (fun k => zI ((g 0) k)))), ((q 1), .inl (cI, 10, .inl (fun k => zI ((g 1) k)))), ((q 2), .inl (cI, 10, .inl (fun k => zI ((g 2) k)))), ((q 3), .inl (cI, 40, .inl (fun k => zI ((g 3) k)))), ((q 4), .inl (cI, 40, .inl (fun k => zI ((g 4) k)))), ((q 5), .inl (cI, 40, .inl (fun k => zI ((g 5) k)))), ((q 6), .inl (cI, 20, .inl (fun k => zI ((g 6) k)))), ((q 7), .inl (cI, 20, .inl (fun k => zI ((g 7) k)))), (o, .inr (2, [.int (zI no), .ref (qo 0), .ref (qo 1), .ref (qo 2), .ref (qo 3), .ref (qo 4), .ref (qo 5), .ref (qo 6), .ref (qo 7)])), ((qo 0), .inl (cI, 10, .inl (fun k => zI ((go 0) k)))), ((qo 1), .inl (cI, 10, .inl (fun k => zI ((go 1) k)))), ((qo 2), .inl (cI, 10, .inl (fun k => zI ((go 2) k)))), ((qo 3), .inl (cI, 40, .inl (fun k => zI ((go 3) k)))), ((qo 4), .inl (cI, 40, .inl (fun k => zI ((go 4) k)))), ((qo 5), .inl (cI, 40, .inl (fun k => zI ((go 5) k)))), ((qo 6), .inl (cI, 20, .inl (fun k => zI ((go 6) k)))), ((qo 7), .inl (cI, 20, .inl (fun k => zI ((go 7) k))))] (fun u => NetOk no u.2) (fun u => [(b, .inr (2, [.int (zI no), .ref (q 0), .ref (q 1), .ref (q 2), .ref (q 3), .ref (q 4), .ref (q 5), .ref (q 6), .ref (q 7)])), ((q 0), .inl (cI, 10, .inl (fun k => zI ((u.2 0) k)))), ((q 1), .inl (cI, 10, .inl (fun k => zI ((u.2 1) k)))), ((q 2), .inl (cI, 10, .inl (fun k => zI ((u.2 2) k)))), ((q 3), .inl (cI, 40, .inl (fun k => zI ((u.2 3) k)))), ((q 4), .inl (cI, 40, .inl (fun k => zI ((u.2 4) k)))), ((q 5), .inl (cI, 40, .inl (fun k => zI ((u.2 5) k)))), ((q 6), .inl (cI, 20, .inl (fun k => zI ((u.2 6) k)))), ((q 7), .inl (cI, 20, .inl (fun k => zI ((u.2 7) k)))), (o, .inr (2, [.int (zI no), .ref (qo 0), .ref (qo 1), .ref (qo 2), .ref (qo 3), .ref (qo 4), .ref (qo 5), .ref (qo 6), .ref (qo 7)])), ((qo 0), .inl (cI, 10, .inl (fun k => zI ((go 0) k)))), ((qo 1), .inl (cI, 10, .inl (fun k => zI ((go 1) k)))), ((qo 2), .inl (cI, 10, .inl (fun k => zI ((go 2) k)))), ((qo 3), .inl (cI, 40, .inl (fun k => zI ((go 3) k)))), ((qo 4), .inl (cI, 40, .inl (fun k => zI ((go 4) k)))), ((qo 5), .inl (cI, 40, .inl (fun k => zI ((go 5) k)))), ((qo 6), .inl (cI, 20, .inl (fun k => zI ((go 6) k)))), ((qo 7), .inl (cI, 20, .inl (fun k => zI ((go 7) k))))]) := by
  refine bw_Cv.of (cc := cX2_copyMerged) (maxL := 6) (by decide) rfl (Nat.le_of_ble_eq_true rfl) ?_
  intro p e s m below meth c A Q hx hb hml hts hown hin hK hA hS hP hD hE ret ls hl
  have F : CallFix p m c cX2_copyMerged 6 s ([.ref b, .ref o, .int (zI x), .int (zI y)] : List Value).toArray bw_T RX2 := ⟨hx, hb, hml, hown, fun w h => hts w (List.mem_cons_of_mem _ h)⟩
  replace hl : lv_has ls 6 [(0, .ref b), (1, .ref o), (2, .int (zI x)), (3, .int (zI y))] := hl
  have hN0 := hN.1
  have hM0 := hM.1
  refine lv_aload_n hx hb dX2_copyMerged_0 rfl (lv_at hl 0 rfl) ?_
  refine lv_aload_n hx hb dX2_copyMerged_1 rfl (lv_at hl 1 rfl) ?_
  refine r_callVv (As := [.ref o]) (rest := []) (wr := []) F hK hP hD hS hA hO hE (c_X2_copyFrom hO b q n g hN o qo no go hM) k_982 kv_X2_copyFrom 1 rfl (by decide +kernel) ⟨Nat.le_of_ble_eq_true rfl, Nat.le_of_ble_eq_true rfl⟩ [0, 1, 2, 3, 4, 5, 6, 7, 8, 9, 10, 11, 12, 13, 14, 15, 16, 17] [] rfl rfl (by decide) (by decide) (by decide) 0 2 rfl rfl rfl hl.1 rfl (Nat.le_of_ble_eq_true rfl) dX2_copyMerged_2 ⟨Nat.le_of_ble_eq_true rfl, Nat.le_of_ble_eq_true rfl⟩ (w1 := fun u1 => [(b, .inr (2, [.int (zI no), .ref (q 0), .ref (q 1), .ref (q 2), .ref (q 3), .ref (q 4), .ref (q 5), .ref (q 6), .ref (q 7)])), ((q 0), .inl (cI, 10, .inl (fun k => zI ((u1.2 0) k)))), ((q 1), .inl (cI, 10, .inl (fun k => zI ((u1.2 1) k)))), ((q 2), .inl (cI, 10, .inl (fun k => zI ((u1.2 2) k)))), ((q 3), .inl (cI, 40, .inl (fun k => zI ((u1.2 3) k)))), ((q 4), .inl (cI, 40, .inl (fun k => zI ((u1.2 4) k)))), ((q 5), .inl (cI, 40, .inl (fun k => zI ((u1.2 5) k)))), ((q 6), .inl (cI, 20, .inl (fun k => zI ((u1.2 6) k)))), ((q 7), .inl (cI, 20, .inl (fun k => zI ((u1.2 7) k)))), (o, .inr (2, [.int (zI no), .ref (qo 0), .ref (qo 1), .ref (qo 2), .ref (qo 3), .ref (qo 4), .ref (qo 5), .ref (qo 6), .ref (qo 7)])), ((qo 0), .inl (cI, 10, .inl (fun k => zI ((go 0) k)))), ((qo 1), .inl (cI, 10, .inl (fun k => zI ((go 1) k)))), ((qo 2), .inl (cI, 10, .inl (fun k => zI ((go 2) k)))), ((qo 3), .inl (cI, 40, .inl (fun k => zI ((go 3) k)))), ((qo 4), .inl (cI, 40, .inl (fun k => zI ((go 4) k)))), ((qo 5), .inl (cI, 40, .inl (fun k => zI ((go 5) k)))), ((qo 6), .inl (cI, 20, .inl (fun k => zI ((go 6) k)))), ((qo 7), .inl (cI, 20, .inl (fun k => zI ((go 7) k))))]) (fun _ => rfl) (fun  u1 H locs hp2 hP hD hS => ?_)
  have hN3 : NetOk no u1.2 := NetOk.congr hM hp2
  have hq1 : ∀ t : Int, (t = 0 ∨ t = 1) → u1.2 6 ((2 * x) + t).toNat = u1.2 6 ((2 * y) + t).toNat := fun t ht => ((hp2 6 _ (show _ < 20 by omega)).trans (hq t ht)).trans (hp2 6 _ (show _ < 20 by omega)).symm
  refine lv_iconst (v := zI 0) hx hb dX2_copyMerged_5 rfl ?_
  refine lv_istore (lv' := [(4, .int (zI 0)), (0, .ref b), (1, .ref o), (2, .int (zI x)), (3, .int (zI y))]) hx hb dX2_copyMerged_6 hl (by decide) rfl (fun ls hl => ?_)
  refine W.widen (k := 0) (n := 0) (Nat.le_of_ble_eq_true rfl) (Nat.le_of_ble_eq_true rfl) ?_
  refine (?_ : ∀ (n9_1 : Nat) (v4 : Int) (gg : Nat → Nat → Int) (H : Heap) (locs : List Loc), (0 ≤ v4 ∧ v4 ≤ 2) → (2 - v4 : Int).toNat < n9_1 → (NetOk no gg) → (∀ t : Int, (t = 0 ∨ t = 1) → gg 6 ((2 * x) + t).toNat = gg 6 ((2 * y) + t).toNat) → va_P G vwCl [(b, .inr (2, [.int (zI no), .ref (q 0), .ref (q 1), .ref (q 2), .ref (q 3), .ref (q 4), .ref (q 5), .ref (q 6), .ref (q 7)])), ((q 0), .inl (cI, 10, .inl (fun k => zI ((gg 0) k)))), ((q 1), .inl (cI, 10, .inl (fun k => zI ((gg 1) k)))), ((q 2), .inl (cI, 10, .inl (fun k => zI ((gg 2) k)))), ((q 3), .inl (cI, 40, .inl (fun k => zI ((gg 3) k)))), ((q 4), .inl (cI, 40, .inl (fun k => zI ((gg 4) k)))), ((q 5), .inl (cI, 40, .inl (fun k => zI ((gg 5) k)))), ((q 6), .inl (cI, 20, .inl (fun k => zI ((gg 6) k)))), ((q 7), .inl (cI, 20, .inl (fun k => zI ((gg 7) k)))), (o, .inr (2, [.int (zI no), .ref (qo 0), .ref (qo 1), .ref (qo 2), .ref (qo 3), .ref (qo 4), .ref (qo 5), .ref (qo 6), .ref (qo 7)])), ((qo 0), .inl (cI, 10, .inl (fun k => zI ((go 0) k)))), ((qo 1), .inl (cI, 10, .inl (fun k => zI ((go 1) k)))), ((qo 2), .inl (cI, 10, .inl (fun k => zI ((go 2) k)))), ((qo 3), .inl (cI, 40, .inl (fun k => zI ((go 3) k)))), ((qo 4), .inl (cI, 40, .inl (fun k => zI ((go 4) k)))), ((qo 5), .inl (cI, 40, .inl (fun k => zI ((go 5) k)))), ((qo 6), .inl (cI, 20, .inl (fun k => zI ((go 6) k)))), ((qo 7), .inl (cI, 20, .inl (fun k => zI ((go 7) k))))] H → va_D A [(b, .inr (2, [.int (zI no), .ref (q 0), .ref (q 1), .ref (q 2), .ref (q 3), .ref (q 4), .ref (q 5), .ref (q 6), .ref (q 7)])), ((q 0), .inl (cI, 10, .inl (fun k => zI ((gg 0) k)))), ((q 1), .inl (cI, 10, .inl (fun k => zI ((gg 1) k)))), ((q 2), .inl (cI, 10, .inl (fun k => zI ((gg 2) k)))), ((q 3), .inl (cI, 40, .inl (fun k => zI ((gg 3) k)))), ((q 4), .inl (cI, 40, .inl (fun k => zI ((gg 4) k)))), ((q 5), .inl (cI, 40, .inl (fun k => zI ((gg 5) k)))), ((q 6), .inl (cI, 20, .inl (fun k => zI ((gg 6) k)))), ((q 7), .inl (cI, 20, .inl (fun k => zI ((gg 7) k)))), (o, .inr (2, [.int (zI no), .ref (qo 0), .ref (qo 1), .ref (qo 2), .ref (qo 3), .ref (qo 4), .ref (qo 5), .ref (qo 6), .ref (qo 7)])), ((qo 0), .inl (cI, 10, .inl (fun k => zI ((go 0) k)))), ((qo 1), .inl (cI, 10, .inl (fun k => zI ((go 1) k)))), ((qo 2), .inl (cI, 10, .inl (fun k => zI ((go 2) k)))), ((qo 3), .inl (cI, 40, .inl (fun k => zI ((go 3) k)))), ((qo 4), .inl (cI, 40, .inl (fun k => zI ((go 4) k)))), ((qo 5), .inl (cI, 40, .inl (fun k => zI ((go 5) k)))), ((qo 6), .inl (cI, 20, .inl (fun k => zI ((go 6) k)))), ((qo 7), .inl (cI, 20, .inl (fun k => zI ((go 7) k))))] → va_S A s.heap H locs → ∀ ls : Array Slot, lv_has ls 6 [(4, .int (zI v4)), (0, .ref b), (1, .ref o), (2, .int (zI x)), (3, .int (zI y))] → W p l e rm_X2_copyMerged s m ([.ref b, .ref o, .int (zI x), .int (zI y)] : List Value).toArray below meth c H locs 0 0 Q (F0 m 8 ls [])) ((2 - 0 : Int).toNat + 1) 0 u1.2 _ _ (by omega) (by omega) hN3 hq1 hP hD hS ls hl
  clear hP hD hS hl ls
  intro n9_1
  induction n9_1 with
  | zero =>
    intro v4 gg H locs hI hM
    exact absurd hM (by omega)
  | succ n9_1 ih1 =>
    intro v4 gg H locs hI1 hM1 hG hq2 hP hD hS ls hl
    refine lv_iload hx hb dX2_copyMerged_8 (lv_at hl 0 rfl) ?_
    refine lv_iconst (v := zI 1) hx hb dX2_copyMerged_10 rfl ?_
    refine rz_icmp_gt (tgt := 59) F (by omega) (by omega) dX2_copyMerged_11 (by decide) (fun h11_3 => ?_) (fun h11_3 => ?_)
    · refine lv_aload_n hx hb dX2_copyMerged_59 rfl (lv_at hl 1 rfl) ?_
      refine lv_iload_n hx hb dX2_copyMerged_60 rfl (lv_at hl 4 rfl) ?_
      refine r_callVv (As := [.int (zI y)]) (rest := []) (wr := [(o, .inr (2, [.int (zI no), .ref (qo 0), .ref (qo 1), .ref (qo 2), .ref (qo 3), .ref (qo 4), .ref (qo 5), .ref (qo 6), .ref (qo 7)])), ((qo 0), .inl (cI, 10, .inl (fun k => zI ((go 0) k)))), ((qo 1), .inl (cI, 10, .inl (fun k => zI ((go 1) k)))), ((qo 2), .inl (cI, 10, .inl (fun k => zI ((go 2) k)))), ((qo 3), .inl (cI, 40, .inl (fun k => zI ((go 3) k)))), ((qo 4), .inl (cI, 40, .inl (fun k => zI ((go 4) k)))), ((qo 5), .inl (cI, 40, .inl (fun k => zI ((go 5) k)))), ((qo 6), .inl (cI, 20, .inl (fun k => zI ((go 6) k)))), ((qo 7), .inl (cI, 20, .inl (fun k => zI ((go 7) k))))]) F hK hP hD hS hA hO hE (c_X2_untell hO b q no gg hG y (by omega)) k_140 kv_X2_untell 1 rfl (by decide +kernel) ⟨Nat.le_of_ble_eq_true rfl, Nat.le_of_ble_eq_true rfl⟩ [0, 1, 2, 3, 4, 5, 6, 7, 8] [9, 10, 11, 12, 13, 14, 15, 16, 17] rfl rfl (by decide) (by decide) (by decide) 0 2 rfl rfl rfl hl.1 rfl (Nat.le_of_ble_eq_true rfl) dX2_copyMerged_61 ⟨Nat.le_of_ble_eq_true rfl, Nat.le_of_ble_eq_true rfl⟩ (w1 := fun u5 => [(o, .inr (2, [.int (zI no), .ref (qo 0), .ref (qo 1), .ref (qo 2), .ref (qo 3), .ref (qo 4), .ref (qo 5), .ref (qo 6), .ref (qo 7)])), ((qo 0), .inl (cI, 10, .inl (fun k => zI ((go 0) k)))), ((qo 1), .inl (cI, 10, .inl (fun k => zI ((go 1) k)))), ((qo 2), .inl (cI, 10, .inl (fun k => zI ((go 2) k)))), ((qo 3), .inl (cI, 40, .inl (fun k => zI ((go 3) k)))), ((qo 4), .inl (cI, 40, .inl (fun k => zI ((go 4) k)))), ((qo 5), .inl (cI, 40, .inl (fun k => zI ((go 5) k)))), ((qo 6), .inl (cI, 20, .inl (fun k => zI ((go 6) k)))), ((qo 7), .inl (cI, 20, .inl (fun k => zI ((go 7) k)))), (b, .inr (2, [.int (zI no), .ref (q 0), .ref (q 1), .ref (q 2), .ref (q 3), .ref (q 4), .ref (q 5), .ref (q 6), .ref (q 7)])), ((q 0), .inl (cI, 10, .inl (fun k => zI ((u5.2 0) k)))), ((q 1), .inl (cI, 10, .inl (fun k => zI ((u5.2 1) k)))), ((q 2), .inl (cI, 10, .inl (fun k => zI ((u5.2 2) k)))), ((q 3), .inl (cI, 40, .inl (fun k => zI ((u5.2 3) k)))), ((q 4), .inl (cI, 40, .inl (fun k => zI ((u5.2 4) k)))), ((q 5), .inl (cI, 40, .inl (fun k => zI ((u5.2 5) k)))), ((q 6), .inl (cI, 20, .inl (fun k => zI ((u5.2 6) k)))), ((q 7), .inl (cI, 20, .inl (fun k => zI ((u5.2 7) k))))]) (fun _ => rfl) (fun  u5 H locs hp6 hP hD hS => ?_)
      refine lv_iconst (v := zI 0) hx hb dX2_copyMerged_64 rfl ?_
      refine lv_istore (lv' := [(4, .int (zI 0)), (0, .ref b), (1, .ref o), (2, .int (zI x)), (3, .int (zI y))]) hx hb dX2_copyMerged_65 hl (by decide) rfl (fun ls hl => ?_)
      refine W.widen (k := 0) (n := 0) (Nat.le_of_ble_eq_true rfl) (Nat.le_of_ble_eq_true rfl) ?_
      refine (?_ : ∀ (n9_2 : Nat) (v4 : Int) (gg : Nat → Nat → Int) (H : Heap) (locs : List Loc), (0 ≤ v4 ∧ v4 ≤ 20) → (20 - v4 : Int).toNat < n9_2 → (NetOk no gg) → va_P G vwCl [(o, .inr (2, [.int (zI no), .ref (qo 0), .ref (qo 1), .ref (qo 2), .ref (qo 3), .ref (qo 4), .ref (qo 5), .ref (qo 6), .ref (qo 7)])), ((qo 0), .inl (cI, 10, .inl (fun k => zI ((go 0) k)))), ((qo 1), .inl (cI, 10, .inl (fun k => zI ((go 1) k)))), ((qo 2), .inl (cI, 10, .inl (fun k => zI ((go 2) k)))), ((qo 3), .inl (cI, 40, .inl (fun k => zI ((go 3) k)))), ((qo 4), .inl (cI, 40, .inl (fun k => zI ((go 4) k)))), ((qo 5), .inl (cI, 40, .inl (fun k => zI ((go 5) k)))), ((qo 6), .inl (cI, 20, .inl (fun k => zI ((go 6) k)))), ((qo 7), .inl (cI, 20, .inl (fun k => zI ((go 7) k)))), (b, .inr (2, [.int (zI no), .ref (q 0), .ref (q 1), .ref (q 2), .ref (q 3), .ref (q 4), .ref (q 5), .ref (q 6), .ref (q 7)])), ((q 0), .inl (cI, 10, .inl (fun k => zI ((gg 0) k)))), ((q 1), .inl (cI, 10, .inl (fun k => zI ((gg 1) k)))), ((q 2), .inl (cI, 10, .inl (fun k => zI ((gg 2) k)))), ((q 3), .inl (cI, 40, .inl (fun k => zI ((gg 3) k)))), ((q 4), .inl (cI, 40, .inl (fun k => zI ((gg 4) k)))), ((q 5), .inl (cI, 40, .inl (fun k => zI ((gg 5) k)))), ((q 6), .inl (cI, 20, .inl (fun k => zI ((gg 6) k)))), ((q 7), .inl (cI, 20, .inl (fun k => zI ((gg 7) k))))] H → va_D A [(o, .inr (2, [.int (zI no), .ref (qo 0), .ref (qo 1), .ref (qo 2), .ref (qo 3), .ref (qo 4), .ref (qo 5), .ref (qo 6), .ref (qo 7)])), ((qo 0), .inl (cI, 10, .inl (fun k => zI ((go 0) k)))), ((qo 1), .inl (cI, 10, .inl (fun k => zI ((go 1) k)))), ((qo 2), .inl (cI, 10, .inl (fun k => zI ((go 2) k)))), ((qo 3), .inl (cI, 40, .inl (fun k => zI ((go 3) k)))), ((qo 4), .inl (cI, 40, .inl (fun k => zI ((go 4) k)))), ((qo 5), .inl (cI, 40, .inl (fun k => zI ((go 5) k)))), ((qo 6), .inl (cI, 20, .inl (fun k => zI ((go 6) k)))), ((qo 7), .inl (cI, 20, .inl (fun k => zI ((go 7) k)))), (b, .inr (2, [.int (zI no), .ref (q 0), .ref (q 1), .ref (q 2), .ref (q 3), .ref (q 4), .ref (q 5), .ref (q 6), .ref (q 7)])), ((q 0), .inl (cI, 10, .inl (fun k => zI ((gg 0) k)))), ((q 1), .inl (cI, 10, .inl (fun k => zI ((gg 1) k)))), ((q 2), .inl (cI, 10, .inl (fun k => zI ((gg 2) k)))), ((q 3), .inl (cI, 40, .inl (fun k => zI ((gg 3) k)))), ((q 4), .inl (cI, 40, .inl (fun k => zI ((gg 4) k)))), ((q 5), .inl (cI, 40, .inl (fun k => zI ((gg 5) k)))), ((q 6), .inl (cI, 20, .inl (fun k => zI ((gg 6) k)))), ((q 7), .inl (cI, 20, .inl (fun k => zI ((gg 7) k))))] → va_S A s.heap H locs → ∀ ls : Array Slot, lv_has ls 6 [(4, .int (zI v4)), (0, .ref b), (1, .ref o), (2, .int (zI x)), (3, .int (zI y))] → W p l e rm_X2_copyMerged s m ([.ref b, .ref o, .int (zI x), .int (zI y)] : List Value).toArray below meth c H locs 0 0 Q (F0 m 67 ls [])) ((20 - 0 : Int).toNat + 1) 0 u5.2 _ _ (by omega) (by omega) hp6 hP hD hS ls hl
      clear hP hD hS hl ls
      intro n9_2
      induction n9_2 with
      | zero =>
        intro v4 gg H locs hI hM
        exact absurd hM (by omega)
      | succ n9_2 ih2 =>
        intro v4 gg H locs hI2 hM2 hG hP hD hS ls hl
        refine lv_iload hx hb dX2_copyMerged_67 (lv_at hl 0 rfl) ?_
        refine lv_bipush (v := zI 20) hx hb dX2_copyMerged_69 (by decide) ?_
        refine rz_icmp_ge (tgt := 109) F (by omega) (by omega) dX2_copyMerged_71 (by decide) (fun h71_6 => ?_) (fun h71_6 => ?_)
        · refine lv_iconst (v := zI 0) hx hb dX2_copyMerged_109 rfl ?_
          refine lv_istore (lv' := [(4, .int (zI 0)), (0, .ref b), (1, .ref o), (2, .int (zI x)), (3, .int (zI y))]) hx hb dX2_copyMerged_110 hl (by decide) rfl (fun ls hl => ?_)
          refine W.widen (k := 0) (n := 0) (Nat.le_of_ble_eq_true rfl) (Nat.le_of_ble_eq_true rfl) ?_
          refine (?_ : ∀ (n9_3 : Nat) (v4 : Int) (gg : Nat → Nat → Int) (H : Heap) (locs : List Loc), (0 ≤ v4 ∧ v4 ≤ 40) → (40 - v4 : Int).toNat < n9_3 → (NetOk no gg) → va_P G vwCl [(o, .inr (2, [.int (zI no), .ref (qo 0), .ref (qo 1), .ref (qo 2), .ref (qo 3), .ref (qo 4), .ref (qo 5), .ref (qo 6), .ref (qo 7)])), ((qo 0), .inl (cI, 10, .inl (fun k => zI ((go 0) k)))), ((qo 1), .inl (cI, 10, .inl (fun k => zI ((go 1) k)))), ((qo 2), .inl (cI, 10, .inl (fun k => zI ((go 2) k)))), ((qo 3), .inl (cI, 40, .inl (fun k => zI ((go 3) k)))), ((qo 4), .inl (cI, 40, .inl (fun k => zI ((go 4) k)))), ((qo 5), .inl (cI, 40, .inl (fun k => zI ((go 5) k)))), ((qo 6), .inl (cI, 20, .inl (fun k => zI ((go 6) k)))), ((qo 7), .inl (cI, 20, .inl (fun k => zI ((go 7) k)))), (b, .inr (2, [.int (zI no), .ref (q 0), .ref (q 1), .ref (q 2), .ref (q 3), .ref (q 4), .ref (q 5), .ref (q 6), .ref (q 7)])), ((q 0), .inl (cI, 10, .inl (fun k => zI ((gg 0) k)))), ((q 1), .inl (cI, 10, .inl (fun k => zI ((gg 1) k)))), ((q 2), .inl (cI, 10, .inl (fun k => zI ((gg 2) k)))), ((q 3), .inl (cI, 40, .inl (fun k => zI ((gg 3) k)))), ((q 4), .inl (cI, 40, .inl (fun k => zI ((gg 4) k)))), ((q 5), .inl (cI, 40, .inl (fun k => zI ((gg 5) k)))), ((q 6), .inl (cI, 20, .inl (fun k => zI ((gg 6) k)))), ((q 7), .inl (cI, 20, .inl (fun k => zI ((gg 7) k))))] H → va_D A [(o, .inr (2, [.int (zI no), .ref (qo 0), .ref (qo 1), .ref (qo 2), .ref (qo 3), .ref (qo 4), .ref (qo 5), .ref (qo 6), .ref (qo 7)])), ((qo 0), .inl (cI, 10, .inl (fun k => zI ((go 0) k)))), ((qo 1), .inl (cI, 10, .inl (fun k => zI ((go 1) k)))), ((qo 2), .inl (cI, 10, .inl (fun k => zI ((go 2) k)))), ((qo 3), .inl (cI, 40, .inl (fun k => zI ((go 3) k)))), ((qo 4), .inl (cI, 40, .inl (fun k => zI ((go 4) k)))), ((qo 5), .inl (cI, 40, .inl (fun k => zI ((go 5) k)))), ((qo 6), .inl (cI, 20, .inl (fun k => zI ((go 6) k)))), ((qo 7), .inl (cI, 20, .inl (fun k => zI ((go 7) k)))), (b, .inr (2, [.int (zI no), .ref (q 0), .ref (q 1), .ref (q 2), .ref (q 3), .ref (q 4), .ref (q 5), .ref (q 6), .ref (q 7)])), ((q 0), .inl (cI, 10, .inl (fun k => zI ((gg 0) k)))), ((q 1), .inl (cI, 10, .inl (fun k => zI ((gg 1) k)))), ((q 2), .inl (cI, 10, .inl (fun k => zI ((gg 2) k)))), ((q 3), .inl (cI, 40, .inl (fun k => zI ((gg 3) k)))), ((q 4), .inl (cI, 40, .inl (fun k => zI ((gg 4) k)))), ((q 5), .inl (cI, 40, .inl (fun k => zI ((gg 5) k)))), ((q 6), .inl (cI, 20, .inl (fun k => zI ((gg 6) k)))), ((q 7), .inl (cI, 20, .inl (fun k => zI ((gg 7) k))))] → va_S A s.heap H locs → ∀ ls : Array Slot, lv_has ls 6 [(4, .int (zI v4)), (0, .ref b), (1, .ref o), (2, .int (zI x)), (3, .int (zI y))] → W p l e rm_X2_copyMerged s m ([.ref b, .ref o, .int (zI x), .int (zI y)] : List Value).toArray below meth c H locs 0 0 Q (F0 m 112 ls [])) ((40 - 0 : Int).toNat + 1) 0 gg _ _ (by omega) (by omega) hG hP hD hS ls hl
          clear hP hD hS hl ls
          intro n9_3
          induction n9_3 with
          | zero =>
            intro v4 gg H locs hI hM
            exact absurd hM (by omega)
          | succ n9_3 ih3 =>
            intro v4 gg H locs hI3 hM3 hG hP hD hS ls hl
            refine lv_iload hx hb dX2_copyMerged_112 (lv_at hl 0 rfl) ?_
            refine lv_bipush (v := zI 40) hx hb dX2_copyMerged_114 (by decide) ?_
            refine rz_icmp_ge (tgt := 155) F (by omega) (by omega) dX2_copyMerged_116 (by decide) (fun h116_7 => ?_) (fun h116_7 => ?_)
            · exact ret (fun _ => 0, gg) _ _ _ _ _ _ hG (bw_subP (isC := [9, 10, 11, 12, 13, 14, 15, 16, 17, 0, 1, 2, 3, 4, 5, 6, 7, 8]) hP rfl) (hD.sub [9, 10, 11, 12, 13, 14, 15, 16, 17, 0, 1, 2, 3, 4, 5, 6, 7, 8] (by decide) rfl) hS (Nat.le_of_ble_eq_true rfl) (Nat.le_of_ble_eq_true rfl) dX2_copyMerged_155
            · refine lv_aload_n hx hb dX2_copyMerged_119 rfl (lv_at hl 1 rfl) ?_
              refine r_get F hK hP 9 4 rfl rfl in_X2 (by decide) k_156 rfl dX2_copyMerged_120 ?_
              refine lv_iload hx hb dX2_copyMerged_123 (lv_at hl 0 rfl) ?_
              refine rz_iald F hK hP 13 0 rfl rfl (by omega) (by omega) dX2_copyMerged_125 ?_
              have h_l125_8 := hG.2.2.2.2.1 (v4).toNat (by omega)
              refine lv_iconst (v := zI 3) hx hb dX2_copyMerged_126 rfl ?_
              refine rz_icmp_ne (tgt := 149) F (by omega) (by omega) dX2_copyMerged_127 (by decide) (fun h127_9 => ?_) (fun h127_9 => ?_)
              · refine lv_iinc (v := zI (v4 + 1)) (lv' := [(4, .int (zI (v4 + 1))), (0, .ref b), (1, .ref o), (2, .int (zI x)), (3, .int (zI y))]) hx hb dX2_copyMerged_149 hl (k := 0) rfl (zI_add _ _) (by decide) rfl (fun ls hl => ?_)
                refine lv_goto (tgt := 112) hx hb dX2_copyMerged_152 (by decide) ?_
                exact ih3 (v4 + 1) gg _ _ (by omega) (by omega) hG hP hD hS ls (lv_sub hl [0, 1, 2, 3, 4] rfl)
              · refine lv_aload_n hx hb dX2_copyMerged_130 rfl (lv_at hl 1 rfl) ?_
                refine r_get F hK hP 9 5 rfl rfl in_X2 (by decide) k_159 rfl dX2_copyMerged_131 ?_
                refine lv_iload hx hb dX2_copyMerged_134 (lv_at hl 0 rfl) ?_
                refine rz_iald F hK hP 14 0 rfl rfl (by omega) (by omega) dX2_copyMerged_136 ?_
                have h_l136_10 := hG.2.2.2.2.2.1 (v4).toNat (by omega)
                refine lv_iload_n hx hb dX2_copyMerged_137 rfl (lv_at hl 4 rfl) ?_
                refine rz_icmp_ne (tgt := 149) F (by omega) (by omega) dX2_copyMerged_138 (by decide) (fun h138_11 => ?_) (fun h138_11 => ?_)
                · refine lv_iinc (v := zI (v4 + 1)) (lv' := [(4, .int (zI (v4 + 1))), (0, .ref b), (1, .ref o), (2, .int (zI x)), (3, .int (zI y))]) hx hb dX2_copyMerged_149 hl (k := 0) rfl (zI_add _ _) (by decide) rfl (fun ls hl => ?_)
                  refine lv_goto (tgt := 112) hx hb dX2_copyMerged_152 (by decide) ?_
                  exact ih3 (v4 + 1) gg _ _ (by omega) (by omega) hG hP hD hS ls (lv_sub hl [0, 1, 2, 3, 4] rfl)
                · refine lv_aload_n hx hb dX2_copyMerged_141 rfl (lv_at hl 1 rfl) ?_
                  refine r_get F hK hP 9 5 rfl rfl in_X2 (by decide) k_159 rfl dX2_copyMerged_142 ?_
                  refine lv_iload hx hb dX2_copyMerged_145 (lv_at hl 0 rfl) ?_
                  refine lv_iload_n hx hb dX2_copyMerged_147 rfl (lv_at hl 3 rfl) ?_
                  refine rz_iastG F hK hP hD hS 14 0 rfl rfl (by omega) (by omega) dX2_copyMerged_148 (w1 := fun g13 => [(o, .inr (2, [.int (zI no), .ref (qo 0), .ref (qo 1), .ref (qo 2), .ref (qo 3), .ref (qo 4), .ref (qo 5), .ref (qo 6), .ref (qo 7)])), ((qo 0), .inl (cI, 10, .inl (fun k => zI ((go 0) k)))), ((qo 1), .inl (cI, 10, .inl (fun k => zI ((go 1) k)))), ((qo 2), .inl (cI, 10, .inl (fun k => zI ((go 2) k)))), ((qo 3), .inl (cI, 40, .inl (fun k => zI ((go 3) k)))), ((qo 4), .inl (cI, 40, .inl (fun k => zI ((go 4) k)))), ((qo 5), .inl (cI, 40, .inl (fun k => zI ((go 5) k)))), ((qo 6), .inl (cI, 20, .inl (fun k => zI ((go 6) k)))), ((qo 7), .inl (cI, 20, .inl (fun k => zI ((go 7) k)))), (b, .inr (2, [.int (zI no), .ref (q 0), .ref (q 1), .ref (q 2), .ref (q 3), .ref (q 4), .ref (q 5), .ref (q 6), .ref (q 7)])), ((q 0), .inl (cI, 10, .inl (fun k => zI ((gg 0) k)))), ((q 1), .inl (cI, 10, .inl (fun k => zI ((gg 1) k)))), ((q 2), .inl (cI, 10, .inl (fun k => zI ((gg 2) k)))), ((q 3), .inl (cI, 40, .inl (fun k => zI ((gg 3) k)))), ((q 4), .inl (cI, 40, .inl (fun k => zI (g13 k)))), ((q 5), .inl (cI, 40, .inl (fun k => zI ((gg 5) k)))), ((q 6), .inl (cI, 20, .inl (fun k => zI ((gg 6) k)))), ((q 7), .inl (cI, 20, .inl (fun k => zI ((gg 7) k))))]) (fun _ => rfl) (fun g13 e_g13 H locs hP hD hS => ?_)
                  have hN14 : NetOk no (nSet gg 4 g13) := NetOk.set4 hG e_g13 (by omega)
                  refine lv_iinc (v := zI (v4 + 1)) (lv' := [(4, .int (zI (v4 + 1))), (0, .ref b), (1, .ref o), (2, .int (zI x)), (3, .int (zI y))]) hx hb dX2_copyMerged_149 hl (k := 0) rfl (zI_add _ _) (by decide) rfl (fun ls hl => ?_)
                  refine lv_goto (tgt := 112) hx hb dX2_copyMerged_152 (by decide) ?_
                  exact ih3 (v4 + 1) (nSet gg 4 g13) _ _ (by omega) (by omega) hN14 hP hD hS ls (lv_sub hl [0, 1, 2, 3, 4] rfl)
        · refine lv_aload_n hx hb dX2_copyMerged_74 rfl (lv_at hl 1 rfl) ?_
          refine r_get F hK hP 9 7 rfl rfl in_X2 (by decide) k_165 rfl dX2_copyMerged_75 ?_
          refine lv_iload hx hb dX2_copyMerged_78 (lv_at hl 0 rfl) ?_
          refine lv_aload_n hx hb dX2_copyMerged_80 rfl (lv_at hl 1 rfl) ?_
          refine r_get F hK hP 9 7 rfl rfl in_X2 (by decide) k_165 rfl dX2_copyMerged_81 ?_
          refine lv_iload hx hb dX2_copyMerged_84 (lv_at hl 0 rfl) ?_
          refine rz_iald F hK hP 16 0 rfl rfl (by omega) (by omega) dX2_copyMerged_86 ?_
          have h_l86_14 := hG.2.2.2.2.2.2.2.1 (v4).toNat (by omega)
          refine lv_iload_n hx hb dX2_copyMerged_87 rfl (lv_at hl 4 rfl) ?_
          refine rz_icmp_ne (tgt := 95) F (by omega) (by omega) dX2_copyMerged_88 (by decide) (fun h88_15 => ?_) (fun h88_15 => ?_)
          · refine lv_aload_n hx hb dX2_copyMerged_95 rfl (lv_at hl 1 rfl) ?_
            refine r_get F hK hP 9 7 rfl rfl in_X2 (by decide) k_165 rfl dX2_copyMerged_96 ?_
            refine lv_iload hx hb dX2_copyMerged_99 (lv_at hl 0 rfl) ?_
            refine rz_iald F hK hP 16 0 rfl rfl (by omega) (by omega) dX2_copyMerged_101 ?_
            have h_l101_16 := hG.2.2.2.2.2.2.2.1 (v4).toNat (by omega)
            refine rz_iastG F hK hP hD hS 16 0 rfl rfl (by omega) (by omega) dX2_copyMerged_102 (w1 := fun g18 => [(o, .inr (2, [.int (zI no), .ref (qo 0), .ref (qo 1), .ref (qo 2), .ref (qo 3), .ref (qo 4), .ref (qo 5), .ref (qo 6), .ref (qo 7)])), ((qo 0), .inl (cI, 10, .inl (fun k => zI ((go 0) k)))), ((qo 1), .inl (cI, 10, .inl (fun k => zI ((go 1) k)))), ((qo 2), .inl (cI, 10, .inl (fun k => zI ((go 2) k)))), ((qo 3), .inl (cI, 40, .inl (fun k => zI ((go 3) k)))), ((qo 4), .inl (cI, 40, .inl (fun k => zI ((go 4) k)))), ((qo 5), .inl (cI, 40, .inl (fun k => zI ((go 5) k)))), ((qo 6), .inl (cI, 20, .inl (fun k => zI ((go 6) k)))), ((qo 7), .inl (cI, 20, .inl (fun k => zI ((go 7) k)))), (b, .inr (2, [.int (zI no), .ref (q 0), .ref (q 1), .ref (q 2), .ref (q 3), .ref (q 4), .ref (q 5), .ref (q 6), .ref (q 7)])), ((q 0), .inl (cI, 10, .inl (fun k => zI ((gg 0) k)))), ((q 1), .inl (cI, 10, .inl (fun k => zI ((gg 1) k)))), ((q 2), .inl (cI, 10, .inl (fun k => zI ((gg 2) k)))), ((q 3), .inl (cI, 40, .inl (fun k => zI ((gg 3) k)))), ((q 4), .inl (cI, 40, .inl (fun k => zI ((gg 4) k)))), ((q 5), .inl (cI, 40, .inl (fun k => zI ((gg 5) k)))), ((q 6), .inl (cI, 20, .inl (fun k => zI (g18 k)))), ((q 7), .inl (cI, 20, .inl (fun k => zI ((gg 7) k))))]) (fun _ => rfl) (fun g18 e_g18 H locs hP hD hS => ?_)
            have hN19 : NetOk no (nSet gg 6 g18) := NetOk.set6 hG e_g18 (by omega)
            refine lv_iinc (v := zI (v4 + 1)) (lv' := [(4, .int (zI (v4 + 1))), (0, .ref b), (1, .ref o), (2, .int (zI x)), (3, .int (zI y))]) hx hb dX2_copyMerged_103 hl (k := 0) rfl (zI_add _ _) (by decide) rfl (fun ls hl => ?_)
            refine lv_goto (tgt := 67) hx hb dX2_copyMerged_106 (by decide) ?_
            exact ih2 (v4 + 1) (nSet gg 6 g18) _ _ (by omega) (by omega) hN19 hP hD hS ls (lv_sub hl [0, 1, 2, 3, 4] rfl)
          · refine lv_iload_n hx hb dX2_copyMerged_91 rfl (lv_at hl 3 rfl) ?_
            refine lv_goto (tgt := 102) hx hb dX2_copyMerged_92 (by decide) ?_
            refine rz_iastG F hK hP hD hS 16 0 rfl rfl (by omega) (by omega) dX2_copyMerged_102 (w1 := fun g20 => [(o, .inr (2, [.int (zI no), .ref (qo 0), .ref (qo 1), .ref (qo 2), .ref (qo 3), .ref (qo 4), .ref (qo 5), .ref (qo 6), .ref (qo 7)])), ((qo 0), .inl (cI, 10, .inl (fun k => zI ((go 0) k)))), ((qo 1), .inl (cI, 10, .inl (fun k => zI ((go 1) k)))), ((qo 2), .inl (cI, 10, .inl (fun k => zI ((go 2) k)))), ((qo 3), .inl (cI, 40, .inl (fun k => zI ((go 3) k)))), ((qo 4), .inl (cI, 40, .inl (fun k => zI ((go 4) k)))), ((qo 5), .inl (cI, 40, .inl (fun k => zI ((go 5) k)))), ((qo 6), .inl (cI, 20, .inl (fun k => zI ((go 6) k)))), ((qo 7), .inl (cI, 20, .inl (fun k => zI ((go 7) k)))), (b, .inr (2, [.int (zI no), .ref (q 0), .ref (q 1), .ref (q 2), .ref (q 3), .ref (q 4), .ref (q 5), .ref (q 6), .ref (q 7)])), ((q 0), .inl (cI, 10, .inl (fun k => zI ((gg 0) k)))), ((q 1), .inl (cI, 10, .inl (fun k => zI ((gg 1) k)))), ((q 2), .inl (cI, 10, .inl (fun k => zI ((gg 2) k)))), ((q 3), .inl (cI, 40, .inl (fun k => zI ((gg 3) k)))), ((q 4), .inl (cI, 40, .inl (fun k => zI ((gg 4) k)))), ((q 5), .inl (cI, 40, .inl (fun k => zI ((gg 5) k)))), ((q 6), .inl (cI, 20, .inl (fun k => zI (g20 k)))), ((q 7), .inl (cI, 20, .inl (fun k => zI ((gg 7) k))))]) (fun _ => rfl) (fun g20 e_g20 H locs hP hD hS => ?_)
            have hN21 : NetOk no (nSet gg 6 g20) := NetOk.set6 hG e_g20 (by omega)
            refine lv_iinc (v := zI (v4 + 1)) (lv' := [(4, .int (zI (v4 + 1))), (0, .ref b), (1, .ref o), (2, .int (zI x)), (3, .int (zI y))]) hx hb dX2_copyMerged_103 hl (k := 0) rfl (zI_add _ _) (by decide) rfl (fun ls hl => ?_)
            refine lv_goto (tgt := 67) hx hb dX2_copyMerged_106 (by decide) ?_
            exact ih2 (v4 + 1) (nSet gg 6 g20) _ _ (by omega) (by omega) hN21 hP hD hS ls (lv_sub hl [0, 1, 2, 3, 4] rfl)
    · refine lv_iconst (v := zI 2) hx hb dX2_copyMerged_14 rfl ?_
      refine lv_iload_n hx hb dX2_copyMerged_15 rfl (lv_at hl 3 rfl) ?_
      refine r_imul (v := zI (2 * x)) F dX2_copyMerged_16 (zI_mul _ _) ?_
      refine lv_iload hx hb dX2_copyMerged_17 (lv_at hl 0 rfl) ?_
      refine r_iadd (v := zI ((2 * x) + v4)) F dX2_copyMerged_19 (zI_add _ _) ?_
      refine lv_istore (lv' := [(5, .int (zI ((2 * x) + v4))), (4, .int (zI v4)), (0, .ref b), (1, .ref o), (2, .int (zI x)), (3, .int (zI y))]) hx hb dX2_copyMerged_20 hl (by decide) rfl (fun ls hl => ?_)
      refine lv_aload_n hx hb dX2_copyMerged_22 rfl (lv_at hl 2 rfl) ?_
      refine r_get F hK hP 0 8 rfl rfl in_X2 (by decide) k_169 rfl dX2_copyMerged_23 ?_
      refine lv_iload hx hb dX2_copyMerged_26 (lv_at hl 0 rfl) ?_
      refine lv_bipush (v := zI 9) hx hb dX2_copyMerged_28 (by decide) ?_
      refine lv_aload_n hx hb dX2_copyMerged_30 rfl (lv_at hl 2 rfl) ?_
      refine r_get F hK hP 0 8 rfl rfl in_X2 (by decide) k_169 rfl dX2_copyMerged_31 ?_
      refine lv_iload hx hb dX2_copyMerged_34 (lv_at hl 0 rfl) ?_
      refine rz_iald F hK hP 8 0 rfl rfl (by omega) (by omega) dX2_copyMerged_36 ?_
      have h_l36_21 := hG.2.2.2.2.2.2.2.2 (((2 * x) + v4)).toNat (by omega)
      refine lv_aload_n hx hb dX2_copyMerged_37 rfl (lv_at hl 2 rfl) ?_
      refine r_get F hK hP 0 8 rfl rfl in_X2 (by decide) k_169 rfl dX2_copyMerged_38 ?_
      refine lv_iconst (v := zI 2) hx hb dX2_copyMerged_41 rfl ?_
      refine lv_iload_n hx hb dX2_copyMerged_42 rfl (lv_at hl 5 rfl) ?_
      refine r_imul (v := zI (2 * y)) F dX2_copyMerged_43 (zI_mul _ _) ?_
      refine lv_iload hx hb dX2_copyMerged_44 (lv_at hl 1 rfl) ?_
      refine r_iadd (v := zI ((2 * y) + v4)) F dX2_copyMerged_46 (zI_add _ _) ?_
      refine rz_iald F hK hP 8 0 rfl rfl (by omega) (by omega) dX2_copyMerged_47 ?_
      have h_l47_22 := hG.2.2.2.2.2.2.2.2 (((2 * y) + v4)).toNat (by omega)
      refine r_iadd (v := zI (((gg 7) (((2 * x) + v4)).toNat) + ((gg 7) (((2 * y) + v4)).toNat))) F dX2_copyMerged_48 (zI_add _ _) ?_
      refine rz_min F k_983 k_984 k_110 k_985 hl.1 (Nat.le_of_ble_eq_true rfl) (Nat.le_of_ble_eq_true rfl) (Nat.le_of_ble_eq_true rfl) (Nat.le_of_ble_eq_true rfl) (by omega) (by omega) dX2_copyMerged_49 (fun z24 h_z24 => ?_)
      refine rz_iastG F hK hP hD hS 8 0 rfl rfl (by omega) (by omega) dX2_copyMerged_52 (w1 := fun g25 => [(b, .inr (2, [.int (zI no), .ref (q 0), .ref (q 1), .ref (q 2), .ref (q 3), .ref (q 4), .ref (q 5), .ref (q 6), .ref (q 7)])), ((q 0), .inl (cI, 10, .inl (fun k => zI ((gg 0) k)))), ((q 1), .inl (cI, 10, .inl (fun k => zI ((gg 1) k)))), ((q 2), .inl (cI, 10, .inl (fun k => zI ((gg 2) k)))), ((q 3), .inl (cI, 40, .inl (fun k => zI ((gg 3) k)))), ((q 4), .inl (cI, 40, .inl (fun k => zI ((gg 4) k)))), ((q 5), .inl (cI, 40, .inl (fun k => zI ((gg 5) k)))), ((q 6), .inl (cI, 20, .inl (fun k => zI ((gg 6) k)))), ((q 7), .inl (cI, 20, .inl (fun k => zI (g25 k)))), (o, .inr (2, [.int (zI no), .ref (qo 0), .ref (qo 1), .ref (qo 2), .ref (qo 3), .ref (qo 4), .ref (qo 5), .ref (qo 6), .ref (qo 7)])), ((qo 0), .inl (cI, 10, .inl (fun k => zI ((go 0) k)))), ((qo 1), .inl (cI, 10, .inl (fun k => zI ((go 1) k)))), ((qo 2), .inl (cI, 10, .inl (fun k => zI ((go 2) k)))), ((qo 3), .inl (cI, 40, .inl (fun k => zI ((go 3) k)))), ((qo 4), .inl (cI, 40, .inl (fun k => zI ((go 4) k)))), ((qo 5), .inl (cI, 40, .inl (fun k => zI ((go 5) k)))), ((qo 6), .inl (cI, 20, .inl (fun k => zI ((go 6) k)))), ((qo 7), .inl (cI, 20, .inl (fun k => zI ((go 7) k))))]) (fun _ => rfl) (fun g25 e_g25 H locs hP hD hS => ?_)
      have hs1 := hG.2.2.2.2.2.2.2.1 (((2 * x) + v4)).toNat (show _ < 20 by omega)
      have hs2 := hG.2.2.2.2.2.2.2.1 ((2 * y) + v4).toNat (show _ < 20 by omega)
      have hs3 := hq2 v4 (by omega)
      have hN26 : NetOk no (nSet gg 7 g25) := NetOk.set7 hG e_g25 (by omega)
      refine lv_iinc (v := zI (v4 + 1)) (lv' := [(4, .int (zI (v4 + 1))), (5, .int (zI ((2 * x) + v4))), (0, .ref b), (1, .ref o), (2, .int (zI x)), (3, .int (zI y))]) hx hb dX2_copyMerged_53 hl (k := 1) rfl (zI_add _ _) (by decide) rfl (fun ls hl => ?_)
      refine lv_goto (tgt := 8) hx hb dX2_copyMerged_56 (by decide) ?_
      exact ih1 (v4 + 1) (nSet gg 7 g25) _ _ (by omega) (by omega) hN26 hq2 hP hD hS ls (lv_sub hl [0, 2, 3, 4, 5] rfl)
