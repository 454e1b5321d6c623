theorem uZ_fill {g g' : Nat → Int} {v x : Int} (h0 : 0 ≤ v) (e : g' = uZ g v.toNat x) (h : ∀ k : Nat, (k : Int) < v → g k = x) : ∀ k : Nat, (k : Int) < v + 1 → g' k = x := by
  intro k hk
  subst e
  by_cases q : k = v.toNat
  · simp [uZ, q]
  · simp only [uZ, if_neg q]; exact h k (by omega)
theorem cpy_all {F G : Nat → Int} {n : Nat} {P : Int → Prop} (h : ∀ k, k < n → P (F k)) : ∀ k, k < n → P (va_cpy F G 0 0 n k) := by
  intro k hk
  have e : va_cpy F G 0 0 n k = F k := by simp [va_cpy, hk]
  rw [e]; exact h k hk
theorem dJ7_fill_53178_0 : decode cJ7_fill_53178 0 = .ok (.iconst 0, 1) := bo_3 (by decide +kernel)
theorem dJ7_fill_53178_1 : decode cJ7_fill_53178 1 = .ok (.istore_n 2, 1) := bo_61 (by decide +kernel)
theorem dJ7_fill_53178_2 : decode cJ7_fill_53178 2 = .ok (.aload_n 0, 1) := bo_42 (by decide +kernel)
theorem dJ7_fill_53178_3 : decode cJ7_fill_53178 3 = .ok (.arraylength, 1) := bo_190 (by decide +kernel)
theorem dJ7_fill_53178_4 : decode cJ7_fill_53178 4 = .ok (.istore_n 3, 1) := bo_62 (by decide +kernel)
theorem dJ7_fill_53178_5 : decode cJ7_fill_53178 5 = .ok (.iload_n 2, 1) := bo_28 (by decide +kernel)
theorem dJ7_fill_53178_6 : decode cJ7_fill_53178 6 = .ok (.iload_n 3, 1) := bo_29 (by decide +kernel)
theorem dJ7_fill_53178_7 : decode cJ7_fill_53178 7 = .ok (.if_icmp .ge 13, 3) := bo_162 0 13 (by decide +kernel)
theorem dJ7_fill_53178_20 : decode cJ7_fill_53178 20 = .ok (.return_, 1) := bo_177 (by decide +kernel)
theorem dJ7_fill_53178_10 : decode cJ7_fill_53178 10 = .ok (.aload_n 0, 1) := bo_42 (by decide +kernel)
theorem dJ7_fill_53178_11 : decode cJ7_fill_53178 11 = .ok (.iload_n 2, 1) := bo_28 (by decide +kernel)
theorem dJ7_fill_53178_12 : decode cJ7_fill_53178 12 = .ok (.iload_n 1, 1) := bo_27 (by decide +kernel)
theorem dJ7_fill_53178_13 : decode cJ7_fill_53178 13 = .ok (.iastore, 1) := bo_79 (by decide +kernel)
theorem dJ7_fill_53178_14 : decode cJ7_fill_53178 14 = .ok (.iinc 2 1, 3) := bo_132 2 1 (by decide +kernel)
theorem dJ7_fill_53178_17 : decode cJ7_fill_53178 17 = .ok (.goto (-12), 3) := bo_167 255 244 (by decide +kernel)
abbrev rm_J7_fill : Room := { frames := 0, cells := 0, slots := 0, locals := 0 }
set_option maxRecDepth 100000 in
set_option maxHeartbeats 8000000 in
theorem c_J7_fill {l : Launch} {E : (Nat → Prop) → State → Prop} (hO : bw_Ok E) {G : va_G} {cI cB cJ cN cW : ClassId} (w : Nat) (n : Nat) (hn : n < 2147483648) (gw : Nat → Int) (x : Int) : bw_Cv (S := zU) l yJ7_fill_53178 (bw_ws (Cond.code yJ7_fill_53178 cJ7_fill_53178 4 none)) rm_J7_fill E G (bw_kt cI cB cJ cN cW) [.ref w, .int (zI x)] [(w, .inl (cI, n, .inl (fun k => zI (gw k))))] (fun u => ∀ k, k < n → u.2 0 k = x) (fun u => [(w, .inl (cI, n, .inl (fun k => zI ((u.2 0) k))))]) := by
  refine bw_Cv.of (cc := cJ7_fill_53178) (maxL := 4) (by decide) rfl (Nat.le_of_ble_eq_true rfl) ?_
  intro p e s m below meth c A Q hx hb hml hts hown hin hK hA hS hP hD hE ret ls hl
  have F : CallFix p m c cJ7_fill_53178 4 s ([.ref w, .int (zI x)] : List Value).toArray bw_T RJ7 := ⟨hx, hb, hml, hown, fun w h => hts w (List.mem_cons_of_mem _ h)⟩
  replace hl : lv_has ls 4 [(0, .ref w), (1, .int (zI x))] := hl
  refine lv_iconst (v := zI 0) hx hb dJ7_fill_53178_0 rfl ?_
  refine lv_istore_n (lv' := [(2, .int (zI 0)), (0, .ref w), (1, .int (zI x))]) hx hb dJ7_fill_53178_1 rfl hl (by decide) rfl (fun ls hl => ?_)
  refine lv_aload_n hx hb dJ7_fill_53178_2 rfl (lv_at hl 1 rfl) ?_
  refine va_alen (v := zI (n : Int)) hx hb hK hP 0 0 rfl rfl (zI_len _) dJ7_fill_53178_3 ?_
  refine lv_istore_n (lv' := [(3, .int (zI (n : Int))), (2, .int (zI 0)), (0, .ref w), (1, .int (zI x))]) hx hb dJ7_fill_53178_4 rfl hl (by decide) rfl (fun ls hl => ?_)
  refine W.widen (k := 0) (n := 0) (Nat.le_of_ble_eq_true rfl) (Nat.le_of_ble_eq_true rfl) ?_
  refine (?_ : ∀ (n9_1 : Nat) (v2 : Int) (ga : Nat → Int) (H : Heap) (locs : List Loc), (0 ≤ v2 ∧ v2 ≤ (n : Int)) → ((n : Int) - v2 : Int).toNat < n9_1 → (∀ k : Nat, (k : Int) < v2 → ga k = x) → va_P G vwCl [(w, .inl (cI, n, .inl (fun k => zI (ga k))))] H → va_D A [(w, .inl (cI, n, .inl (fun k => zI (ga k))))] → va_S A s.heap H locs → ∀ ls : Array Slot, lv_has ls 4 [(3, .int (zI (n : Int))), (2, .int (zI v2)), (0, .ref w), (1, .int (zI x))] → W p l e rm_J7_fill s m ([.ref w, .int (zI x)] : List Value).toArray below meth c H locs 0 0 Q (F0 m 5 ls [])) (((n : Int) - 0 : Int).toNat + 1) 0 gw _ _ (by omega) (by omega) (fun k hk => absurd hk (by omega)) hP hD hS ls hl
  clear hP hD hS hl ls
  intro n9_1
  induction n9_1 with
  | zero =>
    intro v2 ga H locs hI hM
    exact absurd hM (by omega)
  | succ n9_1 ih1 =>
    intro v2 ga H locs hI1 hM1 hfl hP hD hS ls hl
    refine lv_iload_n hx hb dJ7_fill_53178_5 rfl (lv_at hl 1 rfl) ?_
    refine lv_iload_n hx hb dJ7_fill_53178_6 rfl (lv_at hl 0 rfl) ?_
    refine rz_icmp_ge (tgt := 20) F (by omega) (by omega) dJ7_fill_53178_7 (by decide) (fun h7_0 => ?_) (fun h7_0 => ?_)
    · exact ret (fun _ => 0, fun _ => ga) _ _ _ _ _ _ (fun k hk => hfl k (by omega)) (bw_subP (isC := [0]) hP rfl) (hD.sub [0] (by decide) rfl) hS (Nat.le_of_ble_eq_true rfl) (Nat.le_of_ble_eq_true rfl) dJ7_fill_53178_20
    · refine lv_aload_n hx hb dJ7_fill_53178_10 rfl (lv_at hl 2 rfl) ?_
      refine lv_iload_n hx hb dJ7_fill_53178_11 rfl (lv_at hl 1 rfl) ?_
      refine lv_iload_n hx hb dJ7_fill_53178_12 rfl (lv_at hl 3 rfl) ?_
      refine rz_iastG F hK hP hD hS 0 0 rfl rfl (by omega) (by omega) dJ7_fill_53178_13 (w1 := fun g2 => [(w, .inl (cI, n, .inl (fun k => zI (g2 k))))]) (fun _ => rfl) (fun g2 e_g2 H locs hP hD hS => ?_)
      refine lv_iinc (v := zI (v2 + 1)) (lv' := [(2, .int (zI (v2 + 1))), (3, .int (zI (n : Int))), (0, .ref w), (1, .int (zI x))]) hx hb dJ7_fill_53178_14 hl (k := 1) rfl (zI_add _ _) (by decide) rfl (fun ls hl => ?_)
      refine lv_goto (tgt := 5) hx hb dJ7_fill_53178_17 (by decide) ?_
      exact ih1 (v2 + 1) g2 _ _ (by omega) (by omega) (uZ_fill (by omega) e_g2 hfl) hP hD hS ls (lv_sub hl [1, 0, 2, 3] rfl)
theorem NetOk.zero : NetOk 0 (fun _ _ => 0) := by
  refine ⟨by omega, ?_, ?_, ?_, ?_, ?_, ?_, ?_, ?_⟩ <;> intro k hk <;> simp
theorem dX2_init_0 : decode cX2_init 0 = .ok (.aload_n 0, 1) := bo_42 (by decide +kernel)
theorem dX2_init_1 : decode cX2_init 1 = .ok (.invokespecial 3, 3) := bo_183 0 3 (by decide +kernel)
theorem k_oi : Cond.instanceMethod Lib.objectInit ∈ bw_T := bw_m 122 (by decide +kernel) rfl
theorem k_oc : Cond.code Lib.objectInit ⟨#[0xb1]⟩ 1 none ∈ bw_T := bw_m 123 (by decide +kernel) rfl
theorem k_135 : Cond.methodLink RX2 3 Lib.objectInit ∈ bw_T := bw_m 135 (by decide +kernel) rfl
theorem dX2_init_4 : decode cX2_init 4 = .ok (.aload_n 0, 1) := bo_42 (by decide +kernel)
theorem dX2_init_5 : decode cX2_init 5 = .ok (.iconst 0, 1) := bo_3 (by decide +kernel)
theorem dX2_init_6 : decode cX2_init 6 = .ok (.putfield 9, 3) := bo_181 0 9 (by decide +kernel)
theorem dX2_init_9 : decode cX2_init 9 = .ok (.aload_n 0, 1) := bo_42 (by decide +kernel)
theorem dX2_init_10 : decode cX2_init 10 = .ok (.bipush 10, 2) := bo_16 10 (by decide +kernel)
theorem dX2_init_12 : decode cX2_init 12 = .ok (.newarray .int, 2) := by decide +kernel
theorem k_194 : Cond.arrayClass .int ∈ bw_T := bw_m 194 (by decide +kernel) rfl
theorem dX2_init_14 : decode cX2_init 14 = .ok (.putfield 15, 3) := bo_181 0 15 (by decide +kernel)
theorem dX2_init_17 : decode cX2_init 17 = .ok (.aload_n 0, 1) := bo_42 (by decide +kernel)
theorem dX2_init_18 : decode cX2_init 18 = .ok (.bipush 10, 2) := bo_16 10 (by decide +kernel)
theorem dX2_init_20 : decode cX2_init 20 = .ok (.newarray .int, 2) := by decide +kernel
theorem dX2_init_22 : decode cX2_init 22 = .ok (.putfield 19, 3) := bo_181 0 19 (by decide +kernel)
theorem dX2_init_25 : decode cX2_init 25 = .ok (.aload_n 0, 1) := bo_42 (by decide +kernel)
theorem dX2_init_26 : decode cX2_init 26 = .ok (.bipush 10, 2) := bo_16 10 (by decide +kernel)
theorem dX2_init_28 : decode cX2_init 28 = .ok (.newarray .int, 2) := by decide +kernel
theorem dX2_init_30 : decode cX2_init 30 = .ok (.putfield 22, 3) := bo_181 0 22 (by decide +kernel)
theorem dX2_init_33 : decode cX2_init 33 = .ok (.aload_n 0, 1) := bo_42 (by decide +kernel)
theorem dX2_init_34 : decode cX2_init 34 = .ok (.bipush 40, 2) := bo_16 40 (by decide +kernel)
theorem dX2_init_36 : decode cX2_init 36 = .ok (.newarray .int, 2) := by decide +kernel
theorem dX2_init_38 : decode cX2_init 38 = .ok (.putfield 25, 3) := bo_181 0 25 (by decide +kernel)
theorem dX2_init_41 : decode cX2_init 41 = .ok (.aload_n 0, 1) := bo_42 (by decide +kernel)
theorem dX2_init_42 : decode cX2_init 42 = .ok (.bipush 40, 2) := bo_16 40 (by decide +kernel)
theorem dX2_init_44 : decode cX2_init 44 = .ok (.newarray .int, 2) := by decide +kernel
theorem dX2_init_46 : decode cX2_init 46 = .ok (.putfield 28, 3) := bo_181 0 28 (by decide +kernel)
theorem dX2_init_49 : decode cX2_init 49 = .ok (.aload_n 0, 1) := bo_42 (by decide +kernel)
theorem dX2_init_50 : decode cX2_init 50 = .ok (.bipush 40, 2) := bo_16 40 (by decide +kernel)
theorem dX2_init_52 : decode cX2_init 52 = .ok (.newarray .int, 2) := by decide +kernel
theorem dX2_init_54 : decode cX2_init 54 = .ok (.putfield 31, 3) := bo_181 0 31 (by decide +kernel)
theorem dX2_init_57 : decode cX2_init 57 = .ok (.aload_n 0, 1) := bo_42 (by decide +kernel)
theorem dX2_init_58 : decode cX2_init 58 = .ok (.bipush 20, 2) := bo_16 20 (by decide +kernel)
theorem dX2_init_60 : decode cX2_init 60 = .ok (.newarray .int, 2) := by decide +kernel
theorem dX2_init_62 : decode cX2_init 62 = .ok (.putfield 34, 3) := bo_181 0 34 (by decide +kernel)
theorem dX2_init_65 : decode cX2_init 65 = .ok (.aload_n 0, 1) := bo_42 (by decide +kernel)
theorem dX2_init_66 : decode cX2_init 66 = .ok (.bipush 20, 2) := bo_16 20 (by decide +kernel)
theorem dX2_init_68 : decode cX2_init 68 = .ok (.newarray .int, 2) := by decide +kernel
theorem dX2_init_70 : decode cX2_init 70 = .ok (.putfield 37, 3) := bo_181 0 37 (by decide +kernel)
theorem dX2_init_73 : decode cX2_init 73 = .ok (.aload_n 0, 1) := bo_42 (by decide +kernel)
theorem dX2_init_74 : decode cX2_init 74 = .ok (.invokevirtual 40, 3) := bo_182 0 40 (by decide +kernel)
theorem k_136 : Cond.methodLink RX2 40 yX2_clear ∈ bw_T := bw_m 136 (by decide +kernel) rfl
theorem kv_X2_clear : bw_KV RX2 yX2_clear (Cond.code yX2_clear cX2_clear 2 none) := ⟨bw_m 137 (by decide +kernel) rfl, bw_m 138 (by decide +kernel) rfl, bw_m 96 (by decide +kernel) rfl, bw_m 139 (by decide +kernel) rfl⟩
theorem dX2_init_77 : decode cX2_init 77 = .ok (.return_, 1) := bo_177 (by decide +kernel)
abbrev rm_X2_init : Room := { frames := 2, cells := 8, slots := 190, locals := 43 }
set_option maxRecDepth 100000 in
set_option maxHeartbeats 8000000 in
theorem c_X2_init {l : Launch} {E : (Nat → Prop) → State → Prop} (hO : bw_Ok E) {G : va_G} {cI cB cJ cN cW : ClassId} (b : Nat) : bw_Cv (S := zU) l yX2_init (bw_ws (Cond.code yX2_init cX2_init 1 none)) rm_X2_init E G (bw_kt cI cB cJ cN cW) [.ref b] [(b, .inr (2, [.int (zI 0), .null, .null, .null, .null, .null, .null, .null, .null]))] (fun u => NetOk 0 u.2) (fun u => [(b, .inr (2, [.int (zI 0), .ref ((aU u 0) 0), .ref ((aU u 0) 1), .ref ((aU u 0) 2), .ref ((aU u 0) 3), .ref ((aU u 0) 4), .ref ((aU u 0) 5), .ref ((aU u 0) 6), .ref ((aU u 0) 7)])), (((aU u 0) 0), .inl (cI, 10, .inl (fun k => zI ((u.2 0) k)))), (((aU u 0) 1), .inl (cI, 10, .inl (fun k => zI ((u.2 1) k)))), (((aU u 0) 2), .inl (cI, 10, .inl (fun k => zI ((u.2 2) k)))), (((aU u 0) 3), .inl (cI, 40, .inl (fun k => zI ((u.2 3) k)))), (((aU u 0) 4), .inl (cI, 40, .inl (fun k => zI ((u.2 4) k)))), (((aU u 0) 5), .inl (cI, 40, .inl (fun k => zI ((u.2 5) k)))), (((aU u 0) 6), .inl (cI, 20, .inl (fun k => zI ((u.2 6) k)))), (((aU u 0) 7), .inl (cI, 20, .inl (fun k => zI ((u.2 7) k))))]) := by
  refine bw_Cv.of (cc := cX2_init) (maxL := 1) (by decide) rfl (Nat.le_of_ble_eq_true rfl) ?_
  intro p e s m below meth c A Q hx hb hml hts hown hin hK hA hS hP hD hE ret ls hl
  have F : CallFix p m c cX2_init 1 s ([.ref b] : List Value).toArray bw_T RX2 := ⟨hx, hb, hml, hown, fun w h => hts w (List.mem_cons_of_mem _ h)⟩
  replace hl : lv_has ls 1 [(0, .ref b)] := hl
  refine lv_aload_n hx hb dX2_init_0 rfl (lv_at hl 0 rfl) ?_
  refine r_objInit F k_135 k_oi k_oc hl.1 dX2_init_1 (Nat.le_of_ble_eq_true rfl) (Nat.le_of_ble_eq_true rfl) ?_
  refine lv_aload_n hx hb dX2_init_4 rfl (lv_at hl 0 rfl) ?_
  refine lv_iconst (v := zI 0) hx hb dX2_init_5 rfl ?_
  refine r_put F hK hP hD hS 0 0 rfl rfl in_X2 tyX2 tyX2_ok nmX2 (by decide) k_144 rfl rfl rfl (Nat.le_of_ble_eq_true rfl) dX2_init_6 (w1 := [(b, .inr (2, [.int (zI 0), .null, .null, .null, .null, .null, .null, .null, .null]))]) rfl (fun H locs hP hD hS => ?_)
  refine lv_aload_n hx hb dX2_init_9 rfl (lv_at hl 0 rfl) ?_
  refine lv_bipush (v := zI 10) hx hb dX2_init_10 (by decide) ?_
  refine r_newa (atype := .int) (ty := .int) F rfl k_194 hK hP hD hS hA 0 rfl 10 (10, .inl (fun _ => 0)) (bw_cI 10) (by decide) (by decide) (bw_by (k := 4) rfl (by omega)) (Nat.le_of_ble_eq_true rfl) (Nat.le_of_ble_eq_true rfl) dX2_init_12 (w1 := fun q1 => [(b, .inr (2, [.int (zI 0), .null, .null, .null, .null, .null, .null, .null, .null])), (q1, .inl (cI, 10, .inl (fun k => zI ((fun _ => 0) k))))]) (fun _ => rfl) (fun q1 H hP hD hS => ?_)
  refine r_putF F hK hP hD hS 0 1 rfl rfl in_X2 tyX2 tyX2_ok nmX2 (by decide) k_147 rfl hin rfl rfl rfl (Nat.le_of_ble_eq_true rfl) dX2_init_14 (w1 := [(b, .inr (2, [.int (zI 0), .ref q1, .null, .null, .null, .null, .null, .null, .null])), (q1, .inl (cI, 10, .inl (fun k => zI ((fun _ => 0) k))))]) rfl (fun H locs hP hD hS => ?_)
  refine lv_aload_n hx hb dX2_init_17 rfl (lv_at hl 0 rfl) ?_
  refine lv_bipush (v := zI 10) hx hb dX2_init_18 (by decide) ?_
  refine r_newa (atype := .int) (ty := .int) F rfl k_194 hK hP hD hS hA 0 rfl 10 (10, .inl (fun _ => 0)) (bw_cI 10) (by decide) (by decide) (bw_by (k := 4) rfl (by omega)) (Nat.le_of_ble_eq_true rfl) (Nat.le_of_ble_eq_true rfl) dX2_init_20 (w1 := fun q2 => [(b, .inr (2, [.int (zI 0), .ref q1, .null, .null, .null, .null, .null, .null, .null])), (q1, .inl (cI, 10, .inl (fun k => zI ((fun _ => 0) k)))), (q2, .inl (cI, 10, .inl (fun k => zI ((fun _ => 0) k))))]) (fun _ => rfl) (fun q2 H hP hD hS => ?_)
  refine r_putF F hK hP hD hS 0 2 rfl rfl in_X2 tyX2 tyX2_ok nmX2 (by decide) k_150 rfl hin rfl rfl rfl (Nat.le_of_ble_eq_true rfl) dX2_init_22 (w1 := [(b, .inr (2, [.int (zI 0), .ref q1, .ref q2, .null, .null, .null, .null, .null, .null])), (q1, .inl (cI, 10, .inl (fun k => zI ((fun _ => 0) k)))), (q2, .inl (cI, 10, .inl (fun k => zI ((fun _ => 0) k))))]) rfl (fun H locs hP hD hS => ?_)
  refine lv_aload_n hx hb dX2_init_25 rfl (lv_at hl 0 rfl) ?_
  refine lv_bipush (v := zI 10) hx hb dX2_init_26 (by decide) ?_
  refine r_newa (atype := .int) (ty := .int) F rfl k_194 hK hP hD hS hA 0 rfl 10 (10, .inl (fun _ => 0)) (bw_cI 10) (by decide) (by decide) (bw_by (k := 4) rfl (by omega)) (Nat.le_of_ble_eq_true rfl) (Nat.le_of_ble_eq_true rfl) dX2_init_28 (w1 := fun q3 => [(b, .inr (2, [.int (zI 0), .ref q1, .ref q2, .null, .null, .null, .null, .null, .null])), (q1, .inl (cI, 10, .inl (fun k => zI ((fun _ => 0) k)))), (q2, .inl (cI, 10, .inl (fun k => zI ((fun _ => 0) k)))), (q3, .inl (cI, 10, .inl (fun k => zI ((fun _ => 0) k))))]) (fun _ => rfl) (fun q3 H hP hD hS => ?_)
  refine r_putF F hK hP hD hS 0 3 rfl rfl in_X2 tyX2 tyX2_ok nmX2 (by decide) k_153 rfl hin rfl rfl rfl (Nat.le_of_ble_eq_true rfl) dX2_init_30 (w1 := [(b, .inr (2, [.int (zI 0), .ref q1, .ref q2, .ref q3, .null, .null, .null, .null, .null])), (q1, .inl (cI, 10, .inl (fun k => zI ((fun _ => 0) k)))), (q2, .inl (cI, 10, .inl (fun k => zI ((fun _ => 0) k)))), (q3, .inl (cI, 10, .inl (fun k => zI ((fun _ => 0) k))))]) rfl (fun H locs hP hD hS => ?_)
  refine lv_aload_n hx hb dX2_init_33 rfl (lv_at hl 0 rfl) ?_
  refine lv_bipush (v := zI 40) hx hb dX2_init_34 (by decide) ?_
  refine r_newa (atype := .int) (ty := .int) F rfl k_194 hK hP hD hS hA 0 rfl 40 (40, .inl (fun _ => 0)) (bw_cI 40) (by decide) (by decide) (bw_by (k := 4) rfl (by omega)) (Nat.le_of_ble_eq_true rfl) (Nat.le_of_ble_eq_true rfl) dX2_init_36 (w1 := fun q4 => [(b, .inr (2, [.int (zI 0), .ref q1, .ref q2, .ref q3, .null, .null, .null, .null, .null])), (q1, .inl (cI, 10, .inl (fun k => zI ((fun _ => 0) k)))), (q2, .inl (cI, 10, .inl (fun k => zI ((fun _ => 0) k)))), (q3, .inl (cI, 10, .inl (fun k => zI ((fun _ => 0) k)))), (q4, .inl (cI, 40, .inl (fun k => zI ((fun _ => 0) k))))]) (fun _ => rfl) (fun q4 H hP hD hS => ?_)
  refine r_putF F hK hP hD hS 0 4 rfl rfl in_X2 tyX2 tyX2_ok nmX2 (by decide) k_156 rfl hin rfl rfl rfl (Nat.le_of_ble_eq_true rfl) dX2_init_38 (w1 := [(b, .inr (2, [.int (zI 0), .ref q1, .ref q2, .ref q3, .ref q4, .null, .null, .null, .null])), (q1, .inl (cI, 10, .inl (fun k => zI ((fun _ => 0) k)))), (q2, .inl (cI, 10, .inl (fun k => zI ((fun _ => 0) k)))), (q3, .inl (cI, 10, .inl (fun k => zI ((fun _ => 0) k)))), (q4, .inl (cI, 40, .inl (fun k => zI ((fun _ => 0) k))))]) rfl (fun H locs hP hD hS => ?_)
  refine lv_aload_n hx hb dX2_init_41 rfl (lv_at hl 0 rfl) ?_
  refine lv_bipush (v := zI 40) hx hb dX2_init_42 (by decide) ?_
  refine r_newa (atype := .int) (ty := .int) F rfl k_194 hK hP hD hS hA 0 rfl 40 (40, .inl (fun _ => 0)) (bw_cI 40) (by decide) (by decide) (bw_by (k := 4) rfl (by omega)) (Nat.le_of_ble_eq_true rfl) (Nat.le_of_ble_eq_true rfl) dX2_init_44 (w1 := fun q5 => [(b, .inr (2, [.int (zI 0), .ref q1, .ref q2, .ref q3, .ref q4, .null, .null, .null, .null])), (q1, .inl (cI, 10, .inl (fun k => zI ((fun _ => 0) k)))), (q2, .inl (cI, 10, .inl (fun k => zI ((fun _ => 0) k)))), (q3, .inl (cI, 10, .inl (fun k => zI ((fun _ => 0) k)))), (q4, .inl (cI, 40, .inl (fun k => zI ((fun _ => 0) k)))), (q5, .inl (cI, 40, .inl (fun k => zI ((fun _ => 0) k))))]) (fun _ => rfl) (fun q5 H hP hD hS => ?_)
  refine r_putF F hK hP hD hS 0 5 rfl rfl in_X2 tyX2 tyX2_ok nmX2 (by decide) k_159 rfl hin rfl rfl rfl (Nat.le_of_ble_eq_true rfl) dX2_init_46 (w1 := [(b, .inr (2, [.int (zI 0), .ref q1, .ref q2, .ref q3, .ref q4, .ref q5, .null, .null, .null])), (q1, .inl (cI, 10, .inl (fun k => zI ((fun _ => 0) k)))), (q2, .inl (cI, 10, .inl (fun k => zI ((fun _ => 0) k)))), (q3, .inl (cI, 10, .inl (fun k => zI ((fun _ => 0) k)))), (q4, .inl (cI, 40, .inl (fun k => zI ((fun _ => 0) k)))), (q5, .inl (cI, 40, .inl (fun k => zI ((fun _ => 0) k))))]) rfl (fun H locs hP hD hS => ?_)
  refine lv_aload_n hx hb dX2_init_49 rfl (lv_at hl 0 rfl) ?_
  refine lv_bipush (v := zI 40) hx hb dX2_init_50 (by decide) ?_
  refine r_newa (atype := .int) (ty := .int) F rfl k_194 hK hP hD hS hA 0 rfl 40 (40, .inl (fun _ => 0)) (bw_cI 40) (by decide) (by decide) (bw_by (k := 4) rfl (by omega)) (Nat.le_of_ble_eq_true rfl) (Nat.le_of_ble_eq_true rfl) dX2_init_52 (w1 := fun q6 => [(b, .inr (2, [.int (zI 0), .ref q1, .ref q2, .ref q3, .ref q4, .ref q5, .null, .null, .null])), (q1, .inl (cI, 10, .inl (fun k => zI ((fun _ => 0) k)))), (q2, .inl (cI, 10, .inl (fun k => zI ((fun _ => 0) k)))), (q3, .inl (cI, 10, .inl (fun k => zI ((fun _ => 0) k)))), (q4, .inl (cI, 40, .inl (fun k => zI ((fun _ => 0) k)))), (q5, .inl (cI, 40, .inl (fun k => zI ((fun _ => 0) k)))), (q6, .inl (cI, 40, .inl (fun k => zI ((fun _ => 0) k))))]) (fun _ => rfl) (fun q6 H hP hD hS => ?_)
  refine r_putF F hK hP hD hS 0 6 rfl rfl in_X2 tyX2 tyX2_ok nmX2 (by decide) k_162 rfl hin rfl rfl rfl (Nat.le_of_ble_eq_true rfl) dX2_init_54 (w1 := [(b, .inr (2, [.int (zI 0), .ref q1, .ref q2, .ref q3, .ref q4, .ref q5, .ref q6, .null, .null])), (q1, .inl (cI, 10, .inl (fun k => zI ((fun _ => 0) k)))), (q2, .inl (cI, 10, .inl (fun k => zI ((fun _ => 0) k)))), (q3, .inl (cI, 10, .inl (fun k => zI ((fun _ => 0) k)))), (q4, .inl (cI, 40, .inl (fun k => zI ((fun _ => 0) k)))), (q5, .inl (cI, 40, .inl (fun k => zI ((fun _ => 0) k)))), (q6, .inl (cI, 40, .inl (fun k => zI ((fun _ => 0) k))))]) rfl (fun H locs hP hD hS => ?_)
  refine lv_aload_n hx hb dX2_init_57 rfl (lv_at hl 0 rfl) ?_
  refine lv_bipush (v := zI 20) hx hb dX2_init_58 (by decide) ?_
  refine r_newa (atype := .int) (ty := .int) F rfl k_194 hK hP hD hS hA 0 rfl 20 (20, .inl (fun _ => 0)) (bw_cI 20) (by decide) (by decide) (bw_by (k := 4) rfl (by omega)) (Nat.le_of_ble_eq_true rfl) (Nat.le_of_ble_eq_true rfl) dX2_init_60 (w1 := fun q7 => [(b, .inr (2, [.int (zI 0), .ref q1, .ref q2, .ref q3, .ref q4, .ref q5, .ref q6, .null, .null])), (q1, .inl (cI, 10, .inl (fun k => zI ((fun _ => 0) k)))), (q2, .inl (cI, 10, .inl (fun k => zI ((fun _ => 0) k)))), (q3, .inl (cI, 10, .inl (fun k => zI ((fun _ => 0) k)))), (q4, .inl (cI, 40, .inl (fun k => zI ((fun _ => 0) k)))), (q5, .inl (cI, 40, .inl (fun k => zI ((fun _ => 0) k)))), (q6, .inl (cI, 40, .inl (fun k => zI ((fun _ => 0) k)))), (q7, .inl (cI, 20, .inl (fun k => zI ((fun _ => 0) k))))]) (fun _ => rfl) (fun q7 H hP hD hS => ?_)
  refine r_putF F hK hP hD hS 0 7 rfl rfl in_X2 tyX2 tyX2_ok nmX2 (by decide) k_165 rfl hin rfl rfl rfl (Nat.le_of_ble_eq_true rfl) dX2_init_62 (w1 := [(b, .inr (2, [.int (zI 0), .ref q1, .ref q2, .ref q3, .ref q4, .ref q5, .ref q6, .ref q7, .null])), (q1, .inl (cI, 10, .inl (fun k => zI ((fun _ => 0) k)))), (q2, .inl (cI, 10, .inl (fun k => zI ((fun _ => 0) k)))), (q3, .inl (cI, 10, .inl (fun k => zI ((fun _ => 0) k)))), (q4, .inl (cI, 40, .inl (fun k => zI ((fun _ => 0) k)))), (q5, .inl (cI, 40, .inl (fun k => zI ((fun _ => 0) k)))), (q6, .inl (cI, 40, .inl (fun k => zI ((fun _ => 0) k)))), (q7, .inl (cI, 20, .inl (fun k => zI ((fun _ => 0) k))))]) rfl (fun H locs hP hD hS => ?_)
  refine lv_aload_n hx hb dX2_init_65 rfl (lv_at hl 0 rfl) ?_
  refine lv_bipush (v := zI 20) hx hb dX2_init_66 (by decide) ?_
  refine r_newa (atype := .int) (ty := .int) F rfl k_194 hK hP hD hS hA 0 rfl 20 (20, .inl (fun _ => 0)) (bw_cI 20) (by decide) (by decide) (bw_by (k := 4) rfl (by omega)) (Nat.le_of_ble_eq_true rfl) (Nat.le_of_ble_eq_true rfl) dX2_init_68 (w1 := fun q8 => [(b, .inr (2, [.int (zI 0), .ref q1, .ref q2, .ref q3, .ref q4, .ref q5, .ref q6, .ref q7, .null])), (q1, .inl (cI, 10, .inl (fun k => zI ((fun _ => 0) k)))), (q2, .inl (cI, 10, .inl (fun k => zI ((fun _ => 0) k)))), (q3, .inl (cI, 10, .inl (fun k => zI ((fun _ => 0) k)))), (q4, .inl (cI, 40, .inl (fun k => zI ((fun _ => 0) k)))), (q5, .inl (cI, 40, .inl (fun k => zI ((fun _ => 0) k)))), (q6, .inl (cI, 40, .inl (fun k => zI ((fun _ => 0) k)))), (q7, .inl (cI, 20, .inl (fun k => zI ((fun _ => 0) k)))), (q8, .inl (cI, 20, .inl (fun k => zI ((fun _ => 0) k))))]) (fun _ => rfl) (fun q8 H hP hD hS => ?_)
  refine r_putF F hK hP hD hS 0 8 rfl rfl in_X2 tyX2 tyX2_ok nmX2 (by decide) k_169 rfl hin rfl rfl rfl (Nat.le_of_ble_eq_true rfl) dX2_init_70 (w1 := [(b, .inr (2, [.int (zI 0), .ref q1, .ref q2, .ref q3, .ref q4, .ref q5, .ref q6, .ref q7, .ref q8])), (q1, .inl (cI, 10, .inl (fun k => zI ((fun _ => 0) k)))), (q2, .inl (cI, 10, .inl (fun k => zI ((fun _ => 0) k)))), (q3, .inl (cI, 10, .inl (fun k => zI ((fun _ => 0) k)))), (q4, .inl (cI, 40, .inl (fun k => zI ((fun _ => 0) k)))), (q5, .inl (cI, 40, .inl (fun k => zI ((fun _ => 0) k)))), (q6, .inl (cI, 40, .inl (fun k => zI ((fun _ => 0) k)))), (q7, .inl (cI, 20, .inl (fun k => zI ((fun _ => 0) k)))), (q8, .inl (cI, 20, .inl (fun k => zI ((fun _ => 0) k))))]) rfl (fun H locs hP hD hS => ?_)
  obtain ⟨qf, rfl, rfl, rfl, rfl, rfl, rfl, rfl, rfl⟩ : ∃ qf : Nat → Nat, qf 0 = q1 ∧ qf 1 = q2 ∧ qf 2 = q3 ∧ qf 3 = q4 ∧ qf 4 = q5 ∧ qf 5 = q6 ∧ qf 6 = q7 ∧ qf 7 = q8 := ⟨fun k => [q1, q2, q3, q4, q5, q6, q7, q8].getD k 0, rfl, rfl, rfl, rfl, rfl, rfl, rfl, rfl⟩
  refine lv_aload_n hx hb dX2_init_73 rfl (lv_at hl 0 rfl) ?_
  refine r_callVv (As := []) (rest := []) (wr := []) F hK hP hD hS hA hO hE (c_X2_clear hO b qf 0 (fun _ _ => 0) NetOk.zero) k_136 kv_X2_clear 0 rfl (by decide +kernel) ⟨Nat.le_of_ble_eq_true rfl, Nat.le_of_ble_eq_true rfl⟩ [0, 1, 2, 3, 4, 5, 6, 7, 8] [] rfl rfl (by decide) (by decide) (by decide) 0 2 rfl rfl rfl hl.1 rfl (Nat.le_of_ble_eq_true rfl) dX2_init_74 ⟨Nat.le_of_ble_eq_true rfl, Nat.le_of_ble_eq_true rfl⟩ (w1 := fun u9 => [(b, .inr (2, [.int (zI 0), .ref (qf 0), .ref (qf 1), .ref (qf 2), .ref (qf 3), .ref (qf 4), .ref (qf 5), .ref (qf 6), .ref (qf 7)])), ((qf 0), .inl (cI, 10, .inl (fun k => zI ((u9.2 0) k)))), ((qf 1), .inl (cI, 10, .inl (fun k => zI ((u9.2 1) k)))), ((qf 2), .inl (cI, 10, .inl (fun k => zI ((u9.2 2) k)))), ((qf 3), .inl (cI, 40, .inl (fun k => zI ((u9.2 3) k)))), ((qf 4), .inl (cI, 40, .inl (fun k => zI ((u9.2 4) k)))), ((qf 5), .inl (cI, 40, .inl (fun k => zI ((u9.2 5) k)))), ((qf 6), .inl (cI, 20, .inl (fun k => zI ((u9.2 6) k)))), ((qf 7), .inl (cI, 20, .inl (fun k => zI ((u9.2 7) k))))]) (fun _ => rfl) (fun  u9 H locs hp10 hP hD hS => ?_)
  exact ret (fun k => (qf k : Int), u9.2) _ _ _ _ _ _ hp10 (bw_subP (isC := [0, 1, 2, 3, 4, 5, 6, 7, 8]) hP rfl) (hD.sub [0, 1, 2, 3, 4, 5, 6, 7, 8] (by decide) rfl) hS (Nat.le_of_ble_eq_true rfl) (Nat.le_of_ble_eq_true rfl) dX2_init_77
