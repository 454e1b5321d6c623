/-! EXACT RUNS: what a step makes of the 159 numbers of a run -/
theorem bitB_tab : ∀ x ∈ List.range 16, ∀ n ∈ List.range 4, ((zI ((x : Nat) : Int) >>> (zI ((n : Nat) : Int) &&& 31)) &&& zI 1 = zI 1) ↔ ((x : Nat) : Int) / twoP ((n : Nat) : Int) % 2 = 1 := by decide +kernel
theorem bitB_div {x n : Int} (hx : 0 ≤ x ∧ x ≤ 15) (hn : 0 ≤ n ∧ n < 4) : bitB x n ↔ x / twoP n % 2 = 1 := by
  obtain ⟨a, rfl⟩ : ∃ a : Nat, x = a := ⟨x.toNat, by omega⟩
  obtain ⟨b, rfl⟩ : ∃ b : Nat, n = b := ⟨n.toNat, by omega⟩
  exact bitB_tab a (List.mem_range.mpr (by omega)) b (List.mem_range.mpr (by omega))
def lessZ (a b : Int) : Int := if a < b then a else b
theorem lessZ_eq {a b z : Int} (h : (z = a ∨ z = b) ∧ z ≤ a ∧ z ≤ b) : z = lessZ a b := by
  unfold lessZ
  split <;> omega
/-- the w-th act of line x -/
def actF (p s : Nat → Int) (x w : Int) : Nat → Int :=
  if p (20 * x + 2 + 3 * w).toNat = 0 then uZ s (p (20 * x + 2 + 3 * w + 1).toNat).toNat (lessZ 99 (s (p (20 * x + 2 + 3 * w + 1).toNat).toNat + 1))
  else if p (20 * x + 2 + 3 * w).toNat = 1 then uZ s (p (20 * x + 2 + 3 * w + 1).toNat).toNat (if 0 < s (p (20 * x + 2 + 3 * w + 1).toNat).toNat then s (p (20 * x + 2 + 3 * w + 1).toNat).toNat - 1 else 0)
  else if p (20 * x + 2 + 3 * w).toNat = 2 then uZ s (p (20 * x + 2 + 3 * w + 1).toNat).toNat (p (20 * x + 2 + 3 * w + 2).toNat)
  else if s (28 + x).toNat / twoP w % 2 = 1 then s
  else uZ (uZ (uZ s (28 + x).toNat (s (28 + x).toNat + twoP w)) (8 + 2 * p (20 * x + 2 + 3 * w + 1).toNat).toNat 0) (8 + 2 * p (20 * x + 2 + 3 * w + 1).toNat + 1).toNat 0
/-- the first n acts of line x -/
def actsF (p s : Nat → Int) (x : Int) : Nat → (Nat → Int)
  | 0 => s
  | n + 1 => actF p (actsF p s x n) x (n : Int)
theorem actsF_step {p s g g' : Nat → Int} {x v : Int} (hv : 0 ≤ v) (h : g = actsF p s x v.toNat) (e : g' = actF p g x v) : g' = actsF p s x (v + 1).toNat := by
  have h1 : (v + 1).toNat = v.toNat + 1 := by omega
  rw [h1, e, h]
  show _ = actF p (actsF p s x v.toNat) x (v.toNat : Int)
  rw [show (v.toNat : Int) = v by omega]
/-- a bit set among many, as the machine does it -/
def orW (x n : Int) : Int := ((zI x) ||| ((zI 1) <<< ((zI n) &&& 31))).toInt
def incU (s : Nat → Int) (i : Nat) : Nat → Int := uZ s i (s i + 1)
def orU (s : Nat → Int) (way : Int) : Nat → Int := uZ s 38 (orW (s 38) way)
/-- the way that is taken, its place in the row -/
def takeF (p s : Nat → Int) (way k : Int) : Nat → Int :=
  if s (8 + way).toNat = p (k + 1).toNat then uZ s 6 2
  else uZ (uZ (orU (incU (incU (incU s (8 + way).toNat) (139 + way).toNat) 7) way) 4 (p k.toNat)) 6 (if p (20 * p k.toNat + 0).toNat = 1 then 0 else 3)
def goF (p s : Nat → Int) (i : Int) : Nat → Int :=
  if p (20 * i + 14).toNat = 0 then uZ s 6 1
  else if p (20 * i + 14).toNat = 2 ∧ s (p (20 * i + 15).toNat).toNat = 0 then takeF p s (2 * i + 1) (20 * i + 18)
  else takeF p s (2 * i + 0) (20 * i + 16)
def pathF (s : Nat → Int) : Nat → Int := if s 5 < 100 then uZ s (39 + s 5).toNat (s 4) else s
def stepF (p s : Nat → Int) : Nat → Int := pathF (goF p (uZ (actsF p s (s 4) (p (20 * s 4 + 1).toNat).toNat) 5 (actsF p s (s 4) (p (20 * s 4 + 1).toNat).toNat 5 + 1)) (s 4))
/-- n steps, or as many as there are -/
def stepsF (p : Nat → Int) : Nat → (Nat → Int) → (Nat → Int)
  | 0, s => s
  | n + 1, s => if s 6 = 0 then stepsF p n (stepF p s) else s
theorem stepsF_end {p s : Nat → Int} (h : s 6 ≠ 0) : ∀ n : Nat, stepsF p n s = s
  | 0 => rfl
  | n + 1 => if_neg h
theorem stepsF_go {p s : Nat → Int} {n : Nat} (h : s 6 = 0) : stepsF p (n + 1) s = stepsF p n (stepF p s) := if_pos h
abbrev rm_X9_hasX : Room := { frames := 0, cells := 0, slots := 0, locals := 0 }
set_option maxRecDepth 100000 in
set_option maxHeartbeats 8000000 in
theorem c_X9_hasX {l : Launch} {E : (Nat → Prop) → State → Prop} (hO : bw_Ok E) {G : va_G} {cI cB cJ cN cW : ClassId} (x : Int) (y : Int) (hx9 : zR x) (hy9 : zR y)  : bw_Ci (S := zV) l yX9_has (bw_ws (Cond.code yX9_has cX9_has 2 (some .boolean))) rm_X9_hasX E G (bw_kt cI cB cJ cN cW) [.int (zI x), .int (zI y)] [] (fun r u => ∃ z : Int, r = zI z ∧ ((0 ≤ z ∧ z ≤ 1) ∧ (z = 0 → ¬ bitB x y) ∧ (z = 1 → bitB x y))) (fun u => []) := by
  refine bw_Ci.of (cc := cX9_has) (maxL := 2) (ty := .boolean) (by decide) rfl (Nat.le_of_ble_eq_true rfl) ?_
  intro p e s m below meth c A Q hx hb hml hts hown hin hK hA hS hP hD hE ret ls hl
  have F : CallFix p m c cX9_has 2 s ([.int (zI x), .int (zI y)] : List Value).toArray bw_T RX9 := ⟨hx, hb, hml, hown, fun w h => hts w (List.mem_cons_of_mem _ h)⟩
  replace hl : lv_has ls 2 [(0, .int (zI x)), (1, .int (zI y))] := hl
  refine lv_iload_n hx hb dX9_has_0 rfl (lv_at hl 0 rfl) ?_
  refine lv_iload_n hx hb dX9_has_1 rfl (lv_at hl 1 rfl) ?_
  refine lv_ishr hx hb dX9_has_2 ?_
  refine lv_iconst (v := zI 1) hx hb dX9_has_3 rfl ?_
  refine lv_iand hx hb dX9_has_4 ?_
  refine lv_iconst (v := zI 1) hx hb dX9_has_5 rfl ?_
  refine lv_icmp_ne (tgt := 13) hx hb dX9_has_6 (by decide) (fun h6_2 => ?_) (fun h6_2 => ?_)
  · refine lv_iconst (v := zI 0) hx hb dX9_has_13 rfl ?_
    exact ret (zI 0) (fun k => [((fun _ => 0), fun _ _ => 0)].getD k (fun _ => 0, fun _ _ => 0)) _ _ _ _ _ _ rfl ⟨0, rfl, ⟨by omega, fun _ => h6_2, fun q9 => absurd q9 (by omega)⟩⟩ (bw_subP (isC := []) hP rfl) (hD.sub [] (by decide) rfl) hS (Nat.le_of_ble_eq_true rfl) (Nat.le_of_ble_eq_true rfl) dX9_has_14
  · refine lv_iconst (v := zI 1) hx hb dX9_has_9 rfl ?_
    refine lv_goto (tgt := 14) hx hb dX9_has_10 (by decide) ?_
    exact ret (zI 1) (fun k => [((fun _ => 0), fun _ _ => 0)].getD k (fun _ => 0, fun _ _ => 0)) _ _ _ _ _ _ rfl ⟨1, rfl, ⟨by omega, fun q9 => absurd q9 (by omega), fun _ => h6_2⟩⟩ (bw_subP (isC := []) hP rfl) (hD.sub [] (by decide) rfl) hS (Nat.le_of_ble_eq_true rfl) (Nat.le_of_ble_eq_true rfl) dX9_has_14
abbrev rm_X9_actX : Room := { frames := 1, cells := 0, slots := 0, locals := 21 }
set_option maxRecDepth 100000 in
set_option maxHeartbeats 8000000 in
theorem c_X9_actX {l : Launch} {E : (Nat → Prop) → State → Prop} (hO : bw_Ok E) {G : va_G} {cI cB cJ cN cW : ClassId} (a : Nat) (g_p : Nat → Int) (d : Nat) (g_s : Nat → Int) (x : Int) (w : Int) (hx9 : zR x) (hw9 : zR w) (hp : ProgOk g_p) (hs : SI g_p g_s) (hx8 : 0 ≤ x ∧ x < 10) (hw8 : 0 ≤ w ∧ w < 4) : bw_Cv (S := zV) l yX9_act (bw_ws (Cond.code yX9_act cX9_act 6 none)) rm_X9_actX E G (bw_kt cI cB cJ cN cW) [.ref a, .ref d, .int (zI x), .int (zI w)] [(a, .inl (cI, 200, .inl (fun k => zI (g_p k)))), (d, .inl (cI, 159, .inl (fun k => zI (g_s k))))] (fun u => ((SI g_p ((u 1).2 0) ∧ rM ((u 1).2 0) ≤ rM g_s ∧ ((u 1).2 0) 4 = g_s 4 ∧ ((u 1).2 0) 5 = g_s 5 ∧ ((u 1).2 0) 6 = g_s 6) ∧ ((u 1).2 0) = actF g_p g_s x w)) (fun u => [(a, .inl (cI, 200, .inl (fun k => zI (g_p k)))), (d, .inl (cI, 159, .inl (fun k => zI (((u 1).2 0) k))))]) := by
  refine bw_Cv.of (cc := cX9_act) (maxL := 6) (by decide) rfl (Nat.le_of_ble_eq_true rfl) ?_
  intro p e s m below meth c A Q hx hb hml hts hown hin hK hA hS hP hD hE ret ls hl
  have F : CallFix p m c cX9_act 6 s ([.ref a, .ref d, .int (zI x), .int (zI w)] : List Value).toArray bw_T RX9 := ⟨hx, hb, hml, hown, fun w h => hts w (List.mem_cons_of_mem _ h)⟩
  replace hl : lv_has ls 6 [(0, .ref a), (1, .ref d), (2, .int (zI x)), (3, .int (zI w))] := hl
  have ha9 := ProgOk.act hp (i := x) (n := w) (k := (((20 * x) + 2) + (3 * w))) hx8 hw8 (by omega)
  refine lv_bipush (v := zI 20) hx hb dX9_act_0 (by decide) ?_
  refine lv_iload_n hx hb dX9_act_2 rfl (lv_at hl 2 rfl) ?_
  refine r_imul (v := zI (20 * x)) F dX9_act_3 (zI_mul _ _) ?_
  refine lv_iconst (v := zI 2) hx hb dX9_act_4 rfl ?_
  refine r_iadd (v := zI ((20 * x) + 2)) F dX9_act_5 (zI_add _ _) ?_
  refine lv_iconst (v := zI 3) hx hb dX9_act_6 rfl ?_
  refine lv_iload_n hx hb dX9_act_7 rfl (lv_at hl 3 rfl) ?_
  refine r_imul (v := zI (3 * w)) F dX9_act_8 (zI_mul _ _) ?_
  refine r_iadd (v := zI (((20 * x) + 2) + (3 * w))) F dX9_act_9 (zI_add _ _) ?_
  refine lv_istore (lv' := [(4, .int (zI (((20 * x) + 2) + (3 * w)))), (0, .ref a), (1, .ref d), (2, .int (zI x)), (3, .int (zI w))]) hx hb dX9_act_10 hl (by decide) rfl (fun ls hl => ?_)
  refine lv_aload_n hx hb dX9_act_12 rfl (lv_at hl 1 rfl) ?_
  refine lv_iload hx hb dX9_act_13 (lv_at hl 0 rfl) ?_
  refine lv_iconst (v := zI 1) hx hb dX9_act_15 rfl ?_
  refine r_iadd (v := zI ((((20 * x) + 2) + (3 * w)) + 1)) F dX9_act_16 (zI_add _ _) ?_
  refine rz_iald F hK hP 0 0 rfl rfl (by omega) (by omega) dX9_act_17 ?_
  refine lv_istore (lv' := [(5, .int (zI (g_p (((((20 * x) + 2) + (3 * w)) + 1)).toNat))), (4, .int (zI (((20 * x) + 2) + (3 * w)))), (0, .ref a), (1, .ref d), (2, .int (zI x)), (3, .int (zI w))]) hx hb dX9_act_18 hl (by decide) rfl (fun ls hl => ?_)
  refine lv_aload_n hx hb dX9_act_20 rfl (lv_at hl 2 rfl) ?_
  refine lv_iload hx hb dX9_act_21 (lv_at hl 1 rfl) ?_
  refine rz_iald F hK hP 0 0 rfl rfl (by omega) (by omega) dX9_act_23 ?_
  by_cases h_in : 0 ≤ (g_p ((((20 * x) + 2) + (3 * w))).toNat) ∧ (g_p ((((20 * x) + 2) + (3 * w))).toNat) ≤ 2
  · rcases (show (g_p ((((20 * x) + 2) + (3 * w))).toNat) = 0 ∨ (g_p ((((20 * x) + 2) + (3 * w))).toNat) = 1 ∨ (g_p ((((20 * x) + 2) + (3 * w))).toNat) = 2 by omega) with h_e | h_e | h_e
    · refine lv_tableIn (off := 28) (tgt := 52) hx hb dX9_act_24 (by rw [h_e]; decide) (by rw [h_e]; decide) (by rw [h_e]; decide) (by decide) ?_
      refine lv_aload_n hx hb dX9_act_52 rfl (lv_at hl 3 rfl) ?_
      refine lv_iload hx hb dX9_act_53 (lv_at hl 0 rfl) ?_
      refine lv_bipush (v := zI 99) hx hb dX9_act_55 (by decide) ?_
      refine lv_aload_n hx hb dX9_act_57 rfl (lv_at hl 3 rfl) ?_
      refine lv_iload hx hb dX9_act_58 (lv_at hl 0 rfl) ?_
      refine rz_iald F hK hP 1 0 rfl rfl (by omega) (by omega) dX9_act_60 ?_
      have hc1 := hs.1 ((g_p (((((20 * x) + 2) + (3 * w)) + 1)).toNat)).toNat (by omega)
      refine lv_iconst (v := zI 1) hx hb dX9_act_61 rfl ?_
      refine r_iadd (v := zI ((g_s ((g_p (((((20 * x) + 2) + (3 * w)) + 1)).toNat)).toNat) + 1)) F dX9_act_62 (zI_add _ _) ?_
      refine r_callSi (As := [.int (zI 99), .int (zI ((g_s ((g_p (((((20 * x) + 2) + (3 * w)) + 1)).toNat)).toNat) + 1))]) (rest := [.int (zI (g_p (((((20 * x) + 2) + (3 * w)) + 1)).toNat)), .ref d]) (wr := [(a, .inl (cI, 200, .inl (fun k => zI (g_p k)))), (d, .inl (cI, 159, .inl (fun k => zI (g_s k))))]) F hK hP hD hS hA hO hE (c_X9_less hO 99 ((g_s ((g_p (((((20 * x) + 2) + (3 * w)) + 1)).toNat)).toNat) + 1) (by omega) (by omega)) k_1460 ks_X9_less 2 rfl (by decide +kernel) ⟨Nat.le_of_ble_eq_true rfl, Nat.le_of_ble_eq_true rfl⟩ [] [0, 1] rfl rfl (by decide) (by decide) (by decide) hl.1 rfl (Nat.le_of_ble_eq_true rfl) dX9_act_63 ⟨Nat.le_of_ble_eq_true rfl, Nat.le_of_ble_eq_true rfl⟩ (w1 := fun u2 => [(a, .inl (cI, 200, .inl (fun k => zI (g_p k)))), (d, .inl (cI, 159, .inl (fun k => zI (g_s k))))]) (fun _ => rfl) (fun r3 u2 H locs hp4 hP hD hS => ?_)
      obtain ⟨z5, rfl, h_z5⟩ := hp4
      refine rz_iastG F hK hP hD hS 1 0 rfl rfl (by omega) (by omega) dX9_act_66 (w1 := fun g6 => [(a, .inl (cI, 200, .inl (fun k => zI (g_p k)))), (d, .inl (cI, 159, .inl (fun k => zI (g6 k))))]) (fun _ => rfl) (fun g6 e_g6 H locs hP hD hS => ?_)
      obtain ⟨hsi7, hr_hsi7⟩ := SI.cnt hs e_g6 (by omega) (by omega)
      have ht8 : g6 4 = g_s 4 := uZ_off e_g6 (by omega)
      have ht9 : g6 5 = g_s 5 := uZ_off e_g6 (by omega)
      have ht10 : g6 6 = g_s 6 := uZ_off e_g6 (by omega)
      refine lv_goto (tgt := 155) hx hb dX9_act_67 (by decide) ?_
      exact ret (fun k => [((fun _ => 0), fun _ _ => 0), (fun _ => 0, fun _ => g6)].getD k (fun _ => 0, fun _ _ => 0)) _ _ _ _ _ _ ⟨(show SI g_p g6 ∧ rM g6 ≤ rM g_s ∧ g6 4 = g_s 4 ∧ g6 5 = g_s 5 ∧ g6 6 = g_s 6 from ⟨hsi7, by omega, by omega, by omega, by omega⟩), (show g6 = actF g_p g_s x w from by unfold actF; rw [if_pos (show g_p (20 * x + 2 + 3 * w).toNat = 0 by omega), e_g6, lessZ_eq h_z5])⟩ (bw_subP (isC := [0, 1]) hP rfl) (hD.sub [0, 1] (by decide) rfl) hS (Nat.le_of_ble_eq_true rfl) (Nat.le_of_ble_eq_true rfl) dX9_act_155
    · refine lv_tableIn (off := 46) (tgt := 70) hx hb dX9_act_24 (by rw [h_e]; decide) (by rw [h_e]; decide) (by rw [h_e]; decide) (by decide) ?_
      refine lv_aload_n hx hb dX9_act_70 rfl (lv_at hl 3 rfl) ?_
      refine lv_iload hx hb dX9_act_71 (lv_at hl 0 rfl) ?_
      refine lv_aload_n hx hb dX9_act_73 rfl (lv_at hl 3 rfl) ?_
      refine lv_iload hx hb dX9_act_74 (lv_at hl 0 rfl) ?_
      refine rz_iald F hK hP 1 0 rfl rfl (by omega) (by omega) dX9_act_76 ?_
      have hc11 := hs.1 ((g_p (((((20 * x) + 2) + (3 * w)) + 1)).toNat)).toNat (by omega)
      refine rz_if_le (tgt := 89) F (by omega) dX9_act_77 (by decide) (fun h77_11 => ?_) (fun h77_11 => ?_)
      · refine lv_iconst (v := zI 0) hx hb dX9_act_89 rfl ?_
        refine rz_iastG F hK hP hD hS 1 0 rfl rfl (by omega) (by omega) dX9_act_90 (w1 := fun g13 => [(a, .inl (cI, 200, .inl (fun k => zI (g_p k)))), (d, .inl (cI, 159, .inl (fun k => zI (g13 k))))]) (fun _ => rfl) (fun g13 e_g13 H locs hP hD hS => ?_)
        obtain ⟨hsi14, hr_hsi14⟩ := SI.cnt hs e_g13 (by omega) (by omega)
        have ht15 : g13 4 = g_s 4 := uZ_off e_g13 (by omega)
        have ht16 : g13 5 = g_s 5 := uZ_off e_g13 (by omega)
        have ht17 : g13 6 = g_s 6 := uZ_off e_g13 (by omega)
        refine lv_goto (tgt := 155) hx hb dX9_act_91 (by decide) ?_
        exact ret (fun k => [((fun _ => 0), fun _ _ => 0), (fun _ => 0, fun _ => g13)].getD k (fun _ => 0, fun _ _ => 0)) _ _ _ _ _ _ ⟨(show SI g_p g13 ∧ rM g13 ≤ rM g_s ∧ g13 4 = g_s 4 ∧ g13 5 = g_s 5 ∧ g13 6 = g_s 6 from ⟨hsi14, by omega, by omega, by omega, by omega⟩), (show g13 = actF g_p g_s x w from by unfold actF; rw [if_neg (show ¬ g_p (20 * x + 2 + 3 * w).toNat = 0 by omega), if_pos (show g_p (20 * x + 2 + 3 * w).toNat = 1 by omega), if_neg (by omega), e_g13])⟩ (bw_subP (isC := [0, 1]) hP rfl) (hD.sub [0, 1] (by decide) rfl) hS (Nat.le_of_ble_eq_true rfl) (Nat.le_of_ble_eq_true rfl) dX9_act_155
      · refine lv_aload_n hx hb dX9_act_80 rfl (lv_at hl 3 rfl) ?_
        refine lv_iload hx hb dX9_act_81 (lv_at hl 0 rfl) ?_
        refine rz_iald F hK hP 1 0 rfl rfl (by omega) (by omega) dX9_act_83 ?_
        have hc18 := hs.1 ((g_p (((((20 * x) + 2) + (3 * w)) + 1)).toNat)).toNat (by omega)
        refine lv_iconst (v := zI 1) hx hb dX9_act_84 rfl ?_
        refine r_isub (v := zI ((g_s ((g_p (((((20 * x) + 2) + (3 * w)) + 1)).toNat)).toNat) - 1)) F dX9_act_85 (zI_sub _ _) ?_
        refine lv_goto (tgt := 90) hx hb dX9_act_86 (by decide) ?_
        refine rz_iastG F hK hP hD hS 1 0 rfl rfl (by omega) (by omega) dX9_act_90 (w1 := fun g19 => [(a, .inl (cI, 200, .inl (fun k => zI (g_p k)))), (d, .inl (cI, 159, .inl (fun k => zI (g19 k))))]) (fun _ => rfl) (fun g19 e_g19 H locs hP hD hS => ?_)
        obtain ⟨hsi20, hr_hsi20⟩ := SI.cnt hs e_g19 (by omega) (by omega)
        have ht21 : g19 4 = g_s 4 := uZ_off e_g19 (by omega)
        have ht22 : g19 5 = g_s 5 := uZ_off e_g19 (by omega)
        have ht23 : g19 6 = g_s 6 := uZ_off e_g19 (by omega)
        refine lv_goto (tgt := 155) hx hb dX9_act_91 (by decide) ?_
        exact ret (fun k => [((fun _ => 0), fun _ _ => 0), (fun _ => 0, fun _ => g19)].getD k (fun _ => 0, fun _ _ => 0)) _ _ _ _ _ _ ⟨(show SI g_p g19 ∧ rM g19 ≤ rM g_s ∧ g19 4 = g_s 4 ∧ g19 5 = g_s 5 ∧ g19 6 = g_s 6 from ⟨hsi20, by omega, by omega, by omega, by omega⟩), (show g19 = actF g_p g_s x w from by unfold actF; rw [if_neg (show ¬ g_p (20 * x + 2 + 3 * w).toNat = 0 by omega), if_pos (show g_p (20 * x + 2 + 3 * w).toNat = 1 by omega), if_pos (by omega), e_g19])⟩ (bw_subP (isC := [0, 1]) hP rfl) (hD.sub [0, 1] (by decide) rfl) hS (Nat.le_of_ble_eq_true rfl) (Nat.le_of_ble_eq_true rfl) dX9_act_155
    · refine lv_tableIn (off := 70) (tgt := 94) hx hb dX9_act_24 (by rw [h_e]; decide) (by rw [h_e]; decide) (by rw [h_e]; decide) (by decide) ?_
      refine lv_aload_n hx hb dX9_act_94 rfl (lv_at hl 3 rfl) ?_
      refine lv_iload hx hb dX9_act_95 (lv_at hl 0 rfl) ?_
      refine lv_aload_n hx hb dX9_act_97 rfl (lv_at hl 2 rfl) ?_
      refine lv_iload hx hb dX9_act_98 (lv_at hl 1 rfl) ?_
      refine lv_iconst (v := zI 2) hx hb dX9_act_100 rfl ?_
      refine r_iadd (v := zI ((((20 * x) + 2) + (3 * w)) + 2)) F dX9_act_101 (zI_add _ _) ?_
      refine rz_iald F hK hP 0 0 rfl rfl (by omega) (by omega) dX9_act_102 ?_
      refine rz_iastG F hK hP hD hS 1 0 rfl rfl (by omega) (by omega) dX9_act_103 (w1 := fun g24 => [(a, .inl (cI, 200, .inl (fun k => zI (g_p k)))), (d, .inl (cI, 159, .inl (fun k => zI (g24 k))))]) (fun _ => rfl) (fun g24 e_g24 H locs hP hD hS => ?_)
      obtain ⟨hsi25, hr_hsi25⟩ := SI.cnt hs e_g24 (by omega) (by omega)
      have ht26 : g24 4 = g_s 4 := uZ_off e_g24 (by omega)
      have ht27 : g24 5 = g_s 5 := uZ_off e_g24 (by omega)
      have ht28 : g24 6 = g_s 6 := uZ_off e_g24 (by omega)
      refine lv_goto (tgt := 155) hx hb dX9_act_104 (by decide) ?_
      exact ret (fun k => [((fun _ => 0), fun _ _ => 0), (fun _ => 0, fun _ => g24)].getD k (fun _ => 0, fun _ _ => 0)) _ _ _ _ _ _ ⟨(show SI g_p g24 ∧ rM g24 ≤ rM g_s ∧ g24 4 = g_s 4 ∧ g24 5 = g_s 5 ∧ g24 6 = g_s 6 from ⟨hsi25, by omega, by omega, by omega, by omega⟩), (show g24 = actF g_p g_s x w from by unfold actF; rw [if_neg (show ¬ g_p (20 * x + 2 + 3 * w).toNat = 0 by omega), if_neg (show ¬ g_p (20 * x + 2 + 3 * w).toNat = 1 by omega), if_pos (show g_p (20 * x + 2 + 3 * w).toNat = 2 by omega), e_g24])⟩ (bw_subP (isC := [0, 1]) hP rfl) (hD.sub [0, 1] (by decide) rfl) hS (Nat.le_of_ble_eq_true rfl) (Nat.le_of_ble_eq_true rfl) dX9_act_155
  · refine lv_tableOut (tgt := 107) hx hb dX9_act_24 (by rw [zI_toInt (by omega)]; omega) (by decide) ?_
    refine lv_aload_n hx hb dX9_act_107 rfl (lv_at hl 3 rfl) ?_
    refine lv_bipush (v := zI 28) hx hb dX9_act_108 (by decide) ?_
    refine lv_iload_n hx hb dX9_act_110 rfl (lv_at hl 4 rfl) ?_
    refine r_iadd (v := zI (28 + x)) F dX9_act_111 (zI_add _ _) ?_
    refine rz_iald F hK hP 1 0 rfl rfl (by omega) (by omega) dX9_act_112 ?_
    have hc29 := SI.gave hs (i := x) (k := ((28 + x)).toNat) (by omega) (by omega)
    refine lv_iload_n hx hb dX9_act_113 rfl (lv_at hl 5 rfl) ?_
    refine r_callSi (As := [.int (zI (g_s ((28 + x)).toNat)), .int (zI w)]) (rest := []) (wr := [(a, .inl (cI, 200, .inl (fun k => zI (g_p k)))), (d, .inl (cI, 159, .inl (fun k => zI (g_s k))))]) F hK hP hD hS hA hO hE (c_X9_hasX hO (g_s ((28 + x)).toNat) w (by omega) (by omega)) k_1463 ks_X9_has 2 rfl (by decide +kernel) ⟨Nat.le_of_ble_eq_true rfl, Nat.le_of_ble_eq_true rfl⟩ [] [0, 1] rfl rfl (by decide) (by decide) (by decide) hl.1 rfl (Nat.le_of_ble_eq_true rfl) dX9_act_114 ⟨Nat.le_of_ble_eq_true rfl, Nat.le_of_ble_eq_true rfl⟩ (w1 := fun u30 => [(a, .inl (cI, 200, .inl (fun k => zI (g_p k)))), (d, .inl (cI, 159, .inl (fun k => zI (g_s k))))]) (fun _ => rfl) (fun r31 u30 H locs hp32 hP hD hS => ?_)
    obtain ⟨z33, rfl, h_z33⟩ := hp32
    refine rz_ifb_eq (tgt := 121) F (by omega) dX9_act_117 (by decide) (fun h117_33 => ?_) (fun h117_33 => ?_)
    · refine lv_aload_n hx hb dX9_act_121 rfl (lv_at hl 3 rfl) ?_
      refine lv_bipush (v := zI 28) hx hb dX9_act_122 (by decide) ?_
      refine lv_iload_n hx hb dX9_act_124 rfl (lv_at hl 4 rfl) ?_
      refine r_iadd (v := zI (28 + x)) F dX9_act_125 (zI_add _ _) ?_
      refine lv_dup2_11 hx hb dX9_act_126 rfl rfl ?_
      refine rz_iald F hK hP 1 0 rfl rfl (by omega) (by omega) dX9_act_127 ?_
      have hc35 := SI.gave hs (i := x) (k := ((28 + x)).toNat) (by omega) (by omega)
      refine lv_iconst (v := zI 1) hx hb dX9_act_128 rfl ?_
      refine lv_iload_n hx hb dX9_act_129 rfl (lv_at hl 5 rfl) ?_
      refine lv_ishl hx hb dX9_act_130 ?_
      refine lv_ior hx hb dX9_act_131 ?_
      have hgv := gave_step (x := (g_s ((28 + x)).toNat)) (n := w) (by omega) (by omega) (h_z33.2.1 (by omega))
      refine rz_eq hgv.1 ?_
      refine rz_iastG F hK hP hD hS 1 0 rfl rfl (by omega) (by omega) dX9_act_132 (w1 := fun g38 => [(a, .inl (cI, 200, .inl (fun k => zI (g_p k)))), (d, .inl (cI, 159, .inl (fun k => zI (g38 k))))]) (fun _ => rfl) (fun g38 e_g38 H locs hP hD hS => ?_)
      obtain ⟨hsi39, hr_hsi39⟩ := SI.gv hs e_g38 (i := (x).toNat) (by omega) (by omega) (by omega)
      have ht40 : g38 4 = g_s 4 := uZ_off e_g38 (by omega)
      have ht41 : g38 5 = g_s 5 := uZ_off e_g38 (by omega)
      have ht42 : g38 6 = g_s 6 := uZ_off e_g38 (by omega)
      refine lv_aload_n hx hb dX9_act_133 rfl (lv_at hl 3 rfl) ?_
      refine lv_bipush (v := zI 8) hx hb dX9_act_134 (by decide) ?_
      refine lv_iconst (v := zI 2) hx hb dX9_act_136 rfl ?_
      refine lv_iload hx hb dX9_act_137 (lv_at hl 0 rfl) ?_
      refine r_imul (v := zI (2 * (g_p (((((20 * x) + 2) + (3 * w)) + 1)).toNat))) F dX9_act_139 (zI_mul _ _) ?_
      refine r_iadd (v := zI (8 + (2 * (g_p (((((20 * x) + 2) + (3 * w)) + 1)).toNat)))) F dX9_act_140 (zI_add _ _) ?_
      refine lv_iconst (v := zI 0) hx hb dX9_act_141 rfl ?_
      refine rz_iastG F hK hP hD hS 1 0 rfl rfl (by omega) (by omega) dX9_act_142 (w1 := fun g43 => [(a, .inl (cI, 200, .inl (fun k => zI (g_p k)))), (d, .inl (cI, 159, .inl (fun k => zI (g43 k))))]) (fun _ => rfl) (fun g43 e_g43 H locs hP hD hS => ?_)
      have hc44 := SI.take hsi39 (i := (g_p ((((20 * x) + 2) + (3 * w)) + 1).toNat)) (k := ((8 + (2 * (g_p (((((20 * x) + 2) + (3 * w)) + 1)).toNat)))).toNat) (l := (20 * (g_p ((((20 * x) + 2) + (3 * w)) + 1).toNat) + 17).toNat) (by omega) (by omega) (by omega)
      have hc45 := hp.1 (20 * (g_p ((((20 * x) + 2) + (3 * w)) + 1).toNat) + 17).toNat (by omega)
      have hc46 := hp.1.le9 (20 * (g_p ((((20 * x) + 2) + (3 * w)) + 1).toNat) + 17).toNat (by omega)
      obtain ⟨hsi47, hr_hsi47⟩ := SI.tk0 hsi39 e_g43 (l := (20 * (g_p ((((20 * x) + 2) + (3 * w)) + 1).toNat) + 17).toNat) (i := ((g_p ((((20 * x) + 2) + (3 * w)) + 1).toNat)).toNat) (by omega) (by omega) (by omega) (by omega)
      have ht48 : g43 4 = g38 4 := uZ_off e_g43 (by omega)
      have ht49 : g43 5 = g38 5 := uZ_off e_g43 (by omega)
      have ht50 : g43 6 = g38 6 := uZ_off e_g43 (by omega)
      refine lv_aload_n hx hb dX9_act_143 rfl (lv_at hl 3 rfl) ?_
      refine lv_bipush (v := zI 8) hx hb dX9_act_144 (by decide) ?_
      refine lv_iconst (v := zI 2) hx hb dX9_act_146 rfl ?_
      refine lv_iload hx hb dX9_act_147 (lv_at hl 0 rfl) ?_
      refine r_imul (v := zI (2 * (g_p (((((20 * x) + 2) + (3 * w)) + 1)).toNat))) F dX9_act_149 (zI_mul _ _) ?_
      refine r_iadd (v := zI (8 + (2 * (g_p (((((20 * x) + 2) + (3 * w)) + 1)).toNat)))) F dX9_act_150 (zI_add _ _) ?_
      refine lv_iconst (v := zI 1) hx hb dX9_act_151 rfl ?_
      refine r_iadd (v := zI ((8 + (2 * (g_p (((((20 * x) + 2) + (3 * w)) + 1)).toNat))) + 1)) F dX9_act_152 (zI_add _ _) ?_
      refine lv_iconst (v := zI 0) hx hb dX9_act_153 rfl ?_
      refine rz_iastG F hK hP hD hS 1 0 rfl rfl (by omega) (by omega) dX9_act_154 (w1 := fun g51 => [(a, .inl (cI, 200, .inl (fun k => zI (g_p k)))), (d, .inl (cI, 159, .inl (fun k => zI (g51 k))))]) (fun _ => rfl) (fun g51 e_g51 H locs hP hD hS => ?_)
      have hc52 := SI.take1 hsi47 (i := (g_p ((((20 * x) + 2) + (3 * w)) + 1).toNat)) (k := (((8 + (2 * (g_p (((((20 * x) + 2) + (3 * w)) + 1)).toNat))) + 1)).toNat) (l := (20 * (g_p ((((20 * x) + 2) + (3 * w)) + 1).toNat) + 19).toNat) (by omega) (by omega) (by omega)
      have hc53 := hp.1 (20 * (g_p ((((20 * x) + 2) + (3 * w)) + 1).toNat) + 19).toNat (by omega)
      have hc54 := hp.1.le9 (20 * (g_p ((((20 * x) + 2) + (3 * w)) + 1).toNat) + 19).toNat (by omega)
      obtain ⟨hsi55, hr_hsi55⟩ := SI.tk1 hsi47 e_g51 (l := (20 * (g_p ((((20 * x) + 2) + (3 * w)) + 1).toNat) + 19).toNat) (i := ((g_p ((((20 * x) + 2) + (3 * w)) + 1).toNat)).toNat) (by omega) (by omega) (by omega) (by omega)
      have ht56 : g51 4 = g43 4 := uZ_off e_g51 (by omega)
      have ht57 : g51 5 = g43 5 := uZ_off e_g51 (by omega)
      have ht58 : g51 6 = g43 6 := uZ_off e_g51 (by omega)
      exact ret (fun k => [((fun _ => 0), fun _ _ => 0), (fun _ => 0, fun _ => g51)].getD k (fun _ => 0, fun _ _ => 0)) _ _ _ _ _ _ ⟨(show SI g_p g51 ∧ rM g51 ≤ rM g_s ∧ g51 4 = g_s 4 ∧ g51 5 = g_s 5 ∧ g51 6 = g_s 6 from ⟨hsi55, by omega, by omega, by omega, by omega⟩), (show g51 = actF g_p g_s x w from by unfold actF; rw [if_neg (show ¬ g_p (20 * x + 2 + 3 * w).toNat = 0 by omega), if_neg (show ¬ g_p (20 * x + 2 + 3 * w).toNat = 1 by omega), if_neg (show ¬ g_p (20 * x + 2 + 3 * w).toNat = 2 by omega), if_neg (fun q8 => (h_z33.2.1 (by omega)) ((bitB_div (by omega) (by omega)).mpr q8)), e_g51, e_g43, e_g38])⟩ (bw_subP (isC := [0, 1]) hP rfl) (hD.sub [0, 1] (by decide) rfl) hS (Nat.le_of_ble_eq_true rfl) (Nat.le_of_ble_eq_true rfl) dX9_act_155
    · exact ret (fun k => [((fun _ => 0), fun _ _ => 0), (fun _ => 0, fun _ => g_s)].getD k (fun _ => 0, fun _ _ => 0)) _ _ _ _ _ _ ⟨(show SI g_p g_s ∧ rM g_s ≤ rM g_s ∧ g_s 4 = g_s 4 ∧ g_s 5 = g_s 5 ∧ g_s 6 = g_s 6 from ⟨hs, by omega, by omega, by omega, by omega⟩), (show g_s = actF g_p g_s x w from by unfold actF; rw [if_neg (show ¬ g_p (20 * x + 2 + 3 * w).toNat = 0 by omega), if_neg (show ¬ g_p (20 * x + 2 + 3 * w).toNat = 1 by omega), if_neg (show ¬ g_p (20 * x + 2 + 3 * w).toNat = 2 by omega), if_pos ((bitB_div (by omega) (by omega)).mp (h_z33.2.2 (by omega)))])⟩ (bw_subP (isC := [0, 1]) hP rfl) (hD.sub [0, 1] (by decide) rfl) hS (Nat.le_of_ble_eq_true rfl) (Nat.le_of_ble_eq_true rfl) dX9_act_120
