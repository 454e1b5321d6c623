/-- line x, untold again -/
def UntR (g g' : Nat → Nat → Int) (x : Int) : Prop := g' 0 = uZ (g 0) x.toNat (-1) ∧ g' 1 = uZ (g 1) x.toNat (-2) ∧ g' 2 = uZ (g 2) x.toNat 0 ∧ (g' 3 = g 3 ∧ g' 4 = g 4 ∧ g' 5 = g 5) ∧ g' 6 = uZ (uZ (g 6) (2 * x).toNat (-2)) (2 * x + 1).toNat (-2) ∧ g' 7 = uZ (uZ (g 7) (2 * x).toNat 0) (2 * x + 1).toNat 0
def DefR (g : Nat → Nat → Int) (k : Nat) : Prop := g 0 k = -1 ∧ g 1 k = -2 ∧ g 2 k = 0 ∧ g 6 (2 * k) = -2 ∧ g 6 (2 * k + 1) = -2 ∧ g 7 (2 * k) = 0 ∧ g 7 (2 * k + 1) = 0
theorem UntR.step {g g' : Nat → Nat → Int} {v : Int} (h0 : 0 ≤ v ∧ v < 10) (h : ∀ k : Nat, (k : Int) < v → DefR g k) (u : UntR g g' v) : ∀ k : Nat, (k : Int) < v + 1 → DefR g' k := by
  obtain ⟨u0, u1, u2, -, u6, u7⟩ := u
  have x2 : (2 * v).toNat = 2 * v.toNat := by omega
  have x3 : (2 * v + 1).toNat = 2 * v.toNat + 1 := by omega
  have hs : ∀ (g : Nat → Int) (i : Nat) (w : Int), uZ g i w i = w := fun g i w => by simp [uZ]
  intro k hk
  unfold DefR
  rw [u0, u1, u2, u6, u7, x2, x3]
  by_cases q : k = v.toNat
  · subst q
    rw [hs, hs, hs, uZ_nk _ _ (show ¬ 2 * v.toNat = 2 * v.toNat + 1 by omega), uZ_nk _ _ (show ¬ 2 * v.toNat = 2 * v.toNat + 1 by omega), hs, hs, hs, hs]
    exact ⟨rfl, rfl, rfl, rfl, rfl, rfl, rfl⟩
  · have d := h k (by omega)
    unfold DefR at d
    rw [uZ_nk _ _ q, uZ_nk _ _ q, uZ_nk _ _ q, uZ_nk _ _ (show ¬ 2 * k = 2 * v.toNat + 1 by omega), uZ_nk _ _ (show ¬ 2 * k = 2 * v.toNat by omega), uZ_nk _ _ (show ¬ 2 * k + 1 = 2 * v.toNat + 1 by omega), uZ_nk _ _ (show ¬ 2 * k + 1 = 2 * v.toNat by omega), uZ_nk _ _ (show ¬ 2 * k = 2 * v.toNat + 1 by omega), uZ_nk _ _ (show ¬ 2 * k = 2 * v.toNat by omega), uZ_nk _ _ (show ¬ 2 * k + 1 = 2 * v.toNat + 1 by omega), uZ_nk _ _ (show ¬ 2 * k + 1 = 2 * v.toNat by omega)]
    exact d
theorem NRel.zero {g : Nat → Nat → Int} {P : Nat → Int} (h : ∀ k : Nat, k < 10 → DefR g k) (hP : ∀ k : Nat, k < 200 → P k = 0) : NRel g P := by
  intro k hk
  obtain ⟨d0, d⟩ := h k hk
  exact Or.inl ⟨d0, d, fun j hj => hP _ (by omega)⟩
theorem NRel.copy {g g' : Nat → Nat → Int} {P P' : Nat → Int} (h : NRel g P) (h4 : ∀ k : Nat, k < 10 → g 2 k ≤ 4) (e : ∀ j k, k < netLen j → g' j k = g j k) (eP : ∀ k : Nat, k < 200 → P' k = P k) : NRel g' P' := by
  intro k hk
  have l0 : netLen 0 = 10 := rfl
  have l1 : netLen 1 = 10 := rfl
  have l2 : netLen 2 = 10 := rfl
  have l3 : netLen 3 = 40 := rfl
  have l4 : netLen 4 = 40 := rfl
  have l5 : netLen 5 = 40 := rfl
  have l6 : netLen 6 = 20 := rfl
  have l7 : netLen 7 = 20 := rfl
  exact (h k hk).congr (e 0 k (by omega)) (e 1 k (by omega)) (e 2 k (by omega)) (h4 k hk) (fun j hj => ⟨e 3 _ (by omega), e 4 _ (by omega), e 5 _ (by omega)⟩) ⟨e 6 _ (by omega), e 6 _ (by omega)⟩ ⟨e 7 _ (by omega), e 7 _ (by omega)⟩ (fun j hj => eP _ (by omega))
abbrev rm_X2z_untell : Room := { frames := 0, cells := 0, slots := 0, locals := 0 }
set_option maxRecDepth 100000 in
set_option maxHeartbeats 8000000 in
theorem c_X2z_untell {l : Launch} {E : (Nat → Prop) → State → Prop} (hO : bw_Ok E) {G : va_G} {cI cB cJ cN cW : ClassId} (b : Nat) (q : Nat → Nat) (n : Int) (g : Nat → Nat → Int) (hN : NetW n g) (x : Int) (hx9 : 0 ≤ x ∧ x < 10) : bw_Cv (S := zU) l yX2_untell (bw_ws (Cond.code yX2_untell cX2_untell 3 none)) rm_X2z_untell E G (bw_kt cI cB cJ cN cW) [.ref b, .int (zI x)] [(b, .inr (2, [.int (zI n), .ref (q 0), .ref (q 1), .ref (q 2), .ref (q 3), .ref (q 4), .ref (q 5), .ref (q 6), .ref (q 7)])), ((q 0), .inl (cI, 10, .inl (fun k => zI ((g 0) k)))), ((q 1), .inl (cI, 10, .inl (fun k => zI ((g 1) k)))), ((q 2), .inl (cI, 10, .inl (fun k => zI ((g 2) k)))), ((q 3), .inl (cI, 40, .inl (fun k => zI ((g 3) k)))), ((q 4), .inl (cI, 40, .inl (fun k => zI ((g 4) k)))), ((q 5), .inl (cI, 40, .inl (fun k => zI ((g 5) k)))), ((q 6), .inl (cI, 20, .inl (fun k => zI ((g 6) k)))), ((q 7), .inl (cI, 20, .inl (fun k => zI ((g 7) k))))] (fun u => NetW n u.2 ∧ UntR g u.2 x) (fun u => [(b, .inr (2, [.int (zI n), .ref (q 0), .ref (q 1), .ref (q 2), .ref (q 3), .ref (q 4), .ref (q 5), .ref (q 6), .ref (q 7)])), ((q 0), .inl (cI, 10, .inl (fun k => zI ((u.2 0) k)))), ((q 1), .inl (cI, 10, .inl (fun k => zI ((u.2 1) k)))), ((q 2), .inl (cI, 10, .inl (fun k => zI ((u.2 2) k)))), ((q 3), .inl (cI, 40, .inl (fun k => zI ((u.2 3) k)))), ((q 4), .inl (cI, 40, .inl (fun k => zI ((u.2 4) k)))), ((q 5), .inl (cI, 40, .inl (fun k => zI ((u.2 5) k)))), ((q 6), .inl (cI, 20, .inl (fun k => zI ((u.2 6) k)))), ((q 7), .inl (cI, 20, .inl (fun k => zI ((u.2 7) k))))]) := by
  refine bw_Cv.of (cc := cX2_untell) (maxL := 3) (by decide) rfl (Nat.le_of_ble_eq_true rfl) ?_
  intro p e s m below meth c A Q hx hb hml hts hown hin hK hA hS hP hD hE ret ls hl
  have F : CallFix p m c cX2_untell 3 s ([.ref b, .int (zI x)] : List Value).toArray bw_T RX2 := ⟨hx, hb, hml, hown, fun w h => hts w (List.mem_cons_of_mem _ h)⟩
  replace hl : lv_has ls 3 [(0, .ref b), (1, .int (zI x))] := hl
  have hN0 := hN.1
  refine lv_aload_n hx hb dX2_untell_0 rfl (lv_at hl 0 rfl) ?_
  refine r_get F hK hP 0 1 rfl rfl in_X2 (by decide) k_147 rfl dX2_untell_1 ?_
  refine lv_iload_n hx hb dX2_untell_4 rfl (lv_at hl 1 rfl) ?_
  refine lv_iconst (v := zI (-1)) hx hb dX2_untell_5 rfl ?_
  refine rz_iastG F hK hP hD hS 1 0 rfl rfl (by omega) (by omega) dX2_untell_6 (w1 := fun g1 => [(b, .inr (2, [.int (zI n), .ref (q 0), .ref (q 1), .ref (q 2), .ref (q 3), .ref (q 4), .ref (q 5), .ref (q 6), .ref (q 7)])), ((q 0), .inl (cI, 10, .inl (fun k => zI (g1 k)))), ((q 1), .inl (cI, 10, .inl (fun k => zI ((g 1) k)))), ((q 2), .inl (cI, 10, .inl (fun k => zI ((g 2) k)))), ((q 3), .inl (cI, 40, .inl (fun k => zI ((g 3) k)))), ((q 4), .inl (cI, 40, .inl (fun k => zI ((g 4) k)))), ((q 5), .inl (cI, 40, .inl (fun k => zI ((g 5) k)))), ((q 6), .inl (cI, 20, .inl (fun k => zI ((g 6) k)))), ((q 7), .inl (cI, 20, .inl (fun k => zI ((g 7) k))))]) (fun _ => rfl) (fun g1 e_g1 H locs hP hD hS => ?_)
  refine lv_aload_n hx hb dX2_untell_7 rfl (lv_at hl 0 rfl) ?_
  refine r_get F hK hP 0 2 rfl rfl in_X2 (by decide) k_150 rfl dX2_untell_8 ?_
  refine lv_iload_n hx hb dX2_untell_11 rfl (lv_at hl 1 rfl) ?_
  refine lv_bipush (v := zI (-2)) hx hb dX2_untell_12 (by decide) ?_
  refine rz_iastG F hK hP hD hS 2 0 rfl rfl (by omega) (by omega) dX2_untell_14 (w1 := fun g2 => [(b, .inr (2, [.int (zI n), .ref (q 0), .ref (q 1), .ref (q 2), .ref (q 3), .ref (q 4), .ref (q 5), .ref (q 6), .ref (q 7)])), ((q 0), .inl (cI, 10, .inl (fun k => zI (g1 k)))), ((q 1), .inl (cI, 10, .inl (fun k => zI (g2 k)))), ((q 2), .inl (cI, 10, .inl (fun k => zI ((g 2) k)))), ((q 3), .inl (cI, 40, .inl (fun k => zI ((g 3) k)))), ((q 4), .inl (cI, 40, .inl (fun k => zI ((g 4) k)))), ((q 5), .inl (cI, 40, .inl (fun k => zI ((g 5) k)))), ((q 6), .inl (cI, 20, .inl (fun k => zI ((g 6) k)))), ((q 7), .inl (cI, 20, .inl (fun k => zI ((g 7) k))))]) (fun _ => rfl) (fun g2 e_g2 H locs hP hD hS => ?_)
  refine lv_aload_n hx hb dX2_untell_15 rfl (lv_at hl 0 rfl) ?_
  refine r_get F hK hP 0 3 rfl rfl in_X2 (by decide) k_153 rfl dX2_untell_16 ?_
  refine lv_iload_n hx hb dX2_untell_19 rfl (lv_at hl 1 rfl) ?_
  refine lv_iconst (v := zI 0) hx hb dX2_untell_20 rfl ?_
  refine rz_iastG F hK hP hD hS 3 0 rfl rfl (by omega) (by omega) dX2_untell_21 (w1 := fun g3 => [(b, .inr (2, [.int (zI n), .ref (q 0), .ref (q 1), .ref (q 2), .ref (q 3), .ref (q 4), .ref (q 5), .ref (q 6), .ref (q 7)])), ((q 0), .inl (cI, 10, .inl (fun k => zI (g1 k)))), ((q 1), .inl (cI, 10, .inl (fun k => zI (g2 k)))), ((q 2), .inl (cI, 10, .inl (fun k => zI (g3 k)))), ((q 3), .inl (cI, 40, .inl (fun k => zI ((g 3) k)))), ((q 4), .inl (cI, 40, .inl (fun k => zI ((g 4) k)))), ((q 5), .inl (cI, 40, .inl (fun k => zI ((g 5) k)))), ((q 6), .inl (cI, 20, .inl (fun k => zI ((g 6) k)))), ((q 7), .inl (cI, 20, .inl (fun k => zI ((g 7) k))))]) (fun _ => rfl) (fun g3 e_g3 H locs hP hD hS => ?_)
  refine lv_iconst (v := zI 2) hx hb dX2_untell_22 rfl ?_
  refine lv_iload_n hx hb dX2_untell_23 rfl (lv_at hl 1 rfl) ?_
  refine r_imul (v := zI (2 * x)) F dX2_untell_24 (zI_mul _ _) ?_
  refine lv_istore_n (lv' := [(2, .int (zI (2 * x))), (0, .ref b), (1, .int (zI x))]) hx hb dX2_untell_25 rfl hl (by decide) rfl (fun ls hl => ?_)
  refine lv_iload_n hx hb dX2_untell_26 rfl (lv_at hl 0 rfl) ?_
  refine lv_iconst (v := zI 2) hx hb dX2_untell_27 rfl ?_
  refine lv_iload_n hx hb dX2_untell_28 rfl (lv_at hl 2 rfl) ?_
  refine r_imul (v := zI (2 * x)) F dX2_untell_29 (zI_mul _ _) ?_
  refine lv_iconst (v := zI 1) hx hb dX2_untell_30 rfl ?_
  refine r_iadd (v := zI ((2 * x) + 1)) F dX2_untell_31 (zI_add _ _) ?_
  refine rz_icmp_gt (tgt := 56) F (by omega) (by omega) dX2_untell_32 (by decide) (fun h32_3 => by omega) (fun h32_3 => ?_)
  refine lv_aload_n hx hb dX2_untell_35 rfl (lv_at hl 1 rfl) ?_
  refine r_get F hK hP 0 7 rfl rfl in_X2 (by decide) k_165 rfl dX2_untell_36 ?_
  refine lv_iload_n hx hb dX2_untell_39 rfl (lv_at hl 0 rfl) ?_
  refine lv_bipush (v := zI (-2)) hx hb dX2_untell_40 (by decide) ?_
  refine rz_iastG F hK hP hD hS 7 0 rfl rfl (by omega) (by omega) dX2_untell_42 (w1 := fun g5 => [(b, .inr (2, [.int (zI n), .ref (q 0), .ref (q 1), .ref (q 2), .ref (q 3), .ref (q 4), .ref (q 5), .ref (q 6), .ref (q 7)])), ((q 0), .inl (cI, 10, .inl (fun k => zI (g1 k)))), ((q 1), .inl (cI, 10, .inl (fun k => zI (g2 k)))), ((q 2), .inl (cI, 10, .inl (fun k => zI (g3 k)))), ((q 3), .inl (cI, 40, .inl (fun k => zI ((g 3) k)))), ((q 4), .inl (cI, 40, .inl (fun k => zI ((g 4) k)))), ((q 5), .inl (cI, 40, .inl (fun k => zI ((g 5) k)))), ((q 6), .inl (cI, 20, .inl (fun k => zI (g5 k)))), ((q 7), .inl (cI, 20, .inl (fun k => zI ((g 7) k))))]) (fun _ => rfl) (fun g5 e_g5 H locs hP hD hS => ?_)
  refine lv_aload_n hx hb dX2_untell_43 rfl (lv_at hl 1 rfl) ?_
  refine r_get F hK hP 0 8 rfl rfl in_X2 (by decide) k_169 rfl dX2_untell_44 ?_
  refine lv_iload_n hx hb dX2_untell_47 rfl (lv_at hl 0 rfl) ?_
  refine lv_iconst (v := zI 0) hx hb dX2_untell_48 rfl ?_
  refine rz_iastG F hK hP hD hS 8 0 rfl rfl (by omega) (by omega) dX2_untell_49 (w1 := fun g6 => [(b, .inr (2, [.int (zI n), .ref (q 0), .ref (q 1), .ref (q 2), .ref (q 3), .ref (q 4), .ref (q 5), .ref (q 6), .ref (q 7)])), ((q 0), .inl (cI, 10, .inl (fun k => zI (g1 k)))), ((q 1), .inl (cI, 10, .inl (fun k => zI (g2 k)))), ((q 2), .inl (cI, 10, .inl (fun k => zI (g3 k)))), ((q 3), .inl (cI, 40, .inl (fun k => zI ((g 3) k)))), ((q 4), .inl (cI, 40, .inl (fun k => zI ((g 4) k)))), ((q 5), .inl (cI, 40, .inl (fun k => zI ((g 5) k)))), ((q 6), .inl (cI, 20, .inl (fun k => zI (g5 k)))), ((q 7), .inl (cI, 20, .inl (fun k => zI (g6 k))))]) (fun _ => rfl) (fun g6 e_g6 H locs hP hD hS => ?_)
  refine lv_iinc (v := zI ((2 * x) + 1)) (lv' := [(2, .int (zI ((2 * x) + 1))), (0, .ref b), (1, .int (zI x))]) hx hb dX2_untell_50 hl (k := 0) rfl (zI_add _ _) (by decide) rfl (fun ls hl => ?_)
  refine lv_goto (tgt := 26) hx hb dX2_untell_53 (by decide) ?_
  refine lv_iload_n hx hb dX2_untell_26 rfl (lv_at hl 0 rfl) ?_
  refine lv_iconst (v := zI 2) hx hb dX2_untell_27 rfl ?_
  refine lv_iload_n hx hb dX2_untell_28 rfl (lv_at hl 2 rfl) ?_
  refine r_imul (v := zI (2 * x)) F dX2_untell_29 (zI_mul _ _) ?_
  refine lv_iconst (v := zI 1) hx hb dX2_untell_30 rfl ?_
  refine r_iadd (v := zI ((2 * x) + 1)) F dX2_untell_31 (zI_add _ _) ?_
  refine rz_icmp_gt (tgt := 56) F (by omega) (by omega) dX2_untell_32 (by decide) (fun h32_6 => by omega) (fun h32_6 => ?_)
  refine lv_aload_n hx hb dX2_untell_35 rfl (lv_at hl 1 rfl) ?_
  refine r_get F hK hP 0 7 rfl rfl in_X2 (by decide) k_165 rfl dX2_untell_36 ?_
  refine lv_iload_n hx hb dX2_untell_39 rfl (lv_at hl 0 rfl) ?_
  refine lv_bipush (v := zI (-2)) hx hb dX2_untell_40 (by decide) ?_
  refine rz_iastG F hK hP hD hS 7 0 rfl rfl (by omega) (by omega) dX2_untell_42 (w1 := fun g8 => [(b, .inr (2, [.int (zI n), .ref (q 0), .ref (q 1), .ref (q 2), .ref (q 3), .ref (q 4), .ref (q 5), .ref (q 6), .ref (q 7)])), ((q 0), .inl (cI, 10, .inl (fun k => zI (g1 k)))), ((q 1), .inl (cI, 10, .inl (fun k => zI (g2 k)))), ((q 2), .inl (cI, 10, .inl (fun k => zI (g3 k)))), ((q 3), .inl (cI, 40, .inl (fun k => zI ((g 3) k)))), ((q 4), .inl (cI, 40, .inl (fun k => zI ((g 4) k)))), ((q 5), .inl (cI, 40, .inl (fun k => zI ((g 5) k)))), ((q 6), .inl (cI, 20, .inl (fun k => zI (g8 k)))), ((q 7), .inl (cI, 20, .inl (fun k => zI (g6 k))))]) (fun _ => rfl) (fun g8 e_g8 H locs hP hD hS => ?_)
  refine lv_aload_n hx hb dX2_untell_43 rfl (lv_at hl 1 rfl) ?_
  refine r_get F hK hP 0 8 rfl rfl in_X2 (by decide) k_169 rfl dX2_untell_44 ?_
  refine lv_iload_n hx hb dX2_untell_47 rfl (lv_at hl 0 rfl) ?_
  refine lv_iconst (v := zI 0) hx hb dX2_untell_48 rfl ?_
  refine rz_iastG F hK hP hD hS 8 0 rfl rfl (by omega) (by omega) dX2_untell_49 (w1 := fun g9 => [(b, .inr (2, [.int (zI n), .ref (q 0), .ref (q 1), .ref (q 2), .ref (q 3), .ref (q 4), .ref (q 5), .ref (q 6), .ref (q 7)])), ((q 0), .inl (cI, 10, .inl (fun k => zI (g1 k)))), ((q 1), .inl (cI, 10, .inl (fun k => zI (g2 k)))), ((q 2), .inl (cI, 10, .inl (fun k => zI (g3 k)))), ((q 3), .inl (cI, 40, .inl (fun k => zI ((g 3) k)))), ((q 4), .inl (cI, 40, .inl (fun k => zI ((g 4) k)))), ((q 5), .inl (cI, 40, .inl (fun k => zI ((g 5) k)))), ((q 6), .inl (cI, 20, .inl (fun k => zI (g8 k)))), ((q 7), .inl (cI, 20, .inl (fun k => zI (g9 k))))]) (fun _ => rfl) (fun g9 e_g9 H locs hP hD hS => ?_)
  refine lv_iinc (v := zI (((2 * x) + 1) + 1)) (lv' := [(2, .int (zI (((2 * x) + 1) + 1))), (0, .ref b), (1, .int (zI x))]) hx hb dX2_untell_50 hl (k := 0) rfl (zI_add _ _) (by decide) rfl (fun ls hl => ?_)
  refine lv_goto (tgt := 26) hx hb dX2_untell_53 (by decide) ?_
  refine lv_iload_n hx hb dX2_untell_26 rfl (lv_at hl 0 rfl) ?_
  refine lv_iconst (v := zI 2) hx hb dX2_untell_27 rfl ?_
  refine lv_iload_n hx hb dX2_untell_28 rfl (lv_at hl 2 rfl) ?_
  refine r_imul (v := zI (2 * x)) F dX2_untell_29 (zI_mul _ _) ?_
  refine lv_iconst (v := zI 1) hx hb dX2_untell_30 rfl ?_
  refine r_iadd (v := zI ((2 * x) + 1)) F dX2_untell_31 (zI_add _ _) ?_
  refine rz_icmp_gt (tgt := 56) F (by omega) (by omega) dX2_untell_32 (by decide) (fun h32_9 => ?_) (fun h32_9 => by omega)
  exact ret (fun _ => 0, fun k => [g1, g2, g3, (g 3), (g 4), (g 5), g8, g9].getD k (fun _ => 0)) _ _ _ _ _ _ ⟨(NetW.untell2 hN hx9 e_g1 e_g2 e_g3 e_g5 e_g8 e_g6 e_g9).1, ⟨e_g1, e_g2, e_g3, ⟨rfl, rfl, rfl⟩, (by rw [← e_g5]; exact e_g8), (by rw [← e_g6]; exact e_g9)⟩⟩ (bw_subP (isC := [0, 1, 2, 3, 4, 5, 6, 7, 8]) hP rfl) (hD.sub [0, 1, 2, 3, 4, 5, 6, 7, 8] (by decide) rfl) hS (Nat.le_of_ble_eq_true rfl) (Nat.le_of_ble_eq_true rfl) dX2_untell_56
abbrev rm_X2z_clear : Room := { frames := 1, cells := 0, slots := 0, locals := 22 }
set_option maxRecDepth 100000 in
set_option maxHeartbeats 8000000 in
theorem c_X2z_clear {l : Launch} {E : (Nat → Prop) → State → Prop} (hO : bw_Ok E) {G : va_G} {cI cB cJ cN cW : ClassId} (b : Nat) (q : Nat → Nat) (n : Int) (g : Nat → Nat → Int) (hN : NetW n g) : bw_Cv (S := zU) l yX2_clear (bw_ws (Cond.code yX2_clear cX2_clear 2 none)) rm_X2z_clear E G (bw_kt cI cB cJ cN cW) [.ref b] [(b, .inr (2, [.int (zI n), .ref (q 0), .ref (q 1), .ref (q 2), .ref (q 3), .ref (q 4), .ref (q 5), .ref (q 6), .ref (q 7)])), ((q 0), .inl (cI, 10, .inl (fun k => zI ((g 0) k)))), ((q 1), .inl (cI, 10, .inl (fun k => zI ((g 1) k)))), ((q 2), .inl (cI, 10, .inl (fun k => zI ((g 2) k)))), ((q 3), .inl (cI, 40, .inl (fun k => zI ((g 3) k)))), ((q 4), .inl (cI, 40, .inl (fun k => zI ((g 4) k)))), ((q 5), .inl (cI, 40, .inl (fun k => zI ((g 5) k)))), ((q 6), .inl (cI, 20, .inl (fun k => zI ((g 6) k)))), ((q 7), .inl (cI, 20, .inl (fun k => zI ((g 7) k))))] (fun u => NetW 0 u.2 ∧ Fine u.2 ∧ ∀ k : Nat, k < 10 → DefR u.2 k) (fun u => [(b, .inr (2, [.int (zI 0), .ref (q 0), .ref (q 1), .ref (q 2), .ref (q 3), .ref (q 4), .ref (q 5), .ref (q 6), .ref (q 7)])), ((q 0), .inl (cI, 10, .inl (fun k => zI ((u.2 0) k)))), ((q 1), .inl (cI, 10, .inl (fun k => zI ((u.2 1) k)))), ((q 2), .inl (cI, 10, .inl (fun k => zI ((u.2 2) k)))), ((q 3), .inl (cI, 40, .inl (fun k => zI ((u.2 3) k)))), ((q 4), .inl (cI, 40, .inl (fun k => zI ((u.2 4) k)))), ((q 5), .inl (cI, 40, .inl (fun k => zI ((u.2 5) k)))), ((q 6), .inl (cI, 20, .inl (fun k => zI ((u.2 6) k)))), ((q 7), .inl (cI, 20, .inl (fun k => zI ((u.2 7) k))))]) := by
  refine bw_Cv.of (cc := cX2_clear) (maxL := 2) (by decide) rfl (Nat.le_of_ble_eq_true rfl) ?_
  intro p e s m below meth c A Q hx hb hml hts hown hin hK hA hS hP hD hE ret ls hl
  have F : CallFix p m c cX2_clear 2 s ([.ref b] : List Value).toArray bw_T RX2 := ⟨hx, hb, hml, hown, fun w h => hts w (List.mem_cons_of_mem _ h)⟩
  replace hl : lv_has ls 2 [(0, .ref b)] := hl
  have hN0 := hN.1
  refine lv_aload_n hx hb dX2_clear_0 rfl (lv_at hl 0 rfl) ?_
  refine lv_iconst (v := zI 0) hx hb dX2_clear_1 rfl ?_
  refine r_put F hK hP hD hS 0 0 rfl rfl in_X2 tyX2 tyX2_ok nmX2 (by decide) k_144 rfl rfl rfl (Nat.le_of_ble_eq_true rfl) dX2_clear_2 (w1 := [(b, .inr (2, [.int (zI 0), .ref (q 0), .ref (q 1), .ref (q 2), .ref (q 3), .ref (q 4), .ref (q 5), .ref (q 6), .ref (q 7)])), ((q 0), .inl (cI, 10, .inl (fun k => zI ((g 0) k)))), ((q 1), .inl (cI, 10, .inl (fun k => zI ((g 1) k)))), ((q 2), .inl (cI, 10, .inl (fun k => zI ((g 2) k)))), ((q 3), .inl (cI, 40, .inl (fun k => zI ((g 3) k)))), ((q 4), .inl (cI, 40, .inl (fun k => zI ((g 4) k)))), ((q 5), .inl (cI, 40, .inl (fun k => zI ((g 5) k)))), ((q 6), .inl (cI, 20, .inl (fun k => zI ((g 6) k)))), ((q 7), .inl (cI, 20, .inl (fun k => zI ((g 7) k))))]) rfl (fun H locs hP hD hS => ?_)
  have hN9 : NetW 0 g := ⟨by omega, hN.2⟩
  have hf1 := hN9.1
  refine lv_iconst (v := zI 0) hx hb dX2_clear_5 rfl ?_
  refine lv_istore_n (lv' := [(1, .int (zI 0)), (0, .ref b)]) hx hb dX2_clear_6 rfl hl (by decide) rfl (fun ls hl => ?_)
  refine W.widen (k := 0) (n := 0) (Nat.le_of_ble_eq_true rfl) (Nat.le_of_ble_eq_true rfl) ?_
  refine (?_ : ∀ (n9_1 : Nat) (v1 : Int) (gg : Nat → Nat → Int) (H : Heap) (locs : List Loc), (0 ≤ v1 ∧ v1 ≤ 10) → (10 - v1 : Int).toNat < n9_1 → (NetW 0 gg) → (∀ k : Nat, (k : Int) < v1 → DefR gg k) → va_P G vwCl [(b, .inr (2, [.int (zI 0), .ref (q 0), .ref (q 1), .ref (q 2), .ref (q 3), .ref (q 4), .ref (q 5), .ref (q 6), .ref (q 7)])), ((q 0), .inl (cI, 10, .inl (fun k => zI ((gg 0) k)))), ((q 1), .inl (cI, 10, .inl (fun k => zI ((gg 1) k)))), ((q 2), .inl (cI, 10, .inl (fun k => zI ((gg 2) k)))), ((q 3), .inl (cI, 40, .inl (fun k => zI ((gg 3) k)))), ((q 4), .inl (cI, 40, .inl (fun k => zI ((gg 4) k)))), ((q 5), .inl (cI, 40, .inl (fun k => zI ((gg 5) k)))), ((q 6), .inl (cI, 20, .inl (fun k => zI ((gg 6) k)))), ((q 7), .inl (cI, 20, .inl (fun k => zI ((gg 7) k))))] H → va_D A [(b, .inr (2, [.int (zI 0), .ref (q 0), .ref (q 1), .ref (q 2), .ref (q 3), .ref (q 4), .ref (q 5), .ref (q 6), .ref (q 7)])), ((q 0), .inl (cI, 10, .inl (fun k => zI ((gg 0) k)))), ((q 1), .inl (cI, 10, .inl (fun k => zI ((gg 1) k)))), ((q 2), .inl (cI, 10, .inl (fun k => zI ((gg 2) k)))), ((q 3), .inl (cI, 40, .inl (fun k => zI ((gg 3) k)))), ((q 4), .inl (cI, 40, .inl (fun k => zI ((gg 4) k)))), ((q 5), .inl (cI, 40, .inl (fun k => zI ((gg 5) k)))), ((q 6), .inl (cI, 20, .inl (fun k => zI ((gg 6) k)))), ((q 7), .inl (cI, 20, .inl (fun k => zI ((gg 7) k))))] → va_S A s.heap H locs → ∀ ls : Array Slot, lv_has ls 2 [(1, .int (zI v1)), (0, .ref b)] → W p l e rm_X2z_clear s m ([.ref b] : List Value).toArray below meth c H locs 0 0 Q (F0 m 7 ls [])) ((10 - 0 : Int).toNat + 1) 0 g _ _ (by omega) (by omega) hN9 (fun k hk => absurd hk (by omega)) hP hD hS ls hl
  clear hP hD hS hl ls
  intro n9_1
  induction n9_1 with
  | zero =>
    intro v1 gg H locs hI hM
    exact absurd hM (by omega)
  | succ n9_1 ih1 =>
    intro v1 gg H locs hI1 hM1 hG hdf hP hD hS ls hl
    have hf2 := hG.1
    refine lv_iload_n hx hb dX2_clear_7 rfl (lv_at hl 0 rfl) ?_
    refine lv_bipush (v := zI 10) hx hb dX2_clear_8 (by decide) ?_
    refine rz_icmp_ge (tgt := 24) F (by omega) (by omega) dX2_clear_10 (by decide) (fun h10_2 => ?_) (fun h10_2 => ?_)
    · exact ret (fun _ => 0, gg) _ _ _ _ _ _ ⟨hG, ⟨fun k hk h2 => absurd ((hdf k (by omega)).1.symm.trans h2) (by decide), fun k hk _ => (hdf k (by omega)).2.2.1⟩, fun k hk => hdf k (by omega)⟩ (bw_subP (isC := [0, 1, 2, 3, 4, 5, 6, 7, 8]) hP rfl) (hD.sub [0, 1, 2, 3, 4, 5, 6, 7, 8] (by decide) rfl) hS (Nat.le_of_ble_eq_true rfl) (Nat.le_of_ble_eq_true rfl) dX2_clear_24
    · refine lv_aload_n hx hb dX2_clear_13 rfl (lv_at hl 1 rfl) ?_
      refine lv_iload_n hx hb dX2_clear_14 rfl (lv_at hl 0 rfl) ?_
      refine r_callVv (As := [.int (zI v1)]) (rest := []) (wr := []) F hK hP hD hS hA hO hE (c_X2z_untell hO b q 0 gg hG v1 (by omega)) k_140 kv_X2_untell 1 rfl (by decide +kernel) ⟨Nat.le_of_ble_eq_true rfl, Nat.le_of_ble_eq_true rfl⟩ [0, 1, 2, 3, 4, 5, 6, 7, 8] [] rfl rfl (by decide) (by decide) (by decide) 0 2 rfl rfl rfl hl.1 rfl (Nat.le_of_ble_eq_true rfl) dX2_clear_15 ⟨Nat.le_of_ble_eq_true rfl, Nat.le_of_ble_eq_true rfl⟩ (w1 := fun u4 => [(b, .inr (2, [.int (zI 0), .ref (q 0), .ref (q 1), .ref (q 2), .ref (q 3), .ref (q 4), .ref (q 5), .ref (q 6), .ref (q 7)])), ((q 0), .inl (cI, 10, .inl (fun k => zI ((u4.2 0) k)))), ((q 1), .inl (cI, 10, .inl (fun k => zI ((u4.2 1) k)))), ((q 2), .inl (cI, 10, .inl (fun k => zI ((u4.2 2) k)))), ((q 3), .inl (cI, 40, .inl (fun k => zI ((u4.2 3) k)))), ((q 4), .inl (cI, 40, .inl (fun k => zI ((u4.2 4) k)))), ((q 5), .inl (cI, 40, .inl (fun k => zI ((u4.2 5) k)))), ((q 6), .inl (cI, 20, .inl (fun k => zI ((u4.2 6) k)))), ((q 7), .inl (cI, 20, .inl (fun k => zI ((u4.2 7) k))))]) (fun _ => rfl) (fun  u4 H locs hp5 hP hD hS => ?_)
      have hf6 := hp5.1.1
      refine lv_iinc (v := zI (v1 + 1)) (lv' := [(1, .int (zI (v1 + 1))), (0, .ref b)]) hx hb dX2_clear_18 hl (k := 0) rfl (zI_add _ _) (by decide) rfl (fun ls hl => ?_)
      refine lv_goto (tgt := 7) hx hb dX2_clear_21 (by decide) ?_
      exact ih1 (v1 + 1) u4.2 _ _ (by omega) (by omega) hp5.1 (UntR.step (by omega) hdf hp5.2) hP hD hS ls (lv_sub hl [0, 1] rfl)
