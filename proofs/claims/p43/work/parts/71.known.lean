theorem k_117 : Cond.instantiable RX8 14 ∈ bw_T := bw_m 117 (by decide +kernel) rfl
theorem k_1158 : Cond.instantiable RX9 40 ∈ bw_T := bw_m 1158 (by decide +kernel) rfl
theorem bw_arrP {args : Array Value} {s : State} {ty : FieldType} (h : (Cond.arrayClass ty).before args s = true) (hp : ∀ C, ty ≠ .object C) : ∃ cA, ArrOfT s cA ty ∧ va_RA s cA ty := by
  obtain ⟨c, k, comp, h1, h2, h3⟩ := Cond.arrayClass_spec h
  refine ⟨c, fun n z => ⟨fun k h => (by cases h), k, h2, comp, h3⟩, ?_⟩
  cases ty with
  | object C => exact absurd rfl (hp C)
  | _ => exact h1
theorem bw_arrO {s : State} {C : String} (h : va_AO C s) : ∃ cA, ArrOfT s cA (.object C) ∧ va_RA s cA (.object C) := by
  obtain ⟨comp, c, k, h1, h2, h3, h4, h5⟩ := Cond.arrayOver_spec h
  exact ⟨c, fun n z => ⟨fun k h => (by cases h), k, h3, comp, h4⟩, k, comp, h3, h4, h1, h5⟩
set_option maxRecDepth 100000 in
theorem bw_known {args : Array Value} {s : State} (hts : ∀ w ∈ lw_tbl, w.before args s = true) : ∃ (G : va_G) (cI cB cJ cN cW : ClassId), va_K G vwCl (bw_kt cI cB cJ cN cW) s := by
  have htT : ∀ w ∈ bw_T, w.before args s = true := fun w h => hts w (List.mem_filter.mp h).1
  obtain ⟨c0, i0, h0⟩ := u_known (C := RX0) (T := TX0) (N := 7) (n := 7) htT in_X0 (htT _ k_443)
  obtain ⟨c1, i1, h1⟩ := u_known (C := RX1) (T := TX1) (N := 3) (n := 3) htT in_X1 (htT _ k_471)
  obtain ⟨c2, i2, h2⟩ := u_known (C := RX2) (T := TX2) (N := 9) (n := 9) htT in_X2 (htT _ k_131)
  obtain ⟨c3, i3, h3⟩ := u_known (C := RX3) (T := TX3) (N := 14) (n := 14) htT in_X3 (htT _ k_125)
  obtain ⟨c4, i4, h4⟩ := u_known (C := RX4) (T := TX4) (N := 13) (n := 13) htT in_X4 (htT _ k_363)
  obtain ⟨c5, i5, h5⟩ := u_known (C := RX5) (T := TX5) (N := 4) (n := 4) htT in_X5 (htT _ k_421)
  obtain ⟨c6, i6, h6⟩ := u_known (C := RX6) (T := TX6) (N := 10) (n := 10) htT in_X6 (htT _ k_315)
  obtain ⟨c7, i7, h7⟩ := u_known (C := RX7) (T := TX7) (N := 2) (n := 2) htT in_X7 (htT _ k_196)
  obtain ⟨c8, i8, h8⟩ := u_known (C := RX8) (T := TX8) (N := 14) (n := 14) htT in_X8 (htT _ k_117)
  obtain ⟨c9, i9, h9⟩ := u_known (C := RX9) (T := TX9) (N := 40) (n := 40) htT in_X9 (htT _ k_1158)
  obtain ⟨cI, aI⟩ := bw_arrP (ty := .int) (htT _ k_194) (fun C h => by cases h)
  obtain ⟨cB, aB⟩ := bw_arrP (ty := .byte) (htT _ k_193) (fun C h => by cases h)
  obtain ⟨cJ, aJ⟩ := bw_arrP (ty := .long) (htT _ k_309) (fun C h => by cases h)
  obtain ⟨cN, aN⟩ := bw_arrO (C := "BurntWays$Net") (va_AO.of (hts _ (List.mem_of_getElem? (i := 477) (by decide +kernel))))
  obtain ⟨cW, aW⟩ := bw_arrO (C := "BurntWays$Walk") (va_AO.of (hts _ (List.mem_of_getElem? (i := 479) (by decide +kernel))))
  refine ⟨(fun k => [c0, c1, c2, c3, c4, c5, c6, c7, c8, c9].getD k c0, fun k => [i0, i1, i2, i3, i4, i5, i6, i7, i8, i9].getD k i0), cI, cB, cJ, cN, cW, ?_, ?_⟩
  · intro k q hq
    match k, hq with
    | 0, hq => cases hq; exact h0
    | 1, hq => cases hq; exact h1
    | 2, hq => cases hq; exact h2
    | 3, hq => cases hq; exact h3
    | 4, hq => cases hq; exact h4
    | 5, hq => cases hq; exact h5
    | 6, hq => cases hq; exact h6
    | 7, hq => cases hq; exact h7
    | 8, hq => cases hq; exact h8
    | 9, hq => cases hq; exact h9
    | k + 10, hq => simp [vwCl] at hq
  · intro k q hq
    match k, hq with
    | 0, hq => cases hq; exact aI
    | 1, hq => cases hq; exact aB
    | 2, hq => cases hq; exact aJ
    | 3, hq => cases hq; exact aN
    | 4, hq => cases hq; exact aW
    | k + 5, hq => simp [bw_kt] at hq

