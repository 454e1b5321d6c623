def bw_EE (sa va N st w1 w2 w3 : Nat) (fb : Nat → Int32) : (Nat → Prop) → State → Prop := fun A U =>
  (va_Nw (.methodLinkNest RX3 28 yX7_init RX8) U ∧ va_Nw (.methodLinkNest RX8 39 yX7_init RX8) U ∧ va_Nw (.methodLinkNest RX8 46 yX6_init RX8) U ∧ va_Nw (.methodLinkNest RX8 59 yX4_init RX8) U ∧ va_Nw (.methodLinkNest RX4 51 yX6_init RX8) U ∧ va_Nw (.methodLinkNest RX8 66 yX5_init RX8) U ∧ va_Nw (.methodLinkNest RX8 73 yX0_init RX8) U ∧ va_Nw (.methodLinkNest RX1 28 yX6_init RX8) U ∧ va_AO "BurntWays$Net" U ∧ va_AO "BurntWays$Walk" U) ∧
  (vk_R RX3 65 "program line want do up down set give then end to if by else is a b c d " sa U ∧ bw_Str sa va N fb A U U.heap ∧ va_Z "java/lang/String" "COMPACT_STRINGS" "Z" (.int 1) A U U.heap ∧ va_Zq "jdk/internal/util/Preconditions" "SIOOBE_FORMATTER" "Ljava/util/function/BiFunction;" A U U.heap) ∧
  (vk_R RX9 154 "program" w1 U ∧ vk_R RX9 156 "line" w2 U ∧ vk_R RX9 158 "want" w3 U) ∧
  (vk_R RX8 307 "no such line is told" st U ∧ vx_Zq Bundle.tN "UNASSIGNED_STACK" Bundle.steD A U U.heap ∧ vx_Zq Bundle.tN "SUPPRESSED_SENTINEL" Bundle.listD A U U.heap ∧ ∀ w ∈ bw_B, va_Nw w U)
theorem bw_EE_nests (sa va N st w1 w2 w3 : Nat) (fb : Nat → Int32) : bw_Nests (bw_EE sa va N st w1 w2 w3 fb) := fun _ _ h => h.1
theorem bw_EE_text (sa va N st w1 w2 w3 : Nat) (fb : Nat → Int32) (hN : N < 2 ^ 31) : bw_Text (bw_EE sa va N st w1 w2 w3 fb) sa va N fb := ⟨hN, fun _ _ h => h.2.1⟩
theorem bw_EE_words (sa va N st w1 w2 w3 : Nat) (fb : Nat → Int32) : bw_Words (bw_EE sa va N st w1 w2 w3 fb) w1 w2 w3 := fun _ _ h => h.2.2.1
theorem bw_EE_thr (sa va N st w1 w2 w3 : Nat) (fb : Nat → Int32) : bw_Thr (bw_EE sa va N st w1 w2 w3 fb) st := fun _ _ h => h.2.2.2
theorem bw_Str.moved {sa va N : Nat} {f : Nat → Int32} {A : Nat → Prop} {u U : State} {H : Heap} (hvm : u.vm.Alike U.vm) (h : bw_Str sa va N f A u H) : bw_Str sa va N f A U H := ⟨va_O.moved hvm h.1, va_OF.moved hvm h.2.1, va_OF.moved hvm h.2.2.1, va_T.moved hvm h.2.2.2⟩
theorem bw_Str.kept {sa va N : Nat} {f : Nat → Int32} {A : Nat → Prop} {U : State} {H H1 : Heap} (h : bw_Str sa va N f A U H) (hq : ∀ a : Nat, a < H.size → ¬ A a → H1[a]? = H[a]?) : bw_Str sa va N f A U H1 := ⟨h.1.kept hq, h.2.1.kept hq, h.2.2.1.kept hq, h.2.2.2.kept hq⟩
theorem bw_Str.narrow {sa va N : Nat} {f : Nat → Int32} {A B : Nat → Prop} {U : State} {H : Heap} (h : bw_Str sa va N f A U H) (hAB : ∀ q, B q → A q) : bw_Str sa va N f B U H := ⟨h.1.narrow hAB, h.2.1.narrow hAB, h.2.2.1.narrow hAB, h.2.2.2.narrow hAB⟩
theorem bw_EE_ok (sa va N st w1 w2 w3 : Nat) (fb : Nat → Int32) : bw_Ok (bw_EE sa va N st w1 w2 w3 fb) := by
  refine ⟨?_, ?_⟩
  · intro A a U g mk h
    have hal : U.vm.Alike (U.calling g mk a).vm := Vm.Alike.refl U.vm
    obtain ⟨⟨n1, n2, n3, n4, n5, n6, n7, n8, o1, o2⟩, ⟨t1, t2, t3, t4⟩, ⟨v1, v2, v3⟩, r1, r2, r3, r4⟩ := h
    exact ⟨⟨va_Nw.same rfl rfl n1, va_Nw.same rfl rfl n2, va_Nw.same rfl rfl n3, va_Nw.same rfl rfl n4, va_Nw.same rfl rfl n5, va_Nw.same rfl rfl n6, va_Nw.same rfl rfl n7, va_Nw.same rfl rfl n8, va_AO.moved hal o1, va_AO.moved hal o2⟩,
      ⟨vk_R.same rfl t1, bw_Str.moved hal t2, va_Z.moved hal t3, va_Zq.moved hal t4⟩, ⟨vk_R.same rfl v1, vk_R.same rfl v2, vk_R.same rfl v3⟩, vk_R.same rfl r1, vx_Zq.moved hal r2, vx_Zq.moved hal r3, fun w hw => va_Nw.same (u := U) (bw_B_face w hw).1 rfl (r4 w hw)⟩
  · intro A B s U H locs h hS hAB hU hW
    subst hU
    have hal := hW.alike
    have hq := hS.2.1
    obtain ⟨⟨n1, n2, n3, n4, n5, n6, n7, n8, o1, o2⟩, ⟨t1, t2, t3, t4⟩, ⟨v1, v2, v3⟩, r1, r2, r3, r4⟩ := h
    exact ⟨⟨va_Nw.warmM hW n1, va_Nw.warmM hW n2, va_Nw.warmM hW n3, va_Nw.warmM hW n4, va_Nw.warmM hW n5, va_Nw.warmM hW n6, va_Nw.warmM hW n7, va_Nw.warmM hW n8, va_AO.moved hal o1, va_AO.moved hal o2⟩,
      ⟨vk_R.warm hW t1, bw_Str.moved hal ((t2.kept hq).narrow hAB), va_Z.moved hal ((t3.kept hq).narrow hAB), va_Zq.moved hal ((t4.kept hq).narrow hAB)⟩, ⟨vk_R.warm hW v1, vk_R.warm hW v2, vk_R.warm hW v3⟩, vk_R.warm hW r1, vx_Zq.moved hal ((r2.kept hq).narrow hAB), vx_Zq.moved hal ((r3.kept hq).narrow hAB), fun w hw => bw_Nw_move (bw_B_face w hw).1 (bw_B_face w hw).2 hW (r4 w hw)⟩
theorem bw_strR {args : Array Value} {s : State} {own tx : String} {k : Nat} (h1 : (Cond.stringRef own k tx).before args s = true) (h2 : (Cond.exactly (.string own k) "java/lang/String").before args s = true) : ∃ a, vk_R own k tx a s := by
  obtain ⟨a, c, cA, kA, q1, -⟩ := Cond.exactly_spec (args := args) (first := s) (o := none) (s := s) (idx := []) (t := .string own k) (cls := "java/lang/String") h2
  exact ⟨a, vk_R.of h1 q1⟩
def bw_bytes : List Int32 := [112, 114, 111, 103, 114, 97, 109, 32, 108, 105, 110, 101, 32, 119, 97, 110, 116, 32, 100, 111, 32, 117, 112, 32, 100, 111, 119, 110, 32, 115, 101, 116, 32, 103, 105, 118, 101, 32, 116, 104, 101, 110, 32, 101, 110, 100, 32, 116, 111, 32, 105, 102, 32, 98, 121, 32, 101, 108, 115, 101, 32, 105, 115, 32, 97, 32, 98, 32, 99, 32, 100, 32]
theorem bw_el : ∀ j, j < 72 → Cond.eq (.elem (.field (.string "BurntWays$Reader" 65) "java/lang/String" "value" "[B") (.int (Int32.ofNat j))) (.int (bw_bytes.getD j 0)) ∈ flatC (Jvm.Cond.and given_1 narrow_1) := by decide +kernel
theorem bw_B_in : ∀ w ∈ bw_B, w ∈ lw_tbl := by decide +kernel
set_option maxRecDepth 100000 in
set_option maxHeartbeats 4000000 in
/-- what the Statement gives of the start, in the words of the contracts -/
theorem bw_start {args : Array Value} {s : State} (hts : ∀ w ∈ lw_tbl, w.before args s = true) (hgv : (Jvm.Cond.and given_1 narrow_1).before args s = true) : ∃ (sa va st w1 w2 w3 : Nat) (fb : Nat → Int32), bw_EE sa va 72 st w1 w2 w3 fb (fun q => s.heap.size ≤ q) s := by
  have hs := flat_of_before _ hgv
  have hA : ∀ a : Nat, a < s.heap.size → ¬ (fun q => s.heap.size ≤ q) a := fun a h => Nat.not_le.mpr h
  obtain ⟨adK, adV, hSt, hev⟩ := vk_Sof (args := args) (s := s) (N := 1) (tm := fun _ => .string "BurntWays$Reader" 65) (len := [72]) (byt := [bw_bytes]) (A := fun q => s.heap.size ≤ q)
    (fun i hi => by obtain rfl : i = 0 := by omega
                    decide)
    (fun i _ => hs _ (by decide +kernel)) (fun i _ => hs _ (by decide +kernel)) (fun i _ => hs _ (by decide +kernel))
    (fun i hi => by obtain rfl : i = 0 := by omega
                    exact hs _ (by decide +kernel))
    (fun i hi j hj => by obtain rfl : i = 0 := by omega
                         exact hs _ (bw_el j hj))
    (fun i j hi hj hn => absurd (by omega) hn) hA
  obtain ⟨w1, hw1⟩ := bw_strR (own := RX9) (k := 154) (tx := "program") (hts _ (List.mem_of_getElem? (i := 1325) (by decide +kernel))) (hs _ (by decide +kernel))
  obtain ⟨w2, hw2⟩ := bw_strR (own := RX9) (k := 156) (tx := "line") (hts _ (List.mem_of_getElem? (i := 1348) (by decide +kernel))) (hs _ (by decide +kernel))
  obtain ⟨w3, hw3⟩ := bw_strR (own := RX9) (k := 158) (tx := "want") (hts _ (List.mem_of_getElem? (i := 1349) (by decide +kernel))) (hs _ (by decide +kernel))
  obtain ⟨st, hst⟩ := bw_strR (own := RX8) (k := 307) (tx := "no such line is told") (hts _ (List.mem_of_getElem? (i := 1131) (by decide +kernel))) (hs _ (by decide +kernel))
  refine ⟨adK 0, adV 0, st, w1, w2, w3, fun j => bw_bytes.getD j 0, ⟨va_Nw.of rfl (hts _ (List.mem_of_getElem? (i := 197) (by decide +kernel))), va_Nw.of rfl (hts _ (List.mem_of_getElem? (i := 313) (by decide +kernel))), va_Nw.of rfl (hts _ (List.mem_of_getElem? (i := 316) (by decide +kernel))), va_Nw.of rfl (hts _ (List.mem_of_getElem? (i := 364) (by decide +kernel))), va_Nw.of rfl (hts _ (List.mem_of_getElem? (i := 369) (by decide +kernel))), va_Nw.of rfl (hts _ (List.mem_of_getElem? (i := 422) (by decide +kernel))), va_Nw.of rfl (hts _ (List.mem_of_getElem? (i := 444) (by decide +kernel))), va_Nw.of rfl (hts _ (List.mem_of_getElem? (i := 481) (by decide +kernel))), va_AO.of (hts _ (List.mem_of_getElem? (i := 477) (by decide +kernel))), va_AO.of (hts _ (List.mem_of_getElem? (i := 479) (by decide +kernel)))⟩, ⟨vk_R.of (hts _ (List.mem_of_getElem? (i := 211) (by decide +kernel))) (hev 0 (by decide)), hSt.1 0 (by decide), ?_, ?_⟩, ⟨hw1, hw2, hw3⟩, hst, ?_, ?_, ?_⟩
  · exact va_Zof (hts _ (List.mem_of_getElem? (i := 221) (by decide +kernel))) (hts _ (List.mem_of_getElem? (i := 98) (by decide +kernel))) (va_eqt (hs _ (by decide +kernel))) hA
  · exact va_Zqof (hts _ (List.mem_of_getElem? (i := 237) (by decide +kernel))) (hts _ (List.mem_of_getElem? (i := 100) (by decide +kernel))) (hs _ (by decide +kernel)) hA
  · exact vx_Zqof (hts _ (List.mem_of_getElem? (i := 1119) (by decide +kernel))) (hts _ (List.mem_of_getElem? (i := 111) (by decide +kernel))) (hs _ (by decide +kernel)) hA
  · exact vx_Zqof (hts _ (List.mem_of_getElem? (i := 1121) (by decide +kernel))) (hts _ (List.mem_of_getElem? (i := 111) (by decide +kernel))) (hs _ (by decide +kernel)) hA
  · exact fun w hw => va_Nw.of (bw_B_face w hw).1 (hts w (bw_B_in w hw))
theorem k_117 : Cond.instantiable RX8 14 ∈ bw_T := bw_m 117 (by decide +kernel) rfl
theorem k_1158 : Cond.instantiable RX9 40 ∈ bw_T := bw_m 1158 (by decide +kernel) rfl
theorem bw_arrP {args : Array Value} {s : State} {ty : FieldType} (h : (Cond.arrayClass ty).before args s = true) (hp : ∀ C, ty ≠ .object C) : ∃ cA, ArrOfT s cA ty ∧ va_RA s cA ty := by
  obtain ⟨c, k, comp, h1, h2, h3⟩ := Cond.arrayClass_spec h
  refine ⟨c, fun n z => ⟨fun k h => (by cases h), k, h2, comp, h3⟩, ?_⟩
  cases ty with
  | object C => exact absurd rfl (hp C)
  | _ => exact h1
theorem bw_arrO {s : State} {C : String} (h : va_AO C s) : ∃ cA, ArrOfT s cA (.object C) ∧ va_RA s cA (.object C) := by
  obtain ⟨comp, c, k, h1, h2, h3, h4, h5⟩ := Cond.arrayOver_spec h
  exact ⟨c, fun n z => ⟨fun k h => (by cases h), k, h3, comp, h4⟩, k, comp, h3, h4, h1, h5⟩
set_option maxRecDepth 100000 in
theorem bw_known {args : Array Value} {s : State} (hts : ∀ w ∈ lw_tbl, w.before args s = true) : ∃ (G : va_G) (cI cB cJ cN cW : ClassId), va_K G vwCl (bw_kt cI cB cJ cN cW) s := by
  have htT : ∀ w ∈ bw_T, w.before args s = true := fun w h => hts w (List.mem_filter.mp h).1
  obtain ⟨c0, i0, h0⟩ := u_known (C := RX0) (T := TX0) (N := 7) (n := 7) htT in_X0 (htT _ k_443)
  obtain ⟨c1, i1, h1⟩ := u_known (C := RX1) (T := TX1) (N := 3) (n := 3) htT in_X1 (htT _ k_471)
  obtain ⟨c2, i2, h2⟩ := u_known (C := RX2) (T := TX2) (N := 9) (n := 9) htT in_X2 (htT _ k_131)
  obtain ⟨c3, i3, h3⟩ := u_known (C := RX3) (T := TX3) (N := 14) (n := 14) htT in_X3 (htT _ k_125)
  obtain ⟨c4, i4, h4⟩ := u_known (C := RX4) (T := TX4) (N := 13) (n := 13) htT in_X4 (htT _ k_363)
  obtain ⟨c5, i5, h5⟩ := u_known (C := RX5) (T := TX5) (N := 4) (n := 4) htT in_X5 (htT _ k_421)
  obtain ⟨c6, i6, h6⟩ := u_known (C := RX6) (T := TX6) (N := 10) (n := 10) htT in_X6 (htT _ k_315)
  obtain ⟨c7, i7, h7⟩ := u_known (C := RX7) (T := TX7) (N := 2) (n := 2) htT in_X7 (htT _ k_196)
  obtain ⟨c8, i8, h8⟩ := u_known (C := RX8) (T := TX8) (N := 14) (n := 14) htT in_X8 (htT _ k_117)
  obtain ⟨c9, i9, h9⟩ := u_known (C := RX9) (T := TX9) (N := 40) (n := 40) htT in_X9 (htT _ k_1158)
  obtain ⟨cI, aI⟩ := bw_arrP (ty := .int) (htT _ k_194) (fun C h => by cases h)
  obtain ⟨cB, aB⟩ := bw_arrP (ty := .byte) (htT _ k_193) (fun C h => by cases h)
  obtain ⟨cJ, aJ⟩ := bw_arrP (ty := .long) (htT _ k_309) (fun C h => by cases h)
  obtain ⟨cN, aN⟩ := bw_arrO (C := "BurntWays$Net") (va_AO.of (hts _ (List.mem_of_getElem? (i := 477) (by decide +kernel))))
  obtain ⟨cW, aW⟩ := bw_arrO (C := "BurntWays$Walk") (va_AO.of (hts _ (List.mem_of_getElem? (i := 479) (by decide +kernel))))
  refine ⟨(fun k => [c0, c1, c2, c3, c4, c5, c6, c7, c8, c9].getD k c0, fun k => [i0, i1, i2, i3, i4, i5, i6, i7, i8, i9].getD k i0), cI, cB, cJ, cN, cW, ?_, ?_⟩
  · intro k q hq
    match k, hq with
    | 0, hq => cases hq; exact h0
    | 1, hq => cases hq; exact h1
    | 2, hq => cases hq; exact h2
    | 3, hq => cases hq; exact h3
    | 4, hq => cases hq; exact h4
    | 5, hq => cases hq; exact h5
    | 6, hq => cases hq; exact h6
    | 7, hq => cases hq; exact h7
    | 8, hq => cases hq; exact h8
    | 9, hq => cases hq; exact h9
    | k + 10, hq => simp [vwCl] at hq
  · intro k q hq
    match k, hq with
    | 0, hq => cases hq; exact aI
    | 1, hq => cases hq; exact aB
    | 2, hq => cases hq; exact aJ
    | 3, hq => cases hq; exact aN
    | 4, hq => cases hq; exact aW
    | k + 5, hq => simp [bw_kt] at hq
