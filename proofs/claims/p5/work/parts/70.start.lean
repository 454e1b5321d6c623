def bw_EE (sa va st : Nat) (fb : Nat → Int32) (sw vw : Nat → Nat) (fw : Nat → Nat → Int32) : (Nat → Prop) → State → Prop := fun A U =>
  (va_Nw (.methodLinkNest RX3 28 yX7_init RX8) U ∧ va_Nw (.methodLinkNest RX8 39 yX7_init RX8) U ∧ va_Nw (.methodLinkNest RX8 46 yX6_init RX8) U ∧ va_Nw (.methodLinkNest RX8 59 yX4_init RX8) U ∧ va_Nw (.methodLinkNest RX4 51 yX6_init RX8) U ∧ va_Nw (.methodLinkNest RX8 66 yX5_init RX8) U ∧ va_Nw (.methodLinkNest RX8 73 yX0_init RX8) U ∧ va_Nw (.methodLinkNest RX1 28 yX6_init RX8) U ∧ va_AO "BurntWays$Net" U ∧ va_AO "BurntWays$Walk" U) ∧
  (vk_R RX3 65 "program line want do up down set give then end to if by else is a b c d " sa U ∧ bw_Str sa va 72 fb A U U.heap ∧ va_Z "java/lang/String" "COMPACT_STRINGS" "Z" (.int 1) A U U.heap ∧ va_Zq "jdk/internal/util/Preconditions" "SIOOBE_FORMATTER" "Ljava/util/function/BiFunction;" A U U.heap) ∧
  ((vk_R RX9 154 "program" (sw 0) U ∧ bw_Str (sw 0) (vw 0) 7 (fw 0) A U U.heap) ∧ (vk_R RX9 156 "line" (sw 1) U ∧ bw_Str (sw 1) (vw 1) 4 (fw 1) A U U.heap) ∧ (vk_R RX9 158 "want" (sw 2) U ∧ bw_Str (sw 2) (vw 2) 4 (fw 2) A U U.heap) ∧ (vk_R RX9 159 "do" (sw 3) U ∧ bw_Str (sw 3) (vw 3) 2 (fw 3) A U U.heap) ∧ (vk_R RX9 161 "up" (sw 4) U ∧ bw_Str (sw 4) (vw 4) 2 (fw 4) A U U.heap) ∧ (vk_R RX9 163 "down" (sw 5) U ∧ bw_Str (sw 5) (vw 5) 4 (fw 5) A U U.heap) ∧ (vk_R RX9 165 "set" (sw 6) U ∧ bw_Str (sw 6) (vw 6) 3 (fw 6) A U U.heap) ∧ (vk_R RX9 167 "give" (sw 7) U ∧ bw_Str (sw 7) (vw 7) 4 (fw 7) A U U.heap) ∧ (vk_R RX9 169 "then" (sw 8) U ∧ bw_Str (sw 8) (vw 8) 4 (fw 8) A U U.heap) ∧ (vk_R RX9 171 "end" (sw 9) U ∧ bw_Str (sw 9) (vw 9) 3 (fw 9) A U U.heap) ∧ (vk_R RX9 172 "to" (sw 10) U ∧ bw_Str (sw 10) (vw 10) 2 (fw 10) A U U.heap) ∧ (vk_R RX9 174 "if" (sw 11) U ∧ bw_Str (sw 11) (vw 11) 2 (fw 11) A U U.heap) ∧ (vk_R RX9 176 "by" (sw 12) U ∧ bw_Str (sw 12) (vw 12) 2 (fw 12) A U U.heap) ∧ (vk_R RX9 178 "else" (sw 13) U ∧ bw_Str (sw 13) (vw 13) 4 (fw 13) A U U.heap) ∧ (vk_R RX9 180 "is" (sw 14) U ∧ bw_Str (sw 14) (vw 14) 2 (fw 14) A U U.heap)) ∧
  (vk_R RX8 307 "no such line is told" st U ∧ vx_Zq Bundle.tN "UNASSIGNED_STACK" Bundle.steD A U U.heap ∧ vx_Zq Bundle.tN "SUPPRESSED_SENTINEL" Bundle.listD A U U.heap ∧ ∀ w ∈ bw_B, va_Nw w U)
theorem bw_EE_nests (sa va st : Nat) (fb : Nat → Int32) (sw vw : Nat → Nat) (fw : Nat → Nat → Int32) : bw_Nests (bw_EE sa va st fb sw vw fw) := fun _ _ h => h.1
theorem bw_EE_text (sa va st : Nat) (fb : Nat → Int32) (sw vw : Nat → Nat) (fw : Nat → Nat → Int32) : bw_Text (bw_EE sa va st fb sw vw fw) RX3 65 "program line want do up down set give then end to if by else is a b c d " sa va 72 fb := ⟨by decide, fun _ _ h => h.2.1⟩
theorem bw_EE_words (sa va st : Nat) (fb : Nat → Int32) (sw vw : Nat → Nat) (fw : Nat → Nat → Int32) : bw_Words (bw_EE sa va st fb sw vw fw) sw vw fw := ⟨⟨by decide, fun _ _ h => ⟨h.2.2.1.1.1, h.2.2.1.1.2, h.2.1.2.2.1, h.2.1.2.2.2⟩⟩, ⟨by decide, fun _ _ h => ⟨h.2.2.1.2.1.1, h.2.2.1.2.1.2, h.2.1.2.2.1, h.2.1.2.2.2⟩⟩, ⟨by decide, fun _ _ h => ⟨h.2.2.1.2.2.1.1, h.2.2.1.2.2.1.2, h.2.1.2.2.1, h.2.1.2.2.2⟩⟩, ⟨by decide, fun _ _ h => ⟨h.2.2.1.2.2.2.1.1, h.2.2.1.2.2.2.1.2, h.2.1.2.2.1, h.2.1.2.2.2⟩⟩, ⟨by decide, fun _ _ h => ⟨h.2.2.1.2.2.2.2.1.1, h.2.2.1.2.2.2.2.1.2, h.2.1.2.2.1, h.2.1.2.2.2⟩⟩, ⟨by decide, fun _ _ h => ⟨h.2.2.1.2.2.2.2.2.1.1, h.2.2.1.2.2.2.2.2.1.2, h.2.1.2.2.1, h.2.1.2.2.2⟩⟩, ⟨by decide, fun _ _ h => ⟨h.2.2.1.2.2.2.2.2.2.1.1, h.2.2.1.2.2.2.2.2.2.1.2, h.2.1.2.2.1, h.2.1.2.2.2⟩⟩, ⟨by decide, fun _ _ h => ⟨h.2.2.1.2.2.2.2.2.2.2.1.1, h.2.2.1.2.2.2.2.2.2.2.1.2, h.2.1.2.2.1, h.2.1.2.2.2⟩⟩, ⟨by decide, fun _ _ h => ⟨h.2.2.1.2.2.2.2.2.2.2.2.1.1, h.2.2.1.2.2.2.2.2.2.2.2.1.2, h.2.1.2.2.1, h.2.1.2.2.2⟩⟩, ⟨by decide, fun _ _ h => ⟨h.2.2.1.2.2.2.2.2.2.2.2.2.1.1, h.2.2.1.2.2.2.2.2.2.2.2.2.1.2, h.2.1.2.2.1, h.2.1.2.2.2⟩⟩, ⟨by decide, fun _ _ h => ⟨h.2.2.1.2.2.2.2.2.2.2.2.2.2.1.1, h.2.2.1.2.2.2.2.2.2.2.2.2.2.1.2, h.2.1.2.2.1, h.2.1.2.2.2⟩⟩, ⟨by decide, fun _ _ h => ⟨h.2.2.1.2.2.2.2.2.2.2.2.2.2.2.1.1, h.2.2.1.2.2.2.2.2.2.2.2.2.2.2.1.2, h.2.1.2.2.1, h.2.1.2.2.2⟩⟩, ⟨by decide, fun _ _ h => ⟨h.2.2.1.2.2.2.2.2.2.2.2.2.2.2.2.1.1, h.2.2.1.2.2.2.2.2.2.2.2.2.2.2.2.1.2, h.2.1.2.2.1, h.2.1.2.2.2⟩⟩, ⟨by decide, fun _ _ h => ⟨h.2.2.1.2.2.2.2.2.2.2.2.2.2.2.2.2.1.1, h.2.2.1.2.2.2.2.2.2.2.2.2.2.2.2.2.1.2, h.2.1.2.2.1, h.2.1.2.2.2⟩⟩, ⟨by decide, fun _ _ h => ⟨h.2.2.1.2.2.2.2.2.2.2.2.2.2.2.2.2.2.1, h.2.2.1.2.2.2.2.2.2.2.2.2.2.2.2.2.2.2, h.2.1.2.2.1, h.2.1.2.2.2⟩⟩⟩
theorem bw_EE_thr (sa va st : Nat) (fb : Nat → Int32) (sw vw : Nat → Nat) (fw : Nat → Nat → Int32) : bw_Thr (bw_EE sa va st fb sw vw fw) st := fun _ _ h => h.2.2.2
theorem bw_Str.moved {sa va N : Nat} {f : Nat → Int32} {A : Nat → Prop} {u U : State} {H : Heap} (hvm : u.vm.Alike U.vm) (h : bw_Str sa va N f A u H) : bw_Str sa va N f A U H := ⟨va_O.moved hvm h.1, va_OF.moved hvm h.2.1, va_OF.moved hvm h.2.2.1, va_T.moved hvm h.2.2.2⟩
theorem bw_Str.kept {sa va N : Nat} {f : Nat → Int32} {A : Nat → Prop} {U : State} {H H1 : Heap} (h : bw_Str sa va N f A U H) (hq : ∀ a : Nat, a < H.size → ¬ A a → H1[a]? = H[a]?) : bw_Str sa va N f A U H1 := ⟨h.1.kept hq, h.2.1.kept hq, h.2.2.1.kept hq, h.2.2.2.kept hq⟩
theorem bw_Str.narrow {sa va N : Nat} {f : Nat → Int32} {A B : Nat → Prop} {U : State} {H : Heap} (h : bw_Str sa va N f A U H) (hAB : ∀ q, B q → A q) : bw_Str sa va N f B U H := ⟨h.1.narrow hAB, h.2.1.narrow hAB, h.2.2.1.narrow hAB, h.2.2.2.narrow hAB⟩
theorem bw_EE_ok (sa va st : Nat) (fb : Nat → Int32) (sw vw : Nat → Nat) (fw : Nat → Nat → Int32) : bw_Ok (bw_EE sa va st fb sw vw fw) := by
  refine ⟨?_, ?_⟩
  · intro A a U g mk h
    have hal : U.vm.Alike (U.calling g mk a).vm := Vm.Alike.refl U.vm
    obtain ⟨⟨n1, n2, n3, n4, n5, n6, n7, n8, o1, o2⟩, ⟨t1, t2, t3, t4⟩, ⟨⟨a0, b0⟩, ⟨a1, b1⟩, ⟨a2, b2⟩, ⟨a3, b3⟩, ⟨a4, b4⟩, ⟨a5, b5⟩, ⟨a6, b6⟩, ⟨a7, b7⟩, ⟨a8, b8⟩, ⟨a9, b9⟩, ⟨a10, b10⟩, ⟨a11, b11⟩, ⟨a12, b12⟩, ⟨a13, b13⟩, ⟨a14, b14⟩⟩, r1, r2, r3, r4⟩ := h
    exact ⟨⟨va_Nw.same rfl rfl n1, va_Nw.same rfl rfl n2, va_Nw.same rfl rfl n3, va_Nw.same rfl rfl n4, va_Nw.same rfl rfl n5, va_Nw.same rfl rfl n6, va_Nw.same rfl rfl n7, va_Nw.same rfl rfl n8, va_AO.moved hal o1, va_AO.moved hal o2⟩,
      ⟨vk_R.same rfl t1, bw_Str.moved hal t2, va_Z.moved hal t3, va_Zq.moved hal t4⟩, ⟨⟨vk_R.same rfl a0, bw_Str.moved hal b0⟩, ⟨vk_R.same rfl a1, bw_Str.moved hal b1⟩, ⟨vk_R.same rfl a2, bw_Str.moved hal b2⟩, ⟨vk_R.same rfl a3, bw_Str.moved hal b3⟩, ⟨vk_R.same rfl a4, bw_Str.moved hal b4⟩, ⟨vk_R.same rfl a5, bw_Str.moved hal b5⟩, ⟨vk_R.same rfl a6, bw_Str.moved hal b6⟩, ⟨vk_R.same rfl a7, bw_Str.moved hal b7⟩, ⟨vk_R.same rfl a8, bw_Str.moved hal b8⟩, ⟨vk_R.same rfl a9, bw_Str.moved hal b9⟩, ⟨vk_R.same rfl a10, bw_Str.moved hal b10⟩, ⟨vk_R.same rfl a11, bw_Str.moved hal b11⟩, ⟨vk_R.same rfl a12, bw_Str.moved hal b12⟩, ⟨vk_R.same rfl a13, bw_Str.moved hal b13⟩, ⟨vk_R.same rfl a14, bw_Str.moved hal b14⟩⟩, vk_R.same rfl r1, vx_Zq.moved hal r2, vx_Zq.moved hal r3, fun w hw => va_Nw.same (u := U) (bw_B_face w hw).1 rfl (r4 w hw)⟩
  · intro A B s U H locs h hS hAB hU hW
    subst hU
    have hal := hW.alike
    have hq := hS.2.1
    obtain ⟨⟨n1, n2, n3, n4, n5, n6, n7, n8, o1, o2⟩, ⟨t1, t2, t3, t4⟩, ⟨⟨a0, b0⟩, ⟨a1, b1⟩, ⟨a2, b2⟩, ⟨a3, b3⟩, ⟨a4, b4⟩, ⟨a5, b5⟩, ⟨a6, b6⟩, ⟨a7, b7⟩, ⟨a8, b8⟩, ⟨a9, b9⟩, ⟨a10, b10⟩, ⟨a11, b11⟩, ⟨a12, b12⟩, ⟨a13, b13⟩, ⟨a14, b14⟩⟩, r1, r2, r3, r4⟩ := h
    exact ⟨⟨va_Nw.warmM hW n1, va_Nw.warmM hW n2, va_Nw.warmM hW n3, va_Nw.warmM hW n4, va_Nw.warmM hW n5, va_Nw.warmM hW n6, va_Nw.warmM hW n7, va_Nw.warmM hW n8, va_AO.moved hal o1, va_AO.moved hal o2⟩,
      ⟨vk_R.warm hW t1, bw_Str.moved hal ((t2.kept hq).narrow hAB), va_Z.moved hal ((t3.kept hq).narrow hAB), va_Zq.moved hal ((t4.kept hq).narrow hAB)⟩, ⟨⟨vk_R.warm hW a0, bw_Str.moved hal ((b0.kept hq).narrow hAB)⟩, ⟨vk_R.warm hW a1, bw_Str.moved hal ((b1.kept hq).narrow hAB)⟩, ⟨vk_R.warm hW a2, bw_Str.moved hal ((b2.kept hq).narrow hAB)⟩, ⟨vk_R.warm hW a3, bw_Str.moved hal ((b3.kept hq).narrow hAB)⟩, ⟨vk_R.warm hW a4, bw_Str.moved hal ((b4.kept hq).narrow hAB)⟩, ⟨vk_R.warm hW a5, bw_Str.moved hal ((b5.kept hq).narrow hAB)⟩, ⟨vk_R.warm hW a6, bw_Str.moved hal ((b6.kept hq).narrow hAB)⟩, ⟨vk_R.warm hW a7, bw_Str.moved hal ((b7.kept hq).narrow hAB)⟩, ⟨vk_R.warm hW a8, bw_Str.moved hal ((b8.kept hq).narrow hAB)⟩, ⟨vk_R.warm hW a9, bw_Str.moved hal ((b9.kept hq).narrow hAB)⟩, ⟨vk_R.warm hW a10, bw_Str.moved hal ((b10.kept hq).narrow hAB)⟩, ⟨vk_R.warm hW a11, bw_Str.moved hal ((b11.kept hq).narrow hAB)⟩, ⟨vk_R.warm hW a12, bw_Str.moved hal ((b12.kept hq).narrow hAB)⟩, ⟨vk_R.warm hW a13, bw_Str.moved hal ((b13.kept hq).narrow hAB)⟩, ⟨vk_R.warm hW a14, bw_Str.moved hal ((b14.kept hq).narrow hAB)⟩⟩, vk_R.warm hW r1, vx_Zq.moved hal ((r2.kept hq).narrow hAB), vx_Zq.moved hal ((r3.kept hq).narrow hAB), fun w hw => bw_Nw_move (bw_B_face w hw).1 (bw_B_face w hw).2 hW (r4 w hw)⟩
def bw_by0 : List Int32 := [112, 114, 111, 103, 114, 97, 109, 32, 108, 105, 110, 101, 32, 119, 97, 110, 116, 32, 100, 111, 32, 117, 112, 32, 100, 111, 119, 110, 32, 115, 101, 116, 32, 103, 105, 118, 101, 32, 116, 104, 101, 110, 32, 101, 110, 100, 32, 116, 111, 32, 105, 102, 32, 98, 121, 32, 101, 108, 115, 101, 32, 105, 115, 32, 97, 32, 98, 32, 99, 32, 100, 32]
theorem bw_el0 : ∀ j, j < 72 → Cond.eq (.elem (.field (.string "BurntWays$Reader" 65) "java/lang/String" "value" "[B") (.int (Int32.ofNat j))) (.int (bw_by0.getD j 0)) ∈ flatC (Jvm.Cond.and given_1 narrow_1) := by decide +kernel
def bw_by1 : List Int32 := [112, 114, 111, 103, 114, 97, 109]
theorem bw_el1 : ∀ j, j < 7 → Cond.eq (.elem (.field (.string "BurntWaysModel" 154) "java/lang/String" "value" "[B") (.int (Int32.ofNat j))) (.int (bw_by1.getD j 0)) ∈ flatC (Jvm.Cond.and given_1 narrow_1) := by decide +kernel
def bw_by2 : List Int32 := [108, 105, 110, 101]
theorem bw_el2 : ∀ j, j < 4 → Cond.eq (.elem (.field (.string "BurntWaysModel" 156) "java/lang/String" "value" "[B") (.int (Int32.ofNat j))) (.int (bw_by2.getD j 0)) ∈ flatC (Jvm.Cond.and given_1 narrow_1) := by decide +kernel
def bw_by3 : List Int32 := [119, 97, 110, 116]
theorem bw_el3 : ∀ j, j < 4 → Cond.eq (.elem (.field (.string "BurntWaysModel" 158) "java/lang/String" "value" "[B") (.int (Int32.ofNat j))) (.int (bw_by3.getD j 0)) ∈ flatC (Jvm.Cond.and given_1 narrow_1) := by decide +kernel
def bw_by4 : List Int32 := [100, 111]
theorem bw_el4 : ∀ j, j < 2 → Cond.eq (.elem (.field (.string "BurntWaysModel" 159) "java/lang/String" "value" "[B") (.int (Int32.ofNat j))) (.int (bw_by4.getD j 0)) ∈ flatC (Jvm.Cond.and given_1 narrow_1) := by decide +kernel
def bw_by5 : List Int32 := [117, 112]
theorem bw_el5 : ∀ j, j < 2 → Cond.eq (.elem (.field (.string "BurntWaysModel" 161) "java/lang/String" "value" "[B") (.int (Int32.ofNat j))) (.int (bw_by5.getD j 0)) ∈ flatC (Jvm.Cond.and given_1 narrow_1) := by decide +kernel
def bw_by6 : List Int32 := [100, 111, 119, 110]
theorem bw_el6 : ∀ j, j < 4 → Cond.eq (.elem (.field (.string "BurntWaysModel" 163) "java/lang/String" "value" "[B") (.int (Int32.ofNat j))) (.int (bw_by6.getD j 0)) ∈ flatC (Jvm.Cond.and given_1 narrow_1) := by decide +kernel
def bw_by7 : List Int32 := [115, 101, 116]
theorem bw_el7 : ∀ j, j < 3 → Cond.eq (.elem (.field (.string "BurntWaysModel" 165) "java/lang/String" "value" "[B") (.int (Int32.ofNat j))) (.int (bw_by7.getD j 0)) ∈ flatC (Jvm.Cond.and given_1 narrow_1) := by decide +kernel
def bw_by8 : List Int32 := [103, 105, 118, 101]
theorem bw_el8 : ∀ j, j < 4 → Cond.eq (.elem (.field (.string "BurntWaysModel" 167) "java/lang/String" "value" "[B") (.int (Int32.ofNat j))) (.int (bw_by8.getD j 0)) ∈ flatC (Jvm.Cond.and given_1 narrow_1) := by decide +kernel
def bw_by9 : List Int32 := [116, 104, 101, 110]
theorem bw_el9 : ∀ j, j < 4 → Cond.eq (.elem (.field (.string "BurntWaysModel" 169) "java/lang/String" "value" "[B") (.int (Int32.ofNat j))) (.int (bw_by9.getD j 0)) ∈ flatC (Jvm.Cond.and given_1 narrow_1) := by decide +kernel
def bw_by10 : List Int32 := [101, 110, 100]
theorem bw_el10 : ∀ j, j < 3 → Cond.eq (.elem (.field (.string "BurntWaysModel" 171) "java/lang/String" "value" "[B") (.int (Int32.ofNat j))) (.int (bw_by10.getD j 0)) ∈ flatC (Jvm.Cond.and given_1 narrow_1) := by decide +kernel
def bw_by11 : List Int32 := [116, 111]
theorem bw_el11 : ∀ j, j < 2 → Cond.eq (.elem (.field (.string "BurntWaysModel" 172) "java/lang/String" "value" "[B") (.int (Int32.ofNat j))) (.int (bw_by11.getD j 0)) ∈ flatC (Jvm.Cond.and given_1 narrow_1) := by decide +kernel
def bw_by12 : List Int32 := [105, 102]
theorem bw_el12 : ∀ j, j < 2 → Cond.eq (.elem (.field (.string "BurntWaysModel" 174) "java/lang/String" "value" "[B") (.int (Int32.ofNat j))) (.int (bw_by12.getD j 0)) ∈ flatC (Jvm.Cond.and given_1 narrow_1) := by decide +kernel
def bw_by13 : List Int32 := [98, 121]
theorem bw_el13 : ∀ j, j < 2 → Cond.eq (.elem (.field (.string "BurntWaysModel" 176) "java/lang/String" "value" "[B") (.int (Int32.ofNat j))) (.int (bw_by13.getD j 0)) ∈ flatC (Jvm.Cond.and given_1 narrow_1) := by decide +kernel
def bw_by14 : List Int32 := [101, 108, 115, 101]
theorem bw_el14 : ∀ j, j < 4 → Cond.eq (.elem (.field (.string "BurntWaysModel" 178) "java/lang/String" "value" "[B") (.int (Int32.ofNat j))) (.int (bw_by14.getD j 0)) ∈ flatC (Jvm.Cond.and given_1 narrow_1) := by decide +kernel
def bw_by15 : List Int32 := [105, 115]
theorem bw_el15 : ∀ j, j < 2 → Cond.eq (.elem (.field (.string "BurntWaysModel" 180) "java/lang/String" "value" "[B") (.int (Int32.ofNat j))) (.int (bw_by15.getD j 0)) ∈ flatC (Jvm.Cond.and given_1 narrow_1) := by decide +kernel
theorem bw_strR {args : Array Value} {s : State} {own tx : String} {k : Nat} (h1 : (Cond.stringRef own k tx).before args s = true) (h2 : (Cond.exactly (.string own k) "java/lang/String").before args s = true) : ∃ a, vk_R own k tx a s := by
  obtain ⟨a, c, cA, kA, q1, -⟩ := Cond.exactly_spec (args := args) (first := s) (o := none) (s := s) (idx := []) (t := .string own k) (cls := "java/lang/String") h2
  exact ⟨a, vk_R.of h1 q1⟩
theorem bw_B_in : ∀ w ∈ bw_B, w ∈ lw_tbl := by decide +kernel
set_option maxRecDepth 100000 in
set_option maxHeartbeats 4000000 in
/-- what the Statement gives of the start, in the words of the contracts -/
theorem bw_start {args : Array Value} {s : State} (hts : ∀ w ∈ lw_tbl, w.before args s = true) (hgv : (Jvm.Cond.and given_1 narrow_1).before args s = true) : ∃ (sa va st : Nat) (fb : Nat → Int32) (sw vw : Nat → Nat) (fw : Nat → Nat → Int32), bw_EE sa va st fb sw vw fw (fun q => s.heap.size ≤ q) s := by
  have hs := flat_of_before _ hgv
  have hA : ∀ a : Nat, a < s.heap.size → ¬ (fun q => s.heap.size ≤ q) a := fun a h => Nat.not_le.mpr h
  obtain ⟨ak0, av0, hSt0, hev0⟩ := vk_Sof (args := args) (s := s) (N := 1) (tm := fun _ => .string "BurntWays$Reader" 65) (len := [72]) (byt := [bw_by0]) (A := fun q => s.heap.size ≤ q)
    (fun i hi => by obtain rfl : i = 0 := by omega
                    decide)
    (fun i _ => hs _ (by decide +kernel)) (fun i _ => hs _ (by decide +kernel)) (fun i _ => hs _ (by decide +kernel))
    (fun i hi => by obtain rfl : i = 0 := by omega
                    exact hs _ (by decide +kernel))
    (fun i hi j hj => by obtain rfl : i = 0 := by omega
                         exact hs _ (bw_el0 j hj))
    (fun i j hi hj hn => absurd (by omega) hn) hA
  obtain ⟨ak1, av1, hSt1, hev1⟩ := vk_Sof (args := args) (s := s) (N := 1) (tm := fun _ => .string "BurntWaysModel" 154) (len := [7]) (byt := [bw_by1]) (A := fun q => s.heap.size ≤ q)
    (fun i hi => by obtain rfl : i = 0 := by omega
                    decide)
    (fun i _ => hs _ (by decide +kernel)) (fun i _ => hs _ (by decide +kernel)) (fun i _ => hs _ (by decide +kernel))
    (fun i hi => by obtain rfl : i = 0 := by omega
                    exact hs _ (by decide +kernel))
    (fun i hi j hj => by obtain rfl : i = 0 := by omega
                         exact hs _ (bw_el1 j hj))
    (fun i j hi hj hn => absurd (by omega) hn) hA
  obtain ⟨ak2, av2, hSt2, hev2⟩ := vk_Sof (args := args) (s := s) (N := 1) (tm := fun _ => .string "BurntWaysModel" 156) (len := [4]) (byt := [bw_by2]) (A := fun q => s.heap.size ≤ q)
    (fun i hi => by obtain rfl : i = 0 := by omega
                    decide)
    (fun i _ => hs _ (by decide +kernel)) (fun i _ => hs _ (by decide +kernel)) (fun i _ => hs _ (by decide +kernel))
    (fun i hi => by obtain rfl : i = 0 := by omega
                    exact hs _ (by decide +kernel))
    (fun i hi j hj => by obtain rfl : i = 0 := by omega
                         exact hs _ (bw_el2 j hj))
    (fun i j hi hj hn => absurd (by omega) hn) hA
  obtain ⟨ak3, av3, hSt3, hev3⟩ := vk_Sof (args := args) (s := s) (N := 1) (tm := fun _ => .string "BurntWaysModel" 158) (len := [4]) (byt := [bw_by3]) (A := fun q => s.heap.size ≤ q)
    (fun i hi => by obtain rfl : i = 0 := by omega
                    decide)
    (fun i _ => hs _ (by decide +kernel)) (fun i _ => hs _ (by decide +kernel)) (fun i _ => hs _ (by decide +kernel))
    (fun i hi => by obtain rfl : i = 0 := by omega
                    exact hs _ (by decide +kernel))
    (fun i hi j hj => by obtain rfl : i = 0 := by omega
                         exact hs _ (bw_el3 j hj))
    (fun i j hi hj hn => absurd (by omega) hn) hA
  obtain ⟨ak4, av4, hSt4, hev4⟩ := vk_Sof (args := args) (s := s) (N := 1) (tm := fun _ => .string "BurntWaysModel" 159) (len := [2]) (byt := [bw_by4]) (A := fun q => s.heap.size ≤ q)
    (fun i hi => by obtain rfl : i = 0 := by omega
                    decide)
    (fun i _ => hs _ (by decide +kernel)) (fun i _ => hs _ (by decide +kernel)) (fun i _ => hs _ (by decide +kernel))
    (fun i hi => by obtain rfl : i = 0 := by omega
                    exact hs _ (by decide +kernel))
    (fun i hi j hj => by obtain rfl : i = 0 := by omega
                         exact hs _ (bw_el4 j hj))
    (fun i j hi hj hn => absurd (by omega) hn) hA
  obtain ⟨ak5, av5, hSt5, hev5⟩ := vk_Sof (args := args) (s := s) (N := 1) (tm := fun _ => .string "BurntWaysModel" 161) (len := [2]) (byt := [bw_by5]) (A := fun q => s.heap.size ≤ q)
    (fun i hi => by obtain rfl : i = 0 := by omega
                    decide)
    (fun i _ => hs _ (by decide +kernel)) (fun i _ => hs _ (by decide +kernel)) (fun i _ => hs _ (by decide +kernel))
    (fun i hi => by obtain rfl : i = 0 := by omega
                    exact hs _ (by decide +kernel))
    (fun i hi j hj => by obtain rfl : i = 0 := by omega
                         exact hs _ (bw_el5 j hj))
    (fun i j hi hj hn => absurd (by omega) hn) hA
  obtain ⟨ak6, av6, hSt6, hev6⟩ := vk_Sof (args := args) (s := s) (N := 1) (tm := fun _ => .string "BurntWaysModel" 163) (len := [4]) (byt := [bw_by6]) (A := fun q => s.heap.size ≤ q)
    (fun i hi => by obtain rfl : i = 0 := by omega
                    decide)
    (fun i _ => hs _ (by decide +kernel)) (fun i _ => hs _ (by decide +kernel)) (fun i _ => hs _ (by decide +kernel))
    (fun i hi => by obtain rfl : i = 0 := by omega
                    exact hs _ (by decide +kernel))
    (fun i hi j hj => by obtain rfl : i = 0 := by omega
                         exact hs _ (bw_el6 j hj))
    (fun i j hi hj hn => absurd (by omega) hn) hA
  obtain ⟨ak7, av7, hSt7, hev7⟩ := vk_Sof (args := args) (s := s) (N := 1) (tm := fun _ => .string "BurntWaysModel" 165) (len := [3]) (byt := [bw_by7]) (A := fun q => s.heap.size ≤ q)
    (fun i hi => by obtain rfl : i = 0 := by omega
                    decide)
    (fun i _ => hs _ (by decide +kernel)) (fun i _ => hs _ (by decide +kernel)) (fun i _ => hs _ (by decide +kernel))
    (fun i hi => by obtain rfl : i = 0 := by omega
                    exact hs _ (by decide +kernel))
    (fun i hi j hj => by obtain rfl : i = 0 := by omega
                         exact hs _ (bw_el7 j hj))
    (fun i j hi hj hn => absurd (by omega) hn) hA
  obtain ⟨ak8, av8, hSt8, hev8⟩ := vk_Sof (args := args) (s := s) (N := 1) (tm := fun _ => .string "BurntWaysModel" 167) (len := [4]) (byt := [bw_by8]) (A := fun q => s.heap.size ≤ q)
    (fun i hi => by obtain rfl : i = 0 := by omega
                    decide)
    (fun i _ => hs _ (by decide +kernel)) (fun i _ => hs _ (by decide +kernel)) (fun i _ => hs _ (by decide +kernel))
    (fun i hi => by obtain rfl : i = 0 := by omega
                    exact hs _ (by decide +kernel))
    (fun i hi j hj => by obtain rfl : i = 0 := by omega
                         exact hs _ (bw_el8 j hj))
    (fun i j hi hj hn => absurd (by omega) hn) hA
  obtain ⟨ak9, av9, hSt9, hev9⟩ := vk_Sof (args := args) (s := s) (N := 1) (tm := fun _ => .string "BurntWaysModel" 169) (len := [4]) (byt := [bw_by9]) (A := fun q => s.heap.size ≤ q)
    (fun i hi => by obtain rfl : i = 0 := by omega
                    decide)
    (fun i _ => hs _ (by decide +kernel)) (fun i _ => hs _ (by decide +kernel)) (fun i _ => hs _ (by decide +kernel))
    (fun i hi => by obtain rfl : i = 0 := by omega
                    exact hs _ (by decide +kernel))
    (fun i hi j hj => by obtain rfl : i = 0 := by omega
                         exact hs _ (bw_el9 j hj))
    (fun i j hi hj hn => absurd (by omega) hn) hA
  obtain ⟨ak10, av10, hSt10, hev10⟩ := vk_Sof (args := args) (s := s) (N := 1) (tm := fun _ => .string "BurntWaysModel" 171) (len := [3]) (byt := [bw_by10]) (A := fun q => s.heap.size ≤ q)
    (fun i hi => by obtain rfl : i = 0 := by omega
                    decide)
    (fun i _ => hs _ (by decide +kernel)) (fun i _ => hs _ (by decide +kernel)) (fun i _ => hs _ (by decide +kernel))
    (fun i hi => by obtain rfl : i = 0 := by omega
                    exact hs _ (by decide +kernel))
    (fun i hi j hj => by obtain rfl : i = 0 := by omega
                         exact hs _ (bw_el10 j hj))
    (fun i j hi hj hn => absurd (by omega) hn) hA
  obtain ⟨ak11, av11, hSt11, hev11⟩ := vk_Sof (args := args) (s := s) (N := 1) (tm := fun _ => .string "BurntWaysModel" 172) (len := [2]) (byt := [bw_by11]) (A := fun q => s.heap.size ≤ q)
    (fun i hi => by obtain rfl : i = 0 := by omega
                    decide)
    (fun i _ => hs _ (by decide +kernel)) (fun i _ => hs _ (by decide +kernel)) (fun i _ => hs _ (by decide +kernel))
    (fun i hi => by obtain rfl : i = 0 := by omega
                    exact hs _ (by decide +kernel))
    (fun i hi j hj => by obtain rfl : i = 0 := by omega
                         exact hs _ (bw_el11 j hj))
    (fun i j hi hj hn => absurd (by omega) hn) hA
  obtain ⟨ak12, av12, hSt12, hev12⟩ := vk_Sof (args := args) (s := s) (N := 1) (tm := fun _ => .string "BurntWaysModel" 174) (len := [2]) (byt := [bw_by12]) (A := fun q => s.heap.size ≤ q)
    (fun i hi => by obtain rfl : i = 0 := by omega
                    decide)
    (fun i _ => hs _ (by decide +kernel)) (fun i _ => hs _ (by decide +kernel)) (fun i _ => hs _ (by decide +kernel))
    (fun i hi => by obtain rfl : i = 0 := by omega
                    exact hs _ (by decide +kernel))
    (fun i hi j hj => by obtain rfl : i = 0 := by omega
                         exact hs _ (bw_el12 j hj))
    (fun i j hi hj hn => absurd (by omega) hn) hA
  obtain ⟨ak13, av13, hSt13, hev13⟩ := vk_Sof (args := args) (s := s) (N := 1) (tm := fun _ => .string "BurntWaysModel" 176) (len := [2]) (byt := [bw_by13]) (A := fun q => s.heap.size ≤ q)
    (fun i hi => by obtain rfl : i = 0 := by omega
                    decide)
    (fun i _ => hs _ (by decide +kernel)) (fun i _ => hs _ (by decide +kernel)) (fun i _ => hs _ (by decide +kernel))
    (fun i hi => by obtain rfl : i = 0 := by omega
                    exact hs _ (by decide +kernel))
    (fun i hi j hj => by obtain rfl : i = 0 := by omega
                         exact hs _ (bw_el13 j hj))
    (fun i j hi hj hn => absurd (by omega) hn) hA
  obtain ⟨ak14, av14, hSt14, hev14⟩ := vk_Sof (args := args) (s := s) (N := 1) (tm := fun _ => .string "BurntWaysModel" 178) (len := [4]) (byt := [bw_by14]) (A := fun q => s.heap.size ≤ q)
    (fun i hi => by obtain rfl : i = 0 := by omega
                    decide)
    (fun i _ => hs _ (by decide +kernel)) (fun i _ => hs _ (by decide +kernel)) (fun i _ => hs _ (by decide +kernel))
    (fun i hi => by obtain rfl : i = 0 := by omega
                    exact hs _ (by decide +kernel))
    (fun i hi j hj => by obtain rfl : i = 0 := by omega
                         exact hs _ (bw_el14 j hj))
    (fun i j hi hj hn => absurd (by omega) hn) hA
  obtain ⟨ak15, av15, hSt15, hev15⟩ := vk_Sof (args := args) (s := s) (N := 1) (tm := fun _ => .string "BurntWaysModel" 180) (len := [2]) (byt := [bw_by15]) (A := fun q => s.heap.size ≤ q)
    (fun i hi => by obtain rfl : i = 0 := by omega
                    decide)
    (fun i _ => hs _ (by decide +kernel)) (fun i _ => hs _ (by decide +kernel)) (fun i _ => hs _ (by decide +kernel))
    (fun i hi => by obtain rfl : i = 0 := by omega
                    exact hs _ (by decide +kernel))
    (fun i hi j hj => by obtain rfl : i = 0 := by omega
                         exact hs _ (bw_el15 j hj))
    (fun i j hi hj hn => absurd (by omega) hn) hA
  obtain ⟨st, hst⟩ := bw_strR (own := RX8) (k := 307) (tx := "no such line is told") (hts _ (List.mem_of_getElem? (i := 1131) (by decide +kernel))) (hs _ (by decide +kernel))
  refine ⟨ak0 0, av0 0, st, fun j => bw_by0.getD j 0, fun j => [ak1 0, ak2 0, ak3 0, ak4 0, ak5 0, ak6 0, ak7 0, ak8 0, ak9 0, ak10 0, ak11 0, ak12 0, ak13 0, ak14 0, ak15 0].getD j 0, fun j => [av1 0, av2 0, av3 0, av4 0, av5 0, av6 0, av7 0, av8 0, av9 0, av10 0, av11 0, av12 0, av13 0, av14 0, av15 0].getD j 0, fun j k => ([bw_by1, bw_by2, bw_by3, bw_by4, bw_by5, bw_by6, bw_by7, bw_by8, bw_by9, bw_by10, bw_by11, bw_by12, bw_by13, bw_by14, bw_by15].getD j []).getD k 0, ⟨va_Nw.of rfl (hts _ (List.mem_of_getElem? (i := 197) (by decide +kernel))), va_Nw.of rfl (hts _ (List.mem_of_getElem? (i := 313) (by decide +kernel))), va_Nw.of rfl (hts _ (List.mem_of_getElem? (i := 316) (by decide +kernel))), va_Nw.of rfl (hts _ (List.mem_of_getElem? (i := 364) (by decide +kernel))), va_Nw.of rfl (hts _ (List.mem_of_getElem? (i := 369) (by decide +kernel))), va_Nw.of rfl (hts _ (List.mem_of_getElem? (i := 422) (by decide +kernel))), va_Nw.of rfl (hts _ (List.mem_of_getElem? (i := 444) (by decide +kernel))), va_Nw.of rfl (hts _ (List.mem_of_getElem? (i := 481) (by decide +kernel))), va_AO.of (hts _ (List.mem_of_getElem? (i := 477) (by decide +kernel))), va_AO.of (hts _ (List.mem_of_getElem? (i := 479) (by decide +kernel)))⟩, ⟨vk_R.of (hts _ (List.mem_of_getElem? (i := 211) (by decide +kernel))) (hev0 0 (by decide)), hSt0.1 0 (by decide), ?_, ?_⟩, ⟨⟨vk_R.of (hts _ (List.mem_of_getElem? (i := 1321) (by decide +kernel))) (hev1 0 (by decide)), hSt1.1 0 (by decide)⟩, ⟨vk_R.of (hts _ (List.mem_of_getElem? (i := 1344) (by decide +kernel))) (hev2 0 (by decide)), hSt2.1 0 (by decide)⟩, ⟨vk_R.of (hts _ (List.mem_of_getElem? (i := 1345) (by decide +kernel))) (hev3 0 (by decide)), hSt3.1 0 (by decide)⟩, ⟨vk_R.of (hts _ (List.mem_of_getElem? (i := 1346) (by decide +kernel))) (hev4 0 (by decide)), hSt4.1 0 (by decide)⟩, ⟨vk_R.of (hts _ (List.mem_of_getElem? (i := 1347) (by decide +kernel))) (hev5 0 (by decide)), hSt5.1 0 (by decide)⟩, ⟨vk_R.of (hts _ (List.mem_of_getElem? (i := 1348) (by decide +kernel))) (hev6 0 (by decide)), hSt6.1 0 (by decide)⟩, ⟨vk_R.of (hts _ (List.mem_of_getElem? (i := 1349) (by decide +kernel))) (hev7 0 (by decide)), hSt7.1 0 (by decide)⟩, ⟨vk_R.of (hts _ (List.mem_of_getElem? (i := 1350) (by decide +kernel))) (hev8 0 (by decide)), hSt8.1 0 (by decide)⟩, ⟨vk_R.of (hts _ (List.mem_of_getElem? (i := 1351) (by decide +kernel))) (hev9 0 (by decide)), hSt9.1 0 (by decide)⟩, ⟨vk_R.of (hts _ (List.mem_of_getElem? (i := 1352) (by decide +kernel))) (hev10 0 (by decide)), hSt10.1 0 (by decide)⟩, ⟨vk_R.of (hts _ (List.mem_of_getElem? (i := 1353) (by decide +kernel))) (hev11 0 (by decide)), hSt11.1 0 (by decide)⟩, ⟨vk_R.of (hts _ (List.mem_of_getElem? (i := 1354) (by decide +kernel))) (hev12 0 (by decide)), hSt12.1 0 (by decide)⟩, ⟨vk_R.of (hts _ (List.mem_of_getElem? (i := 1355) (by decide +kernel))) (hev13 0 (by decide)), hSt13.1 0 (by decide)⟩, ⟨vk_R.of (hts _ (List.mem_of_getElem? (i := 1356) (by decide +kernel))) (hev14 0 (by decide)), hSt14.1 0 (by decide)⟩, ⟨vk_R.of (hts _ (List.mem_of_getElem? (i := 1357) (by decide +kernel))) (hev15 0 (by decide)), hSt15.1 0 (by decide)⟩⟩, hst, ?_, ?_, ?_⟩
  · exact va_Zof (hts _ (List.mem_of_getElem? (i := 221) (by decide +kernel))) (hts _ (List.mem_of_getElem? (i := 98) (by decide +kernel))) (va_eqt (hs _ (by decide +kernel))) hA
  · exact va_Zqof (hts _ (List.mem_of_getElem? (i := 237) (by decide +kernel))) (hts _ (List.mem_of_getElem? (i := 100) (by decide +kernel))) (hs _ (by decide +kernel)) hA
  · exact vx_Zqof (hts _ (List.mem_of_getElem? (i := 1119) (by decide +kernel))) (hts _ (List.mem_of_getElem? (i := 111) (by decide +kernel))) (hs _ (by decide +kernel)) hA
  · exact vx_Zqof (hts _ (List.mem_of_getElem? (i := 1121) (by decide +kernel))) (hts _ (List.mem_of_getElem? (i := 111) (by decide +kernel))) (hs _ (by decide +kernel)) hA
  · exact fun w hw => va_Nw.of (bw_B_face w hw).1 (hts w (bw_B_in w hw))
