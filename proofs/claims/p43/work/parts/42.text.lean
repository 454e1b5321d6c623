/-- what the start says of the one text that is read: its cells, and the statics on the way -/
def bw_Text (E : (Nat → Prop) → State → Prop) (own : String) (ix : Nat) (tx : String) (sa va N : Nat) (f : Nat → Int32) : Prop := N < 2 ^ 31 ∧ ∀ (A : Nat → Prop) (U : State), E A U → vk_R own ix tx sa U ∧ bw_Str sa va N f A U U.heap ∧ va_Z "java/lang/String" "COMPACT_STRINGS" "Z" (.int 1) A U U.heap ∧ va_Zq "jdk/internal/util/Preconditions" "SIOOBE_FORMATTER" "Ljava/util/function/BiFunction;" A U U.heap
/-- the links between nest mates, and the array classes of our own -/
def bw_Nests (E : (Nat → Prop) → State → Prop) : Prop := ∀ (A : Nat → Prop) (U : State), E A U → va_Nw (.methodLinkNest RX3 28 yX7_init RX8) U ∧ va_Nw (.methodLinkNest RX8 39 yX7_init RX8) U ∧ va_Nw (.methodLinkNest RX8 46 yX6_init RX8) U ∧ va_Nw (.methodLinkNest RX8 59 yX4_init RX8) U ∧ va_Nw (.methodLinkNest RX4 51 yX6_init RX8) U ∧ va_Nw (.methodLinkNest RX8 66 yX5_init RX8) U ∧ va_Nw (.methodLinkNest RX8 73 yX0_init RX8) U ∧ va_Nw (.methodLinkNest RX1 28 yX6_init RX8) U ∧ va_AO "BurntWays$Net" U ∧ va_AO "BurntWays$Walk" U
theorem bw_inlt {i : Int32} {N : Nat} (hN : N < 2 ^ 31) (h0 : ¬ i < 0) (h1 : i < nI N) : vp_in i N := by
  obtain ⟨j, hj, rfl⟩ := nI_of h0
  exact vp_in_nI ((nI_ltI hj hN).mp h1) hN
theorem dJ0_coder_7d493_0 : decode cJ0_coder_7d493 0 = .ok (.getstatic 38, 3) := by decide +kernel
theorem k_220 : Cond.fieldLink RJ0 38 "java/lang/String" "COMPACT_STRINGS" "Z" ∈ bw_T := bw_m 220 (by decide +kernel) rfl
theorem dJ0_coder_7d493_3 : decode cJ0_coder_7d493 3 = .ok (.ifCond .eq 10, 3) := by decide +kernel
theorem dJ0_coder_7d493_6 : decode cJ0_coder_7d493 6 = .ok (.aload_n 0, 1) := by decide +kernel
theorem dJ0_coder_7d493_7 : decode cJ0_coder_7d493 7 = .ok (.getfield 15, 3) := by decide +kernel
theorem k_1740 : Cond.fieldLink RJ0 15 "java/lang/String" "coder" "B" ∈ bw_T := bw_m 1740 (by decide +kernel) rfl
theorem dJ0_coder_7d493_10 : decode cJ0_coder_7d493 10 = .ok (.goto 4, 3) := by decide +kernel
theorem dJ0_coder_7d493_14 : decode cJ0_coder_7d493 14 = .ok (.ireturn, 1) := by decide +kernel
abbrev rm_J0_coder : Room := { frames := 0, cells := 0, slots := 0, locals := 0 }
set_option maxRecDepth 100000 in
set_option maxHeartbeats 4000000 in
theorem c_J0_coder {l : Launch} {E : (Nat → Prop) → State → Prop} (hO : bw_Ok E) {G : va_G} {cI cB cJ cN cW : ClassId} {own9 : String} {ix9 : Nat} {tx9 : String} {sa va N : Nat} {fb : Nat → Int32} (hT : bw_Text E own9 ix9 tx9 sa va N fb) : bw_Ci (S := bw_U) l yJ0_coder_7d493 (bw_ws (Cond.code yJ0_coder_7d493 cJ0_coder_7d493 1 (some .byte))) rm_J0_coder E G (bw_kt cI cB cJ cN cW) [.ref sa] [] (fun r _ => r = 0) (fun _ => []) := by
  refine bw_Ci.of (cc := cJ0_coder_7d493) (maxL := 1) (ty := .byte) (by decide) rfl (Nat.le_of_ble_eq_true rfl) ?_
  intro p e s m below meth c A Q hx hb hml hts hown hin hK hA hS hP hD hE ret ls hl
  have F : CallFix p m c cJ0_coder_7d493 1 s ([.ref sa] : List Value).toArray bw_T RJ0 := ⟨hx, hb, hml, hown, fun w h => hts w (List.mem_cons_of_mem _ h)⟩
  have hl : lv_has ls 1 [(0, .ref sa)] := hl
  refine r_gets F (hT.2 _ _ hE).2.2.1 hS k_220 dJ0_coder_7d493_0 ?_
  refine lv_if_eq (tgt := 13) hx hb dJ0_coder_7d493_3 (by decide) (fun h9 => absurd h9 (by decide)) (fun _ => ?_)
  refine lv_aload_n hx hb dJ0_coder_7d493_6 rfl (lv_at hl 0 rfl) ?_
  refine r_sget F (hT.2 _ _ hE).2.1.2.1 hS k_1740 dJ0_coder_7d493_7 ?_
  refine lv_goto (tgt := 14) hx hb dJ0_coder_7d493_10 (by decide) ?_
  exact ret 0 (fun _ => 0, fun _ _ => 0) _ _ _ _ _ _ rfl rfl (bw_subP (isC := []) hP rfl) (hD.sub [] (by decide) rfl) hS (Nat.le_of_ble_eq_true rfl) (Nat.le_of_ble_eq_true rfl) dJ0_coder_7d493_14
theorem dJ0_isLatin1_aae02_0 : decode cJ0_isLatin1_aae02 0 = .ok (.getstatic 38, 3) := by decide +kernel
theorem dJ0_isLatin1_aae02_3 : decode cJ0_isLatin1_aae02 3 = .ok (.ifCond .eq 14, 3) := by decide +kernel
theorem dJ0_isLatin1_aae02_6 : decode cJ0_isLatin1_aae02 6 = .ok (.aload_n 0, 1) := by decide +kernel
theorem dJ0_isLatin1_aae02_7 : decode cJ0_isLatin1_aae02 7 = .ok (.getfield 15, 3) := by decide +kernel
theorem dJ0_isLatin1_aae02_10 : decode cJ0_isLatin1_aae02 10 = .ok (.ifCond .ne 7, 3) := by decide +kernel
theorem dJ0_isLatin1_aae02_13 : decode cJ0_isLatin1_aae02 13 = .ok (.iconst 1, 1) := by decide +kernel
theorem dJ0_isLatin1_aae02_14 : decode cJ0_isLatin1_aae02 14 = .ok (.goto 4, 3) := by decide +kernel
theorem dJ0_isLatin1_aae02_18 : decode cJ0_isLatin1_aae02 18 = .ok (.ireturn, 1) := by decide +kernel
abbrev rm_J0_isLatin1 : Room := { frames := 0, cells := 0, slots := 0, locals := 0 }
set_option maxRecDepth 100000 in
set_option maxHeartbeats 4000000 in
theorem c_J0_isLatin1 {l : Launch} {E : (Nat → Prop) → State → Prop} (hO : bw_Ok E) {G : va_G} {cI cB cJ cN cW : ClassId} {own9 : String} {ix9 : Nat} {tx9 : String} {sa va N : Nat} {fb : Nat → Int32} (hT : bw_Text E own9 ix9 tx9 sa va N fb) : bw_Ci (S := bw_U) l yJ0_isLatin1_aae02 (bw_ws (Cond.code yJ0_isLatin1_aae02 cJ0_isLatin1_aae02 1 (some .boolean))) rm_J0_isLatin1 E G (bw_kt cI cB cJ cN cW) [.ref sa] [] (fun r _ => r = 1) (fun _ => []) := by
  refine bw_Ci.of (cc := cJ0_isLatin1_aae02) (maxL := 1) (ty := .boolean) (by decide) rfl (Nat.le_of_ble_eq_true rfl) ?_
  intro p e s m below meth c A Q hx hb hml hts hown hin hK hA hS hP hD hE ret ls hl
  have F : CallFix p m c cJ0_isLatin1_aae02 1 s ([.ref sa] : List Value).toArray bw_T RJ0 := ⟨hx, hb, hml, hown, fun w h => hts w (List.mem_cons_of_mem _ h)⟩
  have hl : lv_has ls 1 [(0, .ref sa)] := hl
  refine r_gets F (hT.2 _ _ hE).2.2.1 hS k_220 dJ0_isLatin1_aae02_0 ?_
  refine lv_if_eq (tgt := 17) hx hb dJ0_isLatin1_aae02_3 (by decide) (fun h9 => absurd h9 (by decide)) (fun _ => ?_)
  refine lv_aload_n hx hb dJ0_isLatin1_aae02_6 rfl (lv_at hl 0 rfl) ?_
  refine r_sget F (hT.2 _ _ hE).2.1.2.1 hS k_1740 dJ0_isLatin1_aae02_7 ?_
  refine lv_if_ne (tgt := 17) hx hb dJ0_isLatin1_aae02_10 (by decide) (fun h9 => absurd (by decide) h9) (fun _ => ?_)
  refine lv_iconst (v := 1) hx hb dJ0_isLatin1_aae02_13 (by decide) ?_
  refine lv_goto (tgt := 18) hx hb dJ0_isLatin1_aae02_14 (by decide) ?_
  exact ret 1 (fun _ => 0, fun _ _ => 0) _ _ _ _ _ _ rfl rfl (bw_subP (isC := []) hP rfl) (hD.sub [] (by decide) rfl) hS (Nat.le_of_ble_eq_true rfl) (Nat.le_of_ble_eq_true rfl) dJ0_isLatin1_aae02_18
theorem dJ0_length_8abf5_0 : decode cJ0_length_8abf5 0 = .ok (.aload_n 0, 1) := by decide +kernel
theorem dJ0_length_8abf5_1 : decode cJ0_length_8abf5 1 = .ok (.getfield 9, 3) := by decide +kernel
theorem k_1739 : Cond.fieldLink RJ0 9 "java/lang/String" "value" "[B" ∈ bw_T := bw_m 1739 (by decide +kernel) rfl
theorem dJ0_length_8abf5_4 : decode cJ0_length_8abf5 4 = .ok (.arraylength, 1) := by decide +kernel
theorem dJ0_length_8abf5_5 : decode cJ0_length_8abf5 5 = .ok (.aload_n 0, 1) := by decide +kernel
theorem dJ0_length_8abf5_6 : decode cJ0_length_8abf5 6 = .ok (.invokevirtual 335, 3) := by decide +kernel
theorem k_216 : Cond.methodLink RJ0 335 yJ0_coder_7d493 ∈ bw_T := bw_m 216 (by decide +kernel) rfl
theorem kv_J0_coder_7d493 : bw_KV RJ0 yJ0_coder_7d493 (Cond.code yJ0_coder_7d493 cJ0_coder_7d493 1 (some .byte)) := ⟨bw_m 217 (by decide +kernel) rfl, bw_m 218 (by decide +kernel) rfl, bw_m 98 (by decide +kernel) rfl, bw_m 219 (by decide +kernel) rfl⟩
theorem dJ0_length_8abf5_9 : decode cJ0_length_8abf5 9 = .ok (.ishr, 1) := by decide +kernel
theorem dJ0_length_8abf5_10 : decode cJ0_length_8abf5 10 = .ok (.ireturn, 1) := by decide +kernel
abbrev rm_J0_length : Room := { frames := 1, cells := 0, slots := 0, locals := 20 }
set_option maxRecDepth 100000 in
set_option maxHeartbeats 4000000 in
theorem c_J0_length {l : Launch} {E : (Nat → Prop) → State → Prop} (hO : bw_Ok E) {G : va_G} {cI cB cJ cN cW : ClassId} {own9 : String} {ix9 : Nat} {tx9 : String} {sa va N : Nat} {fb : Nat → Int32} (hT : bw_Text E own9 ix9 tx9 sa va N fb) : bw_Ci (S := bw_U) l yJ0_length_8abf5 (bw_ws (Cond.code yJ0_length_8abf5 cJ0_length_8abf5 1 (some .int))) rm_J0_length E G (bw_kt cI cB cJ cN cW) [.ref sa] [] (fun r _ => r = nI N) (fun _ => []) := by
  refine bw_Ci.of (cc := cJ0_length_8abf5) (maxL := 1) (ty := .int) (by decide) rfl (Nat.le_of_ble_eq_true rfl) ?_
  intro p e s m below meth c A Q hx hb hml hts hown hin hK hA hS hP hD hE ret ls hl
  have F : CallFix p m c cJ0_length_8abf5 1 s ([.ref sa] : List Value).toArray bw_T RJ0 := ⟨hx, hb, hml, hown, fun w h => hts w (List.mem_cons_of_mem _ h)⟩
  have hl : lv_has ls 1 [(0, .ref sa)] := hl
  refine lv_aload_n hx hb dJ0_length_8abf5_0 rfl (lv_at hl 0 rfl) ?_
  refine r_sget F (hT.2 _ _ hE).2.1.2.2.1 hS k_1739 dJ0_length_8abf5_1 ?_
  refine va_tlen (v := nI N) hx hb (hT.2 _ _ hE).2.1.2.2.2 hS rfl dJ0_length_8abf5_4 ?_
  refine lv_aload_n hx hb dJ0_length_8abf5_5 rfl (lv_at hl 0 rfl) ?_
  refine r_callR (As := []) (rest := [.int (nI N)]) F hK hP hD hS hA hO hE (c_J0_coder hO hT) k_216 kv_J0_coder_7d493 0 rfl (by decide +kernel) ⟨Nat.le_of_ble_eq_true rfl, Nat.le_of_ble_eq_true rfl⟩ [] rfl (by decide) (by obtain ⟨cell, h1, h2, h3, _⟩ := ((hT.2 _ _ hE).2.1.1).kept hS.2.1; exact ⟨cell, h1, h2, h3⟩) hl.1 rfl (Nat.le_of_ble_eq_true rfl) dJ0_length_8abf5_6 ⟨Nat.le_of_ble_eq_true rfl, Nat.le_of_ble_eq_true rfl⟩ (fun r1 u2 H locs hp hP hD hS => ?_)
  subst hp
  refine r_ishr (v := (nI N)) F dJ0_length_8abf5_9 (sb_shr0 _) ?_
  exact ret (nI N) (fun _ => 0, fun _ _ => 0) _ _ _ _ _ _ rfl rfl (bw_subP (isC := []) hP rfl) (hD.sub [] (by decide) rfl) hS (Nat.le_of_ble_eq_true rfl) (Nat.le_of_ble_eq_true rfl) dJ0_length_8abf5_10
theorem dJ3_checkIndex_8e157_0 : decode cJ3_checkIndex_8e157 0 = .ok (.iload_n 0, 1) := by decide +kernel
theorem dJ3_checkIndex_8e157_1 : decode cJ3_checkIndex_8e157 1 = .ok (.ifCond .lt 8, 3) := by decide +kernel
theorem dJ3_checkIndex_8e157_4 : decode cJ3_checkIndex_8e157 4 = .ok (.iload_n 0, 1) := by decide +kernel
theorem dJ3_checkIndex_8e157_5 : decode cJ3_checkIndex_8e157 5 = .ok (.iload_n 1, 1) := by decide +kernel
theorem dJ3_checkIndex_8e157_6 : decode cJ3_checkIndex_8e157 6 = .ok (.if_icmp .lt 10, 3) := by decide +kernel
theorem dJ3_checkIndex_8e157_16 : decode cJ3_checkIndex_8e157 16 = .ok (.iload_n 0, 1) := by decide +kernel
theorem dJ3_checkIndex_8e157_17 : decode cJ3_checkIndex_8e157 17 = .ok (.ireturn, 1) := by decide +kernel
abbrev rm_J3_checkIndex_n : Room := { frames := 0, cells := 0, slots := 0, locals := 0 }
set_option maxRecDepth 100000 in
set_option maxHeartbeats 4000000 in
theorem c_J3_checkIndex_n {l : Launch} {E : (Nat → Prop) → State → Prop} (hO : bw_Ok E) {G : va_G} {cI cB cJ cN cW : ClassId} (i n : Int32) (h0 : ¬ i < 0) (h1 : i < n) : bw_Ci (S := bw_U) l yJ3_checkIndex_8e157 (bw_ws (Cond.code yJ3_checkIndex_8e157 cJ3_checkIndex_8e157 3 (some .int))) rm_J3_checkIndex_n E G (bw_kt cI cB cJ cN cW) [.int i, .int n, .null] [] (fun _ _ => True) (fun _ => []) := by
  refine bw_Ci.of (cc := cJ3_checkIndex_8e157) (maxL := 3) (ty := .int) (by decide) rfl (Nat.le_of_ble_eq_true rfl) ?_
  intro p e s m below meth c A Q hx hb hml hts hown hin hK hA hS hP hD hE ret ls hl
  have F : CallFix p m c cJ3_checkIndex_8e157 3 s ([.int i, .int n, .null] : List Value).toArray bw_T RJ3 := ⟨hx, hb, hml, hown, fun w h => hts w (List.mem_cons_of_mem _ h)⟩
  have hl : lv_has ls 3 [(0, .int i), (1, .int n), (2, .null)] := hl
  refine lv_iload_n hx hb dJ3_checkIndex_8e157_0 rfl (lv_at hl 0 rfl) ?_
  refine lv_if_lt (tgt := 9) hx hb dJ3_checkIndex_8e157_1 (by decide) (fun h9 => absurd h9 h0) (fun _ => ?_)
  refine lv_iload_n hx hb dJ3_checkIndex_8e157_4 rfl (lv_at hl 0 rfl) ?_
  refine lv_iload_n hx hb dJ3_checkIndex_8e157_5 rfl (lv_at hl 1 rfl) ?_
  refine lv_icmp_lt (tgt := 16) hx hb dJ3_checkIndex_8e157_6 (by decide) (fun _ => ?_) (fun h9 => absurd h1 h9)
  refine lv_iload_n hx hb dJ3_checkIndex_8e157_16 rfl (lv_at hl 0 rfl) ?_
  exact ret i (fun _ => 0, fun _ _ => 0) _ _ _ _ _ _ rfl trivial (bw_subP (isC := []) hP rfl) (hD.sub [] (by decide) rfl) hS (Nat.le_of_ble_eq_true rfl) (Nat.le_of_ble_eq_true rfl) dJ3_checkIndex_8e157_17
abbrev rm_J3_checkIndex_r : Room := { frames := 0, cells := 0, slots := 0, locals := 0 }
set_option maxRecDepth 100000 in
set_option maxHeartbeats 4000000 in
theorem c_J3_checkIndex_r {l : Launch} {E : (Nat → Prop) → State → Prop} (hO : bw_Ok E) {G : va_G} {cI cB cJ cN cW : ClassId} (i n : Int32) (h0 : ¬ i < 0) (h1 : i < n) (t : Nat) : bw_Ci (S := bw_U) l yJ3_checkIndex_8e157 (bw_ws (Cond.code yJ3_checkIndex_8e157 cJ3_checkIndex_8e157 3 (some .int))) rm_J3_checkIndex_r E G (bw_kt cI cB cJ cN cW) [.int i, .int n, .ref t] [] (fun _ _ => True) (fun _ => []) := by
  refine bw_Ci.of (cc := cJ3_checkIndex_8e157) (maxL := 3) (ty := .int) (by decide) rfl (Nat.le_of_ble_eq_true rfl) ?_
  intro p e s m below meth c A Q hx hb hml hts hown hin hK hA hS hP hD hE ret ls hl
  have F : CallFix p m c cJ3_checkIndex_8e157 3 s ([.int i, .int n, .ref t] : List Value).toArray bw_T RJ3 := ⟨hx, hb, hml, hown, fun w h => hts w (List.mem_cons_of_mem _ h)⟩
  have hl : lv_has ls 3 [(0, .int i), (1, .int n), (2, .ref t)] := hl
  refine lv_iload_n hx hb dJ3_checkIndex_8e157_0 rfl (lv_at hl 0 rfl) ?_
  refine lv_if_lt (tgt := 9) hx hb dJ3_checkIndex_8e157_1 (by decide) (fun h9 => absurd h9 h0) (fun _ => ?_)
  refine lv_iload_n hx hb dJ3_checkIndex_8e157_4 rfl (lv_at hl 0 rfl) ?_
  refine lv_iload_n hx hb dJ3_checkIndex_8e157_5 rfl (lv_at hl 1 rfl) ?_
  refine lv_icmp_lt (tgt := 16) hx hb dJ3_checkIndex_8e157_6 (by decide) (fun _ => ?_) (fun h9 => absurd h1 h9)
  refine lv_iload_n hx hb dJ3_checkIndex_8e157_16 rfl (lv_at hl 0 rfl) ?_
  exact ret i (fun _ => 0, fun _ _ => 0) _ _ _ _ _ _ rfl trivial (bw_subP (isC := []) hP rfl) (hD.sub [] (by decide) rfl) hS (Nat.le_of_ble_eq_true rfl) (Nat.le_of_ble_eq_true rfl) dJ3_checkIndex_8e157_17
theorem dJ0_checkIndex_df160_0 : decode cJ0_checkIndex_df160 0 = .ok (.iload_n 0, 1) := by decide +kernel
theorem dJ0_checkIndex_df160_1 : decode cJ0_checkIndex_df160 1 = .ok (.iload_n 1, 1) := by decide +kernel
theorem dJ0_checkIndex_df160_2 : decode cJ0_checkIndex_df160 2 = .ok (.getstatic 1053, 3) := by decide +kernel
theorem dJ0_checkIndex_df160_5 : decode cJ0_checkIndex_df160 5 = .ok (.invokestatic 1059, 3) := by decide +kernel
theorem dJ0_checkIndex_df160_8 : decode cJ0_checkIndex_df160 8 = .ok (.pop, 1) := by decide +kernel
theorem dJ0_checkIndex_df160_9 : decode cJ0_checkIndex_df160 9 = .ok (.return_, 1) := by decide +kernel
theorem k_236 : Cond.fieldLink RJ0 1053 "jdk/internal/util/Preconditions" "SIOOBE_FORMATTER" "Ljava/util/function/BiFunction;" ∈ bw_T := bw_m 236 (by decide +kernel) rfl
theorem k_238 : Cond.methodLink RJ0 1059 yJ3_checkIndex_8e157 ∈ bw_T := bw_m 238 (by decide +kernel) rfl
theorem ks_J3_checkIndex_8e157 : bw_KS RJ3 yJ3_checkIndex_8e157 (Cond.code yJ3_checkIndex_8e157 cJ3_checkIndex_8e157 3 (some .int)) := ⟨bw_m 239 (by decide +kernel) rfl, bw_m 100 (by decide +kernel) rfl, bw_m 240 (by decide +kernel) rfl⟩
abbrev rm_J0_checkIndex : Room := { frames := 1, cells := 0, slots := 0, locals := 22 }
set_option maxRecDepth 100000 in
set_option maxHeartbeats 4000000 in
theorem c_J0_checkIndex {l : Launch} {E : (Nat → Prop) → State → Prop} (hO : bw_Ok E) {G : va_G} {cI cB cJ cN cW : ClassId} {own9 : String} {ix9 : Nat} {tx9 : String} {sa va N : Nat} {fb : Nat → Int32} (hT : bw_Text E own9 ix9 tx9 sa va N fb) (i n : Int32) (h0 : ¬ i < 0) (h1 : i < n) : bw_Cv (S := bw_U) l yJ0_checkIndex_df160 (bw_ws (Cond.code yJ0_checkIndex_df160 cJ0_checkIndex_df160 2 none)) rm_J0_checkIndex E G (bw_kt cI cB cJ cN cW) [.int i, .int n] [] (fun _ => True) (fun _ => []) := by
  refine bw_Cv.of (cc := cJ0_checkIndex_df160) (maxL := 2) (by decide) rfl (Nat.le_of_ble_eq_true rfl) ?_
  intro p e s m below meth c A Q hx hb hml hts hown hin hK hA hS hP hD hE ret ls hl
  have F : CallFix p m c cJ0_checkIndex_df160 2 s ([.int i, .int n] : List Value).toArray bw_T RJ0 := ⟨hx, hb, hml, hown, fun w h => hts w (List.mem_cons_of_mem _ h)⟩
  have hl : lv_has ls 2 [(0, .int i), (1, .int n)] := hl
  rcases (hT.2 _ _ hE).2.2.2 with hz | ⟨t, hz⟩
  · refine lv_iload_n hx hb dJ0_checkIndex_df160_0 rfl (lv_at hl 0 rfl) ?_
    refine lv_iload_n hx hb dJ0_checkIndex_df160_1 rfl (lv_at hl 1 rfl) ?_
    refine r_gets F hz hS k_236 dJ0_checkIndex_df160_2 ?_
    refine r_callXi (As := [.int i, .int n, .null]) (rest := []) F hK hP hD hS hA hO hE (c_J3_checkIndex_n hO i n h0 h1) k_238 ks_J3_checkIndex_8e157 3 rfl (by decide +kernel) ⟨Nat.le_of_ble_eq_true rfl, Nat.le_of_ble_eq_true rfl⟩ [] rfl (by decide) hl.1 rfl (Nat.le_of_ble_eq_true rfl) dJ0_checkIndex_df160_5 ⟨Nat.le_of_ble_eq_true rfl, Nat.le_of_ble_eq_true rfl⟩ (fun r1 u2 H locs hp hP hD hS => ?_)
    refine lv_pop hx hb dJ0_checkIndex_df160_8 rfl ?_
    exact ret (fun _ => 0, fun _ _ => 0) _ _ _ _ _ _ trivial (bw_subP (isC := []) hP rfl) (hD.sub [] (by decide) rfl) hS (Nat.le_of_ble_eq_true rfl) (Nat.le_of_ble_eq_true rfl) dJ0_checkIndex_df160_9
  · refine lv_iload_n hx hb dJ0_checkIndex_df160_0 rfl (lv_at hl 0 rfl) ?_
    refine lv_iload_n hx hb dJ0_checkIndex_df160_1 rfl (lv_at hl 1 rfl) ?_
    refine r_gets F hz hS k_236 dJ0_checkIndex_df160_2 ?_
    refine r_callXi (As := [.int i, .int n, .ref t]) (rest := []) F hK hP hD hS hA hO hE (c_J3_checkIndex_r hO i n h0 h1 t) k_238 ks_J3_checkIndex_8e157 3 rfl (by decide +kernel) ⟨Nat.le_of_ble_eq_true rfl, Nat.le_of_ble_eq_true rfl⟩ [] rfl (by decide) hl.1 rfl (Nat.le_of_ble_eq_true rfl) dJ0_checkIndex_df160_5 ⟨Nat.le_of_ble_eq_true rfl, Nat.le_of_ble_eq_true rfl⟩ (fun r1 u2 H locs hp hP hD hS => ?_)
    refine lv_pop hx hb dJ0_checkIndex_df160_8 rfl ?_
    exact ret (fun _ => 0, fun _ _ => 0) _ _ _ _ _ _ trivial (bw_subP (isC := []) hP rfl) (hD.sub [] (by decide) rfl) hS (Nat.le_of_ble_eq_true rfl) (Nat.le_of_ble_eq_true rfl) dJ0_checkIndex_df160_9
theorem dJ1_charAt_3b067_0 : decode cJ1_charAt_3b067 0 = .ok (.iload_n 1, 1) := by decide +kernel
theorem dJ1_charAt_3b067_1 : decode cJ1_charAt_3b067 1 = .ok (.aload_n 0, 1) := by decide +kernel
theorem dJ1_charAt_3b067_2 : decode cJ1_charAt_3b067 2 = .ok (.arraylength, 1) := by decide +kernel
theorem dJ1_charAt_3b067_3 : decode cJ1_charAt_3b067 3 = .ok (.invokestatic 9, 3) := by decide +kernel
theorem k_233 : Cond.methodLink RJ1 9 yJ0_checkIndex_df160 ∈ bw_T := bw_m 233 (by decide +kernel) rfl
theorem ks_J0_checkIndex_df160 : bw_KS RJ0 yJ0_checkIndex_df160 (Cond.code yJ0_checkIndex_df160 cJ0_checkIndex_df160 2 none) := ⟨bw_m 234 (by decide +kernel) rfl, bw_m 98 (by decide +kernel) rfl, bw_m 235 (by decide +kernel) rfl⟩
theorem dJ1_charAt_3b067_6 : decode cJ1_charAt_3b067 6 = .ok (.aload_n 0, 1) := by decide +kernel
theorem dJ1_charAt_3b067_7 : decode cJ1_charAt_3b067 7 = .ok (.iload_n 1, 1) := by decide +kernel
theorem dJ1_charAt_3b067_8 : decode cJ1_charAt_3b067 8 = .ok (.baload, 1) := by decide +kernel
theorem dJ1_charAt_3b067_9 : decode cJ1_charAt_3b067 9 = .ok (.sipush 255, 3) := by decide +kernel
theorem dJ1_charAt_3b067_12 : decode cJ1_charAt_3b067 12 = .ok (.iand, 1) := by decide +kernel
theorem dJ1_charAt_3b067_13 : decode cJ1_charAt_3b067 13 = .ok (.i2c, 1) := by decide +kernel
theorem dJ1_charAt_3b067_14 : decode cJ1_charAt_3b067 14 = .ok (.ireturn, 1) := by decide +kernel
abbrev rm_J1_charAt : Room := { frames := 2, cells := 0, slots := 0, locals := 43 }
theorem dJ0_charAt_5068e_0 : decode cJ0_charAt_5068e 0 = .ok (.aload_n 0, 1) := by decide +kernel
theorem dJ0_charAt_5068e_1 : decode cJ0_charAt_5068e 1 = .ok (.invokevirtual 492, 3) := by decide +kernel
theorem k_226 : Cond.methodLink RJ0 492 yJ0_isLatin1_aae02 ∈ bw_T := bw_m 226 (by decide +kernel) rfl
theorem kv_J0_isLatin1_aae02 : bw_KV RJ0 yJ0_isLatin1_aae02 (Cond.code yJ0_isLatin1_aae02 cJ0_isLatin1_aae02 1 (some .boolean)) := ⟨bw_m 227 (by decide +kernel) rfl, bw_m 228 (by decide +kernel) rfl, bw_m 98 (by decide +kernel) rfl, bw_m 229 (by decide +kernel) rfl⟩
theorem dJ0_charAt_5068e_4 : decode cJ0_charAt_5068e 4 = .ok (.ifCond .eq 12, 3) := by decide +kernel
theorem dJ0_charAt_5068e_7 : decode cJ0_charAt_5068e 7 = .ok (.aload_n 0, 1) := by decide +kernel
theorem dJ0_charAt_5068e_8 : decode cJ0_charAt_5068e 8 = .ok (.getfield 9, 3) := by decide +kernel
theorem dJ0_charAt_5068e_11 : decode cJ0_charAt_5068e 11 = .ok (.iload_n 1, 1) := by decide +kernel
theorem dJ0_charAt_5068e_12 : decode cJ0_charAt_5068e 12 = .ok (.invokestatic 495, 3) := by decide +kernel
theorem k_230 : Cond.methodLink RJ0 495 yJ1_charAt_3b067 ∈ bw_T := bw_m 230 (by decide +kernel) rfl
theorem ks_J1_charAt_3b067 : bw_KS RJ1 yJ1_charAt_3b067 (Cond.code yJ1_charAt_3b067 cJ1_charAt_3b067 2 (some .char)) := ⟨bw_m 231 (by decide +kernel) rfl, bw_m 99 (by decide +kernel) rfl, bw_m 232 (by decide +kernel) rfl⟩
theorem dJ0_charAt_5068e_15 : decode cJ0_charAt_5068e 15 = .ok (.ireturn, 1) := by decide +kernel
abbrev rm_J0_charAt : Room := { frames := 3, cells := 0, slots := 0, locals := 64 }
def bw_Words (E : (Nat → Prop) → State → Prop) (sa va : Nat → Nat) (fb : Nat → Nat → Int32) : Prop := bw_Text E RX9 154 "program" (sa 0) (va 0) 7 (fb 0) ∧ bw_Text E RX9 156 "line" (sa 1) (va 1) 4 (fb 1) ∧ bw_Text E RX9 158 "want" (sa 2) (va 2) 4 (fb 2) ∧ bw_Text E RX9 159 "do" (sa 3) (va 3) 2 (fb 3) ∧ bw_Text E RX9 161 "up" (sa 4) (va 4) 2 (fb 4) ∧ bw_Text E RX9 163 "down" (sa 5) (va 5) 4 (fb 5) ∧ bw_Text E RX9 165 "set" (sa 6) (va 6) 3 (fb 6) ∧ bw_Text E RX9 167 "give" (sa 7) (va 7) 4 (fb 7) ∧ bw_Text E RX9 169 "then" (sa 8) (va 8) 4 (fb 8) ∧ bw_Text E RX9 171 "end" (sa 9) (va 9) 3 (fb 9) ∧ bw_Text E RX9 172 "to" (sa 10) (va 10) 2 (fb 10) ∧ bw_Text E RX9 174 "if" (sa 11) (va 11) 2 (fb 11) ∧ bw_Text E RX9 176 "by" (sa 12) (va 12) 2 (fb 12) ∧ bw_Text E RX9 178 "else" (sa 13) (va 13) 4 (fb 13) ∧ bw_Text E RX9 180 "is" (sa 14) (va 14) 2 (fb 14)
