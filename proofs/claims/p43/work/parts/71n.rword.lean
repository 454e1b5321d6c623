/-! words of the reference: letters against a reserved word -/
theorem Stop.ex {S : Int → Prop} {f : Nat → Int} {n : Int} (hS : ¬ S (-1)) : ∀ (d : Nat) (p : Int), (n - p).toNat ≤ d → ∃ k, Stop S f n p k := by
  intro d
  induction d with
  | zero =>
    intro p h
    exact ⟨p, Int.le_refl _, fun j h1 h2 => by omega, by rw [lk_ge (by omega)]; exact hS⟩
  | succ d ih =>
    intro p h
    by_cases q : S (lk f n p)
    · have hp : p < n := by
        rcases (show p < n ∨ n ≤ p by omega) with z | z
        · exact z
        · rw [lk_ge z] at q; exact absurd q hS
      obtain ⟨k, h1, h2, h3⟩ := ih (p + 1) (by omega)
      refine ⟨k, by omega, fun j h4 h5 => ?_, h3⟩
      by_cases e : j = p
      · rw [e]; exact q
      · exact h2 j (by omega) h5
    · exact ⟨p, Int.le_refl _, fun j h1 h2 => by omega, q⟩
theorem stp_Stop {S : Int → Prop} {f : Nat → Int} {n p : Int} (hS : ¬ S (-1)) : Stop S f n p (stp S f n p) := Classical.epsilon_spec (p := fun k => Stop S f n p k) (Stop.ex hS _ p (Nat.le_refl _))
theorem tKd_rg (f : Nat → Int) (n b : Int) : 0 ≤ tKd f n b ∧ tKd f n b ≤ 24 := by
  unfold tKd
  have h := (Kd.ex (tWd f n b)).le
  repeat' split
  all_goals omega
theorem tKd_word {f : Nat → Int} {n b : Int} (h : tKd f n b ≤ 19) : (97 ≤ tCh f n b ∧ tCh f n b ≤ 122) ∧ tEn f n b - tPl f n b ≤ 8 ∧ tKd f n b = kdO (tWd f n b) ∧ Stop sSm f n (tPl f n b) (tEn f n b) := by
  have h0 := h
  unfold tKd at h0
  by_cases h1 : tCh f n b = -1
  · rw [if_pos h1] at h0; omega
  · rw [if_neg h1] at h0
    by_cases h2 : 97 ≤ tCh f n b ∧ tCh f n b ≤ 122
    · rw [if_pos h2] at h0
      by_cases h3 : tEn f n b - tPl f n b ≤ 8
      · refine ⟨h2, h3, ?_, ?_⟩
        · unfold tKd; rw [if_neg h1, if_pos h2, if_pos h3]
        · have e : tEn f n b = stp sSm f n (tPl f n b) := by unfold tEn; rw [if_neg h1, if_pos h2]
          rw [e]; exact stp_Stop (by unfold sSm; omega)
      · rw [if_neg h3] at h0; omega
    · rw [if_neg h2] at h0
      by_cases h4 : 48 ≤ tCh f n b ∧ tCh f n b ≤ 57
      · rw [if_pos h4] at h0
        by_cases h5 : tEn f n b - tPl f n b ≤ 3
        · rw [if_pos h5] at h0; omega
        · rw [if_neg h5] at h0; omega
      · rw [if_neg h4] at h0
        by_cases h6 : tCh f n b = 59
        · rw [if_pos h6] at h0; omega
        · rw [if_neg h6] at h0
          by_cases h7 : tCh f n b = 44
          · rw [if_pos h7] at h0; omega
          · rw [if_neg h7] at h0; omega
theorem rTk_2 {k : Int} (h0 : 0 ≤ k ∧ k ≤ 24) : rTk k = 2 ↔ k ≤ 19 := by
  constructor
  · intro h
    unfold rTk at h
    by_cases h1 : k = 24
    · rw [if_pos h1] at h; omega
    · rw [if_neg h1] at h
      by_cases h2 : k = 23
      · rw [if_pos h2] at h; omega
      · rw [if_neg h2] at h
        by_cases h3 : k = 20
        · rw [if_pos h3] at h; omega
        · rw [if_neg h3] at h
          by_cases h4 : k = 21
          · rw [if_pos h4] at h; omega
          · rw [if_neg h4] at h
            by_cases h5 : k = 22
            · rw [if_pos h5] at h; omega
            · omega
  · exact rTk_w
/-- the letters of a row, as a number -/
def wrdN (l : Nat → Int) : Nat → Int
  | 0 => 0
  | m + 1 => wrdN l m * 32 + (l m - 96)
theorem encN_wrd {f l : Nat → Int} {p : Int} : ∀ m : Nat, (∀ j, j < m → l j = f (p + (j : Int)).toNat) → encN f p m = wrdN l m
  | 0, _ => rfl
  | m + 1, h => by
    show encN f p m * 32 + (f (p + (m : Int)).toNat - 96) = wrdN l m * 32 + (l m - 96)
    rw [encN_wrd m (fun j hj => h j (by omega)), h m (by omega)]
theorem wrdN_inj {a b : Nat → Int} : ∀ (s t : Nat), (∀ j, j < s → 97 ≤ a j ∧ a j ≤ 122) → (∀ j, j < t → 97 ≤ b j ∧ b j ≤ 122) → wrdN a s = wrdN b t → s = t ∧ ∀ j, j < s → a j = b j
  | 0, 0, _, _, _ => ⟨rfl, fun j hj => absurd hj (by omega)⟩
  | 0, t + 1, _, hb, h => by
    have h1 : (0 : Int) = wrdN b t * 32 + (b t - 96) := h
    have h2 := hb t (by omega)
    omega
  | s + 1, 0, ha, _, h => by
    have h1 : wrdN a s * 32 + (a s - 96) = (0 : Int) := h
    have h2 := ha s (by omega)
    omega
  | s + 1, t + 1, ha, hb, h => by
    have h1 : wrdN a s * 32 + (a s - 96) = wrdN b t * 32 + (b t - 96) := h
    have h2 := ha s (by omega)
    have h3 := hb t (by omega)
    have h4 : wrdN a s = wrdN b t := by omega
    obtain ⟨h5, h6⟩ := wrdN_inj s t (fun j hj => ha j (by omega)) (fun j hj => hb j (by omega)) h4
    refine ⟨by omega, fun j hj => ?_⟩
    by_cases q : j = s
    · subst q; subst h5; omega
    · exact h6 j (by omega)
/-- what the reference's letters say of the token -/
theorem TkR.isw {f l : Nat → Int} {n b pl en tk sz wh : Int} (h : TkR f n b pl en tk sz wh l) {W : Nat → Int} {N ix : Nat} (hN : 1 ≤ N ∧ N ≤ 8) (hW : ∀ j, j < N → 97 ≤ W j ∧ W j ≤ 122) (hix : ix < 19) (hr : wrdN W N = rsv ix) : (tk = 2 ∧ sz = (N : Int) ∧ ∀ j, j < N → l j = W j) ↔ tKd f n b = (ix : Int) := by
  obtain ⟨⟨h1, h2, h3⟩, h4, -⟩ := h
  have hrg := tKd_rg f n b
  constructor
  · rintro ⟨q1, q2, q3⟩
    have hk : tKd f n b ≤ 19 := (rTk_2 hrg).mp (h3 ▸ q1)
    obtain ⟨⟨q4, -, -⟩, q5⟩ := h4 hk
    obtain ⟨-, -, q6, -⟩ := tKd_word hk
    rw [q6]
    apply Kd.eq
    refine Or.inr ⟨by omega, ?_⟩
    rw [Int.toNat_natCast, ← hr]
    unfold tWd enc
    rw [← h1, ← h2, show (en - pl).toNat = N by omega]
    exact (encN_wrd (l := W) N (fun j hj => by rw [← q3 j hj]; exact q5 j (by omega))).symm
  · intro q
    have hk : tKd f n b ≤ 19 := by omega
    obtain ⟨⟨q4, q4a, q4b⟩, q5⟩ := h4 hk
    obtain ⟨-, -, q6, q7⟩ := tKd_word hk
    have q8 : tWd f n b = rsv ix := by
      have z := Kd.ex (tWd f n b)
      rw [← q6, q] at z
      rcases z with ⟨z1, -⟩ | ⟨-, z2⟩
      · omega
      · rw [Int.toNat_natCast] at z2; exact z2.symm
    have q9 : wrdN l sz.toNat = wrdN W N := by
      rw [hr, ← q8]
      unfold tWd enc
      rw [← h1, ← h2, show (en - pl).toNat = sz.toNat by omega]
      exact (encN_wrd sz.toNat (fun j hj => q5 j (by omega))).symm
    have hl : ∀ j, j < sz.toNat → 97 ≤ l j ∧ l j ≤ 122 := by
      intro j hj
      have z := q7.2.1 (tPl f n b + (j : Int)) (by omega) (by rw [← h1, ← h2]; omega)
      have z2 : lk f n (tPl f n b + (j : Int)) = f (tPl f n b + (j : Int)).toNat := by
        rcases (show tPl f n b + (j : Int) < n ∨ n ≤ tPl f n b + (j : Int) by omega) with w | w
        · exact lk_lt w
        · rw [lk_ge w] at z; unfold sSm at z; omega
      rw [z2, ← h1] at z
      rw [q5 j (by omega)]
      exact z
    obtain ⟨r1, r2⟩ := wrdN_inj sz.toNat N hl hW q9
    exact ⟨by rw [h3]; exact rTk_w hk, by omega, fun j hj => r2 j (by omega)⟩
set_option maxRecDepth 100000 in
set_option maxHeartbeats 4000000 in
theorem c_J1_charAtX {l : Launch} {E : (Nat → Prop) → State → Prop} (hO : bw_Ok E) {G : va_G} {cI cB cJ cN cW : ClassId} {own9 : String} {ix9 : Nat} {tx9 : String} {sa va N : Nat} {fb : Nat → Int32} (hT : bw_Text E own9 ix9 tx9 sa va N fb) (i : Int32) (h0 : ¬ i < 0) (h1 : i < nI N) : bw_Ci (S := bw_U) l yJ1_charAt_3b067 (bw_ws (Cond.code yJ1_charAt_3b067 cJ1_charAt_3b067 2 (some .char))) rm_J1_charAt E G (bw_kt cI cB cJ cN cW) [.ref va, .int i] [] (fun r _ => narrow .char (.int r) = .int r ∧ r = ((((fb i.toNatClampNeg) &&& 255)).toUInt32 % 65536).toInt32) (fun _ => []) := by
  refine bw_Ci.of (cc := cJ1_charAt_3b067) (maxL := 2) (ty := .char) (by decide) rfl (Nat.le_of_ble_eq_true rfl) ?_
  intro p e s m below meth c A Q hx hb hml hts hown hin hK hA hS hP hD hE ret ls hl
  have F : CallFix p m c cJ1_charAt_3b067 2 s ([.ref va, .int i] : List Value).toArray bw_T RJ1 := ⟨hx, hb, hml, hown, fun w h => hts w (List.mem_cons_of_mem _ h)⟩
  have hl : lv_has ls 2 [(0, .ref va), (1, .int i)] := hl
  have hin9 : vp_in i N := bw_inlt hT.1 h0 h1
  refine lv_iload_n hx hb dJ1_charAt_3b067_0 rfl (lv_at hl 1 rfl) ?_
  refine lv_aload_n hx hb dJ1_charAt_3b067_1 rfl (lv_at hl 0 rfl) ?_
  refine va_tlen (v := nI N) hx hb (hT.2 _ _ hE).2.1.2.2.2 hS rfl dJ1_charAt_3b067_2 ?_
  refine r_callXv (As := [.int i, .int (nI N)]) (rest := []) F hK hP hD hS hA hO hE (c_J0_checkIndex hO hT i (nI N) h0 h1) k_233 ks_J0_checkIndex_df160 2 rfl (by decide +kernel) ⟨Nat.le_of_ble_eq_true rfl, Nat.le_of_ble_eq_true rfl⟩ [] rfl (by decide) hl.1 rfl (Nat.le_of_ble_eq_true rfl) dJ1_charAt_3b067_3 ⟨Nat.le_of_ble_eq_true rfl, Nat.le_of_ble_eq_true rfl⟩ (fun  u1 H locs hp hP hD hS => ?_)
  refine lv_aload_n hx hb dJ1_charAt_3b067_6 rfl (lv_at hl 0 rfl) ?_
  refine lv_iload_n hx hb dJ1_charAt_3b067_7 rfl (lv_at hl 1 rfl) ?_
  refine va_tb hx hb (hT.2 _ _ hE).2.1.2.2.2 hS hin9 rfl dJ1_charAt_3b067_8 ?_
  refine lv_sipush (v := 255) hx hb dJ1_charAt_3b067_9 (by decide) ?_
  refine r_iand (v := ((fb i.toNatClampNeg) &&& 255)) F dJ1_charAt_3b067_12 rfl ?_
  refine lv_i2c (v := ((((fb i.toNatClampNeg) &&& 255)).toUInt32 % 65536).toInt32) hx hb dJ1_charAt_3b067_13 rfl ?_
  exact ret _ (fun _ => 0, fun _ _ => 0) _ _ _ _ _ _ (pk_nc _) ⟨pk_nc _, rfl⟩ (bw_subP (isC := []) hP rfl) (hD.sub [] (by decide) rfl) hS (Nat.le_of_ble_eq_true rfl) (Nat.le_of_ble_eq_true rfl) dJ1_charAt_3b067_14
set_option maxRecDepth 100000 in
set_option maxHeartbeats 4000000 in
theorem c_J0_charAtX {l : Launch} {E : (Nat → Prop) → State → Prop} (hO : bw_Ok E) {G : va_G} {cI cB cJ cN cW : ClassId} {own9 : String} {ix9 : Nat} {tx9 : String} {sa va N : Nat} {fb : Nat → Int32} (hT : bw_Text E own9 ix9 tx9 sa va N fb) (i : Int32) (h0 : ¬ i < 0) (h1 : i < nI N) : bw_Ci (S := bw_U) l yJ0_charAt_5068e (bw_ws (Cond.code yJ0_charAt_5068e cJ0_charAt_5068e 2 (some .char))) rm_J0_charAt E G (bw_kt cI cB cJ cN cW) [.ref sa, .int i] [] (fun r _ => narrow .char (.int r) = .int r ∧ r = ((((fb i.toNatClampNeg) &&& 255)).toUInt32 % 65536).toInt32) (fun _ => []) := by
  refine bw_Ci.of (cc := cJ0_charAt_5068e) (maxL := 2) (ty := .char) (by decide) rfl (Nat.le_of_ble_eq_true rfl) ?_
  intro p e s m below meth c A Q hx hb hml hts hown hin hK hA hS hP hD hE ret ls hl
  have F : CallFix p m c cJ0_charAt_5068e 2 s ([.ref sa, .int i] : List Value).toArray bw_T RJ0 := ⟨hx, hb, hml, hown, fun w h => hts w (List.mem_cons_of_mem _ h)⟩
  have hl : lv_has ls 2 [(0, .ref sa), (1, .int i)] := hl
  refine lv_aload_n hx hb dJ0_charAt_5068e_0 rfl (lv_at hl 0 rfl) ?_
  refine r_callR (As := []) (rest := []) F hK hP hD hS hA hO hE (c_J0_isLatin1 hO hT) k_226 kv_J0_isLatin1_aae02 0 rfl (by decide +kernel) ⟨Nat.le_of_ble_eq_true rfl, Nat.le_of_ble_eq_true rfl⟩ [] rfl (by decide) (by obtain ⟨cell, h1, h2, h3, _⟩ := ((hT.2 _ _ hE).2.1.1).kept hS.2.1; exact ⟨cell, h1, h2, h3⟩) hl.1 rfl (Nat.le_of_ble_eq_true rfl) dJ0_charAt_5068e_1 ⟨Nat.le_of_ble_eq_true rfl, Nat.le_of_ble_eq_true rfl⟩ (fun r1 u2 H locs hp hP hD hS => ?_)
  subst hp
  refine lv_if_eq (tgt := 16) hx hb dJ0_charAt_5068e_4 (by decide) (fun h9 => absurd h9 (by decide)) (fun _ => ?_)
  refine lv_aload_n hx hb dJ0_charAt_5068e_7 rfl (lv_at hl 0 rfl) ?_
  refine r_sget F (hT.2 _ _ hE).2.1.2.2.1 hS k_1739 dJ0_charAt_5068e_8 ?_
  refine lv_iload_n hx hb dJ0_charAt_5068e_11 rfl (lv_at hl 1 rfl) ?_
  refine r_callXi (As := [.ref va, .int i]) (rest := []) F hK hP hD hS hA hO hE (c_J1_charAtX hO hT i h0 h1) k_230 ks_J1_charAt_3b067 2 rfl (by decide +kernel) ⟨Nat.le_of_ble_eq_true rfl, Nat.le_of_ble_eq_true rfl⟩ [] rfl (by decide) hl.1 rfl (Nat.le_of_ble_eq_true rfl) dJ0_charAt_5068e_12 ⟨Nat.le_of_ble_eq_true rfl, Nat.le_of_ble_eq_true rfl⟩ (fun r3 u4 H locs hp hP hD hS => ?_)
  exact ret _ (fun _ => 0, fun _ _ => 0) _ _ _ _ _ _ hp.1 hp (bw_subP (isC := []) hP rfl) (hD.sub [] (by decide) rfl) hS (Nat.le_of_ble_eq_true rfl) (Nat.le_of_ble_eq_true rfl) dJ0_charAt_5068e_15
theorem ch_val : ∀ k : Nat, k < 128 → ((((zI (k : Int)) &&& 255)).toUInt32 % 65536).toInt32 = zI (k : Int) := by decide +kernel
theorem ch_of {c r : Int32} {z : Int} (hc : c = zI z) (hz : 97 ≤ z ∧ z ≤ 122) (hr : r = (((c &&& 255)).toUInt32 % 65536).toInt32) : r = zI z := by
  have h := ch_val z.toNat (by omega)
  rw [show ((z.toNat : Nat) : Int) = z by omega] at h
  rw [hr, hc, h]
