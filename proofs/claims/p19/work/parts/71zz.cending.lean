theorem begI_5 {p : Nat → Int} {k x : Int} : begI p k x 5 = 0 := begF_z (by omega) (by omega)
theorem RT_begI {p : Nat → Int} {k x : Int} : RT p (begI p k x) := RT_begF
theorem WR.copied {gw g : Nat → Nat → Int} {a0 a1 a2 a3 : Nat → Int} (e0 : a0 = va_cpy (gw 0) (g 0) 0 0 4) (e1 : a1 = va_cpy (gw 1) (g 1) 0 0 20) (e2 : a2 = va_cpy (gw 2) (g 2) 0 0 20) (e3 : a3 = va_cpy (gw 3) (g 3) 0 0 100) {n : Int} {s iw : Nat → Int} (h : WR n s iw gw) : WR n s iw (fun k => [a0, a1, a2, a3].getD k (fun _ => 0)) := by
  have c : ∀ (F G : Nat → Int) (n k : Nat), k < n → va_cpy F G 0 0 n k = F k := fun F G n k hk => by simp [va_cpy, hk]
  subst e0 e1 e2 e3
  obtain ⟨a, b0, b1, b2, b3⟩ := h
  exact ⟨a, fun k hk => (c _ _ _ _ hk).trans (b0 k hk), fun k hk => (c _ _ _ _ hk).trans (b1 k hk), fun k hk => (c _ _ _ _ hk).trans (b2 k hk), fun k hk hn => (c _ _ _ _ hk).trans (b3 k hk hn)⟩
/-- the survey's endings are those of a program's runs -/
def SvE (p : Nat → Int) (k : Int) (i : Nat → Int) (g : Nat → Nat → Int) : Prop := i 1 = inZ k ∧ ∀ n : Int, 0 ≤ n → n < inZ k → g 3 n.toNat = endZ (runI p k n)
def laidF (p : Nat → Int) (x : Int) : Int := if p (20 * (x / 2) + 0).toNat = 1 then (if x % 2 = 0 then (if 0 < p (20 * (x / 2) + 14).toNat then p (20 * (x / 2) + 17).toNat else 0) else (if p (20 * (x / 2) + 14).toNat = 2 then p (20 * (x / 2) + 19).toNat else 0)) else 0
theorem NRel.laid {g : Nat → Nat → Int} {p : Nat → Int} (h : NRel g p) {x : Int} (hx : 0 ≤ x ∧ x < 20) : g 7 x.toNat = laidF p x := by
  obtain ⟨l, hl⟩ : ∃ l : Int, l = x / 2 := ⟨_, rfl⟩
  unfold laidF
  rw [← hl]
  rcases h.td (l := l) (by omega) with ⟨t1, t2⟩ | ⟨t1, t2⟩
  · rw [if_neg (by omega)]
    rcases h l.toNat (by omega) with ⟨-, ⟨-, -, -, -, r5, r6⟩, -⟩ | r
    · rcases (show x.toNat = 2 * l.toNat ∨ x.toNat = 2 * l.toNat + 1 by omega) with e | e
      · rw [e]; exact r5
      · rw [e]; exact r6
    · exact absurd t1 (by omega)
  · rw [if_pos t2]
    obtain ⟨⟨x1, x14, xa, xb⟩, xj, x6, x7⟩ := h.row (x := l) (by omega) t1
    by_cases c : x % 2 = 0
    · rw [if_pos c, show x.toNat = (2 * l).toNat by omega]
      rcases x6 with ⟨a1, a2, a3⟩ | ⟨a1, a2, a3, a4⟩
      · rw [if_neg (by omega), a3]
      · rw [if_pos (by omega), a3]
    · rw [if_neg c, show x.toNat = (2 * l + 1).toNat by omega]
      rcases x7 with ⟨a1, a2, a3, a4⟩ | ⟨a1, a2, a3, a4, a5⟩
      · rw [if_neg (by omega), a4]
      · rw [if_pos (by omega), a4]
theorem laidF_told {p : Nat → Int} {x : Int} (h : 0 < laidF p x) : p (20 * (x / 2) + 0).toNat = 1 := by
  unfold laidF at h
  by_cases c : p (20 * (x / 2) + 0).toNat = 1
  · exact c
  · rw [if_neg c] at h
    omega
theorem laidF_low {p : Nat → Int} {n x : Int} (hl : LN p n) (hx : 0 ≤ x ∧ x < 20) (h : 0 < laidF p x) : x < 2 * n := by
  have t := laidF_told h
  by_cases c : x < 2 * n
  · exact c
  · have q := hl (x / 2).toNat (by omega) (by omega)
    rw [show 20 * (x / 2).toNat = (20 * (x / 2) + 0).toNat by omega, t] at q
    omega
theorem laidF_rg {p : Nat → Int} (hp : ProgOk p) {x : Int} (hx : 0 ≤ x ∧ x < 20) : 0 ≤ laidF p x ∧ laidF p x ≤ 9 := by
  have a := hp.1.pos (20 * (x / 2) + 17).toNat (by omega)
  have b := hp.1.le9 (20 * (x / 2) + 17).toNat (by omega)
  have c := hp.1.pos (20 * (x / 2) + 19).toNat (by omega)
  have d := hp.1.le9 (20 * (x / 2) + 19).toNat (by omega)
  unfold laidF
  repeat' split
  all_goals omega
/-! ways that a run takes: the counts (139 ..) and the bits (38) -/
theorem pathF_hi {t : Nat → Int} {j : Nat} (h : 0 ≤ t 5) (hj : 139 ≤ j) : pathF t j = t j := by
  unfold pathF
  by_cases c : t 5 < 100
  · rw [if_pos c]
    exact uZ_nk _ _ (by omega)
  · rw [if_neg c]
theorem actF_hi {p s : Nat → Int} (hp : ProgOk p) {x w : Int} (hx : 0 ≤ x ∧ x < 10) (hw : 0 ≤ w ∧ w < 4) {j : Nat} (hj : 38 ≤ j) : actF p s x w j = s j := by
  have t1 := hp.1.pos (20 * x + 2 + 3 * w + 1).toNat (by omega)
  have t2 := hp.1.le9 (20 * x + 2 + 3 * w + 1).toNat (by omega)
  unfold actF
  generalize p (20 * x + 2 + 3 * w + 1).toNat = T at t1 t2 ⊢
  split
  · exact uZ_nk _ _ (by omega)
  · split
    · exact uZ_nk _ _ (by omega)
    · split
      · exact uZ_nk _ _ (by omega)
      · split
        · rfl
        · rw [uZ_nk _ _ (by omega), uZ_nk _ _ (by omega), uZ_nk _ _ (by omega)]
theorem actsF_hi {p s : Nat → Int} (hp : ProgOk p) {x : Int} (hx : 0 ≤ x ∧ x < 10) {j : Nat} (hj : 38 ≤ j) : ∀ n : Nat, n ≤ 4 → actsF p s x n j = s j
  | 0, _ => rfl
  | n + 1, hn => (actF_hi (s := actsF p s x n) hp hx (w := (n : Int)) (by omega) hj).trans (actsF_hi hp hx hj n (by omega))
def EvS (s s' : Nat → Int) : Prop := (s' 38 = s 38 ∧ ∀ j, 139 ≤ j → s' j = s j) ∨ ∃ w : Nat, w < 20 ∧ s' 38 = orW (s 38) (w : Int) ∧ s' (139 + w) = s (139 + w) + 1 ∧ ∀ j, 139 ≤ j → j ≠ 139 + w → s' j = s j
theorem takeF_ev {p s : Nat → Int} {way k : Int} (hw : 0 ≤ way ∧ way < 20) : EvS s (takeF p s way k) := by
  unfold takeF
  by_cases c : s (8 + way).toNat = p (k + 1).toNat
  · rw [if_pos c]
    exact Or.inl ⟨uZ_nk _ _ (by omega), fun j hj => uZ_nk _ _ (by omega)⟩
  · rw [if_neg c]
    refine Or.inr ⟨way.toNat, by omega, ?_, ?_, fun j hj hn => ?_⟩
    · rw [uZ_nk _ _ (show ¬ 38 = 6 by omega), uZ_nk _ _ (show ¬ 38 = 4 by omega)]
      unfold orU
      rw [uZ_eq]
      unfold incU
      rw [uZ_nk _ _ (show ¬ 38 = 7 by omega), uZ_nk _ _ (show ¬ 38 = (139 + way).toNat by omega), uZ_nk _ _ (show ¬ 38 = (8 + way).toNat by omega), show ((way.toNat : Nat) : Int) = way by omega]
    · rw [show 139 + way.toNat = (139 + way).toNat by omega, uZ_nk _ _ (show ¬ (139 + way).toNat = 6 by omega), uZ_nk _ _ (show ¬ (139 + way).toNat = 4 by omega)]
      unfold orU
      rw [uZ_nk _ _ (show ¬ (139 + way).toNat = 38 by omega)]
      unfold incU
      rw [uZ_nk _ _ (show ¬ (139 + way).toNat = 7 by omega), uZ_eq, uZ_nk _ _ (show ¬ (139 + way).toNat = (8 + way).toNat by omega)]
    · rw [uZ_nk _ _ (show ¬ j = 6 by omega), uZ_nk _ _ (show ¬ j = 4 by omega)]
      unfold orU
      rw [uZ_nk _ _ (show ¬ j = 38 by omega)]
      unfold incU
      rw [uZ_nk _ _ (show ¬ j = 7 by omega), uZ_nk _ _ (show ¬ j = (139 + way).toNat by omega), uZ_nk _ _ (show ¬ j = (8 + way).toNat by omega)]
theorem goF_ev {p s : Nat → Int} {i : Int} (hi : 0 ≤ i ∧ i < 10) : EvS s (goF p s i) := by
  unfold goF
  split
  · exact Or.inl ⟨uZ_nk _ _ (by omega), fun j hj => uZ_nk _ _ (by omega)⟩
  · split
    · exact takeF_ev (by omega)
    · exact takeF_ev (by omega)
theorem stepF_ev {p s : Nat → Int} (hp : ProgOk p) (hs : StOk p s) : EvS s (stepF p s) := by
  have h4 := hs.1.2.1
  have h5 := hs.2.1
  have hc : 0 ≤ p (20 * s 4 + 1).toNat ∧ p (20 * s 4 + 1).toNat ≤ 4 := ProgR.at hp.1 (e := 20 * s 4 + 1) (s 4) 1 (by omega) (by omega) (by decide) rfl
  unfold stepF
  have hAj : ∀ j, 38 ≤ j → actsF p s (s 4) (p (20 * s 4 + 1).toNat).toNat j = s j := fun j hj => actsF_hi hp (by omega) hj _ (by omega)
  have hA5 : actsF p s (s 4) (p (20 * s 4 + 1).toNat).toNat 5 = s 5 := (SI_actsF hp hs.1 (by omega) _ (by omega)).2.2.2.1
  generalize actsF p s (s 4) (p (20 * s 4 + 1).toNat).toNat = A at hAj hA5 ⊢
  have hg := goF_ev (p := p) (s := uZ A 5 (A 5 + 1)) (i := s 4) (by omega)
  have ht : goF p (uZ A 5 (A 5 + 1)) (s 4) 5 = s 5 + 1 := by rw [goF_5 (by omega), uZ_eq, hA5]
  generalize goF p (uZ A 5 (A 5 + 1)) (s 4) = t at hg ht ⊢
  have hp5 : 0 ≤ t 5 := by omega
  have hB : ∀ j, 38 ≤ j → uZ A 5 (A 5 + 1) j = s j := fun j hj => (uZ_nk _ _ (by omega)).trans (hAj j hj)
  have hlo : pathF t 38 = t 38 := pathF_lo hp5 (by decide)
  rcases hg with ⟨g1, g2⟩ | ⟨w, w1, w2, w3, w4⟩
  · exact Or.inl ⟨by rw [hlo, g1, hB 38 (by decide)], fun j hj => by rw [pathF_hi hp5 hj, g2 j hj, hB j (by omega)]⟩
  · refine Or.inr ⟨w, w1, ?_, ?_, fun j hj hn => ?_⟩
    · rw [hlo, w2, hB 38 (by decide)]
    · rw [pathF_hi hp5 (by omega), w3, hB _ (by omega)]
    · rw [pathF_hi hp5 hj, w4 j hj hn, hB j (by omega)]
def EvB (s : Nat → Int) : Prop := ∀ w : Nat, w < 20 → 0 ≤ s (139 + w) ∧ s (139 + w) ≤ s 5
theorem EvB.step {p s : Nat → Int} (hp : ProgOk p) (hs : StOk p s) (h6 : s 6 = 0) (h : EvB s) : EvB (stepF p s) := by
  have h5 := (StOk_stepF hp hs h6).2.1
  intro w hw
  have q := h w hw
  rcases stepF_ev hp hs with ⟨-, g⟩ | ⟨w0, a1, -, a3, a4⟩
  · rw [g _ (by omega)]
    omega
  · by_cases c : w = w0
    · rw [c] at q
      rw [c, a3]
      omega
    · rw [a4 _ (by omega) (by omega)]
      omega
theorem EvB.steps {p : Nat → Int} (hp : ProgOk p) : ∀ (n : Nat) (s : Nat → Int), StOk p s → EvB s → EvB (stepsF p n s)
  | 0, _, _, h => h
  | n + 1, s, hs, h => by
    by_cases c : s 6 = 0
    · rw [stepsF_go c]
      exact EvB.steps hp n _ (StOk_stepF hp hs c).1 (h.step hp hs c)
    · rw [stepsF_end c]
      exact h
theorem EvB_begI {p : Nat → Int} {k x : Int} : EvB (begI p k x) := fun w hw => by
  unfold begI
  rw [begF_z (j := 139 + w) (by omega) (by omega), begF_z (j := 5) (by omega) (by omega)]
  omega
theorem EvB_runI {p : Nat → Int} (hp : ProgOk p) {k x : Int} (hk : 0 ≤ k ∧ k ≤ 3) (hx : 0 ≤ x ∧ x < inZ k) : EvB (runI p k x) := EvB.steps hp 941 _ (StOk_begI hp hk hx) EvB_begI
/-! a number below 2^20 as a set -/
def BtI (v : Int) (c : Nat → Prop) : Prop := ∃ n : Nat, v = (n : Int) ∧ n < 1048576 ∧ ∀ w, w < 20 → (n.testBit w = true ↔ c w)
theorem BtI.rg {v : Int} {c : Nat → Prop} (h : BtI v c) : 0 ≤ v ∧ v < 1048576 := by
  obtain ⟨n, rfl, hn, -⟩ := h
  omega
theorem BtI.iff {v : Int} {c d : Nat → Prop} (h : BtI v c) (e : ∀ w, w < 20 → (c w ↔ d w)) : BtI v d := by
  obtain ⟨n, rfl, hn, hc⟩ := h
  exact ⟨n, rfl, hn, fun w hw => (hc w hw).trans (e w hw)⟩
theorem BtI.uniq {v v' : Int} {c : Nat → Prop} (h : BtI v c) (h' : BtI v' c) : v = v' := by
  obtain ⟨n, rfl, hn, hc⟩ := h
  obtain ⟨m, rfl, hm, hd⟩ := h'
  have q : n = m := Nat.eq_of_testBit_eq (fun i => by
    by_cases q : i < 20
    · have a := (hc i q).trans (hd i q).symm
      cases x : n.testBit i <;> cases y : m.testBit i
      · rfl
      · exact absurd (a.mpr y) (by rw [x]; decide)
      · exact absurd (a.mp x) (by rw [y]; decide)
      · rfl
    · have big : (1048576 : Nat) ≤ 2 ^ i := Nat.le_trans (show 1048576 ≤ 2 ^ 20 by decide) (Nat.pow_le_pow_right (by decide) (by omega))
      rw [Nat.testBit_lt_two_pow (Nat.lt_of_lt_of_le hn big), Nat.testBit_lt_two_pow (Nat.lt_of_lt_of_le hm big)])
  rw [q]
theorem BtI.zero : BtI 0 (fun _ => False) := ⟨0, rfl, by decide, fun w _ => by
  rw [Nat.zero_testBit]
  exact ⟨fun q => absurd q (by decide), fun q => q.elim⟩⟩
theorem bt_bv {a : Nat} (ha : a < 2147483648) : (zI (a : Int)).toBitVec.toNat = a := by
  show (BitVec.ofInt 32 (a : Int)).toNat = a
  rw [BitVec.toNat_ofInt]
  omega
theorem bt_pow {w : Nat} (hw : w < 20) : 2 ^ w < 1048576 := Nat.pow_lt_pow_right (by decide) hw
theorem BtI.or1 {v w : Int} {c : Nat → Prop} (h : BtI v c) (hw : 0 ≤ w ∧ w < 20) : ∃ z, (zI v ||| (zI 1 <<< (zI w &&& 31))) = zI z ∧ BtI z (fun j => c j ∨ j = w.toNat) := by
  obtain ⟨n, rfl, hn, hc⟩ := h
  obtain ⟨m, rfl⟩ : ∃ m : Nat, w = m := ⟨w.toNat, by omega⟩
  have hm : m < 20 := by omega
  have hp := bt_pow hm
  have ho : n ||| 2 ^ m < 1048576 := Nat.or_lt_two_pow (n := 20) hn hp
  rw [zI_shl1 m (by omega)]
  refine ⟨((n ||| 2 ^ m : Nat) : Int), ?_, n ||| 2 ^ m, rfl, ho, fun j hj => ?_⟩
  · apply Int32.toBitVec.inj
    apply BitVec.eq_of_toNat_eq
    show ((zI (n : Int)).toBitVec ||| (zI ((2 ^ m : Nat) : Int)).toBitVec).toNat = _
    rw [BitVec.toNat_or, bt_bv (Nat.lt_trans hn (by decide)), bt_bv (Nat.lt_trans hp (by decide)), bt_bv (Nat.lt_trans ho (by decide))]
  · show ((n ||| 2 ^ m).testBit j = true) ↔ (c j ∨ j = ((m : Nat) : Int).toNat)
    rw [Nat.testBit_or, Nat.testBit_two_pow, Bool.or_eq_true, decide_eq_true_iff, hc j hj]
    exact or_congr Iff.rfl ⟨fun q => by omega, fun q => by omega⟩
theorem BtI.orw {v w : Int} {c : Nat → Prop} (h : BtI v c) (hw : 0 ≤ w ∧ w < 20) : BtI (orW v w) (fun j => c j ∨ j = w.toNat) := by
  obtain ⟨z, h1, h2⟩ := h.or1 hw
  unfold orW
  rw [h1, zI_toInt (by have q := h2.rg; omega)]
  exact h2
theorem BtI.and {v u : Int} {c d : Nat → Prop} (h : BtI v c) (h' : BtI u d) : ∃ z, (zI v &&& zI u) = zI z ∧ BtI z (fun j => c j ∧ d j) := by
  obtain ⟨n, rfl, hn, hc⟩ := h
  obtain ⟨m, rfl, hm, hd⟩ := h'
  have ho : n &&& m < 1048576 := Nat.lt_of_le_of_lt Nat.and_le_left hn
  refine ⟨((n &&& m : Nat) : Int), ?_, n &&& m, rfl, ho, fun j hj => ?_⟩
  · apply Int32.toBitVec.inj
    apply BitVec.eq_of_toNat_eq
    show ((zI (n : Int)).toBitVec &&& (zI (m : Int)).toBitVec).toNat = _
    rw [BitVec.toNat_and, bt_bv (Nat.lt_trans hn (by decide)), bt_bv (Nat.lt_trans hm (by decide)), bt_bv (Nat.lt_trans ho (by decide))]
  · rw [Nat.testBit_and, Bool.and_eq_true, hc j hj, hd j hj]
theorem bt_not {a b : Nat} (ha : a < 1048576) (hb : b < 1048576) : ∃ n : Nat, (zI (a : Int) &&& (zI (b : Int) ^^^ zI (-1))) = zI (n : Int) ∧ n < 1048576 ∧ ∀ i, i < 20 → (n.testBit i = true ↔ a.testBit i = true ∧ ¬ b.testBit i = true) := by
  obtain ⟨Y, hY⟩ : ∃ Y : BitVec 32, Y = (zI (b : Int)).toBitVec ^^^ (zI (-1)).toBitVec := ⟨_, rfl⟩
  have h1 := bt_bv (Nat.lt_trans ha (show 1048576 < 2147483648 by decide))
  have h2 := bt_bv (Nat.lt_trans hb (show 1048576 < 2147483648 by decide))
  have hn : a &&& Y.toNat < 1048576 := Nat.lt_of_le_of_lt Nat.and_le_left ha
  refine ⟨a &&& Y.toNat, ?_, hn, fun i hi => ?_⟩
  · apply Int32.toBitVec.inj
    apply BitVec.eq_of_toNat_eq
    show ((zI (a : Int)).toBitVec &&& ((zI (b : Int)).toBitVec ^^^ (zI (-1)).toBitVec)).toNat = _
    rw [← hY, BitVec.toNat_and, h1, bt_bv (Nat.lt_trans hn (by decide))]
  · have e : Y.toNat.testBit i = !b.testBit i := by
      rw [BitVec.testBit_toNat, hY, BitVec.getLsbD_xor, show (zI (-1)).toBitVec = BitVec.allOnes 32 by decide, BitVec.getLsbD_allOnes, ← BitVec.testBit_toNat, h2, decide_eq_true (show i < 32 by omega), Bool.xor_true]
    rw [Nat.testBit_and, e, Bool.and_eq_true, Bool.not_eq_true']
    cases b.testBit i
    · exact and_congr Iff.rfl ⟨fun _ => by decide, fun _ => rfl⟩
    · exact and_congr Iff.rfl ⟨fun q => absurd q (by decide), fun q => absurd rfl q⟩
theorem BtI.andn {v u : Int} {c d : Nat → Prop} (h : BtI v c) (h' : BtI u d) : ∃ z, (zI v &&& (zI u ^^^ zI (-1))) = zI z ∧ BtI z (fun j => c j ∧ ¬ d j) := by
  obtain ⟨n, rfl, hn, hc⟩ := h
  obtain ⟨m, rfl, hm, hd⟩ := h'
  obtain ⟨r, e, hr, ht⟩ := bt_not hn hm
  exact ⟨(r : Int), e, r, rfl, hr, fun j hj => by rw [ht j hj, hc j hj, hd j hj]⟩
theorem BtI.clr {v w : Int} {c : Nat → Prop} (h : BtI v c) (hw : 0 ≤ w ∧ w < 20) : ∃ z, (zI v &&& ((zI 1 <<< (zI w &&& 31)) ^^^ zI (-1))) = zI z ∧ BtI z (fun j => c j ∧ ¬ j = w.toNat) := by
  obtain ⟨m, rfl⟩ : ∃ m : Nat, w = m := ⟨w.toNat, by omega⟩
  rw [zI_shl1 m (by omega)]
  have hm : m < 20 := by omega
  exact h.andn ⟨2 ^ m, rfl, bt_pow hm, fun j _ => by
    rw [Nat.testBit_two_pow, decide_eq_true_iff]
    exact ⟨fun q => by omega, fun q => by omega⟩⟩
def EvO (s : Nat → Int) : Prop := BtI (s 38) (fun w => 0 < s (139 + w))
theorem EvO.step {p s : Nat → Int} (hp : ProgOk p) (hs : StOk p s) (hb : EvB s) (h : EvO s) : EvO (stepF p s) := by
  unfold EvO
  rcases stepF_ev hp hs with ⟨g0, g⟩ | ⟨w0, a1, a2, a3, a4⟩
  · rw [g0]
    exact BtI.iff h (fun w hw => by rw [g _ (by omega)])
  · rw [a2]
    refine (BtI.orw h (w := (w0 : Int)) (by omega)).iff (fun w hw => ?_)
    have q := hb w hw
    by_cases c : w = w0
    · rw [c, a3]
      rw [c] at q
      exact ⟨fun _ => by omega, fun _ => Or.inr (by omega)⟩
    · rw [a4 _ (by omega) (by omega)]
      exact ⟨fun z => z.elim id (fun z2 => absurd z2 (by omega)), Or.inl⟩
theorem EvO.steps {p : Nat → Int} (hp : ProgOk p) : ∀ (n : Nat) (s : Nat → Int), StOk p s → EvB s → EvO s → EvO (stepsF p n s)
  | 0, _, _, _, h => h
  | n + 1, s, hs, hb, h => by
    by_cases c : s 6 = 0
    · rw [stepsF_go c]
      exact EvO.steps hp n _ (StOk_stepF hp hs c).1 (hb.step hp hs c) (h.step hp hs hb)
    · rw [stepsF_end c]
      exact h
theorem EvO_runI {p : Nat → Int} (hp : ProgOk p) {k x : Int} (hk : 0 ≤ k ∧ k ≤ 3) (hx : 0 ≤ x ∧ x < inZ k) : EvO (runI p k x) := EvO.steps hp 941 _ (StOk_begI hp hk hx) EvB_begI (by
  unfold EvO begI
  rw [begF_z (j := 38) (by omega) (by omega)]
  exact BtI.zero.iff (fun w hw => ⟨fun q => q.elim, fun q => by rw [begF_z (j := 139 + w) (by omega) (by omega)] at q; exact absurd q (by omega)⟩))
/-! the ways of the first m inputs' runs -/
def maxZ (a b : Int) : Int := if a < b then b else a
theorem maxZ_eq {a b z : Int} (h : (z = a ∨ z = b) ∧ a ≤ z ∧ b ≤ z) : z = maxZ a b := by
  unfold maxZ
  split <;> omega
def mstN (p : Nat → Int) (k : Int) (w : Nat) : Nat → Int
  | 0 => 0
  | m + 1 => maxZ (mstN p k w m) (runI p k (m : Int) (139 + w))
theorem mstN_step {p : Nat → Int} {k v c c' : Int} {w : Nat} (hv : 0 ≤ v) (h : c = mstN p k w v.toNat) (hd : c' = maxZ c (runI p k v (139 + w))) : c' = mstN p k w (v + 1).toNat := by
  rw [show (v + 1).toNat = v.toNat + 1 by omega]
  show c' = maxZ (mstN p k w v.toNat) (runI p k ((v.toNat : Nat) : Int) (139 + w))
  rw [show ((v.toNat : Nat) : Int) = v by omega, hd, h]
theorem mstN_rg {p : Nat → Int} (hp : ProgOk p) {k : Int} (hk : 0 ≤ k ∧ k ≤ 3) {w : Nat} (hw : w < 20) : ∀ m : Nat, (m : Int) ≤ inZ k → 0 ≤ mstN p k w m ∧ mstN p k w m ≤ 1001
  | 0, _ => ⟨Int.le_refl 0, by show (0 : Int) ≤ 1001; omega⟩
  | m + 1, hm => by
    have ih := mstN_rg hp hk hw m (by omega)
    have q := EvB_runI hp hk (x := (m : Int)) (by omega) w hw
    have q2 := (StOk_runI hp hk (x := (m : Int)) (by omega)).2.1
    show 0 ≤ maxZ (mstN p k w m) (runI p k (m : Int) (139 + w)) ∧ maxZ (mstN p k w m) (runI p k (m : Int) (139 + w)) ≤ 1001
    unfold maxZ
    split <;> omega
def tkA (p : Nat → Int) (k v : Int) (w : Nat) : Prop := ∀ n : Int, 0 ≤ n → n < v → 0 < runI p k n (139 + w)
def tkN (p : Nat → Int) (k v : Int) (w : Nat) : Prop := ∀ n : Int, 0 ≤ n → n < v → ¬ 0 < runI p k n (139 + w)
theorem tk_step {Q : Int → Prop} {v : Int} (hv : 0 ≤ v) : ((∀ n : Int, 0 ≤ n → n < v → Q n) ∧ Q v) ↔ ∀ n : Int, 0 ≤ n → n < v + 1 → Q n := ⟨fun h => upto_step h.1 h.2, fun h => ⟨fun n n0 hn => h n n0 (by omega), h v hv (by omega)⟩⟩
theorem tkA_step {p : Nat → Int} {k v : Int} {w : Nat} (hv : 0 ≤ v) : (tkA p k v w ∧ 0 < runI p k v (139 + w)) ↔ tkA p k (v + 1) w := tk_step (Q := fun n => 0 < runI p k n (139 + w)) hv
theorem tkN_step {p : Nat → Int} {k v : Int} {w : Nat} (hv : 0 ≤ v) : (tkN p k v w ∧ ¬ 0 < runI p k v (139 + w)) ↔ tkN p k (v + 1) w := tk_step (Q := fun n => ¬ 0 < runI p k n (139 + w)) hv
def upF (g : Nat → Int) (v : Int) (c : Nat → Prop) (P : Int → Prop) (w : Nat) : Prop := c w ∧ ((w : Int) < v → P (g w))
theorem upF_clr {g : Nat → Int} {z v : Int} {c : Nat → Prop} {P : Int → Prop} (hv : 0 ≤ v) (h0 : ¬ P (g v.toNat)) (h : BtI z (fun w => upF g v c P w ∧ ¬ w = v.toNat)) : BtI z (upF g (v + 1) c P) := h.iff (fun w hw => ⟨fun q => ⟨q.1.1, fun z => q.1.2 (by have := q.2; omega)⟩, fun q => ⟨⟨q.1, fun z => q.2 (by omega)⟩, fun z => h0 (z ▸ q.2 (by omega))⟩⟩)
theorem upF_keep {g : Nat → Int} {z v : Int} {c : Nat → Prop} {P : Int → Prop} (h0 : P (g v.toNat)) (h : BtI z (upF g v c P)) : BtI z (upF g (v + 1) c P) := h.iff (fun w hw => ⟨fun q => ⟨q.1, fun z => by
  by_cases e : (w : Int) < v
  · exact q.2 e
  · rw [show w = v.toNat by omega]; exact h0⟩, fun q => ⟨q.1, fun z => q.2 (by omega)⟩⟩)
theorem upF_0 {g : Nat → Int} {z : Int} {c : Nat → Prop} {P : Int → Prop} (h : BtI z c) : BtI z (upF g 0 c P) := h.iff (fun w hw => ⟨fun q => ⟨q, fun z => absurd z (by omega)⟩, fun q => q.1⟩)
theorem upF_all {g : Nat → Int} {z v : Int} {c : Nat → Prop} {P : Int → Prop} (hv : v = 20) (h : BtI z (upF g v c P)) : BtI z (fun w => c w ∧ P (g w)) := h.iff (fun w hw => ⟨fun q => ⟨q.1, q.2 (by omega)⟩, fun q => ⟨q.1, fun _ => q.2⟩⟩)
def pozP (x : Int) : Prop := 0 < x
def nozP (x : Int) : Prop := ¬ 0 < x
theorem mx_keep {f g h : Nat → Int} {v : Int} (hv : 0 ≤ v ∧ v < 20) (hg : ∀ w, w < 20 → 0 ≤ f w) (h0 : g v.toNat = 0) (hx : ∀ w : Nat, w < 20 → h w = if (w : Int) < v then maxZ (f w) (g w) else f w) : ∀ w : Nat, w < 20 → h w = if (w : Int) < v + 1 then maxZ (f w) (g w) else f w := fun w hw => by
  rw [hx w hw]
  by_cases c : (w : Int) < v
  · rw [if_pos c, if_pos (by omega)]
  · rw [if_neg c]
    by_cases d : (w : Int) < v + 1
    · rw [if_pos d]
      have q := hg w hw
      have e : g w = 0 := by rw [show w = v.toNat by omega]; exact h0
      rw [e]
      unfold maxZ
      rw [if_neg (by omega)]
    · rw [if_neg d]
theorem mx_put {f g h h' : Nat → Int} {v z : Int} (hv : 0 ≤ v ∧ v < 20) (hx : ∀ w : Nat, w < 20 → h w = if (w : Int) < v then maxZ (f w) (g w) else f w) (hz : z = maxZ (h v.toNat) (g v.toNat)) (e : h' = uZ h v.toNat z) : ∀ w : Nat, w < 20 → h' w = if (w : Int) < v + 1 then maxZ (f w) (g w) else f w := fun w hw => by
  have q := hx v.toNat (by omega)
  rw [if_neg (by omega)] at q
  rw [e]
  by_cases c : w = v.toNat
  · rw [c, uZ_eq, if_pos (by omega), hz, q]
  · rw [uZ_nk _ _ c, hx w hw]
    by_cases d : (w : Int) < v
    · rw [if_pos d, if_pos (by omega)]
    · rw [if_neg d, if_neg (by omega)]
def mstS (p : Nat → Int) (k m : Int) (f : Nat → Int) : Prop := ∀ w : Nat, w < 20 → f w = mstN p k w m.toNat
def wyA (p : Nat → Int) (k v : Int) (w : Nat) : Prop := 0 < laidF p (w : Int) ∧ tkA p k v w
def wyN (p : Nat → Int) (k v : Int) (w : Nat) : Prop := 0 < laidF p (w : Int) ∧ tkN p k v w
def SvX (p : Nat → Int) (k : Int) (i : Nat → Int) (g : Nat → Nat → Int) : Prop := BtI (i 2) (wyA p k (inZ k)) ∧ BtI (i 3) (wyN p k (inZ k)) ∧ mstS p k (inZ k) (g 2)
theorem SvX.kept {p : Nat → Int} {k : Int} {i i' : Nat → Int} {g g' : Nat → Nat → Int} (h : SvX p k i g) (ei : ∀ j, j < 10 → i' j = i j) (eg : ∀ j, j < 10 → g' j = g j) : SvX p k i' g' := by
  unfold SvX
  rw [ei 2 (by decide), ei 3 (by decide), eg 2 (by decide)]
  exact h
theorem wy_step {p : Nat → Int} {k v : Int} {a b : Int} {gw : Nat → Int} (hv : 0 ≤ v) (hg : ∀ w, w < 20 → gw w = runI p k v (139 + w)) (ha : BtI a (fun w => wyA p k v w ∧ pozP (gw w))) (hb : BtI b (fun w => wyN p k v w ∧ nozP (gw w))) : BtI a (wyA p k (v + 1)) ∧ BtI b (wyN p k (v + 1)) := by
  refine ⟨ha.iff (fun w hw => ?_), hb.iff (fun w hw => ?_)⟩
  · rw [hg w hw]
    exact and_assoc.trans (and_congr Iff.rfl (tkA_step hv))
  · rw [hg w hw]
    exact and_assoc.trans (and_congr Iff.rfl (tkN_step hv))
theorem ms_step {p : Nat → Int} {k v : Int} {f f' gw : Nat → Int} (hv : 0 ≤ v) (hg : ∀ w, w < 20 → gw w = runI p k v (139 + w)) (h : mstS p k v f) (hf : ∀ w : Nat, w < 20 → f' w = maxZ (f w) (gw w)) : mstS p k (v + 1) f' := fun w hw => mstN_step hv (h w hw) (by rw [hf w hw, hg w hw])
theorem ms_rg {p : Nat → Int} {k v : Int} {f : Nat → Int} (hp : ProgOk p) (hk : 0 ≤ k ∧ k ≤ 3) (hv : 0 ≤ v ∧ v ≤ inZ k) (h : mstS p k v f) : ∀ w, w < 20 → 0 ≤ f w ∧ f w ≤ 1001 := fun w hw => by
  rw [h w hw]
  exact mstN_rg hp hk hw _ (by omega)
theorem wy_0 {p : Nat → Int} {k a b : Int} {f : Nat → Int} {c : Nat → Prop} (h : BtI a c) (hb : b = a) (hc : ∀ w, w < 20 → (c w ↔ 0 < laidF p (w : Int))) (hf : ∀ w, w < 20 → f w = 0) : BtI a (wyA p k 0) ∧ BtI b (wyN p k 0) ∧ mstS p k 0 f := by
  subst hb
  exact ⟨h.iff (fun w hw => (hc w hw).trans ⟨fun q => ⟨q, fun n h0 hn => absurd hn (by omega)⟩, fun q => q.1⟩), h.iff (fun w hw => (hc w hw).trans ⟨fun q => ⟨q, fun n h0 hn => absurd hn (by omega)⟩, fun q => q.1⟩), fun w hw => hf w hw⟩
theorem wb_yes {f : Nat → Int} {z v : Int} (hv : 0 ≤ v) (h0 : 0 < f v.toNat) (h : BtI z (fun j => (0 < f j ∧ (j : Int) < v) ∨ j = v.toNat)) : BtI z (fun j => 0 < f j ∧ (j : Int) < v + 1) := h.iff (fun w hw => ⟨fun q => q.elim (fun q => ⟨q.1, by have := q.2; omega⟩) (fun q => ⟨by rw [q]; exact h0, by omega⟩), fun q => if e : (w : Int) < v then Or.inl ⟨q.1, e⟩ else Or.inr (by have := q.2; omega)⟩)
theorem wb_no {f : Nat → Int} {z v : Int} (h0 : ¬ 0 < f v.toNat) (h : BtI z (fun j => 0 < f j ∧ (j : Int) < v)) : BtI z (fun j => 0 < f j ∧ (j : Int) < v + 1) := h.iff (fun w hw => ⟨fun q => ⟨q.1, by have := q.2; omega⟩, fun q => ⟨q.1, if e : (w : Int) < v then e else absurd (show 0 < f v.toNat by rw [show v.toNat = w by have := q.2; omega]; exact q.1) h0⟩⟩)
theorem wb_0 {f : Nat → Int} : BtI 0 (fun j => 0 < f j ∧ (j : Int) < 0) := BtI.zero.iff (fun w hw => ⟨fun q => q.elim, fun q => absurd q.2 (by omega)⟩)
theorem uC_lo {α : Type} {f g : Nat → α} {j : Nat} (h : j < 10) : uC f g j = f j := by
  show (bif Nat.ble 10 j then g (j - 10) else f j) = f j
  rw [show Nat.ble 10 j = false from by rw [← Bool.not_eq_true, Nat.ble_eq]; omega]
  rfl
def SV (p : Nat → Int) (i : Nat → Int) (g : Nat → Nat → Int) : Prop := i 0 = -1 ∨ ((0 ≤ i 0 ∧ i 0 ≤ 3) ∧ (SvE p (i 0) i g ∧ SvX p (i 0) i g))
theorem sv_step {g g' : Nat → Int} {F : Int → Int} {v : Int} (h0 : 0 ≤ v) (h : ∀ n : Int, 0 ≤ n → n < v → g n.toNat = F n) (e : g' = uZ g v.toNat (F v)) : ∀ n : Int, 0 ≤ n → n < v + 1 → g' n.toNat = F n := fun n n0 hn => by
  rw [e]
  by_cases c : n = v
  · rw [c, uZ_eq]
  · rw [uZ_nk _ _ (by omega)]
    exact h n n0 (by omega)
theorem SvE.eq {p q : Nat → Int} {k : Int} {i : Nat → Int} {g : Nat → Nat → Int} (h : SvE p k i g) (he : ∀ n : Int, 0 ≤ n → n < inZ k → eqI p q k n) : SvE q k i g := ⟨h.1, fun n n0 hn => (h.2 n n0 hn).trans (he n n0 hn)⟩
theorem SvE.rg {p : Nat → Int} {k : Int} {i : Nat → Int} {g : Nat → Nat → Int} (h : SvE p k i g) (hp : ProgOk p) (hk : 0 ≤ k ∧ k ≤ 3) {n : Int} (hn : 0 ≤ n ∧ n < inZ k) : 0 ≤ g 3 n.toNat ∧ g 3 n.toNat ≤ 399999999 := by
  rw [h.2 n hn.1 hn.2]
  exact endZ_rg (StOk_runI hp hk hn).1
theorem WR.ran {p : Nat → Int} {k x : Int} {i : Nat → Int} {g : Nat → Nat → Int} {m : Nat} (hp : ProgOk p) (hk : 0 ≤ k ∧ k ≤ 3) (hx : 0 ≤ x ∧ x < inZ k) (hm : 941 ≤ m) (h : WR ((stepsF p m (begI p k x)) 5) (stepsF p m (begI p k x)) i g) : WR (runI p k x 5) (runI p k x) i g := by
  rw [runF_eq hp (StOk_begI hp hk hx) hm] at h
  exact h
abbrev rm_X6z_ending : Room := { frames := 0, cells := 0, slots := 0, locals := 0 }
set_option maxRecDepth 100000 in
set_option maxHeartbeats 8000000 in
theorem c_X6z_ending {l : Launch} {E : (Nat → Prop) → State → Prop} (hO : bw_Ok E) {G : va_G} {cI cB cJ cN cW : ClassId} (b : Nat) (q : Nat → Nat) (i : Nat → Int) (g : Nat → Nat → Int) (hW : WalkOk i g) (nR : Int) (sR : Nat → Int) (hWR : WR nR sR i g) : bw_Ci (S := zU) l yX6_ending (bw_ws (Cond.code yX6_ending cX6_ending 3 (some .int))) rm_X6z_ending E G (bw_kt cI cB cJ cN cW) [.ref b] [(b, .inr (6, [.int (zI (i 0)), .int (zI (i 1)), .int (zI (i 2)), .int (zI (i 3)), .int (zI (i 4)), .ref (q 0), .ref (q 1), .ref (q 2), .long (zL (i 5)), .ref (q 3)])), ((q 0), .inl (cI, 4, .inl (fun k => zI ((g 0) k)))), ((q 1), .inl (cI, 20, .inl (fun k => zI ((g 1) k)))), ((q 2), .inl (cI, 20, .inl (fun k => zI ((g 2) k)))), ((q 3), .inl (cI, 100, .inl (fun k => zI ((g 3) k))))] (fun r _ => ∃ z : Int, r = zI z ∧ z = endZ sR) (fun _ => [(b, .inr (6, [.int (zI (i 0)), .int (zI (i 1)), .int (zI (i 2)), .int (zI (i 3)), .int (zI (i 4)), .ref (q 0), .ref (q 1), .ref (q 2), .long (zL (i 5)), .ref (q 3)])), ((q 0), .inl (cI, 4, .inl (fun k => zI ((g 0) k)))), ((q 1), .inl (cI, 20, .inl (fun k => zI ((g 1) k)))), ((q 2), .inl (cI, 20, .inl (fun k => zI ((g 2) k)))), ((q 3), .inl (cI, 100, .inl (fun k => zI ((g 3) k))))]) := by
  refine bw_Ci.of (cc := cX6_ending) (maxL := 3) (ty := .int) (by decide) rfl (Nat.le_of_ble_eq_true rfl) ?_
  intro p e s m below meth c A Q hx hb hml hts hown hin hK hA hS hP hD hE ret ls hl
  have F : CallFix p m c cX6_ending 3 s ([.ref b] : List Value).toArray bw_T RX6 := ⟨hx, hb, hml, hown, fun w h => hts w (List.mem_cons_of_mem _ h)⟩
  replace hl : lv_has ls 3 [(0, .ref b)] := hl
  have hW1 := hW.1
  refine lv_aload_n hx hb dX6_ending_0 rfl (lv_at hl 0 rfl) ?_
  refine r_get F hK hP 0 2 rfl rfl in_X6 (by decide) k_325 rfl dX6_ending_1 ?_
  refine lv_istore_n (lv' := [(1, .int (zI (i 2))), (0, .ref b)]) hx hb dX6_ending_4 rfl hl (by decide) rfl (fun ls hl => ?_)
  refine lv_iconst (v := zI 0) hx hb dX6_ending_5 rfl ?_
  refine lv_istore_n (lv' := [(2, .int (zI 0)), (1, .int (zI (i 2))), (0, .ref b)]) hx hb dX6_ending_6 rfl hl (by decide) rfl (fun ls hl => ?_)
  refine W.widen (k := 0) (n := 0) (Nat.le_of_ble_eq_true rfl) (Nat.le_of_ble_eq_true rfl) ?_
  refine (?_ : ∀ (n9_1 : Nat) (v1 : Int) (v2 : Int) (H : Heap) (locs : List Loc), (0 ≤ v2 ∧ v2 ≤ 4) → (4 - v2 : Int).toNat < n9_1 → (v1 = enP sR (v2).toNat) → va_P G vwCl [(b, .inr (6, [.int (zI (i 0)), .int (zI (i 1)), .int (zI (i 2)), .int (zI (i 3)), .int (zI (i 4)), .ref (q 0), .ref (q 1), .ref (q 2), .long (zL (i 5)), .ref (q 3)])), ((q 0), .inl (cI, 4, .inl (fun k => zI ((g 0) k)))), ((q 1), .inl (cI, 20, .inl (fun k => zI ((g 1) k)))), ((q 2), .inl (cI, 20, .inl (fun k => zI ((g 2) k)))), ((q 3), .inl (cI, 100, .inl (fun k => zI ((g 3) k))))] H → va_D A [(b, .inr (6, [.int (zI (i 0)), .int (zI (i 1)), .int (zI (i 2)), .int (zI (i 3)), .int (zI (i 4)), .ref (q 0), .ref (q 1), .ref (q 2), .long (zL (i 5)), .ref (q 3)])), ((q 0), .inl (cI, 4, .inl (fun k => zI ((g 0) k)))), ((q 1), .inl (cI, 20, .inl (fun k => zI ((g 1) k)))), ((q 2), .inl (cI, 20, .inl (fun k => zI ((g 2) k)))), ((q 3), .inl (cI, 100, .inl (fun k => zI ((g 3) k))))] → va_S A s.heap H locs → ∀ ls : Array Slot, lv_has ls 3 [(2, .int (zI v2)), (1, .int (zI v1)), (0, .ref b)] → W p l e rm_X6z_ending s m ([.ref b] : List Value).toArray below meth c H locs 0 0 Q (F0 m 7 ls [])) ((4 - 0 : Int).toNat + 1) (i 2) 0 _ _ (by omega) (by omega) hWR.1.2.2.1 hP hD hS ls hl
  clear hP hD hS hl ls
  intro n9_1
  induction n9_1 with
  | zero =>
    intro v1 v2 H locs hI hM
    exact absurd hM (by omega)
  | succ n9_1 ih1 =>
    intro v1 v2 H locs hI1 hM1 hen hP hD hS ls hl
    refine lv_iload_n hx hb dX6_ending_7 rfl (lv_at hl 0 rfl) ?_
    refine lv_iconst (v := zI 4) hx hb dX6_ending_8 rfl ?_
    refine rz_icmp_ge (tgt := 30) F (by omega) (by omega) dX6_ending_9 (by decide) (fun h9_0 => ?_) (fun h9_0 => ?_)
    · refine lv_iload_n hx hb dX6_ending_30 rfl (lv_at hl 1 rfl) ?_
      exact ret (zI v1) (fun _ => 0, fun _ _ => 0) _ _ _ _ _ _ rfl ⟨v1, rfl, (by have q8 := hen; rw [show v2 = 4 by omega] at q8; exact q8)⟩ (bw_subP (isC := [0, 1, 2, 3, 4]) hP rfl) (hD.sub [0, 1, 2, 3, 4] (by decide) rfl) hS (Nat.le_of_ble_eq_true rfl) (Nat.le_of_ble_eq_true rfl) dX6_ending_31
    · refine lv_iload_n hx hb dX6_ending_12 rfl (lv_at hl 1 rfl) ?_
      refine lv_bipush (v := zI 100) hx hb dX6_ending_13 (by decide) ?_
      refine r_imul (v := zI (v1 * 100)) F dX6_ending_15 (zI_mul _ _) ?_
      refine lv_aload_n hx hb dX6_ending_16 rfl (lv_at hl 2 rfl) ?_
      refine r_get F hK hP 0 5 rfl rfl in_X6 (by decide) k_332 rfl dX6_ending_17 ?_
      refine lv_iload_n hx hb dX6_ending_20 rfl (lv_at hl 0 rfl) ?_
      refine rz_iald F hK hP 1 0 rfl rfl (by omega) (by omega) dX6_ending_21 ?_
      refine r_iadd (v := zI ((v1 * 100) + ((g 0) (v2).toNat))) F dX6_ending_22 (zI_add _ _) ?_
      refine lv_istore_n (lv' := [(1, .int (zI ((v1 * 100) + ((g 0) (v2).toNat)))), (2, .int (zI v2)), (0, .ref b)]) hx hb dX6_ending_23 rfl hl (by decide) rfl (fun ls hl => ?_)
      refine lv_iinc (v := zI (v2 + 1)) (lv' := [(2, .int (zI (v2 + 1))), (1, .int (zI ((v1 * 100) + ((g 0) (v2).toNat)))), (0, .ref b)]) hx hb dX6_ending_24 hl (k := 1) rfl (zI_add _ _) (by decide) rfl (fun ls hl => ?_)
      refine lv_goto (tgt := 7) hx hb dX6_ending_27 (by decide) ?_
      exact ih1 ((v1 * 100) + ((g 0) (v2).toNat)) (v2 + 1) _ _ (by omega) (by omega) (enP_step (by omega) hen (by rw [hWR.2.1 _ (by omega)])) hP hD hS ls (lv_sub hl [0, 1, 2] rfl)
abbrev rm_X6z_copyFrom : Room := { frames := 1, cells := 0, slots := 0, locals := 40 }
set_option maxRecDepth 100000 in
set_option maxHeartbeats 8000000 in
theorem c_X6z_copyFrom {l : Launch} {E : (Nat → Prop) → State → Prop} (hO : bw_Ok E) {G : va_G} {cI cB cJ cN cW : ClassId} (b : Nat) (q : Nat → Nat) (i : Nat → Int) (g : Nat → Nat → Int) (hW : WalkOk i g) (w : Nat) (qw : Nat → Nat) (iw : Nat → Int) (gw : Nat → Nat → Int) (hV : WalkOk iw gw) : bw_Cv (S := zU) l yX6_copyFrom (bw_ws (Cond.code yX6_copyFrom cX6_copyFrom 2 none)) rm_X6z_copyFrom E G (bw_kt cI cB cJ cN cW) [.ref b, .ref w] [(b, .inr (6, [.int (zI (i 0)), .int (zI (i 1)), .int (zI (i 2)), .int (zI (i 3)), .int (zI (i 4)), .ref (q 0), .ref (q 1), .ref (q 2), .long (zL (i 5)), .ref (q 3)])), ((q 0), .inl (cI, 4, .inl (fun k => zI ((g 0) k)))), ((q 1), .inl (cI, 20, .inl (fun k => zI ((g 1) k)))), ((q 2), .inl (cI, 20, .inl (fun k => zI ((g 2) k)))), ((q 3), .inl (cI, 100, .inl (fun k => zI ((g 3) k)))), (w, .inr (6, [.int (zI (iw 0)), .int (zI (iw 1)), .int (zI (iw 2)), .int (zI (iw 3)), .int (zI (iw 4)), .ref (qw 0), .ref (qw 1), .ref (qw 2), .long (zL (iw 5)), .ref (qw 3)])), ((qw 0), .inl (cI, 4, .inl (fun k => zI ((gw 0) k)))), ((qw 1), .inl (cI, 20, .inl (fun k => zI ((gw 1) k)))), ((qw 2), .inl (cI, 20, .inl (fun k => zI ((gw 2) k)))), ((qw 3), .inl (cI, 100, .inl (fun k => zI ((gw 3) k))))] (fun u => WalkOk iw u.2 ∧ ∀ (n : Int) (s : Nat → Int), WR n s iw gw → WR n s iw u.2) (fun u => [(b, .inr (6, [.int (zI (iw 0)), .int (zI (iw 1)), .int (zI (iw 2)), .int (zI (iw 3)), .int (zI (iw 4)), .ref (q 0), .ref (q 1), .ref (q 2), .long (zL (iw 5)), .ref (q 3)])), ((q 0), .inl (cI, 4, .inl (fun k => zI ((u.2 0) k)))), ((q 1), .inl (cI, 20, .inl (fun k => zI ((u.2 1) k)))), ((q 2), .inl (cI, 20, .inl (fun k => zI ((u.2 2) k)))), ((q 3), .inl (cI, 100, .inl (fun k => zI ((u.2 3) k)))), (w, .inr (6, [.int (zI (iw 0)), .int (zI (iw 1)), .int (zI (iw 2)), .int (zI (iw 3)), .int (zI (iw 4)), .ref (qw 0), .ref (qw 1), .ref (qw 2), .long (zL (iw 5)), .ref (qw 3)])), ((qw 0), .inl (cI, 4, .inl (fun k => zI ((gw 0) k)))), ((qw 1), .inl (cI, 20, .inl (fun k => zI ((gw 1) k)))), ((qw 2), .inl (cI, 20, .inl (fun k => zI ((gw 2) k)))), ((qw 3), .inl (cI, 100, .inl (fun k => zI ((gw 3) k))))]) := by
  refine bw_Cv.of (cc := cX6_copyFrom) (maxL := 2) (by decide) rfl (Nat.le_of_ble_eq_true rfl) ?_
  intro p e s m below meth c A Q hx hb hml hts hown hin hK hA hS hP hD hE ret ls hl
  have F : CallFix p m c cX6_copyFrom 2 s ([.ref b, .ref w] : List Value).toArray bw_T RX6 := ⟨hx, hb, hml, hown, fun w h => hts w (List.mem_cons_of_mem _ h)⟩
  replace hl : lv_has ls 2 [(0, .ref b), (1, .ref w)] := hl
  have hW1 := hW.1
  have hV1 := hV.1
  refine lv_aload_n hx hb dX6_copyFrom_0 rfl (lv_at hl 0 rfl) ?_
  refine lv_aload_n hx hb dX6_copyFrom_1 rfl (lv_at hl 1 rfl) ?_
  refine r_get F hK hP 5 0 rfl rfl in_X6 (by decide) k_320 rfl dX6_copyFrom_2 ?_
  refine r_put F hK hP hD hS 0 0 rfl rfl in_X6 tyX6 tyX6_ok nmX6 (by decide) k_320 rfl rfl rfl (Nat.le_of_ble_eq_true rfl) dX6_copyFrom_5 (w1 := [(b, .inr (6, [.int (zI (iw 0)), .int (zI (i 1)), .int (zI (i 2)), .int (zI (i 3)), .int (zI (i 4)), .ref (q 0), .ref (q 1), .ref (q 2), .long (zL (i 5)), .ref (q 3)])), ((q 0), .inl (cI, 4, .inl (fun k => zI ((g 0) k)))), ((q 1), .inl (cI, 20, .inl (fun k => zI ((g 1) k)))), ((q 2), .inl (cI, 20, .inl (fun k => zI ((g 2) k)))), ((q 3), .inl (cI, 100, .inl (fun k => zI ((g 3) k)))), (w, .inr (6, [.int (zI (iw 0)), .int (zI (iw 1)), .int (zI (iw 2)), .int (zI (iw 3)), .int (zI (iw 4)), .ref (qw 0), .ref (qw 1), .ref (qw 2), .long (zL (iw 5)), .ref (qw 3)])), ((qw 0), .inl (cI, 4, .inl (fun k => zI ((gw 0) k)))), ((qw 1), .inl (cI, 20, .inl (fun k => zI ((gw 1) k)))), ((qw 2), .inl (cI, 20, .inl (fun k => zI ((gw 2) k)))), ((qw 3), .inl (cI, 100, .inl (fun k => zI ((gw 3) k))))]) rfl (fun H locs hP hD hS => ?_)
  refine lv_aload_n hx hb dX6_copyFrom_8 rfl (lv_at hl 0 rfl) ?_
  refine lv_aload_n hx hb dX6_copyFrom_9 rfl (lv_at hl 1 rfl) ?_
  refine r_get F hK hP 5 1 rfl rfl in_X6 (by decide) k_322 rfl dX6_copyFrom_10 ?_
  refine r_put F hK hP hD hS 0 1 rfl rfl in_X6 tyX6 tyX6_ok nmX6 (by decide) k_322 rfl rfl rfl (Nat.le_of_ble_eq_true rfl) dX6_copyFrom_13 (w1 := [(b, .inr (6, [.int (zI (iw 0)), .int (zI (iw 1)), .int (zI (i 2)), .int (zI (i 3)), .int (zI (i 4)), .ref (q 0), .ref (q 1), .ref (q 2), .long (zL (i 5)), .ref (q 3)])), ((q 0), .inl (cI, 4, .inl (fun k => zI ((g 0) k)))), ((q 1), .inl (cI, 20, .inl (fun k => zI ((g 1) k)))), ((q 2), .inl (cI, 20, .inl (fun k => zI ((g 2) k)))), ((q 3), .inl (cI, 100, .inl (fun k => zI ((g 3) k)))), (w, .inr (6, [.int (zI (iw 0)), .int (zI (iw 1)), .int (zI (iw 2)), .int (zI (iw 3)), .int (zI (iw 4)), .ref (qw 0), .ref (qw 1), .ref (qw 2), .long (zL (iw 5)), .ref (qw 3)])), ((qw 0), .inl (cI, 4, .inl (fun k => zI ((gw 0) k)))), ((qw 1), .inl (cI, 20, .inl (fun k => zI ((gw 1) k)))), ((qw 2), .inl (cI, 20, .inl (fun k => zI ((gw 2) k)))), ((qw 3), .inl (cI, 100, .inl (fun k => zI ((gw 3) k))))]) rfl (fun H locs hP hD hS => ?_)
  refine lv_aload_n hx hb dX6_copyFrom_16 rfl (lv_at hl 0 rfl) ?_
  refine lv_aload_n hx hb dX6_copyFrom_17 rfl (lv_at hl 1 rfl) ?_
  refine r_get F hK hP 5 2 rfl rfl in_X6 (by decide) k_325 rfl dX6_copyFrom_18 ?_
  refine r_put F hK hP hD hS 0 2 rfl rfl in_X6 tyX6 tyX6_ok nmX6 (by decide) k_325 rfl rfl rfl (Nat.le_of_ble_eq_true rfl) dX6_copyFrom_21 (w1 := [(b, .inr (6, [.int (zI (iw 0)), .int (zI (iw 1)), .int (zI (iw 2)), .int (zI (i 3)), .int (zI (i 4)), .ref (q 0), .ref (q 1), .ref (q 2), .long (zL (i 5)), .ref (q 3)])), ((q 0), .inl (cI, 4, .inl (fun k => zI ((g 0) k)))), ((q 1), .inl (cI, 20, .inl (fun k => zI ((g 1) k)))), ((q 2), .inl (cI, 20, .inl (fun k => zI ((g 2) k)))), ((q 3), .inl (cI, 100, .inl (fun k => zI ((g 3) k)))), (w, .inr (6, [.int (zI (iw 0)), .int (zI (iw 1)), .int (zI (iw 2)), .int (zI (iw 3)), .int (zI (iw 4)), .ref (qw 0), .ref (qw 1), .ref (qw 2), .long (zL (iw 5)), .ref (qw 3)])), ((qw 0), .inl (cI, 4, .inl (fun k => zI ((gw 0) k)))), ((qw 1), .inl (cI, 20, .inl (fun k => zI ((gw 1) k)))), ((qw 2), .inl (cI, 20, .inl (fun k => zI ((gw 2) k)))), ((qw 3), .inl (cI, 100, .inl (fun k => zI ((gw 3) k))))]) rfl (fun H locs hP hD hS => ?_)
  refine lv_aload_n hx hb dX6_copyFrom_24 rfl (lv_at hl 0 rfl) ?_
  refine lv_aload_n hx hb dX6_copyFrom_25 rfl (lv_at hl 1 rfl) ?_
  refine r_get F hK hP 5 3 rfl rfl in_X6 (by decide) k_328 rfl dX6_copyFrom_26 ?_
  refine r_put F hK hP hD hS 0 3 rfl rfl in_X6 tyX6 tyX6_ok nmX6 (by decide) k_328 rfl rfl rfl (Nat.le_of_ble_eq_true rfl) dX6_copyFrom_29 (w1 := [(b, .inr (6, [.int (zI (iw 0)), .int (zI (iw 1)), .int (zI (iw 2)), .int (zI (iw 3)), .int (zI (i 4)), .ref (q 0), .ref (q 1), .ref (q 2), .long (zL (i 5)), .ref (q 3)])), ((q 0), .inl (cI, 4, .inl (fun k => zI ((g 0) k)))), ((q 1), .inl (cI, 20, .inl (fun k => zI ((g 1) k)))), ((q 2), .inl (cI, 20, .inl (fun k => zI ((g 2) k)))), ((q 3), .inl (cI, 100, .inl (fun k => zI ((g 3) k)))), (w, .inr (6, [.int (zI (iw 0)), .int (zI (iw 1)), .int (zI (iw 2)), .int (zI (iw 3)), .int (zI (iw 4)), .ref (qw 0), .ref (qw 1), .ref (qw 2), .long (zL (iw 5)), .ref (qw 3)])), ((qw 0), .inl (cI, 4, .inl (fun k => zI ((gw 0) k)))), ((qw 1), .inl (cI, 20, .inl (fun k => zI ((gw 1) k)))), ((qw 2), .inl (cI, 20, .inl (fun k => zI ((gw 2) k)))), ((qw 3), .inl (cI, 100, .inl (fun k => zI ((gw 3) k))))]) rfl (fun H locs hP hD hS => ?_)
  refine lv_aload_n hx hb dX6_copyFrom_32 rfl (lv_at hl 0 rfl) ?_
  refine lv_aload_n hx hb dX6_copyFrom_33 rfl (lv_at hl 1 rfl) ?_
  refine r_get F hK hP 5 4 rfl rfl in_X6 (by decide) k_330 rfl dX6_copyFrom_34 ?_
  refine r_put F hK hP hD hS 0 4 rfl rfl in_X6 tyX6 tyX6_ok nmX6 (by decide) k_330 rfl rfl rfl (Nat.le_of_ble_eq_true rfl) dX6_copyFrom_37 (w1 := [(b, .inr (6, [.int (zI (iw 0)), .int (zI (iw 1)), .int (zI (iw 2)), .int (zI (iw 3)), .int (zI (iw 4)), .ref (q 0), .ref (q 1), .ref (q 2), .long (zL (i 5)), .ref (q 3)])), ((q 0), .inl (cI, 4, .inl (fun k => zI ((g 0) k)))), ((q 1), .inl (cI, 20, .inl (fun k => zI ((g 1) k)))), ((q 2), .inl (cI, 20, .inl (fun k => zI ((g 2) k)))), ((q 3), .inl (cI, 100, .inl (fun k => zI ((g 3) k)))), (w, .inr (6, [.int (zI (iw 0)), .int (zI (iw 1)), .int (zI (iw 2)), .int (zI (iw 3)), .int (zI (iw 4)), .ref (qw 0), .ref (qw 1), .ref (qw 2), .long (zL (iw 5)), .ref (qw 3)])), ((qw 0), .inl (cI, 4, .inl (fun k => zI ((gw 0) k)))), ((qw 1), .inl (cI, 20, .inl (fun k => zI ((gw 1) k)))), ((qw 2), .inl (cI, 20, .inl (fun k => zI ((gw 2) k)))), ((qw 3), .inl (cI, 100, .inl (fun k => zI ((gw 3) k))))]) rfl (fun H locs hP hD hS => ?_)
  refine lv_aload_n hx hb dX6_copyFrom_40 rfl (lv_at hl 0 rfl) ?_
  refine lv_aload_n hx hb dX6_copyFrom_41 rfl (lv_at hl 1 rfl) ?_
  refine r_get F hK hP 5 8 rfl rfl in_X6 (by decide) k_338 rfl dX6_copyFrom_42 ?_
  refine r_put F hK hP hD hS 0 8 rfl rfl in_X6 tyX6 tyX6_ok nmX6 (by decide) k_338 rfl rfl rfl (Nat.le_of_ble_eq_true rfl) dX6_copyFrom_45 (w1 := [(b, .inr (6, [.int (zI (iw 0)), .int (zI (iw 1)), .int (zI (iw 2)), .int (zI (iw 3)), .int (zI (iw 4)), .ref (q 0), .ref (q 1), .ref (q 2), .long (zL (iw 5)), .ref (q 3)])), ((q 0), .inl (cI, 4, .inl (fun k => zI ((g 0) k)))), ((q 1), .inl (cI, 20, .inl (fun k => zI ((g 1) k)))), ((q 2), .inl (cI, 20, .inl (fun k => zI ((g 2) k)))), ((q 3), .inl (cI, 100, .inl (fun k => zI ((g 3) k)))), (w, .inr (6, [.int (zI (iw 0)), .int (zI (iw 1)), .int (zI (iw 2)), .int (zI (iw 3)), .int (zI (iw 4)), .ref (qw 0), .ref (qw 1), .ref (qw 2), .long (zL (iw 5)), .ref (qw 3)])), ((qw 0), .inl (cI, 4, .inl (fun k => zI ((gw 0) k)))), ((qw 1), .inl (cI, 20, .inl (fun k => zI ((gw 1) k)))), ((qw 2), .inl (cI, 20, .inl (fun k => zI ((gw 2) k)))), ((qw 3), .inl (cI, 100, .inl (fun k => zI ((gw 3) k))))]) rfl (fun H locs hP hD hS => ?_)
  refine lv_aload_n hx hb dX6_copyFrom_48 rfl (lv_at hl 1 rfl) ?_
  refine r_get F hK hP 5 5 rfl rfl in_X6 (by decide) k_332 rfl dX6_copyFrom_49 ?_
  refine lv_iconst (v := zI 0) hx hb dX6_copyFrom_52 rfl ?_
  refine lv_aload_n hx hb dX6_copyFrom_53 rfl (lv_at hl 0 rfl) ?_
  refine r_get F hK hP 0 5 rfl rfl in_X6 (by decide) k_332 rfl dX6_copyFrom_54 ?_
  refine lv_iconst (v := zI 0) hx hb dX6_copyFrom_57 rfl ?_
  refine lv_iconst (v := zI 4) hx hb dX6_copyFrom_58 rfl ?_
  refine rz_copy F k_779 k_641 k_640 k_108 hK hP hD hS 6 1 0 rfl rfl rfl (by omega) hl.1 (Nat.le_of_ble_eq_true rfl) (Nat.le_of_ble_eq_true rfl) dX6_copyFrom_59 (w1 := fun g1 => [(b, .inr (6, [.int (zI (iw 0)), .int (zI (iw 1)), .int (zI (iw 2)), .int (zI (iw 3)), .int (zI (iw 4)), .ref (q 0), .ref (q 1), .ref (q 2), .long (zL (iw 5)), .ref (q 3)])), ((q 0), .inl (cI, 4, .inl (fun k => zI (g1 k)))), ((q 1), .inl (cI, 20, .inl (fun k => zI ((g 1) k)))), ((q 2), .inl (cI, 20, .inl (fun k => zI ((g 2) k)))), ((q 3), .inl (cI, 100, .inl (fun k => zI ((g 3) k)))), (w, .inr (6, [.int (zI (iw 0)), .int (zI (iw 1)), .int (zI (iw 2)), .int (zI (iw 3)), .int (zI (iw 4)), .ref (qw 0), .ref (qw 1), .ref (qw 2), .long (zL (iw 5)), .ref (qw 3)])), ((qw 0), .inl (cI, 4, .inl (fun k => zI ((gw 0) k)))), ((qw 1), .inl (cI, 20, .inl (fun k => zI ((gw 1) k)))), ((qw 2), .inl (cI, 20, .inl (fun k => zI ((gw 2) k)))), ((qw 3), .inl (cI, 100, .inl (fun k => zI ((gw 3) k))))]) (fun _ => rfl) (fun g1 e_g1 H locs hP hD hS => ?_)
  refine lv_aload_n hx hb dX6_copyFrom_62 rfl (lv_at hl 1 rfl) ?_
  refine r_get F hK hP 5 6 rfl rfl in_X6 (by decide) k_334 rfl dX6_copyFrom_63 ?_
  refine lv_iconst (v := zI 0) hx hb dX6_copyFrom_66 rfl ?_
  refine lv_aload_n hx hb dX6_copyFrom_67 rfl (lv_at hl 0 rfl) ?_
  refine r_get F hK hP 0 6 rfl rfl in_X6 (by decide) k_334 rfl dX6_copyFrom_68 ?_
  refine lv_iconst (v := zI 0) hx hb dX6_copyFrom_71 rfl ?_
  refine lv_bipush (v := zI 20) hx hb dX6_copyFrom_72 (by decide) ?_
  refine rz_copy F k_779 k_641 k_640 k_108 hK hP hD hS 7 2 0 rfl rfl rfl (by omega) hl.1 (Nat.le_of_ble_eq_true rfl) (Nat.le_of_ble_eq_true rfl) dX6_copyFrom_74 (w1 := fun g2 => [(b, .inr (6, [.int (zI (iw 0)), .int (zI (iw 1)), .int (zI (iw 2)), .int (zI (iw 3)), .int (zI (iw 4)), .ref (q 0), .ref (q 1), .ref (q 2), .long (zL (iw 5)), .ref (q 3)])), ((q 0), .inl (cI, 4, .inl (fun k => zI (g1 k)))), ((q 1), .inl (cI, 20, .inl (fun k => zI (g2 k)))), ((q 2), .inl (cI, 20, .inl (fun k => zI ((g 2) k)))), ((q 3), .inl (cI, 100, .inl (fun k => zI ((g 3) k)))), (w, .inr (6, [.int (zI (iw 0)), .int (zI (iw 1)), .int (zI (iw 2)), .int (zI (iw 3)), .int (zI (iw 4)), .ref (qw 0), .ref (qw 1), .ref (qw 2), .long (zL (iw 5)), .ref (qw 3)])), ((qw 0), .inl (cI, 4, .inl (fun k => zI ((gw 0) k)))), ((qw 1), .inl (cI, 20, .inl (fun k => zI ((gw 1) k)))), ((qw 2), .inl (cI, 20, .inl (fun k => zI ((gw 2) k)))), ((qw 3), .inl (cI, 100, .inl (fun k => zI ((gw 3) k))))]) (fun _ => rfl) (fun g2 e_g2 H locs hP hD hS => ?_)
  have h_g2 : ∀ k, k < 20 → 0 ≤ g2 k ∧ g2 k ≤ 9 := by rw [e_g2]; exact cpy_all (P := fun y9 => 0 ≤ y9 ∧ y9 ≤ 9) hV.2
  refine lv_aload_n hx hb dX6_copyFrom_77 rfl (lv_at hl 1 rfl) ?_
  refine r_get F hK hP 5 7 rfl rfl in_X6 (by decide) k_336 rfl dX6_copyFrom_78 ?_
  refine lv_iconst (v := zI 0) hx hb dX6_copyFrom_81 rfl ?_
  refine lv_aload_n hx hb dX6_copyFrom_82 rfl (lv_at hl 0 rfl) ?_
  refine r_get F hK hP 0 7 rfl rfl in_X6 (by decide) k_336 rfl dX6_copyFrom_83 ?_
  refine lv_iconst (v := zI 0) hx hb dX6_copyFrom_86 rfl ?_
  refine lv_bipush (v := zI 20) hx hb dX6_copyFrom_87 (by decide) ?_
  refine rz_copy F k_779 k_641 k_640 k_108 hK hP hD hS 8 3 0 rfl rfl rfl (by omega) hl.1 (Nat.le_of_ble_eq_true rfl) (Nat.le_of_ble_eq_true rfl) dX6_copyFrom_89 (w1 := fun g3 => [(b, .inr (6, [.int (zI (iw 0)), .int (zI (iw 1)), .int (zI (iw 2)), .int (zI (iw 3)), .int (zI (iw 4)), .ref (q 0), .ref (q 1), .ref (q 2), .long (zL (iw 5)), .ref (q 3)])), ((q 0), .inl (cI, 4, .inl (fun k => zI (g1 k)))), ((q 1), .inl (cI, 20, .inl (fun k => zI (g2 k)))), ((q 2), .inl (cI, 20, .inl (fun k => zI (g3 k)))), ((q 3), .inl (cI, 100, .inl (fun k => zI ((g 3) k)))), (w, .inr (6, [.int (zI (iw 0)), .int (zI (iw 1)), .int (zI (iw 2)), .int (zI (iw 3)), .int (zI (iw 4)), .ref (qw 0), .ref (qw 1), .ref (qw 2), .long (zL (iw 5)), .ref (qw 3)])), ((qw 0), .inl (cI, 4, .inl (fun k => zI ((gw 0) k)))), ((qw 1), .inl (cI, 20, .inl (fun k => zI ((gw 1) k)))), ((qw 2), .inl (cI, 20, .inl (fun k => zI ((gw 2) k)))), ((qw 3), .inl (cI, 100, .inl (fun k => zI ((gw 3) k))))]) (fun _ => rfl) (fun g3 e_g3 H locs hP hD hS => ?_)
  refine lv_aload_n hx hb dX6_copyFrom_92 rfl (lv_at hl 1 rfl) ?_
  refine r_get F hK hP 5 9 rfl rfl in_X6 (by decide) k_339 rfl dX6_copyFrom_93 ?_
  refine lv_iconst (v := zI 0) hx hb dX6_copyFrom_96 rfl ?_
  refine lv_aload_n hx hb dX6_copyFrom_97 rfl (lv_at hl 0 rfl) ?_
  refine r_get F hK hP 0 9 rfl rfl in_X6 (by decide) k_339 rfl dX6_copyFrom_98 ?_
  refine lv_iconst (v := zI 0) hx hb dX6_copyFrom_101 rfl ?_
  refine lv_bipush (v := zI 100) hx hb dX6_copyFrom_102 (by decide) ?_
  refine rz_copy F k_779 k_641 k_640 k_108 hK hP hD hS 9 4 0 rfl rfl rfl (by omega) hl.1 (Nat.le_of_ble_eq_true rfl) (Nat.le_of_ble_eq_true rfl) dX6_copyFrom_104 (w1 := fun g4 => [(b, .inr (6, [.int (zI (iw 0)), .int (zI (iw 1)), .int (zI (iw 2)), .int (zI (iw 3)), .int (zI (iw 4)), .ref (q 0), .ref (q 1), .ref (q 2), .long (zL (iw 5)), .ref (q 3)])), ((q 0), .inl (cI, 4, .inl (fun k => zI (g1 k)))), ((q 1), .inl (cI, 20, .inl (fun k => zI (g2 k)))), ((q 2), .inl (cI, 20, .inl (fun k => zI (g3 k)))), ((q 3), .inl (cI, 100, .inl (fun k => zI (g4 k)))), (w, .inr (6, [.int (zI (iw 0)), .int (zI (iw 1)), .int (zI (iw 2)), .int (zI (iw 3)), .int (zI (iw 4)), .ref (qw 0), .ref (qw 1), .ref (qw 2), .long (zL (iw 5)), .ref (qw 3)])), ((qw 0), .inl (cI, 4, .inl (fun k => zI ((gw 0) k)))), ((qw 1), .inl (cI, 20, .inl (fun k => zI ((gw 1) k)))), ((qw 2), .inl (cI, 20, .inl (fun k => zI ((gw 2) k)))), ((qw 3), .inl (cI, 100, .inl (fun k => zI ((gw 3) k))))]) (fun _ => rfl) (fun g4 e_g4 H locs hP hD hS => ?_)
  exact ret (fun _ => 0, fun k => [g1, g2, g3, g4].getD k (fun _ => 0)) _ _ _ _ _ _ ⟨⟨hV.1, h_g2⟩, fun n s h9 => WR.copied (g := g) e_g1 e_g2 e_g3 e_g4 h9⟩ (bw_subP (isC := [0, 1, 2, 3, 4, 5, 6, 7, 8, 9]) hP rfl) (hD.sub [0, 1, 2, 3, 4, 5, 6, 7, 8, 9] (by decide) rfl) hS (Nat.le_of_ble_eq_true rfl) (Nat.le_of_ble_eq_true rfl) dX6_copyFrom_107
