def laidF (p : Nat → Int) (x : Int) : Int := if p (20 * (x / 2) + 0).toNat = 1 then (if x % 2 = 0 then (if 0 < p (20 * (x / 2) + 14).toNat then p (20 * (x / 2) + 17).toNat else 0) else (if p (20 * (x / 2) + 14).toNat = 2 then p (20 * (x / 2) + 19).toNat else 0)) else 0
theorem NRel.laid {g : Nat → Nat → Int} {p : Nat → Int} (h : NRel g p) {x : Int} (hx : 0 ≤ x ∧ x < 20) : g 7 x.toNat = laidF p x := by
  obtain ⟨l, hl⟩ : ∃ l : Int, l = x / 2 := ⟨_, rfl⟩
  unfold laidF
  rw [← hl]
  rcases h.td (l := l) (by omega) with ⟨t1, t2⟩ | ⟨t1, t2⟩
  · rw [if_neg (by omega)]
    rcases h l.toNat (by omega) with ⟨-, ⟨-, -, -, -, r5, r6⟩, -⟩ | r
    · rcases (show x.toNat = 2 * l.toNat ∨ x.toNat = 2 * l.toNat + 1 by omega) with e | e
      · rw [e]; exact r5
      · rw [e]; exact r6
    · exact absurd t1 (by omega)
  · rw [if_pos t2]
    obtain ⟨⟨x1, x14, xa, xb⟩, xj, x6, x7⟩ := h.row (x := l) (by omega) t1
    by_cases c : x % 2 = 0
    · rw [if_pos c, show x.toNat = (2 * l).toNat by omega]
      rcases x6 with ⟨a1, a2, a3⟩ | ⟨a1, a2, a3, a4⟩
      · rw [if_neg (by omega), a3]
      · rw [if_pos (by omega), a3]
    · rw [if_neg c, show x.toNat = (2 * l + 1).toNat by omega]
      rcases x7 with ⟨a1, a2, a3, a4⟩ | ⟨a1, a2, a3, a4, a5⟩
      · rw [if_neg (by omega), a4]
      · rw [if_pos (by omega), a4]
theorem laidF_told {p : Nat → Int} {x : Int} (h : 0 < laidF p x) : p (20 * (x / 2) + 0).toNat = 1 := by
  unfold laidF at h
  by_cases c : p (20 * (x / 2) + 0).toNat = 1
  · exact c
  · rw [if_neg c] at h
    omega
theorem laidF_low {p : Nat → Int} {n x : Int} (hl : LN p n) (hx : 0 ≤ x ∧ x < 20) (h : 0 < laidF p x) : x < 2 * n := by
  have t := laidF_told h
  by_cases c : x < 2 * n
  · exact c
  · have q := hl (x / 2).toNat (by omega) (by omega)
    rw [show 20 * (x / 2).toNat = (20 * (x / 2) + 0).toNat by omega, t] at q
    omega
theorem laidF_rg {p : Nat → Int} (hp : ProgOk p) {x : Int} (hx : 0 ≤ x ∧ x < 20) : 0 ≤ laidF p x ∧ laidF p x ≤ 9 := by
  have a := hp.1.pos (20 * (x / 2) + 17).toNat (by omega)
  have b := hp.1.le9 (20 * (x / 2) + 17).toNat (by omega)
  have c := hp.1.pos (20 * (x / 2) + 19).toNat (by omega)
  have d := hp.1.le9 (20 * (x / 2) + 19).toNat (by omega)
  unfold laidF
  repeat' split
  all_goals omega
/-! a number below 2^20 as a set -/
def BtI (v : Int) (c : Nat → Prop) : Prop := ∃ n : Nat, v = (n : Int) ∧ n < 1048576 ∧ ∀ w, w < 20 → (n.testBit w = true ↔ c w)
theorem BtI.rg {v : Int} {c : Nat → Prop} (h : BtI v c) : 0 ≤ v ∧ v < 1048576 := by
  obtain ⟨n, rfl, hn, -⟩ := h
  omega
theorem BtI.iff {v : Int} {c d : Nat → Prop} (h : BtI v c) (e : ∀ w, w < 20 → (c w ↔ d w)) : BtI v d := by
  obtain ⟨n, rfl, hn, hc⟩ := h
  exact ⟨n, rfl, hn, fun w hw => (hc w hw).trans (e w hw)⟩
theorem BtI.uniq {v v' : Int} {c : Nat → Prop} (h : BtI v c) (h' : BtI v' c) : v = v' := by
  obtain ⟨n, rfl, hn, hc⟩ := h
  obtain ⟨m, rfl, hm, hd⟩ := h'
  have q : n = m := Nat.eq_of_testBit_eq (fun i => by
    by_cases q : i < 20
    · have a := (hc i q).trans (hd i q).symm
      cases x : n.testBit i <;> cases y : m.testBit i
      · rfl
      · exact absurd (a.mpr y) (by rw [x]; decide)
      · exact absurd (a.mp x) (by rw [y]; decide)
      · rfl
    · have big : (1048576 : Nat) ≤ 2 ^ i := Nat.le_trans (show 1048576 ≤ 2 ^ 20 by decide) (Nat.pow_le_pow_right (by decide) (by omega))
      rw [Nat.testBit_lt_two_pow (Nat.lt_of_lt_of_le hn big), Nat.testBit_lt_two_pow (Nat.lt_of_lt_of_le hm big)])
  rw [q]
theorem BtI.zero : BtI 0 (fun _ => False) := ⟨0, rfl, by decide, fun w _ => by
  rw [Nat.zero_testBit]
  exact ⟨fun q => absurd q (by decide), fun q => q.elim⟩⟩
theorem bt_bv {a : Nat} (ha : a < 2147483648) : (zI (a : Int)).toBitVec.toNat = a := by
  show (BitVec.ofInt 32 (a : Int)).toNat = a
  rw [BitVec.toNat_ofInt]
  omega
theorem bt_pow {w : Nat} (hw : w < 20) : 2 ^ w < 1048576 := Nat.pow_lt_pow_right (by decide) hw
theorem BtI.or1 {v w : Int} {c : Nat → Prop} (h : BtI v c) (hw : 0 ≤ w ∧ w < 20) : ∃ z, (zI v ||| (zI 1 <<< (zI w &&& 31))) = zI z ∧ BtI z (fun j => c j ∨ j = w.toNat) := by
  obtain ⟨n, rfl, hn, hc⟩ := h
  obtain ⟨m, rfl⟩ : ∃ m : Nat, w = m := ⟨w.toNat, by omega⟩
  have hm : m < 20 := by omega
  have hp := bt_pow hm
  have ho : n ||| 2 ^ m < 1048576 := Nat.or_lt_two_pow (n := 20) hn hp
  rw [zI_shl1 m (by omega)]
  refine ⟨((n ||| 2 ^ m : Nat) : Int), ?_, n ||| 2 ^ m, rfl, ho, fun j hj => ?_⟩
  · apply Int32.toBitVec.inj
    apply BitVec.eq_of_toNat_eq
    show ((zI (n : Int)).toBitVec ||| (zI ((2 ^ m : Nat) : Int)).toBitVec).toNat = _
    rw [BitVec.toNat_or, bt_bv (Nat.lt_trans hn (by decide)), bt_bv (Nat.lt_trans hp (by decide)), bt_bv (Nat.lt_trans ho (by decide))]
  · show ((n ||| 2 ^ m).testBit j = true) ↔ (c j ∨ j = ((m : Nat) : Int).toNat)
    rw [Nat.testBit_or, Nat.testBit_two_pow, Bool.or_eq_true, decide_eq_true_iff, hc j hj]
    exact or_congr Iff.rfl ⟨fun q => by omega, fun q => by omega⟩
theorem BtI.orw {v w : Int} {c : Nat → Prop} (h : BtI v c) (hw : 0 ≤ w ∧ w < 20) : BtI (orW v w) (fun j => c j ∨ j = w.toNat) := by
  obtain ⟨z, h1, h2⟩ := h.or1 hw
  unfold orW
  rw [h1, zI_toInt (by have q := h2.rg; omega)]
  exact h2
theorem BtI.and {v u : Int} {c d : Nat → Prop} (h : BtI v c) (h' : BtI u d) : ∃ z, (zI v &&& zI u) = zI z ∧ BtI z (fun j => c j ∧ d j) := by
  obtain ⟨n, rfl, hn, hc⟩ := h
  obtain ⟨m, rfl, hm, hd⟩ := h'
  have ho : n &&& m < 1048576 := Nat.lt_of_le_of_lt Nat.and_le_left hn
  refine ⟨((n &&& m : Nat) : Int), ?_, n &&& m, rfl, ho, fun j hj => ?_⟩
  · apply Int32.toBitVec.inj
    apply BitVec.eq_of_toNat_eq
    show ((zI (n : Int)).toBitVec &&& (zI (m : Int)).toBitVec).toNat = _
    rw [BitVec.toNat_and, bt_bv (Nat.lt_trans hn (by decide)), bt_bv (Nat.lt_trans hm (by decide)), bt_bv (Nat.lt_trans ho (by decide))]
  · rw [Nat.testBit_and, Bool.and_eq_true, hc j hj, hd j hj]
theorem bt_amt : ∀ n ∈ List.range 20, ((zI ((n : Nat) : Int) &&& 31).toBitVec.smod 32).toNat = n := by decide +kernel
theorem bt_tst {v x : Int} {c : Nat → Prop} (h : BtI v c) (hx : 0 ≤ x ∧ x < 20) : ((zI v >>> (zI x &&& 31)) &&& zI 1 = zI 1) ↔ c x.toNat := by
  obtain ⟨m, rfl⟩ : ∃ m : Nat, x = m := ⟨x.toNat, by omega⟩
  have hm : m < 20 := by omega
  obtain ⟨n, rfl, hn, hc⟩ := h
  have ht := bt_amt m (List.mem_range.mpr hm)
  have hg : (zI (n : Int)).toBitVec.toInt = (n : Int) := Int32.toInt_ofInt_of_le (by omega) (by omega)
  have hy : (zI (n : Int) >>> (zI (m : Int) &&& 31)).toBitVec.toInt = ((n >>> m : Nat) : Int) := by
    show (BitVec.sshiftRight' (zI (n : Int)).toBitVec ((zI (m : Int) &&& 31).toBitVec.smod 32)).toInt = _
    rw [BitVec.sshiftRight_eq', ht, BitVec.toInt_sshiftRight, hg, Int.shiftRight_eq_div_pow, Nat.shiftRight_eq_div_pow]
    exact (Int.natCast_ediv n (2 ^ m)).symm
  have hr : n >>> m ≤ n := by
    rw [Nat.shiftRight_eq_div_pow]
    exact Nat.div_le_self _ _
  show ((zI (n : Int) >>> (zI (m : Int) &&& 31)) &&& zI 1 = zI 1) ↔ c m
  rw [← hc m hm]
  have hN : (zI (n : Int) >>> (zI (m : Int) &&& 31)).toBitVec.toNat = n >>> m := by
    generalize n >>> m = r9 at hy ⊢
    generalize zI (n : Int) >>> (zI (m : Int) &&& 31) = y at hy ⊢
    have hcd := BitVec.toInt_eq_toNat_cond y.toBitVec
    have hl := y.toBitVec.isLt
    rw [hy] at hcd
    split at hcd <;> omega
  generalize zI (n : Int) >>> (zI (m : Int) &&& 31) = y at hN ⊢
  have e1 : (y &&& zI 1).toBitVec.toNat = (n >>> m) % 2 := by
    show (y.toBitVec &&& (zI 1).toBitVec).toNat = _
    rw [BitVec.toNat_and, hN, show (zI 1).toBitVec.toNat = 1 by decide +kernel, Nat.and_one_is_mod]
  have e2 : n.testBit m = true ↔ (n >>> m) % 2 = 1 := by
    rw [Nat.testBit_eq_decide_div_mod_eq, decide_eq_true_iff, Nat.shiftRight_eq_div_pow]
  rw [e2, ← e1]
  constructor
  · intro q
    rw [q]
    decide +kernel
  · intro q
    apply Int32.toBitVec.inj
    apply BitVec.eq_of_toNat_eq
    rw [q]
    decide +kernel
/-! TOLD LINES, COUNTED -/
noncomputable def iteC (P : Prop) (a b : Int) : Int := @ite Int P (Classical.propDecidable P) a b
theorem iteC_y {P : Prop} {a b : Int} (h : P) : iteC P a b = a := if_pos h
theorem iteC_n {P : Prop} {a b : Int} (h : ¬ P) : iteC P a b = b := if_neg h
noncomputable def tdN (T : Nat → Prop) : Nat → Int
  | 0 => 0
  | k + 1 => tdN T k + iteC (T k) 1 0
theorem tdN_y {T : Nat → Prop} {k : Nat} (h : T k) : tdN T (k + 1) = tdN T k + 1 := by
  show tdN T k + iteC (T k) 1 0 = _
  rw [iteC_y h]
theorem tdN_n {T : Nat → Prop} {k : Nat} (h : ¬ T k) : tdN T (k + 1) = tdN T k := by
  show tdN T k + iteC (T k) 1 0 = _
  rw [iteC_n h]
  exact Int.add_zero _
theorem tdN_le {T : Nat → Prop} {j : Nat} : ∀ d : Nat, tdN T j ≤ tdN T (j + d)
  | 0 => Int.le_refl _
  | d + 1 => by
    have h1 := tdN_le (T := T) (j := j) d
    rcases Classical.em (T (j + d)) with h | h
    · have h2 : tdN T (j + (d + 1)) = tdN T (j + d) + 1 := tdN_y h
      omega
    · have h2 : tdN T (j + (d + 1)) = tdN T (j + d) := tdN_n h
      omega
theorem tdN_lt {T : Nat → Prop} {j k : Nat} (h : j < k) (hj : T j) : tdN T j + 1 ≤ tdN T k := by
  have h1 := tdN_le (T := T) (j := j + 1) (k - (j + 1))
  rw [show j + 1 + (k - (j + 1)) = k by omega, tdN_y hj] at h1
  exact h1
/-! REACHING -/
theorem tdN_mono {T T' : Nat → Prop} : ∀ n : Nat, (∀ k, k < n → T k → T' k) → tdN T n ≤ tdN T' n
  | 0, _ => Int.le_refl _
  | n + 1, h => by
    have h1 := tdN_mono n (fun k hk => h k (by omega))
    rcases Classical.em (T n) with c | c
    · rw [tdN_y c, tdN_y (h n (by omega) c)]
      omega
    · rw [tdN_n c]
      rcases Classical.em (T' n) with c' | c'
      · rw [tdN_y c']
        omega
      · rw [tdN_n c']
        exact h1
theorem tdN_strict {T T' : Nat → Prop} {j : Nat} (hj : T' j) (hn : ¬ T j) : ∀ n : Nat, j < n → (∀ k, k < n → T k → T' k) → tdN T n + 1 ≤ tdN T' n
  | 0, h, _ => absurd h (by omega)
  | n + 1, h, hm => by
    by_cases e : j = n
    · subst e
      have h1 := tdN_mono j (fun k hk => hm k (by omega))
      rw [tdN_n hn, tdN_y hj]
      omega
    · have h1 := tdN_strict hj hn n (by omega) (fun k hk => hm k (by omega))
      rcases Classical.em (T n) with c | c
      · rw [tdN_y c, tdN_y (hm n (by omega) c)]
        omega
      · rw [tdN_n c]
        rcases Classical.em (T' n) with c' | c'
        · rw [tdN_y c']
          omega
        · rw [tdN_n c']
          exact h1
theorem tdN_ub {T : Nat → Prop} : ∀ n : Nat, tdN T n ≤ n
  | 0 => Int.le_refl _
  | n + 1 => by
    have h1 := tdN_ub (T := T) n
    rcases Classical.em (T n) with c | c
    · rw [tdN_y c]
      omega
    · rw [tdN_n c]
      omega
def bN (z : Int) (j : Nat) : Prop := z.toNat.testBit j = true
theorem bN_I {z : Int} (h : 0 ≤ z ∧ z < 1048576) : BtI z (bN z) := ⟨z.toNat, by omega, by omega, fun w hw => Iff.rfl⟩
theorem bN_1 {j : Nat} : bN 1 j ↔ j = 0 := by
  unfold bN
  show Nat.testBit 1 j = true ↔ _
  rw [show (1 : Nat) = 2 ^ 0 from rfl, Nat.testBit_two_pow, decide_eq_true_iff]
  omega
theorem or_b {x k : Int} (hx : 0 ≤ x ∧ x < 1024) (hk : 0 ≤ k ∧ k < 10) : ∃ z : Int, (zI x ||| (zI 1 <<< (zI k &&& 31))) = zI z ∧ (x ≤ z ∧ z < 1024) ∧ ∀ j : Nat, bN z j ↔ (bN x j ∨ j = k.toNat) := by
  obtain ⟨z, e, N, hz, hN, hb⟩ := BtI.or1 (bN_I (show 0 ≤ x ∧ x < 1048576 by omega)) (w := k) (by omega)
  have hX : x.toNat < 2 ^ 10 := by omega
  have hK : 2 ^ k.toNat < 2 ^ 10 := Nat.pow_lt_pow_right (by decide) (by omega)
  have eN : N = x.toNat ||| 2 ^ k.toNat := by
    apply Nat.eq_of_testBit_eq
    intro j
    rw [Nat.testBit_or, Nat.testBit_two_pow]
    by_cases c : j < 20
    · have h1 := hb j c
      unfold bN at h1
      rw [Bool.eq_iff_iff, Bool.or_eq_true, decide_eq_true_iff, h1]
      constructor
      · rintro (q | q)
        · exact Or.inl q
        · exact Or.inr q.symm
      · rintro (q | q)
        · exact Or.inl q
        · exact Or.inr q.symm
    · have l1 : N < 2 ^ j := Nat.lt_of_lt_of_le hN (Nat.pow_le_pow_right (n := 2) (by decide) (show 20 ≤ j by omega))
      have l2 : x.toNat < 2 ^ j := Nat.lt_of_lt_of_le hX (Nat.pow_le_pow_right (n := 2) (by decide) (show 10 ≤ j by omega))
      rw [Nat.testBit_lt_two_pow l1, Nat.testBit_lt_two_pow l2, decide_eq_false (show ¬ k.toNat = j by omega)]
      rfl
  have h1 : x.toNat ≤ N := by rw [eN]; exact Nat.left_le_or
  have h2 : N < 2 ^ 10 := by rw [eN]; exact Nat.or_lt_two_pow hX hK
  refine ⟨z, e, by omega, fun j => ?_⟩
  have e3 : z.toNat = N := by omega
  unfold bN
  rw [e3, eN, Nat.testBit_or, Nat.testBit_two_pow, Bool.or_eq_true, decide_eq_true_iff]
  constructor
  · rintro (q | q)
    · exact Or.inl q
    · exact Or.inr q.symm
  · rintro (q | q)
    · exact Or.inl q
    · exact Or.inr q.symm
/-- the lines that are come to from the first on -/
def Rch (E : Nat → Prop) (d : Nat → Nat) (j : Nat) : Prop := ∀ S : Nat → Prop, S 0 → (∀ w : Nat, E w → S (w / 2) → S (d w)) → S j
def Cls (E : Nat → Prop) (d : Nat → Nat) (S : Nat → Prop) : Prop := ∀ w : Nat, E w → S (w / 2) → S (d w)
theorem Rch.zero {E : Nat → Prop} {d : Nat → Nat} : Rch E d 0 := fun S h0 _ => h0
theorem Rch.step {E : Nat → Prop} {d : Nat → Nat} {w : Nat} (h : E w) (r : Rch E d (w / 2)) : Rch E d (d w) := fun S h0 hs => hs w h (r S h0 hs)
theorem Rch.congr {E E' : Nat → Prop} {d d' : Nat → Nat} (hE : ∀ w, E w ↔ E' w) (hd : ∀ w, E w → d w = d' w) (j : Nat) : Rch E d j ↔ Rch E' d' j := by
  constructor
  · intro h
    exact h (Rch E' d') Rch.zero (fun w e s => by rw [hd w e]; exact Rch.step ((hE w).mp e) s)
  · intro h
    exact h (Rch E d) Rch.zero (fun w e s => by rw [← hd w ((hE w).mpr e)]; exact Rch.step ((hE w).mpr e) s)
def SwR (E : Nat → Prop) (d : Nat → Nat) (P S : Nat → Prop) (v : Int) : Prop := S 0 ∧ (∀ j, S j → Rch E d j) ∧ (∀ j, P j → S j) ∧ ∀ w : Nat, (w : Int) < v → E w → P (w / 2) → S (d w)
theorem SwR.init {E : Nat → Prop} {d : Nat → Nat} {P : Nat → Prop} (h0 : P 0) (h : ∀ j, P j → Rch E d j) : SwR E d P P 0 := ⟨h0, h, fun _ q => q, fun w hw => absurd hw (by omega)⟩
theorem SwR.no {E : Nat → Prop} {d : Nat → Nat} {P S : Nat → Prop} {v : Int} (h : SwR E d P S v) (hv : 0 ≤ v) (hn : E v.toNat → ¬ S (v.toNat / 2)) : SwR E d P S (v + 1) := by
  obtain ⟨h1, h2, h3, h4⟩ := h
  refine ⟨h1, h2, h3, fun w hw he hp => ?_⟩
  rcases (show (w : Int) < v ∨ w = v.toNat by omega) with q | q
  · exact h4 w q he hp
  · subst q
    exact absurd (h3 _ hp) (hn he)
theorem SwR.yes {E : Nat → Prop} {d : Nat → Nat} {P S S' : Nat → Prop} {v : Int} (h : SwR E d P S v) (hv : 0 ≤ v) (he : E v.toNat) (hs : S (v.toNat / 2)) (hS : ∀ j, S' j ↔ (S j ∨ j = d v.toNat)) : SwR E d P S' (v + 1) := by
  obtain ⟨h1, h2, h3, h4⟩ := h
  refine ⟨(hS 0).mpr (Or.inl h1), fun j hj => ?_, fun j hj => (hS j).mpr (Or.inl (h3 j hj)), fun w hw hew hp => ?_⟩
  · rcases (hS j).mp hj with q | q
    · exact h2 j q
    · rw [q]
      exact Rch.step he (h2 _ hs)
  · rcases (show (w : Int) < v ∨ w = v.toNat by omega) with q | q
    · exact (hS _).mpr (Or.inl (h4 w q hew hp))
    · subst q
      exact (hS _).mpr (Or.inr rfl)
theorem SwR.cls {E : Nat → Prop} {d : Nat → Nat} {P S : Nat → Prop} {m : Int} (h : SwR E d P S m) (hE : ∀ w : Nat, E w → (w : Int) < m) (hP : ∀ w : Nat, E w → S (w / 2) → P (w / 2)) : Cls E d S := fun w he hs => h.2.2.2 w (hE w he) he (hP w he hs)
/-- the reference's rounds: s the set, w what it was -/
def OuR (E : Nat → Prop) (d : Nat → Nat) (s w : Int) : Prop := bN s 0 ∧ (∀ j, bN s j → Rch E d j) ∧ (s = w → Cls E d (bN s))
theorem OuR.init {E : Nat → Prop} {d : Nat → Nat} : OuR E d 1 0 := ⟨bN_1.mpr rfl, fun j hj => by rw [bN_1.mp hj]; exact Rch.zero, fun q => absurd q (by decide)⟩
theorem OuR.step {E : Nat → Prop} {d : Nat → Nat} {s s' m : Int} (h : SwR E d (bN s) (bN s') m) (hE : ∀ w : Nat, E w → (w : Int) < m) : OuR E d s' s := ⟨h.1, h.2.1, fun q => h.cls hE (fun w _ hs => by rw [← q]; exact hs)⟩
theorem OuR.fin {E : Nat → Prop} {d : Nat → Nat} {s w : Int} (h : OuR E d s w) (e : s = w) (hs : 0 ≤ s ∧ s < 1048576) : BtI s (Rch E d) := (bN_I hs).iff (fun j _ => ⟨h.2.1 j, fun q => q (bN s) h.1 (h.2.2 e)⟩)
/-- the class's rounds -/
def OuC (E : Nat → Prop) (d : Nat → Nat) (s n r : Int) : Prop := bN s 0 ∧ (∀ j, bN s j → Rch E d j) ∧ (Cls E d (bN s) ∨ r + 1 ≤ tdN (bN s) n.toNat)
theorem OuC.init {E : Nat → Prop} {d : Nat → Nat} {n : Int} (hE : ∀ w : Nat, E w → ((w / 2 : Nat) : Int) < n) : OuC E d 1 n 0 := by
  refine ⟨bN_1.mpr rfl, fun j hj => by rw [bN_1.mp hj]; exact Rch.zero, ?_⟩
  by_cases c : 0 < n
  · right
    have h1 := tdN_lt (T := bN 1) (j := 0) (k := n.toNat) (by omega) (bN_1.mpr rfl)
    exact h1
  · left
    intro w he
    have := hE w he
    omega
theorem OuC.step {E : Nat → Prop} {d : Nat → Nat} {s s' n r m : Int} (h : OuC E d s n r) (hw : SwR E d (bN s) (bN s') m) (hE : ∀ w : Nat, E w → (w : Int) < m) (hL : ∀ w : Nat, E w → ((w / 2 : Nat) : Int) < n) : OuC E d s' n (r + 1) := by
  refine ⟨hw.1, hw.2.1, ?_⟩
  rcases h.2.2 with c | c
  · left
    exact hw.cls hE (fun w _ hs => hw.2.1 _ hs (bN s) h.1 c)
  · rcases Classical.em (∀ j : Nat, (j : Int) < n → bN s' j → bN s j) with q | q
    · left
      exact hw.cls hE (fun w he hs => q _ (hL w he) hs)
    · right
      obtain ⟨j, hj⟩ := Classical.not_forall.mp q
      obtain ⟨h1, h2⟩ := Classical.not_imp.mp hj
      obtain ⟨h3, h4⟩ := Classical.not_imp.mp h2
      have := tdN_strict h3 h4 n.toNat (by omega) (fun k _ => hw.2.2.1 k)
      omega
theorem OuC.fin {E : Nat → Prop} {d : Nat → Nat} {s n r : Int} (h : OuC E d s n r) (hn : 0 ≤ n) (e : r = n) (hs : 0 ≤ s ∧ s < 1048576) : BtI s (Rch E d) := by
  have c : Cls E d (bN s) := by
    rcases h.2.2 with c | c
    · exact c
    · have := tdN_ub (T := bN s) n.toNat
      omega
  exact (bN_I hs).iff (fun j _ => ⟨h.2.1 j, fun q => q (bN s) h.1 c⟩)
def gtF (p : Nat → Int) (x : Int) : Int := if x % 2 = 0 then p (20 * (x / 2) + 16).toNat else p (20 * (x / 2) + 18).toNat
theorem gtF_rg {p : Nat → Int} (hp : ProgOk p) {x : Int} (hx : 0 ≤ x ∧ x < 20) : 0 ≤ gtF p x ∧ gtF p x ≤ 9 := by
  have a := hp.1.pos (20 * (x / 2) + 16).toNat (by omega)
  have b := hp.1.le9 (20 * (x / 2) + 16).toNat (by omega)
  have c := hp.1.pos (20 * (x / 2) + 18).toNat (by omega)
  have d := hp.1.le9 (20 * (x / 2) + 18).toNat (by omega)
  unfold gtF
  split
  all_goals omega
theorem NRel.gt {g : Nat → Nat → Int} {p : Nat → Int} (h : NRel g p) {x : Int} (hx : 0 ≤ x ∧ x < 20) (hl : 0 < laidF p x) : g 6 x.toNat = gtF p x := by
  have t := laidF_told hl
  obtain ⟨l, hq⟩ : ∃ l : Int, l = x / 2 := ⟨_, rfl⟩
  unfold laidF at hl
  unfold gtF
  rw [← hq] at t hl ⊢
  rw [if_pos t] at hl
  have t1 : g 0 l.toNat ≠ -1 := by rcases h.td (l := l) (by omega) with ⟨q1, q2⟩ | ⟨q1, q2⟩ <;> omega
  obtain ⟨⟨x1, x14, xa, xb⟩, xj, x6, x7⟩ := h.row (x := l) (by omega) t1
  by_cases c : x % 2 = 0
  · rw [if_pos c] at hl ⊢
    rw [show x.toNat = (2 * l).toNat by omega]
    rcases x6 with ⟨a1, a2, a3⟩ | ⟨a1, a2, a3, a4⟩
    · rw [if_neg (by omega)] at hl
      omega
    · exact a2.symm
  · rw [if_neg c] at hl ⊢
    rw [show x.toNat = (2 * l + 1).toNat by omega]
    rcases x7 with ⟨a1, a2, a3, a4⟩ | ⟨a1, a2, a3, a4, a5⟩
    · rw [if_neg (by omega)] at hl
      omega
    · exact a3.symm
def EW (p : Nat → Int) (o : Int) (w : Nat) : Prop := (w < 20 ∧ 0 < laidF p (w : Int)) ∧ (w : Int) ≠ o
def dW (p : Nat → Int) (w : Nat) : Nat := (gtF p (w : Int)).toNat
theorem EW.low {p : Nat → Int} {o n : Int} (hl : LN p n) {w : Nat} (h : EW p o w) : (w : Int) < 2 * n ∧ ((w / 2 : Nat) : Int) < n := by
  have q := laidF_low hl (x := (w : Int)) (by have := h.1.1; omega) h.1.2
  omega
/-! HANGING TOGETHER -/
/-- the lines that hang together with line a -/
def Uch (E : Nat → Prop) (d : Nat → Nat) (a j : Nat) : Prop := ∀ S : Nat → Prop, S a → (∀ w : Nat, E w → (S (w / 2) ∨ S (d w)) → S (w / 2) ∧ S (d w)) → S j
def Cl2 (E : Nat → Prop) (d : Nat → Nat) (S : Nat → Prop) : Prop := ∀ w : Nat, E w → (S (w / 2) ∨ S (d w)) → S (w / 2) ∧ S (d w)
theorem Uch.zero {E : Nat → Prop} {d : Nat → Nat} {a : Nat} : Uch E d a a := fun S h0 _ => h0
theorem Uch.cl {E : Nat → Prop} {d : Nat → Nat} {a : Nat} : Cl2 E d (Uch E d a) := fun w he h => by
  refine ⟨fun S h0 hs => ?_, fun S h0 hs => ?_⟩
  · rcases h with q | q
    · exact (hs w he (Or.inl (q S h0 hs))).1
    · exact (hs w he (Or.inr (q S h0 hs))).1
  · rcases h with q | q
    · exact (hs w he (Or.inl (q S h0 hs))).2
    · exact (hs w he (Or.inr (q S h0 hs))).2
def AllL (E : Nat → Prop) (d : Nat → Nat) (j : Nat) : Prop := ∃ w : Nat, E w ∧ (j = w / 2 ∨ j = d w)
theorem hang_iff {E : Nat → Prop} {d : Nat → Nat} {a : Nat} : (∀ w : Nat, E w → Uch E d a (w / 2)) ↔ ((∀ w : Nat, ¬ E w) ∨ ∀ j : Nat, (Uch E d a j ↔ AllL E d j)) := by
  constructor
  · intro h
    rcases Classical.em (∃ w : Nat, E w) with ⟨w0, e0⟩ | n
    · right
      have ha : AllL E d a := by
        rcases Classical.em (AllL E d a) with q | q
        · exact q
        · have z := h w0 e0 (fun j => j = a) rfl (fun w e s => by
            rcases s with s | s
            · exact absurd ⟨w, e, Or.inl s.symm⟩ q
            · exact absurd ⟨w, e, Or.inr s.symm⟩ q)
          exact absurd ⟨w0, e0, Or.inl z.symm⟩ q
      intro j
      constructor
      · intro u
        exact u (AllL E d) ha (fun w e _ => ⟨⟨w, e, Or.inl rfl⟩, ⟨w, e, Or.inr rfl⟩⟩)
      · rintro ⟨w, e, q | q⟩
        · rw [q]
          exact h w e
        · rw [q]
          exact (Uch.cl w e (Or.inl (h w e))).2
    · left
      exact fun w e => n ⟨w, e⟩
  · rintro (n | h) w e
    · exact absurd e (n w)
    · exact (h (w / 2)).mpr ⟨w, e, Or.inl rfl⟩
theorem Uch.congr {E E' : Nat → Prop} {d d' : Nat → Nat} {a : Nat} (hE : ∀ w, E w ↔ E' w) (hd : ∀ w, E w → d w = d' w) (j : Nat) : Uch E d a j ↔ Uch E' d' a j := by
  constructor
  · intro h
    exact h (Uch E' d' a) Uch.zero (fun w e s => by rw [hd w e] at s ⊢; exact Uch.cl w ((hE w).mp e) s)
  · intro h
    exact h (Uch E d a) Uch.zero (fun w e s => by rw [← hd w ((hE w).mpr e)] at s ⊢; exact Uch.cl w ((hE w).mpr e) s)
def Sw2 (E : Nat → Prop) (d : Nat → Nat) (a : Nat) (P S : Nat → Prop) (v : Int) : Prop := S a ∧ (∀ j, S j → Uch E d a j) ∧ (∀ j, P j → S j) ∧ ∀ w : Nat, (w : Int) < v → E w → (P (w / 2) ∨ P (d w)) → S (w / 2) ∧ S (d w)
theorem Sw2.init {E : Nat → Prop} {d : Nat → Nat} {a : Nat} {P : Nat → Prop} (h0 : P a) (h : ∀ j, P j → Uch E d a j) : Sw2 E d a P P 0 := ⟨h0, h, fun _ q => q, fun w hw => absurd hw (by omega)⟩
theorem Sw2.no {E : Nat → Prop} {d : Nat → Nat} {a : Nat} {P S : Nat → Prop} {v : Int} (h : Sw2 E d a P S v) (hv : 0 ≤ v) (hn : E v.toNat → ¬ (S (v.toNat / 2) ∨ S (d v.toNat))) : Sw2 E d a P S (v + 1) := by
  obtain ⟨h1, h2, h3, h4⟩ := h
  refine ⟨h1, h2, h3, fun w hw he hp => ?_⟩
  rcases (show (w : Int) < v ∨ w = v.toNat by omega) with q | q
  · exact h4 w q he hp
  · subst q
    exact absurd (hp.imp (h3 _) (h3 _)) (hn he)
theorem Sw2.yes {E : Nat → Prop} {d : Nat → Nat} {a : Nat} {P S S' : Nat → Prop} {v : Int} (h : Sw2 E d a P S v) (hv : 0 ≤ v) (he : E v.toNat) (hs : S (v.toNat / 2) ∨ S (d v.toNat)) (hS : ∀ j, S' j ↔ (S j ∨ (j = v.toNat / 2 ∨ j = d v.toNat))) : Sw2 E d a P S' (v + 1) := by
  obtain ⟨h1, h2, h3, h4⟩ := h
  have hu := Uch.cl v.toNat he (hs.imp (h2 _) (h2 _))
  refine ⟨(hS a).mpr (Or.inl h1), fun j hj => ?_, fun j hj => (hS j).mpr (Or.inl (h3 j hj)), fun w hw hew hp => ?_⟩
  · rcases (hS j).mp hj with q | q | q
    · exact h2 j q
    · rw [q]
      exact hu.1
    · rw [q]
      exact hu.2
  · rcases (show (w : Int) < v ∨ w = v.toNat by omega) with q | q
    · have z := h4 w q hew hp
      exact ⟨(hS _).mpr (Or.inl z.1), (hS _).mpr (Or.inl z.2)⟩
    · subst q
      exact ⟨(hS _).mpr (Or.inr (Or.inl rfl)), (hS _).mpr (Or.inr (Or.inr rfl))⟩
theorem Sw2.cls {E : Nat → Prop} {d : Nat → Nat} {a : Nat} {P S : Nat → Prop} {m : Int} (h : Sw2 E d a P S m) (hE : ∀ w : Nat, E w → (w : Int) < m) (hP : ∀ w : Nat, E w → (S (w / 2) → P (w / 2)) ∧ (S (d w) → P (d w))) : Cl2 E d S := fun w he hs => h.2.2.2 w (hE w he) he (hs.imp (hP w he).1 (hP w he).2)
/-- the reference's rounds -/
def OuR2 (E : Nat → Prop) (d : Nat → Nat) (a : Nat) (s w : Int) : Prop := bN s a ∧ (∀ j, bN s j → Uch E d a j) ∧ (s = w → Cl2 E d (bN s))
theorem OuR2.init {E : Nat → Prop} {d : Nat → Nat} {a : Nat} {s : Int} (hs : ∀ j, bN s j ↔ j = a) (h0 : s ≠ 0) : OuR2 E d a s 0 := ⟨(hs a).mpr rfl, fun j hj => by rw [(hs j).mp hj]; exact Uch.zero, fun q => absurd q h0⟩
theorem OuR2.step {E : Nat → Prop} {d : Nat → Nat} {a : Nat} {s s' m : Int} (h : Sw2 E d a (bN s) (bN s') m) (hE : ∀ w : Nat, E w → (w : Int) < m) : OuR2 E d a s' s := ⟨h.1, h.2.1, fun q => h.cls hE (fun w _ => ⟨fun hs => by rw [← q]; exact hs, fun hs => by rw [← q]; exact hs⟩)⟩
theorem OuR2.fin {E : Nat → Prop} {d : Nat → Nat} {a : Nat} {s w : Int} (h : OuR2 E d a s w) (e : s = w) (hs : 0 ≤ s ∧ s < 1048576) : BtI s (Uch E d a) := (bN_I hs).iff (fun j _ => ⟨h.2.1 j, fun q => q (bN s) h.1 (h.2.2 e)⟩)
/-- the class's rounds -/
def OuC2 (E : Nat → Prop) (d : Nat → Nat) (a : Nat) (s n r : Int) : Prop := bN s a ∧ (∀ j, bN s j → Uch E d a j) ∧ (Cl2 E d (bN s) ∨ r + 1 ≤ tdN (bN s) n.toNat)
theorem OuC2.init {E : Nat → Prop} {d : Nat → Nat} {a : Nat} {n s : Int} (hs : ∀ j, bN s j ↔ j = a) (ha : (a : Int) < n ∨ ∀ w, ¬ E w) : OuC2 E d a s n 0 := by
  refine ⟨(hs a).mpr rfl, fun j hj => by rw [(hs j).mp hj]; exact Uch.zero, ?_⟩
  rcases ha with c | c
  · right
    have h1 := tdN_lt (T := bN s) (j := a) (k := n.toNat) (by omega) ((hs a).mpr rfl)
    have h2 := tdN_le (T := bN s) (j := 0) a
    have h3 : tdN (bN s) 0 = 0 := rfl
    rw [Nat.zero_add] at h2
    omega
  · left
    exact fun w he => absurd he (c w)
theorem OuC2.step {E : Nat → Prop} {d : Nat → Nat} {a : Nat} {s s' n r m : Int} (h : OuC2 E d a s n r) (hw : Sw2 E d a (bN s) (bN s') m) (hE : ∀ w : Nat, E w → (w : Int) < m) (hL : ∀ w : Nat, E w → ((w / 2 : Nat) : Int) < n ∧ ((d w : Nat) : Int) < n) : OuC2 E d a s' n (r + 1) := by
  refine ⟨hw.1, hw.2.1, ?_⟩
  rcases h.2.2 with c | c
  · left
    exact hw.cls hE (fun w _ => ⟨fun hs => hw.2.1 _ hs (bN s) h.1 c, fun hs => hw.2.1 _ hs (bN s) h.1 c⟩)
  · rcases Classical.em (∀ j : Nat, (j : Int) < n → bN s' j → bN s j) with q | q
    · left
      exact hw.cls hE (fun w he => ⟨fun hs => q _ (hL w he).1 hs, fun hs => q _ (hL w he).2 hs⟩)
    · right
      obtain ⟨j, hj⟩ := Classical.not_forall.mp q
      obtain ⟨h1, h2⟩ := Classical.not_imp.mp hj
      obtain ⟨h3, h4⟩ := Classical.not_imp.mp h2
      have := tdN_strict h3 h4 n.toNat (by omega) (fun k _ => hw.2.2.1 k)
      omega
theorem OuC2.fin {E : Nat → Prop} {d : Nat → Nat} {a : Nat} {s n r : Int} (h : OuC2 E d a s n r) (hn : 0 ≤ n) (e : r = n) (hs : 0 ≤ s ∧ s < 1048576) : BtI s (Uch E d a) := by
  have c : Cl2 E d (bN s) := by
    rcases h.2.2 with c | c
    · exact c
    · have := tdN_ub (T := bN s) n.toNat
      omega
  exact (bN_I hs).iff (fun j _ => ⟨h.2.1 j, fun q => q (bN s) h.1 c⟩)
theorem an_e {n m : Nat} (hn : n < 2147483648) (hm : m < 2147483648) : (zI (n : Int) &&& zI (m : Int)) = zI ((n &&& m : Nat) : Int) := by
  apply Int32.toBitVec.inj
  apply BitVec.eq_of_toNat_eq
  show ((zI (n : Int)).toBitVec &&& (zI (m : Int)).toBitVec).toNat = _
  rw [BitVec.toNat_and, bt_bv hn, bt_bv hm]
  exact (bt_bv (Nat.lt_of_le_of_lt Nat.and_le_left hn)).symm
/-- sums -/
def sumN (f : Nat → Int) : Nat → Int
  | 0 => 0
  | k + 1 => sumN f k + f k
theorem sumN_congr {f g : Nat → Int} : ∀ n : Nat, (∀ k, k < n → f k = g k) → sumN f n = sumN g n
  | 0, _ => rfl
  | n + 1, h => by
    show sumN f n + f n = sumN g n + g n
    rw [sumN_congr n (fun k hk => h k (by omega)), h n (by omega)]
theorem sumN_tail {f : Nat → Int} {n : Nat} : ∀ d : Nat, (∀ k, n ≤ k → k < n + d → f k = 0) → sumN f (n + d) = sumN f n
  | 0, _ => rfl
  | d + 1, h => by
    show sumN f (n + d) + f (n + d) = _
    rw [sumN_tail d (fun k h1 h2 => h k h1 (by omega)), h (n + d) (by omega) (by omega)]
    exact Int.add_zero _
theorem sumN_step {f : Nat → Int} {s v : Int} (hv : 0 ≤ v) (h : s = sumN f v.toNat) {c : Int} (hc : c = f v.toNat) : s + c = sumN f (v + 1).toNat := by
  rw [show (v + 1).toNat = v.toNat + 1 by omega, h, hc]
  rfl
/-! DEGREES -/
theorem sumN_add {f g : Nat → Int} : ∀ n : Nat, sumN (fun k => f k + g k) n = sumN f n + sumN g n
  | 0 => rfl
  | n + 1 => by
    have h := sumN_add (f := f) (g := g) n
    have e1 : sumN (fun k => f k + g k) (n + 1) = sumN (fun k => f k + g k) n + (f n + g n) := rfl
    have e2 : sumN f (n + 1) = sumN f n + f n := rfl
    have e3 : sumN g (n + 1) = sumN g n + g n := rfl
    omega
theorem sumN_zero : ∀ n : Nat, sumN (fun _ => 0) n = 0
  | 0 => rfl
  | n + 1 => by
    have h := sumN_zero n
    have e1 : sumN (fun _ => 0) (n + 1) = sumN (fun _ => 0) n + 0 := rfl
    omega
/-- ways out of a line, less those into it -/
def dgS (d : Nat → Nat) (r : Nat → Int) (m v : Nat) : Int := sumN (fun w => (if w / 2 = v then r w else 0) + (if d w = v then - r w else 0)) m
/-! LEADS LIE BELOW THE NUMBER OF LINES -/
def DN (p : Nat → Int) (n : Int) : Prop := ∀ l : Nat, l < 10 → (p (20 * l) = 0 → p (20 * l + 14) = 0) ∧ (0 < p (20 * l + 14) → p (20 * l + 16) < n) ∧ (p (20 * l + 14) = 2 → p (20 * l + 18) < n)
theorem DN.e2 {p p' : Nat → Int} {n : Int} (h : DN p n) (e : E2 p p') : DN p' n := fun l hl => by
  rw [e (20 * l) (by omega), e (20 * l + 14) (by omega), e (20 * l + 16) (by omega), e (20 * l + 18) (by omega)]
  exact h l hl
theorem DN.merged {p : Nat → Int} {x w n : Int} (h : DN p n) (hx : x < n) : DN (mergeF p x w n) n := fun l hl => by
  have e0 : mergeF p x w n (20 * l) = mF p x w n l 0 := mergeF_at (o := 0) (by omega)
  rw [e0, mergeF_at (by omega), mergeF_at (by omega), mergeF_at (by omega)]
  by_cases c : (l : Int) = w
  · have z : ∀ o, mF p x w n l o = 0 := fun o => by rw [mF_no (fun q => q.1 c), mB_w c]
    rw [z 0, z 14, z 16, z 18]
    exact ⟨fun _ => rfl, fun q => absurd q (by decide), fun q => absurd q (by decide)⟩
  · have a0 : mF p x w n l 0 = p (20 * l) := mF_P c (Or.inl rfl)
    have a14 : mF p x w n l 14 = p (20 * l + 14) := mF_P c (by omega)
    have a16 : mF p x w n l 16 = x ∨ mF p x w n l 16 = p (20 * l + 16) := by
      by_cases d : (l : Int) ≠ w ∧ (l : Int) < n ∧ p (20 * l) ≠ 0 ∧ TgtP p l 16 ∧ p (20 * l + 16) = w
      · exact Or.inl (mF_yes d)
      · exact Or.inr (by rw [mF_no d, mB_P c (by omega) (by omega)])
    have a18 : mF p x w n l 18 = x ∨ mF p x w n l 18 = p (20 * l + 18) := by
      by_cases d : (l : Int) ≠ w ∧ (l : Int) < n ∧ p (20 * l) ≠ 0 ∧ TgtP p l 18 ∧ p (20 * l + 18) = w
      · exact Or.inl (mF_yes d)
      · exact Or.inr (by rw [mF_no d, mB_P c (by omega) (by omega)])
    obtain ⟨h1, h2, h3⟩ := h l hl
    rw [a0, a14]
    refine ⟨h1, fun q => ?_, fun q => ?_⟩
    · rcases a16 with z | z
      · omega
      · have := h2 q
        omega
    · rcases a18 with z | z
      · omega
      · have := h3 q
        omega
theorem goal_m {f : Nat → Int} {n m c : Int} {nm : Nat → Int} {a : (Int × Int × (Int × Int) × (Int × Int)) × Int} (h : goalS f n m nm c = .inr a) : (0 ≤ a.1.1 ∧ a.1.1 ≤ 2) ∧ (1 ≤ a.1.1 → a.1.2.2.1.1 < m) ∧ (a.1.1 = 2 → a.1.2.2.2.1 < m) := by
  unfold goalS at h
  split at h
  · cases h
    exact ⟨⟨(show (0 : Int) ≤ 0 by decide), (show (0 : Int) ≤ 2 by decide)⟩, fun q => absurd (show (1 : Int) ≤ 0 from q) (by decide), fun q => absurd (show (0 : Int) = 2 from q) (by decide)⟩
  · split at h
    · obtain ⟨x, h1, h2⟩ := bnd_inv h
      cases h2
      have q := way_rg h1
      exact ⟨⟨(show (0 : Int) ≤ 1 by decide), (show (1 : Int) ≤ 2 by decide)⟩, fun _ => q.1.2, fun z => absurd (show (1 : Int) = 2 from z) (by decide)⟩
    · split at h
      · obtain ⟨x, h1, h2⟩ := bnd_inv h
        obtain ⟨y, h3, h4⟩ := bnd_inv h2
        obtain ⟨z, h5, h6⟩ := bnd_inv h4
        obtain ⟨u, h7, h8⟩ := bnd_inv h6
        obtain ⟨v, h9, h10⟩ := bnd_inv h8
        cases h10
        have q2 := way_rg h5
        have q3 := way_rg h9
        exact ⟨⟨(show (0 : Int) ≤ 2 by decide), (show (2 : Int) ≤ 2 by decide)⟩, fun _ => q2.1.2, fun _ => q3.1.2⟩
      · cases h
theorem line_m {f : Nat → Int} {n m c : Int} {nm td : Nat → Int} {a : (Int × (Int × (Nat → Int) × (Nat → Int) × (Nat → Int)) × (Int × Int × (Int × Int) × (Int × Int))) × Int} (h : lineS f n m nm td c = .inr a) : (0 ≤ a.1.2.2.1 ∧ a.1.2.2.1 ≤ 2) ∧ (1 ≤ a.1.2.2.1 → a.1.2.2.2.2.1.1 < m) ∧ (a.1.2.2.1 = 2 → a.1.2.2.2.2.2.1 < m) := by
  unfold lineS at h
  split at h
  · cases h
  · obtain ⟨x, h1, h2⟩ := bnd_inv h
    split at h2
    · obtain ⟨y, h3, h4⟩ := bnd_inv h2
      obtain ⟨z, h5, h6⟩ := bnd_inv h4
      obtain ⟨w, h7, h8⟩ := bnd_inv h6
      cases h8
      have q := goal_m h7
      exact q
    · cases h2
theorem actsPut_14 {P K T V : Nat → Int} {x : Int} {j : Nat} (hx : 0 ≤ x) (hj : 14 ≤ j) : ∀ r : Nat, r ≤ 4 → actsPut P x K T V r (x.toNat + j) = P (x.toNat + j)
  | 0, _ => rfl
  | r + 1, hr => by
    have h := actsPut_14 (P := P) (K := K) (T := T) (V := V) hx hj r (by omega)
    show actPut (actsPut P x K T V r) (x + 2 + 3 * (r : Int)) (K r) (T r) (V r) (x.toNat + j) = _
    unfold actPut
    repeat' split
    all_goals repeat rw [uZ_nk _ _ (by omega)]
    all_goals exact h
theorem DN.line {P K T V : Nat → Int} {x cnt go ask l0 v0 l1 v1 n : Int} (h : DN P n) (hx : 0 ≤ x ∧ x < 10) (hu : P (20 * x.toNat) = 0) (hc : 0 ≤ cnt ∧ cnt ≤ 4) (hg : 0 ≤ go ∧ go ≤ 2) (h0 : 1 ≤ go → l0 < n) (h1 : go = 2 → l1 < n) : DN (linePut P x cnt K T V go ask l0 v0 l1 v1) n := fun l hl => by
  by_cases q : (l : Int) = x
  · obtain ⟨Q, hQ⟩ : ∃ Q : Nat → Int, Q = if cnt = 0 then P else uZ (actsPut P (20 * x) K T V cnt.toNat) (20 * x + 1).toNat cnt := ⟨_, rfl⟩
    have e20 : (20 * x).toNat = 20 * l := by omega
    have hQ14 : Q ((20 * x).toNat + 14) = 0 := by
      have z : P ((20 * x).toNat + 14) = 0 := by
        rw [e20]
        exact (h l hl).1 (by rw [show l = x.toNat by omega]; exact hu)
      rw [hQ]
      split
      · exact z
      · rw [uZ_nk _ _ (by omega), actsPut_14 (by omega) (by omega) _ (by omega)]
        exact z
    obtain ⟨b1, b2, b3⟩ := goalPut_at (P := Q) (x := 20 * x) (go := go) (ask := ask) (l0 := l0) (v0 := v0) (l1 := l1) (v1 := v1) (by omega) hg hQ14
    rw [e20] at b1 b2 b3
    have eP : linePut P x cnt K T V go ask l0 v0 l1 v1 = uZ (goalPut Q (20 * x) go ask l0 v0 l1 v1) (20 * l) 1 := by
      rw [hQ, show 20 * l = (20 * x + 0).toNat by omega]
      rfl
    rw [eP, uZ_eq, uZ_nk _ _ (by omega), uZ_nk _ _ (by omega), uZ_nk _ _ (by omega), b1]
    refine ⟨fun z => absurd z (by decide), fun z => ?_, fun z => ?_⟩
    · rw [(b2 (by omega)).1]
      exact h0 (by omega)
    · rw [(b3 z).2.1]
      exact h1 z
  · rw [linePut_out hx.1 hc (by omega), linePut_out hx.1 hc (by omega), linePut_out hx.1 hc (by omega), linePut_out hx.1 hc (by omega)]
    exact h l hl
theorem DN_step {f : Nat → Int} {n : Int} {s : RSt} {c : Int} {a : RSt × Int} (h0 : 0 ≤ s.1.1 ∧ s.1.1 ≤ 10) (hl : LN s.2.1 s.1.1) (hd : DN s.2.1 s.1.1) (h : stepS f n s c = .inr a) : DN a.1.2.1 a.1.1.1 := by
  unfold stepS at h
  by_cases k0 : tKd f n c = 0
  · rw [if_pos k0] at h
    obtain ⟨x, h1, h2⟩ := bnd_inv h
    cases h2
    unfold prgS at h1
    by_cases z : 0 < s.1.1
    · rw [if_pos z] at h1
      cases h1
    · intro l hl2
      have q0 : s.2.1 (20 * l) = 0 := hl l hl2 (by omega)
      have q1 : s.2.1 (20 * l + 14) = 0 := (hd l hl2).1 q0
      exact ⟨fun _ => q1, fun q => absurd (show 0 < s.2.1 (20 * l + 14) from q) (by omega), fun q => absurd (show s.2.1 (20 * l + 14) = 2 from q) (by omega)⟩
  rw [if_neg k0] at h
  by_cases k1 : tKd f n c = 1
  · rw [if_pos k1] at h
    obtain ⟨x, h1, h2⟩ := bnd_inv h
    have hlr := line_rg h0.2 h1
    have hlm := line_m h1
    cases h2
    exact hd.line ⟨hlr.1.1.1, by have q2 := hlr.1.1.2; have q3 := h0.2; omega⟩ hlr.1.2 hlr.2.1.1 hlm.1 hlm.2.1 hlm.2.2
  rw [if_neg k1] at h
  by_cases k2 : tKd f n c = 2
  · rw [if_pos k2] at h
    obtain ⟨x, h1, h2⟩ := bnd_inv h
    cases h2
    exact hd
  · rw [if_neg k2] at h
    cases h
theorem DN_read {f : Nat → Int} {n : Int} : ∀ (r : Nat) (s : RSt) (c : Int) (b : RSt), (0 ≤ s.1.1 ∧ s.1.1 ≤ 10) → LN s.2.1 s.1.1 → DN s.2.1 s.1.1 → readS f n r s c = .inr b → DN b.2.1 b.1.1
  | 0, _, _, _, _, _, _, h => by
    unfold readS at h
    cases h
  | r + 1, s, c, b, h0, hl, hd, h => by
    unfold readS at h
    obtain ⟨a, h1, h2⟩ := bnd_inv h
    obtain ⟨q1, q2⟩ := LN_step h0 hl h1
    have q3 := DN_step h0 hl hd h1
    unfold tailS at h2
    by_cases k : tKd f n a.2 = 21
    · rw [if_pos k] at h2
      exact DN_read r _ _ _ q2 q1 q3 h2
    · rw [if_neg k] at h2
      by_cases k2 : tKd f n a.2 = 24
      · rw [if_pos k2] at h2
        by_cases k3 : a.1.1.1 = 0
        · rw [if_pos k3] at h2
          cases h2
        · rw [if_neg k3] at h2
          cases h2
          exact q3
      · rw [if_neg k2] at h2
        cases h2
theorem Chain.dn {k n : Int} : ∀ (m : Nat) {p q : Nat → Int}, DN p n → Chain k n m p q → DN q n
  | 0, _, _, hl, h => by
    have e : _ = _ := h
    rw [e]
    exact hl
  | m + 1, _, _, hl, ⟨r, h1, x, w, h2, h3⟩ => by
    have b := Chain.dn m hl h1
    have hx := h2.1
    rw [h3]
    exact b.merged (by omega)
/-! EVEN -/
theorem bN_0 {j : Nat} : ¬ bN 0 j := by
  unfold bN
  show ¬ Nat.testBit 0 j = true
  rw [Nat.zero_testBit]
  decide
theorem bN_ext {x y : Int} (hx : 0 ≤ x) (hy : 0 ≤ y) (h : ∀ j, bN x j ↔ bN y j) : x = y := by
  have e : x.toNat = y.toNat := Nat.eq_of_testBit_eq (fun j => Bool.eq_iff_iff.mpr (h j))
  omega
theorem sh_n {x : Int} (hx : 0 ≤ x ∧ x < 10) : ∃ z : Int, (zI 1 <<< (zI x &&& 31)) = zI z ∧ (1 ≤ z ∧ z < 1024) ∧ ∀ j : Nat, bN z j ↔ j = x.toNat := by
  obtain ⟨z, e, h1, h2⟩ := or_b (x := 0) (k := x) (by omega) hx
  have h3 : ∀ j : Nat, bN z j ↔ j = x.toNat := fun j => (h2 j).trans ⟨fun q => q.elim (fun q => absurd q bN_0) (fun q => q), Or.inr⟩
  refine ⟨z, ?_, ⟨?_, h1.2⟩, h3⟩
  · rw [← e, show zI 0 = (0 : Int32) from rfl]
    exact Int32.zero_or.symm
  · rcases (show z = 0 ∨ 1 ≤ z by omega) with q | q
    · rw [q] at h3
      exact absurd ((h3 x.toNat).mpr rfl) bN_0
    · exact q
theorem or_n {x y : Int} (hx : 0 ≤ x ∧ x < 1024) (hy : 0 ≤ y ∧ y < 1024) : ∃ z : Int, (zI x ||| zI y) = zI z ∧ (x ≤ z ∧ z < 1024) ∧ ∀ j : Nat, bN z j ↔ (bN x j ∨ bN y j) := by
  obtain ⟨n, rfl⟩ : ∃ n : Nat, x = n := ⟨x.toNat, by omega⟩
  obtain ⟨m, rfl⟩ : ∃ m : Nat, y = m := ⟨y.toNat, by omega⟩
  have hn : n < 1024 := by omega
  have hm : m < 1024 := by omega
  have ho : n ||| m < 1024 := Nat.or_lt_two_pow (n := 10) hn hm
  have hl : n ≤ n ||| m := Nat.left_le_or
  refine ⟨((n ||| m : Nat) : Int), ?_, by omega, fun j => ?_⟩
  · apply Int32.toBitVec.inj
    apply BitVec.eq_of_toNat_eq
    show ((zI (n : Int)).toBitVec ||| (zI (m : Int)).toBitVec).toNat = _
    rw [BitVec.toNat_or, bt_bv (Nat.lt_trans hn (by decide)), bt_bv (Nat.lt_trans hm (by decide)), bt_bv (Nat.lt_trans ho (by decide))]
  · show (n ||| m).testBit j = true ↔ (n.testBit j = true ∨ m.testBit j = true)
    rw [Nat.testBit_or, Bool.or_eq_true]
theorem an_n {x y : Int} (hx : 0 ≤ x ∧ x < 1024) (hy : 0 ≤ y ∧ y < 1024) : ∃ z : Int, (zI x &&& zI y) = zI z ∧ (0 ≤ z ∧ z < 1024) ∧ (z = 0 ↔ ∀ j : Nat, ¬ (bN x j ∧ bN y j)) := by
  obtain ⟨n, rfl⟩ : ∃ n : Nat, x = n := ⟨x.toNat, by omega⟩
  obtain ⟨m, rfl⟩ : ∃ m : Nat, y = m := ⟨y.toNat, by omega⟩
  have hl : n &&& m ≤ n := Nat.and_le_left
  refine ⟨((n &&& m : Nat) : Int), an_e (by omega) (by omega), by omega, fun q j => ?_, fun q => ?_⟩
  · have e : n &&& m = 0 := by omega
    show ¬ (n.testBit j = true ∧ m.testBit j = true)
    rw [← Bool.and_eq_true, ← Nat.testBit_and, e, Nat.zero_testBit]
    decide
  · have e : n &&& m = 0 := Nat.eq_of_testBit_eq (fun j => by
      have q1 : ¬ (n.testBit j = true ∧ m.testBit j = true) := q j
      rw [← Bool.and_eq_true, ← Nat.testBit_and] at q1
      cases h : (n &&& m).testBit j
      · exact (Nat.zero_testBit j).symm
      · exact absurd h q1)
    omega
theorem an_hit {x y z : Int} {a b : Nat} (h : z = 0 ↔ ∀ j : Nat, ¬ (bN x j ∧ bN y j)) (hb : ∀ j : Nat, bN y j ↔ (j = a ∨ j = b)) : ¬ z = 0 ↔ (bN x a ∨ bN x b) := by
  rw [h]
  constructor
  · intro q
    obtain ⟨j, hj⟩ := Classical.not_forall.mp q
    obtain ⟨h1, h2⟩ := Classical.not_not.mp hj
    rcases (hb j).mp h2 with e | e
    · exact Or.inl (e ▸ h1)
    · exact Or.inr (e ▸ h1)
  · rintro (q | q) k
    · exact k a ⟨q, (hb a).mpr (Or.inl rfl)⟩
    · exact k b ⟨q, (hb b).mpr (Or.inr rfl)⟩
theorem an_hit2 {x y z : Int} {a b : Nat} (h : z = 0 ↔ ∀ j : Nat, ¬ (bN y j ∧ bN x j)) (hb : ∀ j : Nat, bN y j ↔ (j = a ∨ j = b)) : ¬ z = 0 ↔ (bN x a ∨ bN x b) := an_hit (h.trans (forall_congr' (fun j => not_congr and_comm))) hb
theorem an_01 (y : Int32) : (y &&& zI 1) = zI 0 ∨ (y &&& zI 1) = zI 1 := by
  have e1 : (y &&& zI 1).toBitVec.toNat = y.toBitVec.toNat % 2 := by
    show (y.toBitVec &&& (zI 1).toBitVec).toNat = _
    rw [BitVec.toNat_and, show (zI 1).toBitVec.toNat = 1 by decide +kernel, Nat.and_one_is_mod]
  rcases Nat.mod_two_eq_zero_or_one y.toBitVec.toNat with q | q
  · left
    apply Int32.toBitVec.inj
    apply BitVec.eq_of_toNat_eq
    rw [e1, q]
    decide +kernel
  · right
    apply Int32.toBitVec.inj
    apply BitVec.eq_of_toNat_eq
    rw [e1, q]
    decide +kernel
theorem bt_01 {v x : Int} {c : Nat → Prop} (h : BtI v c) (hx : 0 ≤ x ∧ x < 20) : ∃ z : Int, ((zI v >>> (zI x &&& 31)) &&& zI 1) = zI z ∧ (0 ≤ z ∧ z ≤ 1) ∧ (z = 1 ↔ c x.toNat) := by
  have h1 := bt_tst h hx
  generalize (zI v >>> (zI x &&& 31)) = y at h1 ⊢
  rcases an_01 y with e | e
  · refine ⟨0, e, by omega, fun q => absurd q (by decide), fun q => ?_⟩
    have q2 := h1.mpr q
    rw [e] at q2
    exact absurd q2 (by decide +kernel)
  · exact ⟨1, e, by omega, fun _ => h1.mp e, fun _ => rfl⟩
/-- the ways of which something is left -/
def EL (r : Nat → Int) (w : Nat) : Prop := w < 20 ∧ 0 < r w
def lF (p : Nat → Int) (w : Nat) : Int := laidF p (w : Int)
theorem EL_congr {r r' : Nat → Int} (h : ∀ w, w < 20 → r w = r' w) : EL r = EL r' := funext fun w => propext ⟨fun q => ⟨q.1, by rw [← h w q.1]; exact q.2⟩, fun q => ⟨q.1, by rw [h w q.1]; exact q.2⟩⟩
theorem DN.gt {p : Nat → Int} {n : Int} (hd : DN p n) {x : Int} (hx : 0 ≤ x ∧ x < 20) (hl : 0 < laidF p x) : gtF p x < n := by
  obtain ⟨h1, h2, h3⟩ := hd (x / 2).toNat (by omega)
  rw [show 20 * (x / 2).toNat + 14 = (20 * (x / 2) + 14).toNat by omega] at h2 h3
  rw [show 20 * (x / 2).toNat + 16 = (20 * (x / 2) + 16).toNat by omega] at h2
  rw [show 20 * (x / 2).toNat + 18 = (20 * (x / 2) + 18).toNat by omega] at h3
  clear h1
  unfold laidF at hl
  unfold gtF
  by_cases c : x % 2 = 0
  · rw [if_pos c] at hl ⊢
    refine h2 ?_
    repeat' split at hl
    all_goals omega
  · rw [if_neg c] at hl ⊢
    refine h3 ?_
    repeat' split at hl
    all_goals omega
/-- what is left is of what is laid -/
def Rst (p r : Nat → Int) : Prop := ∀ w : Nat, w < 20 → 0 ≤ r w ∧ r w ≤ laidF p (w : Int)
theorem Rst.lows {p r : Nat → Int} {n : Int} (hW : Rst p r) (hp : ProgOk p) (hl : LN p n) (hd : DN p n) {w : Nat} (h : EL r w) : ((w / 2 : Nat) : Int) < n ∧ ((dW p w : Nat) : Int) < n := by
  have q : 0 < laidF p (w : Int) := by
    have h1 := (hW w h.1).2
    have h2 := h.2
    omega
  have hw := h.1
  have h3 := laidF_low hl (x := (w : Int)) (by omega) q
  have h4 := hd.gt (x := (w : Int)) (by omega) q
  have h5 := gtF_rg hp (x := (w : Int)) (by omega)
  unfold dW
  omega
theorem Rst.low {p r : Nat → Int} {n : Int} (hW : Rst p r) (hl : LN p n) {w : Nat} (h : EL r w) : (w : Int) < 2 * n := by
  have h1 := (hW w h.1).2
  have h2 := h.2
  have hw := h.1
  exact laidF_low hl (x := (w : Int)) (by omega) (by omega)
theorem Rst.far {p r : Nat → Int} {n : Int} (hW : Rst p r) (hl : LN p n) {w : Nat} (hw : w < 20) (h : 2 * n ≤ (w : Int)) : r w = 0 := by
  have h1 := hW w hw
  rcases (show r w = 0 ∨ 0 < r w by omega) with q | q
  · exact q
  · have := hW.low hl (w := w) ⟨hw, q⟩
    omega
theorem NRel.rst {g : Nat → Nat → Int} {p : Nat → Int} (h : NRel g p) (hp : ProgOk p) : (∀ w, w < 20 → g 7 w = lF p w) ∧ Rst p (g 7) := by
  have e : ∀ w, w < 20 → g 7 w = lF p w := fun w hw => by
    have a := h.laid (x := (w : Int)) (by omega)
    rw [show ((w : Int)).toNat = w by omega] at a
    exact a
  refine ⟨e, fun w hw => ?_⟩
  have a := e w hw
  have b := laidF_rg hp (x := (w : Int)) (by omega)
  unfold lF at a
  omega
theorem OuC2.all {E : Nat → Prop} {d : Nat → Nat} {a : Nat} {s n r : Int} (h : OuC2 E d a s n r) (hn : 0 ≤ n) (e : r = n) : ∀ j, bN s j ↔ Uch E d a j := by
  have c : Cl2 E d (bN s) := by
    rcases h.2.2 with c | c
    · exact c
    · have := tdN_ub (T := bN s) n.toNat
      omega
  exact fun j => ⟨h.2.1 j, fun q => q (bN s) h.1 c⟩
theorem OuR2.all {E : Nat → Prop} {d : Nat → Nat} {a : Nat} {s w : Int} (h : OuR2 E d a s w) (e : s = w) : ∀ j, bN s j ↔ Uch E d a j := fun j => ⟨h.2.1 j, fun q => q (bN s) h.1 (h.2.2 e)⟩
theorem tdN_none {T : Nat → Prop} : ∀ n : Nat, (∀ k, k < n → ¬ T k) → tdN T n = 0
  | 0, _ => rfl
  | n + 1, h => by
    rw [tdN_n (h n (by omega))]
    exact tdN_none n (fun k hk => h k (by omega))
theorem tdN_one {T : Nat → Prop} {f : Nat} : ∀ n : Nat, (f < n ∧ T f → tdN (fun k => T k ∧ k = f) n = 1) ∧ (¬ (f < n ∧ T f) → tdN (fun k => T k ∧ k = f) n = 0)
  | 0 => ⟨fun q => absurd q.1 (by omega), fun _ => rfl⟩
  | n + 1 => by
    obtain ⟨h1, h2⟩ := tdN_one (T := T) (f := f) n
    rcases Classical.em (T n ∧ n = f) with c | c
    · rw [tdN_y (T := fun k => T k ∧ k = f) c]
      obtain ⟨c1, c2⟩ := c
      subst c2
      have h3 := h2 (fun q => absurd q.1 (by omega))
      exact ⟨fun _ => by omega, fun q => absurd ⟨by omega, c1⟩ q⟩
    · rw [tdN_n (T := fun k => T k ∧ k = f) c]
      refine ⟨fun q => h1 ⟨?_, q.2⟩, fun q => h2 (fun q2 => q ⟨by have := q2.1; omega, q2.2⟩)⟩
      rcases (show f < n ∨ n = f by have := q.1; omega) with e | e
      · exact e
      · subst e
        exact absurd ⟨q.2, rfl⟩ c
/-- the degrees let all be gone through from line f on -/
def DgF (G : Nat → Int) (n f : Nat) : Prop := (∀ k, k < n → G k = 0 ∨ (G k = 1 ∧ k = f) ∨ G k = -1) ∧ tdN (fun k => G k = 1 ∧ k = f) n = tdN (fun k => G k = -1) n ∧ tdN (fun k => G k = 1 ∧ k = f) n ≤ 1
def EvF (p r : Nat → Int) (n f : Nat) : Prop := (∀ w, EL r w → Uch (EL r) (dW p) f (w / 2)) ∧ DgF (dgS (dW p) r 20) n f
def dgT (d : Nat → Nat) (r : Nat → Int) (v w : Nat) : Int := (if w / 2 = v then r w else 0) + (if d w = v then - r w else 0)
theorem dgS_e {d : Nat → Nat} {r : Nat → Int} {m v : Nat} : dgS d r m v = sumN (dgT d r v) m := rfl
theorem dgT_0 {d : Nat → Nat} {r : Nat → Int} {v w : Nat} (h : r w = 0) : dgT d r v w = 0 := by
  unfold dgT
  rw [h]
  repeat' split
  all_goals rfl
theorem dgS_2n {p r : Nat → Int} {n : Int} {d : Nat → Nat} {v : Nat} (hn : 0 ≤ n ∧ n ≤ 10) (hW : Rst p r) (hl : LN p n) : sumN (dgT d r v) (2 * n).toNat = dgS d r 20 v := by
  have q := sumN_tail (f := dgT d r v) (n := (2 * n).toNat) (20 - (2 * n).toNat) (fun k h1 h2 => dgT_0 (hW.far hl (by omega) (by omega)))
  rw [show (2 * n).toNat + (20 - (2 * n).toNat) = 20 by omega] at q
  exact q.symm
theorem dgS_far {p r : Nat → Int} {n : Int} {v : Nat} (hp : ProgOk p) (hW : Rst p r) (hl : LN p n) (hd : DN p n) (hv : n ≤ (v : Int)) : dgS (dW p) r 20 v = 0 := by
  rw [dgS_e]
  refine (sumN_congr 20 (fun k hk => ?_)).trans (sumN_zero 20)
  by_cases c : r k = 0
  · exact dgT_0 c
  · have h1 := hW k hk
    obtain ⟨h2, h3⟩ := hW.lows hp hl hd (w := k) ⟨hk, by omega⟩
    unfold dgT
    rw [if_neg (by omega), if_neg (by omega)]
    rfl
theorem dgS_none {d : Nat → Nat} {r : Nat → Int} {v : Nat} (h : ∀ w, w < 20 → r w = 0) : dgS d r 20 v = 0 := by
  rw [dgS_e]
  exact (sumN_congr 20 (fun k hk => dgT_0 (h k hk))).trans (sumN_zero 20)
theorem EvF.none {p r : Nat → Int} {n f : Nat} (hW : ∀ w, w < 20 → 0 ≤ r w) (h : ∀ w, ¬ EL r w) : EvF p r n f := by
  have z : ∀ k, dgS (dW p) r 20 k = 0 := fun k => dgS_none (fun w hw => by
    have h1 := hW w hw
    have h2 : ¬ 0 < r w := fun q => h w ⟨hw, q⟩
    omega)
  have t1 : tdN (fun k => dgS (dW p) r 20 k = 1 ∧ k = f) n = 0 := tdN_none n (fun k _ (q : dgS (dW p) r 20 k = 1 ∧ k = f) => by have := z k; have := q.1; omega)
  refine ⟨fun w he => absurd he (h w), fun k _ => Or.inl (z k), ?_, ?_⟩
  · rw [t1, tdN_none (T := fun k => dgS (dW p) r 20 k = -1) n (fun k _ (q : dgS (dW p) r 20 k = -1) => by have := z k; omega)]
  · rw [t1]
    decide
theorem DgF.no {G : Nat → Int} {n f k : Nat} (hk : k < n) (h : ¬ (G k = 0 ∨ (G k = 1 ∧ k = f) ∨ G k = -1)) : ¬ DgF G n f := fun q => h (q.1 k hk)
/-- the reference's count -/
def DgI (G : Nat → Int) (f : Nat) (a b v : Int) : Prop := (∀ k : Nat, (k : Int) < v → G k = 0 ∨ (G k = 1 ∧ k = f) ∨ G k = -1) ∧ a = tdN (fun k => G k = 1 ∧ k = f) v.toNat ∧ b = tdN (fun k => G k = -1) v.toNat
theorem DgI.init {G : Nat → Int} {f : Nat} : DgI G f 0 0 0 := ⟨fun k hk => absurd hk (by omega), rfl, rfl⟩
theorem DgI.step {G : Nat → Int} {f : Nat} {a b a' b' v : Int} (h : DgI G f a b v) (hv : 0 ≤ v) (hc : (G v.toNat = 0 ∧ a' = a ∧ b' = b) ∨ ((G v.toNat = 1 ∧ v.toNat = f) ∧ a' = a + 1 ∧ b' = b) ∨ (G v.toNat = -1 ∧ a' = a ∧ b' = b + 1)) : DgI G f a' b' (v + 1) := by
  obtain ⟨h1, h2, h3⟩ := h
  refine ⟨fun k hk => ?_, ?_, ?_⟩
  · rcases (show (k : Int) < v ∨ k = v.toNat by omega) with q | q
    · exact h1 k q
    · rw [q]
      rcases hc with c | c | c
      · exact Or.inl c.1
      · exact Or.inr (Or.inl c.1)
      · exact Or.inr (Or.inr c.1)
  · rw [show (v + 1).toNat = v.toNat + 1 by omega]
    rcases hc with ⟨c1, c2, c3⟩ | ⟨c1, c2, c3⟩ | ⟨c1, c2, c3⟩
    · rw [tdN_n (T := fun k => G k = 1 ∧ k = f) (fun (q : G v.toNat = 1 ∧ v.toNat = f) => by have := q.1; omega), c2, h2]
    · rw [tdN_y (T := fun k => G k = 1 ∧ k = f) c1, c2, h2]
    · rw [tdN_n (T := fun k => G k = 1 ∧ k = f) (fun (q : G v.toNat = 1 ∧ v.toNat = f) => by have := q.1; omega), c2, h2]
  · rw [show (v + 1).toNat = v.toNat + 1 by omega]
    rcases hc with ⟨c1, c2, c3⟩ | ⟨c1, c2, c3⟩ | ⟨c1, c2, c3⟩
    · rw [tdN_n (T := fun k => G k = -1) (fun (q : G v.toNat = -1) => by omega), c3, h3]
    · rw [tdN_n (T := fun k => G k = -1) (fun (q : G v.toNat = -1) => by have := c1.1; omega), c3, h3]
    · rw [tdN_y (T := fun k => G k = -1) c1, c3, h3]
theorem DgI.fin {G : Nat → Int} {f : Nat} {a b v n : Int} (h : DgI G f a b v) (e : v = n) : (a = b ∧ a ≤ 1) ↔ DgF G n.toNat f := by
  subst e
  obtain ⟨h1, h2, h3⟩ := h
  rw [h2, h3]
  exact ⟨fun q => ⟨fun k hk => h1 k (by omega), q⟩, fun q => q.2⟩
/-- the class's count -/
def BlI (G : Nat → Int) (b v : Int) : Prop := (∀ k : Nat, 1 ≤ k → (k : Int) < v → G k = 0 ∨ G k = -1) ∧ b = tdN (fun k => 1 ≤ k ∧ G k = -1) v.toNat
theorem BlI.init {G : Nat → Int} : BlI G 0 1 := by
  refine ⟨fun k h1 h2 => absurd h2 (by omega), ?_⟩
  exact (tdN_none (T := fun k => 1 ≤ k ∧ G k = -1) 1 (fun k hk q => by have := q.1; omega)).symm
theorem BlI.step {G : Nat → Int} {b v z : Int} (h : BlI G b v) (hv : 1 ≤ v) (hz : z = G v.toNat) (hc : z = 0 ∨ z = -1) : BlI G (b - z) (v + 1) := by
  obtain ⟨h1, h2⟩ := h
  refine ⟨fun k q1 q2 => ?_, ?_⟩
  · rcases (show (k : Int) < v ∨ k = v.toNat by omega) with q | q
    · exact h1 k q1 q
    · rw [q]
      omega
  · rw [show (v + 1).toNat = v.toNat + 1 by omega]
    rcases hc with c | c
    · rw [tdN_n (T := fun k => 1 ≤ k ∧ G k = -1) (fun (q : 1 ≤ v.toNat ∧ G v.toNat = -1) => by have := q.2; omega), ← h2]
      omega
    · rw [tdN_y (T := fun k => 1 ≤ k ∧ G k = -1) ⟨by omega, by omega⟩, ← h2]
      omega
theorem tdN_0r {G : Nat → Int} : ∀ n : Nat, 1 ≤ n → tdN (fun k => G k = -1) n = tdN (fun k => 1 ≤ k ∧ G k = -1) n + tdN (fun k => G k = -1) 1
  | 0, h => absurd h (by omega)
  | n + 1, _ => by
    by_cases c : n = 0
    · subst c
      rw [tdN_none (T := fun k => 1 ≤ k ∧ G k = -1) (0 + 1) (fun k hk q => by have := q.1; omega)]
      exact (Int.zero_add _).symm
    · have h := tdN_0r (G := G) n (by omega)
      by_cases q : G n = -1
      · rw [tdN_y (T := fun k => G k = -1) q, tdN_y (T := fun k => 1 ≤ k ∧ G k = -1) ⟨by omega, q⟩]
        omega
      · rw [tdN_n (T := fun k => G k = -1) q, tdN_n (T := fun k => 1 ≤ k ∧ G k = -1) (fun y => q y.2)]
        exact h
theorem tdN_nn {T : Nat → Prop} (n : Nat) : 0 ≤ tdN T n := by
  have h := tdN_le (T := T) (j := 0) n
  rw [Nat.zero_add] at h
  exact h
theorem BlI.fin {G : Nat → Int} {a b v n : Int} (h : BlI G b v) (hv : 1 ≤ v) (hn : 0 ≤ n) (e : v = n ∨ (v = 1 ∧ n = 0)) (ha : a = G 0) (h0 : n = 0 → G 0 = 0) : (a = b ∧ a ≤ 1) ↔ DgF G n.toNat 0 := by
  obtain ⟨h1, h2⟩ := h
  rcases e with e | ⟨e1, e2⟩
  · subst e
    have q1 := tdN_one (T := fun k => G k = 1) (f := 0) v.toNat
    have q2 := tdN_0r (G := G) v.toNat (by omega)
    have q3 := tdN_nn (T := fun k => 1 ≤ k ∧ G k = -1) v.toNat
    rw [← h2] at q2 q3
    by_cases c : G 0 = -1
    · have q4 : tdN (fun k => G k = -1) 1 = 1 := tdN_y (T := fun k => G k = -1) (k := 0) c
      have q5 := q1.2 (fun y => by have := y.2; omega)
      constructor
      · intro q
        omega
      · intro q
        have q6 := q.2.1
        omega
    · have q4 : tdN (fun k => G k = -1) 1 = 0 := tdN_n (T := fun k => G k = -1) (k := 0) c
      by_cases d : G 0 = 1
      · have q5 := q1.1 ⟨by omega, d⟩
        constructor
        · intro q
          refine ⟨fun k hk => ?_, by omega, by omega⟩
          by_cases k0 : k = 0
          · rw [k0]
            exact Or.inr (Or.inl ⟨d, rfl⟩)
          · rcases h1 k (by omega) (by omega) with y | y
            · exact Or.inl y
            · exact Or.inr (Or.inr y)
        · intro q
          have q6 := q.2.1
          omega
      · have q5 := q1.2 (fun y => d y.2)
        constructor
        · intro q
          have z : G 0 = 0 := by omega
          refine ⟨fun k hk => ?_, by omega, by omega⟩
          by_cases k0 : k = 0
          · rw [k0]
            exact Or.inl z
          · rcases h1 k (by omega) (by omega) with y | y
            · exact Or.inl y
            · exact Or.inr (Or.inr y)
        · intro q
          have q6 := q.2.1
          rcases q.1 0 (by omega) with y | y | y
          · omega
          · exact absurd y.1 d
          · exact absurd y c
  · subst e1
    have z := h0 e2
    have y : b = 0 := h2.trans (tdN_none (T := fun k => 1 ≤ k ∧ G k = -1) 1 (fun k hk q => by have := q.1; omega))
    subst e2
    exact ⟨fun _ => ⟨fun k hk => absurd hk (by omega), rfl, (show (0 : Int) ≤ 1 by decide)⟩, fun _ => by omega⟩
theorem sumN_half {r : Nat → Int} {v : Nat} : ∀ m : Nat, sumN (fun w => if w / 2 = v then r w else 0) m = (if 2 * v < m then r (2 * v) else 0) + (if 2 * v + 1 < m then r (2 * v + 1) else 0)
  | 0 => by
    rw [if_neg (by omega), if_neg (by omega)]
    rfl
  | m + 1 => by
    have h := sumN_half (r := r) (v := v) m
    have e : sumN (fun w => if w / 2 = v then r w else 0) (m + 1) = sumN (fun w => if w / 2 = v then r w else 0) m + (if m / 2 = v then r m else 0) := rfl
    rw [e, h]
    rcases (show m = 2 * v ∨ m = 2 * v + 1 ∨ m < 2 * v ∨ 2 * v + 1 < m by omega) with q | q | q | q
    · subst q
      rw [if_neg (by omega), if_neg (by omega), if_pos (by omega), if_pos (by omega), if_neg (by omega)]
      omega
    · subst q
      rw [if_pos (by omega), if_neg (by omega), if_pos (by omega), if_pos (by omega), if_pos (by omega)]
      omega
    · rw [if_neg (by omega), if_neg (by omega), if_neg (by omega), if_neg (by omega), if_neg (by omega)]
      rfl
    · rw [if_pos (by omega), if_pos (by omega), if_neg (by omega), if_pos (by omega), if_pos (by omega)]
      omega
theorem sumN_neg {f g : Nat → Int} : ∀ n : Nat, (∀ k, k < n → f k = - g k) → sumN f n = - sumN g n
  | 0, _ => rfl
  | n + 1, h => by
    have q := sumN_neg (f := f) (g := g) n (fun k hk => h k (by omega))
    have q2 := h n (by omega)
    have e1 : sumN f (n + 1) = sumN f n + f n := rfl
    have e2 : sumN g (n + 1) = sumN g n + g n := rfl
    omega
theorem dg_sub {f : Nat → Int} {c a v x : Int} (hv : 0 ≤ v) (h : a = c - sumN f v.toNat) (hx : x = f v.toNat) : a - x = c - sumN f (v + 1).toNat := by
  have q := sumN_step (f := f) hv (rfl : sumN f v.toNat = sumN f v.toNat) hx
  omega
theorem NRel.dgs_e {g : Nat → Nat → Int} {p : Nat → Int} {x : Int} (h : NRel g p) (hp : ProgOk p) (hx : 0 ≤ x ∧ x < 10) : g 7 (2 * x).toNat + g 7 (2 * x + 1).toNat - sumN (fun w => if g 6 w = x then g 7 w else 0) 20 = dgS (dW p) (lF p) 20 x.toNat := by
  obtain ⟨e7, hW⟩ := h.rst hp
  have e1 := sumN_half (r := lF p) (v := x.toNat) 20
  rw [if_pos (by omega), if_pos (by omega), ← e7 _ (by omega), ← e7 _ (by omega)] at e1
  have e2 : sumN (fun w => if dW p w = x.toNat then - lF p w else 0) 20 = - sumN (fun w => if g 6 w = x then g 7 w else 0) 20 := sumN_neg 20 (fun w hw => by
    have a := e7 w hw
    have b := hW w hw
    by_cases c : g 7 w = 0
    · rw [← a, c]
      repeat' split
      all_goals rfl
    · have l0 : 0 < laidF p (w : Int) := by omega
      have k := h.gt (x := (w : Int)) (by omega) l0
      rw [show ((w : Int)).toNat = w by omega] at k
      have k2 := gtF_rg hp (x := (w : Int)) (by omega)
      have k3 : dW p w = (g 6 w).toNat := by
        unfold dW
        rw [k]
      rw [k3, ← a]
      by_cases d : g 6 w = x
      · rw [if_pos d, if_pos (by omega)]
      · rw [if_neg d, if_neg (by omega)]
        rfl)
  have e3 : dgS (dW p) (lF p) 20 x.toNat = sumN (fun w => if w / 2 = x.toNat then lF p w else 0) 20 + sumN (fun w => if dW p w = x.toNat then - lF p w else 0) 20 := sumN_add 20
  rw [e3, e1, e2, show (2 * x).toNat = 2 * x.toNat by omega, show (2 * x + 1).toNat = 2 * x.toNat + 1 by omega]
  omega
/-- the lines that the ways below v touch -/
def AlB (E : Nat → Prop) (d : Nat → Nat) (s v : Int) : Prop := ∀ j : Nat, bN s j ↔ ∃ w : Nat, (w : Int) < v ∧ E w ∧ (j = w / 2 ∨ j = d w)
theorem AlB.init {E : Nat → Prop} {d : Nat → Nat} : AlB E d 0 0 := fun j => ⟨fun q => absurd q bN_0, fun ⟨w, hw, _⟩ => absurd hw (by omega)⟩
theorem AlB.no {E : Nat → Prop} {d : Nat → Nat} {s v : Int} (h : AlB E d s v) (hv : 0 ≤ v) (hn : ¬ E v.toNat) : AlB E d s (v + 1) := fun j => by
  rw [h j]
  constructor
  · rintro ⟨w, a, b⟩
    exact ⟨w, by omega, b⟩
  · rintro ⟨w, a, b, c⟩
    rcases (show (w : Int) < v ∨ w = v.toNat by omega) with q | q
    · exact ⟨w, q, b, c⟩
    · subst q
      exact absurd b hn
theorem AlB.yes {E : Nat → Prop} {d : Nat → Nat} {s s' v : Int} (h : AlB E d s v) (hv : 0 ≤ v) (he : E v.toNat) (hS : ∀ j : Nat, bN s' j ↔ (bN s j ∨ (j = v.toNat / 2 ∨ j = d v.toNat))) : AlB E d s' (v + 1) := fun j => by
  rw [hS j, h j]
  constructor
  · rintro (⟨w, a, b⟩ | q)
    · exact ⟨w, by omega, b⟩
    · exact ⟨v.toNat, by omega, he, q⟩
  · rintro ⟨w, a, b, c⟩
    rcases (show (w : Int) < v ∨ w = v.toNat by omega) with q | q
    · exact Or.inl ⟨w, q, b, c⟩
    · subst q
      exact Or.inr c
theorem AlB.fin {E : Nat → Prop} {d : Nat → Nat} {s m : Int} (h : AlB E d s m) (hE : ∀ w : Nat, E w → (w : Int) < m) : ∀ j : Nat, bN s j ↔ AllL E d j := fun j => (h j).trans ⟨fun ⟨w, _, b⟩ => ⟨w, b⟩, fun ⟨w, b, c⟩ => ⟨w, hE w b, b, c⟩⟩
theorem AlB.none {E : Nat → Prop} {d : Nat → Nat} (h : ∀ j : Nat, bN 0 j ↔ AllL E d j) (w : Nat) : ¬ E w := fun e => bN_0 ((h (w / 2)).mpr ⟨w, e, Or.inl rfl⟩)
theorem hang_eq {E : Nat → Prop} {d : Nat → Nat} {a : Nat} {s t : Int} (hs : 0 ≤ s) (ht : 0 ≤ t) (h1 : ∀ j : Nat, bN s j ↔ Uch E d a j) (h2 : ∀ j : Nat, bN t j ↔ AllL E d j) (h0 : ¬ t = 0) : s = t ↔ ∀ w : Nat, E w → Uch E d a (w / 2) := by
  constructor
  · intro e
    subst e
    exact hang_iff.mpr (Or.inr (fun j => (h1 j).symm.trans (h2 j)))
  · intro q
    rcases hang_iff.mp q with n | n
    · refine absurd (bN_ext ht (Int.le_refl 0) (fun j => ⟨fun y => ?_, fun y => absurd y bN_0⟩)) h0
      obtain ⟨w, e, -⟩ := (h2 j).mp y
      exact absurd e (n w)
    · exact bN_ext hs ht (fun j => (h1 j).trans ((n j).trans (h2 j).symm))
theorem both_n {x y z a b : Int} {c d : Nat} (hx : ∀ j : Nat, bN x j ↔ j = a.toNat) (hy : ∀ j : Nat, bN y j ↔ j = b.toNat) (hz : ∀ j : Nat, bN z j ↔ (bN x j ∨ bN y j)) (ea : a.toNat = c) (eb : b.toNat = d) : ∀ j : Nat, bN z j ↔ (j = c ∨ j = d) := fun j => by rw [hz j, hx j, hy j, ea, eb]
theorem lr_step {F : Nat → Int} {g g' : Nat → Int} {v x : Int} (h : ∀ w : Nat, (w : Int) < v → g w = F w) (hv : 0 ≤ v) (e : g' = uZ g v.toNat x) (hx : x = F v.toNat) : ∀ w : Nat, (w : Int) < v + 1 → g' w = F w := fun w hw => by
  rcases (show (w : Int) < v ∨ w = v.toNat by omega) with q | q
  · rw [e, uZ_nk _ _ (by omega)]
    exact h w q
  · rw [q, e, uZ_eq]
    exact hx
theorem ck_step {E S : Nat → Prop} {v : Int} (h : ∀ w : Nat, (w : Int) < v → E w → S (w / 2)) (hv : 0 ≤ v) (hc : E v.toNat → S (v.toNat / 2)) : ∀ w : Nat, (w : Int) < v + 1 → E w → S (w / 2) := fun w hw he => by
  rcases (show (w : Int) < v ∨ w = v.toNat by omega) with q | q
  · exact h w q he
  · subst q
    exact hc he
theorem Rst.ofl {p r : Nat → Int} (hp : ProgOk p) (h : ∀ w : Nat, w < 20 → r w = lF p w) : Rst p r := fun w hw => by
  have a := laidF_rg hp (x := (w : Int)) (by omega)
  have b : r w = laidF p (w : Int) := h w hw
  omega
theorem EvF.congr {p r r' : Nat → Int} {n f : Nat} (h : ∀ w : Nat, w < 20 → r w = r' w) : EvF p r n f ↔ EvF p r' n f := by
  have e1 : EL r = EL r' := EL_congr h
  have e2 : dgS (dW p) r 20 = dgS (dW p) r' 20 := funext fun v => sumN_congr 20 (fun w hw => by rw [h w hw])
  unfold EvF
  rw [e1, e2]
theorem sumN_pm {f : Nat → Int} {m : Int} : ∀ n : Nat, (∀ k, k < n → -m ≤ f k ∧ f k ≤ m) → -(m * n) ≤ sumN f n ∧ sumN f n ≤ m * n
  | 0, _ => by
    have e : sumN f 0 = 0 := rfl
    rw [e]
    have e2 : m * ((0 : Nat) : Int) = 0 := Int.mul_zero m
    rw [e2]
    decide
  | n + 1, h => by
    obtain ⟨a1, a2⟩ := sumN_pm (f := f) (m := m) n (fun k hk => h k (by omega))
    obtain ⟨b1, b2⟩ := h n (by omega)
    have e : sumN f (n + 1) = sumN f n + f n := rfl
    have e2 : m * ((n + 1 : Nat) : Int) = m * n + m := by rw [Int.natCast_add, Int.mul_add]; omega
    rw [e, e2]
    omega
theorem dgs_rg {p : Nat → Int} (hp : ProgOk p) {v : Nat} : -180 ≤ dgS (dW p) (lF p) 20 v ∧ dgS (dW p) (lF p) 20 v ≤ 180 := by
  have h := sumN_pm (f := dgT (dW p) (lF p) v) (m := 9) 20 (fun k hk => by
    have a := laidF_rg hp (x := (k : Int)) (by omega)
    have b : lF p k = laidF p (k : Int) := rfl
    by_cases z : lF p k = 0
    · rw [dgT_0 z]
      decide
    · unfold dgT
      rw [b]
      by_cases c : k / 2 = v
      · rw [if_pos c]
        split
        all_goals omega
      · rw [if_neg c]
        split
        all_goals omega)
  rw [dgS_e]
  omega
