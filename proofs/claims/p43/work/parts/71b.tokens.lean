/-! THE TEXT: what both sides see of it. f: the bytes 0 .. 255, n: how many are looked at; lk f n k is -1 behind them -/
/-- k is the first place from p on at which P doesn't hold -/
def Stop (S : Int → Prop) (f : Nat → Int) (n p k : Int) : Prop := p ≤ k ∧ (∀ j : Int, p ≤ j → j < k → S (lk f n j)) ∧ ¬ S (lk f n k)
theorem Stop.one {S : Int → Prop} {f : Nat → Int} {n p k k' : Int} (h : Stop S f n p k) (h' : Stop S f n p k') : k = k' := by
  rcases (show k < k' ∨ k = k' ∨ k' < k by omega) with q | q | q
  · exact absurd (h'.2.1 k h.1 q) h.2.2
  · exact q
  · exact absurd (h.2.1 k' h'.1 q) h'.2.2
noncomputable def stp (S : Int → Prop) (f : Nat → Int) (n p : Int) : Int := Classical.epsilon (fun k => Stop S f n p k)
theorem Stop.eq {S : Int → Prop} {f : Nat → Int} {n p k : Int} (h : Stop S f n p k) : stp S f n p = k := Stop.one (Classical.epsilon_spec (p := fun k => Stop S f n p k) ⟨k, h⟩) h
def sSp (c : Int) : Prop := c = 32
def sSm (c : Int) : Prop := 97 ≤ c ∧ c ≤ 122
def sDg (c : Int) : Prop := 48 ≤ c ∧ c ≤ 57
theorem lk_lt {f : Nat → Int} {n k : Int} (h : k < n) : lk f n k = f k.toNat := by unfold lk; rw [if_pos h]
theorem lk_ge {f : Nat → Int} {n k : Int} (h : n ≤ k) : lk f n k = -1 := by unfold lk; rw [if_neg (by omega)]
/-- the letters from a on, m of them, as digits of 32 -/
def encN (f : Nat → Int) (a : Int) : Nat → Int
  | 0 => 0
  | m + 1 => encN f a m * 32 + (f (a + (m : Int)).toNat - 96)
def enc (f : Nat → Int) (a k : Int) : Int := encN f a (k - a).toNat
theorem enc_0 (f : Nat → Int) (a : Int) : enc f a a = 0 := by unfold enc; rw [show (a - a).toNat = 0 by omega]; rfl
theorem enc_step {f : Nat → Int} {a k : Int} (h : a ≤ k) : enc f a (k + 1) = enc f a k * 32 + (f k.toNat - 96) := by
  unfold enc
  rw [show (k + 1 - a).toNat = (k - a).toNat + 1 by omega]
  show encN f a (k - a).toNat * 32 + (f (a + ((k - a).toNat : Int)).toNat - 96) = _
  rw [show a + ((k - a).toNat : Int) = k by omega]
/-- the digits from a on, m of them -/
def valN (f : Nat → Int) (a : Int) : Nat → Int
  | 0 => 0
  | m + 1 => valN f a m * 10 + (f (a + (m : Int)).toNat - 48)
def val (f : Nat → Int) (a k : Int) : Int := valN f a (k - a).toNat
theorem val_0 (f : Nat → Int) (a : Int) : val f a a = 0 := by unfold val; rw [show (a - a).toNat = 0 by omega]; rfl
theorem val_step {f : Nat → Int} {a k : Int} (h : a ≤ k) : val f a (k + 1) = val f a k * 10 + (f k.toNat - 48) := by
  unfold val
  rw [show (k + 1 - a).toNat = (k - a).toNat + 1 by omega]
  show valN f a (k - a).toNat * 10 + (f (a + ((k - a).toNat : Int)).toNat - 48) = _
  rw [show a + ((k - a).toNat : Int) = k by omega]
/-- the reserved words, as numbers -/
def rsv (j : Nat) : Int := [(17799825453 : Int), (402885 : Int), (755156 : Int), (143 : Int), (688 : Int), (147182 : Int), (19636 : Int), (239301 : Int), (663726 : Int), (5572 : Int), (655 : Int), (294 : Int), (89 : Int), (176741 : Int), (307 : Int), (1 : Int), (2 : Int), (3 : Int), (4 : Int)].getD j 0
/-- what a word of at most eight letters is: the place of a reserved one, or 19 -/
def Kd (w k : Int) : Prop := (k = 19 ∧ ∀ j, j < 19 → rsv j ≠ w) ∨ ((0 ≤ k ∧ k < 19) ∧ rsv k.toNat = w)
theorem rsv_ne : ∀ j, j < 19 → ∀ k, k < 19 → rsv j = rsv k → j = k := by decide +kernel
theorem Kd.one {w k k' : Int} (h : Kd w k) (h' : Kd w k') : k = k' := by
  rcases h with ⟨h1, h2⟩ | ⟨h1, h2⟩ <;> rcases h' with ⟨h3, h4⟩ | ⟨h3, h4⟩
  · rw [h1, h3]
  · exact absurd h4 (h2 _ (by omega))
  · exact absurd h2 (h4 _ (by omega))
  · have q := rsv_ne k.toNat (by omega) k'.toNat (by omega) (by rw [h2, h4])
    omega
noncomputable def kdO (w : Int) : Int := Classical.epsilon (fun k => Kd w k)
theorem Kd.eq {w k : Int} (h : Kd w k) : kdO w = k := Kd.one (Classical.epsilon_spec (p := fun k => Kd w k) ⟨k, h⟩) h
/-- the token that is found from b on: where it begins and ends, what it is, its letters, its number -/
noncomputable def tPl (f : Nat → Int) (n b : Int) : Int := stp sSp f n b
noncomputable def tCh (f : Nat → Int) (n b : Int) : Int := lk f n (tPl f n b)
noncomputable def tEn (f : Nat → Int) (n b : Int) : Int := if tCh f n b = -1 then tPl f n b else if 97 ≤ tCh f n b ∧ tCh f n b ≤ 122 then stp sSm f n (tPl f n b) else if 48 ≤ tCh f n b ∧ tCh f n b ≤ 57 then stp sDg f n (tPl f n b) else tPl f n b + 1
noncomputable def tWd (f : Nat → Int) (n b : Int) : Int := enc f (tPl f n b) (tEn f n b)
noncomputable def tNu (f : Nat → Int) (n b : Int) : Int := val f (tPl f n b) (tEn f n b)
noncomputable def tKd (f : Nat → Int) (n b : Int) : Int := if tCh f n b = -1 then 24 else if 97 ≤ tCh f n b ∧ tCh f n b ≤ 122 then (if tEn f n b - tPl f n b ≤ 8 then kdO (tWd f n b) else 23) else if 48 ≤ tCh f n b ∧ tCh f n b ≤ 57 then (if tEn f n b - tPl f n b ≤ 3 then 20 else 23) else if tCh f n b = 59 then 21 else if tCh f n b = 44 then 22 else 23
theorem tk_over {f : Nat → Int} {n b p : Int} (h1 : Stop sSp f n b p) (h2 : lk f n p = -1) : tPl f n b = p ∧ tEn f n b = p ∧ tKd f n b = 24 := by
  have e1 : tPl f n b = p := h1.eq
  have e2 : tCh f n b = -1 := by unfold tCh; rw [e1, h2]
  refine ⟨e1, ?_, ?_⟩
  · unfold tEn; rw [if_pos e2, e1]
  · unfold tKd; rw [if_pos e2]
theorem tk_word {f : Nat → Int} {n b p k w d : Int} (h1 : Stop sSp f n b p) (h2 : sSm (lk f n p)) (h3 : Stop sSm f n p k) (h4 : k - p ≤ 8 → w = enc f p k ∧ Kd w d) (h5 : 8 < k - p → d = 23) : tPl f n b = p ∧ tEn f n b = k ∧ tKd f n b = d ∧ (k - p ≤ 8 → tWd f n b = w) := by
  have e1 : tPl f n b = p := h1.eq
  have e2 : tCh f n b = lk f n p := by unfold tCh; rw [e1]
  have h6 : ¬ tCh f n b = -1 := by rw [e2]; unfold sSm at h2; omega
  have h7 : 97 ≤ tCh f n b ∧ tCh f n b ≤ 122 := by rw [e2]; exact h2
  have e3 : tEn f n b = k := by unfold tEn; rw [if_neg h6, if_pos h7, e1]; exact h3.eq
  have e4 : tWd f n b = enc f p k := by unfold tWd; rw [e1, e3]
  refine ⟨e1, e3, ?_, fun q => by rw [e4, (h4 q).1]⟩
  unfold tKd
  rw [if_neg h6, if_pos h7, e1, e3]
  by_cases q : k - p ≤ 8
  · rw [if_pos q, e4, ← (h4 q).1]; exact (h4 q).2.eq
  · rw [if_neg q, h5 (by omega)]
theorem tk_whole {f : Nat → Int} {n b p k v d : Int} (h1 : Stop sSp f n b p) (h2 : sDg (lk f n p)) (h3 : Stop sDg f n p k) (h4 : k - p ≤ 3 → v = val f p k ∧ d = 20) (h5 : 3 < k - p → d = 23) : tPl f n b = p ∧ tEn f n b = k ∧ tKd f n b = d ∧ (k - p ≤ 3 → tNu f n b = v) := by
  have e1 : tPl f n b = p := h1.eq
  have e2 : tCh f n b = lk f n p := by unfold tCh; rw [e1]
  unfold sDg at h2
  have h6 : ¬ tCh f n b = -1 := by rw [e2]; omega
  have h7 : ¬ (97 ≤ tCh f n b ∧ tCh f n b ≤ 122) := by rw [e2]; omega
  have h8 : 48 ≤ tCh f n b ∧ tCh f n b ≤ 57 := by rw [e2]; exact h2
  have e3 : tEn f n b = k := by unfold tEn; rw [if_neg h6, if_neg h7, if_pos h8, e1]; exact h3.eq
  have e4 : tNu f n b = val f p k := by unfold tNu; rw [e1, e3]
  refine ⟨e1, e3, ?_, fun q => by rw [e4, (h4 q).1]⟩
  unfold tKd
  rw [if_neg h6, if_neg h7, if_pos h8, e1, e3]
  by_cases q : k - p ≤ 3
  · rw [if_pos q, (h4 q).2]
  · rw [if_neg q, h5 (by omega)]
theorem tk_sign {f : Nat → Int} {n b p c d : Int} (h1 : Stop sSp f n b p) (hc : lk f n p = c) (h2 : c ≠ -1) (h3 : ¬ sSm c) (h4 : ¬ sDg c) (h5 : (c = 59 ∧ d = 21) ∨ (c = 44 ∧ d = 22) ∨ (c ≠ 59 ∧ c ≠ 44 ∧ d = 23)) : tPl f n b = p ∧ tEn f n b = p + 1 ∧ tKd f n b = d := by
  have e1 : tPl f n b = p := h1.eq
  have e2 : tCh f n b = c := by unfold tCh; rw [e1, hc]
  have h6 : ¬ tCh f n b = -1 := by rw [e2]; exact h2
  have h7 : ¬ (97 ≤ tCh f n b ∧ tCh f n b ≤ 122) := by rw [e2]; exact h3
  have h8 : ¬ (48 ≤ tCh f n b ∧ tCh f n b ≤ 57) := by rw [e2]; exact h4
  refine ⟨e1, ?_, ?_⟩
  · unfold tEn; rw [if_neg h6, if_neg h7, if_neg h8, e1]
  · unfold tKd
    rw [if_neg h6, if_neg h7, if_neg h8, e2]
    rcases h5 with ⟨q, r⟩ | ⟨q, r⟩ | ⟨q, q2, r⟩
    · rw [if_pos q, r]
    · rw [if_neg (by omega), if_pos q, r]
    · rw [if_neg q, if_neg q2, r]
theorem encN_bd {f : Nat → Int} {n p : Int} {m : Nat} (hp : 0 ≤ p) (h : ∀ j : Int, p ≤ j → j < p + (m : Int) → sSm (lk f n j)) : 0 ≤ encN f p m ∧ encN f p m < (32 : Int) ^ m := by
  induction m with
  | zero => exact ⟨Int.le_refl _, by show (0 : Int) < 1; decide⟩
  | succ m ih =>
    have h1 := ih (fun j h2 h3 => h j h2 (by omega))
    have h2 := h (p + (m : Int)) (by omega) (by omega)
    have h3 : f (p + (m : Int)).toNat = lk f n (p + (m : Int)) := by
      by_cases q : p + (m : Int) < n
      · rw [lk_lt q]
      · rw [lk_ge (by omega)] at h2; unfold sSm at h2; omega
    rw [← h3] at h2
    unfold sSm at h2
    have h4 : (32 : Int) ^ (m + 1) = 32 ^ m * 32 := Int.pow_succ 32 m
    constructor
    · show 0 ≤ encN f p m * 32 + (f (p + (m : Int)).toNat - 96); omega
    · show encN f p m * 32 + (f (p + (m : Int)).toNat - 96) < 32 ^ (m + 1); omega
theorem enc_bd {f : Nat → Int} {n p k : Int} (hp : 0 ≤ p) (h0 : p ≤ k) (h : ∀ j : Int, p ≤ j → j < k → sSm (lk f n j)) (h8 : k - p ≤ 8) : 0 ≤ enc f p k ∧ enc f p k < 1099511627776 := by
  have h1 := encN_bd (f := f) (n := n) (p := p) (m := (k - p).toNat) hp (fun j h2 h3 => h j h2 (by omega))
  have h2 : (32 : Int) ^ (k - p).toNat ≤ 1099511627776 := by
    have q : ∀ m : Nat, m ≤ 8 → (32 : Int) ^ m ≤ 1099511627776 := by decide
    exact q _ (by omega)
  unfold enc
  omega
/-- the class's tape: the same bytes, with a sign -/
def TxR (f g : Nat → Int) : Prop := ∀ k, k < 900 → (0 ≤ f k ∧ f k ≤ 255) ∧ ((f k < 128 ∧ g k = f k) ∨ (128 ≤ f k ∧ g k = f k - 256))
theorem zL_add (a b : Int) : zL a + zL b = zL (a + b) := (Int64.ofInt_add a b).symm
theorem zL_mul (a b : Int) : zL a * zL b = zL (a * b) := (Int64.ofInt_mul a b).symm
theorem zL_inj {a b : Int} (ha : 0 ≤ a ∧ a < 9223372036854775808) (hb : 0 ≤ b ∧ b < 9223372036854775808) (h : zL a = zL b) : a = b := by
  have h1 := congrArg Int64.toInt h
  unfold zL at h1
  rwa [Int64.toInt_ofInt_of_le (by omega) (by omega), Int64.toInt_ofInt_of_le (by omega) (by omega)] at h1
theorem zI_toL {a : Int} (h : zR a) : (zI a).toInt64 = zL a := by
  apply Int64.toInt_inj.mp
  rw [Int32.toInt_toInt64, zI_toInt h]
  exact (Int64.toInt_ofInt_of_le (by omega) (by omega)).symm
section ZX
variable {p : Program} {l : Launch} {e : Env} {R : Room} {s : State} {m : MethodId} {args : Array Value} {below : List Frame} {meth : Method} {c : Code} {H : Heap} {locs : List Loc} {cells slots : Nat} {Q : State → Prop}
variable {cc : ByteArray} {nL : Nat} {own : String} {G : va_G} {kt : List (ClassId × FieldType)} {w0 : va_W} {A : Nat → Prop} {rest : List Value} {a : Addr} {pc : Nat} {ls : Array Slot}
theorem rz_baldE (F : CallFix p m c cc nL s args bw_T own) (hK : va_K G vwCl kt s) (hP : va_P G vwCl w0 H) (q0 t0 : Nat) {cA : ClassId} {n : Nat} {g : Nat → Int} (ha : w0[q0]? = some (a, .inl (cA, n, .inl (fun k => zI (g k))))) (ht : kt[t0]? = some (cA, .byte)) {i : Int} (hi : 0 ≤ i ∧ i < (n : Int)) (hn : n < 2147483648) (hdg : decode cc pc = .ok (.baload, 1))
    (kk : W p l e R s m args below meth c H locs cells slots Q (F0 m (pc + 1) ls (.int (zI (g i.toNat)) :: rest))) : W p l e R s m args below meth c H locs cells slots Q (F0 m pc ls (.int (zI i) :: .ref a :: rest)) := by
  refine va_bald F.1 F.2.1 hK hP q0 t0 ha ht (zI_in hi hn) hdg ?_
  rw [zI_clamp ⟨by omega, by omega⟩]
  exact kk
theorem rz_eqL {x : Int64} {z : Int} (h : x = zL z) (kk : W p l e R s m args below meth c H locs cells slots Q (F0 m pc ls (.long (zL z) :: rest))) : W p l e R s m args below meth c H locs cells slots Q (F0 m pc ls (.long x :: rest)) := by
  rw [h]; exact kk
end ZX
