/-! THE LONG OF GIVES: its bits, four for each line -/
def p2 (a : Int) : Int := ((2 ^ a.toNat : Nat) : Int)
theorem amt_tab : ∀ n ∈ List.range 40, (((zI ((n : Nat) : Int)).toInt64 &&& 63).toBitVec.smod 64).toNat = n ∧ zL 1 <<< ((zI ((n : Nat) : Int)).toInt64 &&& 63) = zL ((2 ^ n : Nat) : Int) := by decide +kernel
theorem lbit {G a : Int} (hG : 0 ≤ G ∧ G < 1099511627776) (ha : 0 ≤ a ∧ a < 40) : (zL G >>> ((zI a).toInt64 &&& 63)) &&& zL 1 = zL (G / p2 a % 2) := by
  obtain ⟨n, rfl⟩ : ∃ n : Nat, a = n := ⟨a.toNat, by omega⟩
  have ht := (amt_tab n (List.mem_range.mpr (by omega))).1
  have hg : (zL G).toBitVec.toInt = G := Int64.toInt_ofInt_of_le (by omega) (by omega)
  have hy : (zL G >>> ((zI (n : Int)).toInt64 &&& 63)).toBitVec.toInt = G / p2 (n : Int) := by
    show (BitVec.sshiftRight' (zL G).toBitVec (((zI (n : Int)).toInt64 &&& 63).toBitVec.smod 64)).toInt = G / ((2 ^ n : Nat) : Int)
    rw [BitVec.sshiftRight_eq', ht, BitVec.toInt_sshiftRight, hg, Int.shiftRight_eq_div_pow]
  generalize zL G >>> ((zI (n : Int)).toInt64 &&& 63) = y at hy ⊢
  have hr0 : 0 ≤ G / p2 (n : Int) := Int.ediv_nonneg hG.1 (Int.natCast_nonneg _)
  have hr1 : G / p2 (n : Int) ≤ G := Int.ediv_le_self _ hG.1
  generalize G / p2 (n : Int) = r at hy hr0 hr1 ⊢
  have hc := BitVec.toInt_eq_toNat_cond y.toBitVec
  have hl := y.toBitVec.isLt
  rw [hy] at hc
  have hn : (y.toBitVec.toNat : Int) = r := by split at hc <;> omega
  apply Int64.toBitVec.inj
  apply BitVec.eq_of_toNat_eq
  show (y.toBitVec &&& (zL 1).toBitVec).toNat = (BitVec.ofInt 64 (r % 2)).toNat
  rw [BitVec.toNat_and, show (zL 1).toBitVec.toNat = 1 by decide +kernel, Nat.and_one_is_mod, BitVec.toNat_ofInt]
  omega
theorem lor1 {G a : Int} (hG : 0 ≤ G ∧ G < 1099511627776) (ha : 0 ≤ a ∧ a < 40) (hb : ¬ G / p2 a % 2 = 1) : zL G ||| (zL 1 <<< ((zI a).toInt64 &&& 63)) = zL (G + p2 a) := by
  obtain ⟨n, rfl⟩ : ∃ n : Nat, a = n := ⟨a.toNat, by omega⟩
  obtain ⟨m, rfl⟩ : ∃ m : Nat, G = m := ⟨G.toNat, by omega⟩
  have hn : n < 40 := by omega
  have hp : 2 ^ n ≤ 2 ^ 39 := Nat.pow_le_pow_right (by decide) (by omega)
  have e : p2 (n : Int) = ((2 ^ n : Nat) : Int) := rfl
  rw [(amt_tab n (List.mem_range.mpr hn)).2, ← zL_add, e]
  rw [e, ← Int.natCast_ediv] at hb
  have hb2 : ¬ m / 2 ^ n % 2 = 1 := by omega
  apply Int64.toBitVec.inj
  show (zL (m : Int)).toBitVec ||| (zL ((2 ^ n : Nat) : Int)).toBitVec = (zL (m : Int)).toBitVec + (zL ((2 ^ n : Nat) : Int)).toBitVec
  refine (BitVec.add_eq_or_of_and_eq_zero _ _ ?_).symm
  apply BitVec.eq_of_toNat_eq
  have h1 : (zL (m : Int)).toBitVec.toNat = m := by
    show (BitVec.ofInt 64 (m : Int)).toNat = m
    rw [BitVec.toNat_ofInt]
    omega
  have h2 : (zL ((2 ^ n : Nat) : Int)).toBitVec.toNat = 2 ^ n := by
    show (BitVec.ofInt 64 ((2 ^ n : Nat) : Int)).toNat = 2 ^ n
    rw [BitVec.toNat_ofInt]
    generalize 2 ^ n = t at hp ⊢
    omega
  rw [BitVec.toNat_and, h1, h2]
  show m &&& 2 ^ n = 0
  refine Nat.eq_of_testBit_eq (fun j => ?_)
  rw [Nat.testBit_and, Nat.testBit_two_pow, Nat.zero_testBit]
  by_cases q : n = j
  · subst q
    rw [Nat.testBit_eq_decide_div_mod_eq, decide_eq_false hb2]
    rfl
  · rw [decide_eq_false q, Bool.and_false]
def gvZ (s : Nat → Int) : Int := s 28 + 16 * s 29 + 256 * s 30 + 4096 * s 31 + 65536 * s 32 + 1048576 * s 33 + 16777216 * s 34 + 268435456 * s 35 + 4294967296 * s 36 + 68719476736 * s 37
theorem gv_rg {s : Nat → Int} (h : ∀ i, i < 10 → 0 ≤ s (28 + i) ∧ s (28 + i) ≤ 15) : 0 ≤ gvZ s ∧ gvZ s < 1099511627776 := by
  have h0 : 0 ≤ s 28 ∧ s 28 ≤ 15 := h 0 (by omega)
  have h1 : 0 ≤ s 29 ∧ s 29 ≤ 15 := h 1 (by omega)
  have h2 : 0 ≤ s 30 ∧ s 30 ≤ 15 := h 2 (by omega)
  have h3 : 0 ≤ s 31 ∧ s 31 ≤ 15 := h 3 (by omega)
  have h4 : 0 ≤ s 32 ∧ s 32 ≤ 15 := h 4 (by omega)
  have h5 : 0 ≤ s 33 ∧ s 33 ≤ 15 := h 5 (by omega)
  have h6 : 0 ≤ s 34 ∧ s 34 ≤ 15 := h 6 (by omega)
  have h7 : 0 ≤ s 35 ∧ s 35 ≤ 15 := h 7 (by omega)
  have h8 : 0 ≤ s 36 ∧ s 36 ≤ 15 := h 8 (by omega)
  have h9 : 0 ≤ s 37 ∧ s 37 ≤ 15 := h 9 (by omega)
  unfold gvZ
  omega
theorem gv_bit {s : Nat → Int} (h : ∀ i, i < 10 → 0 ≤ s (28 + i) ∧ s (28 + i) ≤ 15) {x w : Int} (hx : 0 ≤ x ∧ x < 10) (hw : 0 ≤ w ∧ w < 4) : gvZ s / p2 (4 * x + w) % 2 = s (28 + x).toNat / twoP w % 2 := by
  have h0 : 0 ≤ s 28 ∧ s 28 ≤ 15 := h 0 (by omega)
  have h1 : 0 ≤ s 29 ∧ s 29 ≤ 15 := h 1 (by omega)
  have h2 : 0 ≤ s 30 ∧ s 30 ≤ 15 := h 2 (by omega)
  have h3 : 0 ≤ s 31 ∧ s 31 ≤ 15 := h 3 (by omega)
  have h4 : 0 ≤ s 32 ∧ s 32 ≤ 15 := h 4 (by omega)
  have h5 : 0 ≤ s 33 ∧ s 33 ≤ 15 := h 5 (by omega)
  have h6 : 0 ≤ s 34 ∧ s 34 ≤ 15 := h 6 (by omega)
  have h7 : 0 ≤ s 35 ∧ s 35 ≤ 15 := h 7 (by omega)
  have h8 : 0 ≤ s 36 ∧ s 36 ≤ 15 := h 8 (by omega)
  have h9 : 0 ≤ s 37 ∧ s 37 ≤ 15 := h 9 (by omega)
  rcases (show x = 0 ∨ x = 1 ∨ x = 2 ∨ x = 3 ∨ x = 4 ∨ x = 5 ∨ x = 6 ∨ x = 7 ∨ x = 8 ∨ x = 9 by omega) with rfl | rfl | rfl | rfl | rfl | rfl | rfl | rfl | rfl | rfl
  · rcases (show w = 0 ∨ w = 1 ∨ w = 2 ∨ w = 3 by omega) with rfl | rfl | rfl | rfl
    · show (s 28 + 16 * s 29 + 256 * s 30 + 4096 * s 31 + 65536 * s 32 + 1048576 * s 33 + 16777216 * s 34 + 268435456 * s 35 + 4294967296 * s 36 + 68719476736 * s 37) / 1 % 2 = s 28 / 1 % 2
      omega
    · show (s 28 + 16 * s 29 + 256 * s 30 + 4096 * s 31 + 65536 * s 32 + 1048576 * s 33 + 16777216 * s 34 + 268435456 * s 35 + 4294967296 * s 36 + 68719476736 * s 37) / 2 % 2 = s 28 / 2 % 2
      omega
    · show (s 28 + 16 * s 29 + 256 * s 30 + 4096 * s 31 + 65536 * s 32 + 1048576 * s 33 + 16777216 * s 34 + 268435456 * s 35 + 4294967296 * s 36 + 68719476736 * s 37) / 4 % 2 = s 28 / 4 % 2
      omega
    · show (s 28 + 16 * s 29 + 256 * s 30 + 4096 * s 31 + 65536 * s 32 + 1048576 * s 33 + 16777216 * s 34 + 268435456 * s 35 + 4294967296 * s 36 + 68719476736 * s 37) / 8 % 2 = s 28 / 8 % 2
      omega
  · rcases (show w = 0 ∨ w = 1 ∨ w = 2 ∨ w = 3 by omega) with rfl | rfl | rfl | rfl
    · show (s 28 + 16 * s 29 + 256 * s 30 + 4096 * s 31 + 65536 * s 32 + 1048576 * s 33 + 16777216 * s 34 + 268435456 * s 35 + 4294967296 * s 36 + 68719476736 * s 37) / 16 % 2 = s 29 / 1 % 2
      omega
    · show (s 28 + 16 * s 29 + 256 * s 30 + 4096 * s 31 + 65536 * s 32 + 1048576 * s 33 + 16777216 * s 34 + 268435456 * s 35 + 4294967296 * s 36 + 68719476736 * s 37) / 32 % 2 = s 29 / 2 % 2
      omega
    · show (s 28 + 16 * s 29 + 256 * s 30 + 4096 * s 31 + 65536 * s 32 + 1048576 * s 33 + 16777216 * s 34 + 268435456 * s 35 + 4294967296 * s 36 + 68719476736 * s 37) / 64 % 2 = s 29 / 4 % 2
      omega
    · show (s 28 + 16 * s 29 + 256 * s 30 + 4096 * s 31 + 65536 * s 32 + 1048576 * s 33 + 16777216 * s 34 + 268435456 * s 35 + 4294967296 * s 36 + 68719476736 * s 37) / 128 % 2 = s 29 / 8 % 2
      omega
  · rcases (show w = 0 ∨ w = 1 ∨ w = 2 ∨ w = 3 by omega) with rfl | rfl | rfl | rfl
    · show (s 28 + 16 * s 29 + 256 * s 30 + 4096 * s 31 + 65536 * s 32 + 1048576 * s 33 + 16777216 * s 34 + 268435456 * s 35 + 4294967296 * s 36 + 68719476736 * s 37) / 256 % 2 = s 30 / 1 % 2
      omega
    · show (s 28 + 16 * s 29 + 256 * s 30 + 4096 * s 31 + 65536 * s 32 + 1048576 * s 33 + 16777216 * s 34 + 268435456 * s 35 + 4294967296 * s 36 + 68719476736 * s 37) / 512 % 2 = s 30 / 2 % 2
      omega
    · show (s 28 + 16 * s 29 + 256 * s 30 + 4096 * s 31 + 65536 * s 32 + 1048576 * s 33 + 16777216 * s 34 + 268435456 * s 35 + 4294967296 * s 36 + 68719476736 * s 37) / 1024 % 2 = s 30 / 4 % 2
      omega
    · show (s 28 + 16 * s 29 + 256 * s 30 + 4096 * s 31 + 65536 * s 32 + 1048576 * s 33 + 16777216 * s 34 + 268435456 * s 35 + 4294967296 * s 36 + 68719476736 * s 37) / 2048 % 2 = s 30 / 8 % 2
      omega
  · rcases (show w = 0 ∨ w = 1 ∨ w = 2 ∨ w = 3 by omega) with rfl | rfl | rfl | rfl
    · show (s 28 + 16 * s 29 + 256 * s 30 + 4096 * s 31 + 65536 * s 32 + 1048576 * s 33 + 16777216 * s 34 + 268435456 * s 35 + 4294967296 * s 36 + 68719476736 * s 37) / 4096 % 2 = s 31 / 1 % 2
      omega
    · show (s 28 + 16 * s 29 + 256 * s 30 + 4096 * s 31 + 65536 * s 32 + 1048576 * s 33 + 16777216 * s 34 + 268435456 * s 35 + 4294967296 * s 36 + 68719476736 * s 37) / 8192 % 2 = s 31 / 2 % 2
      omega
    · show (s 28 + 16 * s 29 + 256 * s 30 + 4096 * s 31 + 65536 * s 32 + 1048576 * s 33 + 16777216 * s 34 + 268435456 * s 35 + 4294967296 * s 36 + 68719476736 * s 37) / 16384 % 2 = s 31 / 4 % 2
      omega
    · show (s 28 + 16 * s 29 + 256 * s 30 + 4096 * s 31 + 65536 * s 32 + 1048576 * s 33 + 16777216 * s 34 + 268435456 * s 35 + 4294967296 * s 36 + 68719476736 * s 37) / 32768 % 2 = s 31 / 8 % 2
      omega
  · rcases (show w = 0 ∨ w = 1 ∨ w = 2 ∨ w = 3 by omega) with rfl | rfl | rfl | rfl
    · show (s 28 + 16 * s 29 + 256 * s 30 + 4096 * s 31 + 65536 * s 32 + 1048576 * s 33 + 16777216 * s 34 + 268435456 * s 35 + 4294967296 * s 36 + 68719476736 * s 37) / 65536 % 2 = s 32 / 1 % 2
      omega
    · show (s 28 + 16 * s 29 + 256 * s 30 + 4096 * s 31 + 65536 * s 32 + 1048576 * s 33 + 16777216 * s 34 + 268435456 * s 35 + 4294967296 * s 36 + 68719476736 * s 37) / 131072 % 2 = s 32 / 2 % 2
      omega
    · show (s 28 + 16 * s 29 + 256 * s 30 + 4096 * s 31 + 65536 * s 32 + 1048576 * s 33 + 16777216 * s 34 + 268435456 * s 35 + 4294967296 * s 36 + 68719476736 * s 37) / 262144 % 2 = s 32 / 4 % 2
      omega
    · show (s 28 + 16 * s 29 + 256 * s 30 + 4096 * s 31 + 65536 * s 32 + 1048576 * s 33 + 16777216 * s 34 + 268435456 * s 35 + 4294967296 * s 36 + 68719476736 * s 37) / 524288 % 2 = s 32 / 8 % 2
      omega
  · rcases (show w = 0 ∨ w = 1 ∨ w = 2 ∨ w = 3 by omega) with rfl | rfl | rfl | rfl
    · show (s 28 + 16 * s 29 + 256 * s 30 + 4096 * s 31 + 65536 * s 32 + 1048576 * s 33 + 16777216 * s 34 + 268435456 * s 35 + 4294967296 * s 36 + 68719476736 * s 37) / 1048576 % 2 = s 33 / 1 % 2
      omega
    · show (s 28 + 16 * s 29 + 256 * s 30 + 4096 * s 31 + 65536 * s 32 + 1048576 * s 33 + 16777216 * s 34 + 268435456 * s 35 + 4294967296 * s 36 + 68719476736 * s 37) / 2097152 % 2 = s 33 / 2 % 2
      omega
    · show (s 28 + 16 * s 29 + 256 * s 30 + 4096 * s 31 + 65536 * s 32 + 1048576 * s 33 + 16777216 * s 34 + 268435456 * s 35 + 4294967296 * s 36 + 68719476736 * s 37) / 4194304 % 2 = s 33 / 4 % 2
      omega
    · show (s 28 + 16 * s 29 + 256 * s 30 + 4096 * s 31 + 65536 * s 32 + 1048576 * s 33 + 16777216 * s 34 + 268435456 * s 35 + 4294967296 * s 36 + 68719476736 * s 37) / 8388608 % 2 = s 33 / 8 % 2
      omega
  · rcases (show w = 0 ∨ w = 1 ∨ w = 2 ∨ w = 3 by omega) with rfl | rfl | rfl | rfl
    · show (s 28 + 16 * s 29 + 256 * s 30 + 4096 * s 31 + 65536 * s 32 + 1048576 * s 33 + 16777216 * s 34 + 268435456 * s 35 + 4294967296 * s 36 + 68719476736 * s 37) / 16777216 % 2 = s 34 / 1 % 2
      omega
    · show (s 28 + 16 * s 29 + 256 * s 30 + 4096 * s 31 + 65536 * s 32 + 1048576 * s 33 + 16777216 * s 34 + 268435456 * s 35 + 4294967296 * s 36 + 68719476736 * s 37) / 33554432 % 2 = s 34 / 2 % 2
      omega
    · show (s 28 + 16 * s 29 + 256 * s 30 + 4096 * s 31 + 65536 * s 32 + 1048576 * s 33 + 16777216 * s 34 + 268435456 * s 35 + 4294967296 * s 36 + 68719476736 * s 37) / 67108864 % 2 = s 34 / 4 % 2
      omega
    · show (s 28 + 16 * s 29 + 256 * s 30 + 4096 * s 31 + 65536 * s 32 + 1048576 * s 33 + 16777216 * s 34 + 268435456 * s 35 + 4294967296 * s 36 + 68719476736 * s 37) / 134217728 % 2 = s 34 / 8 % 2
      omega
  · rcases (show w = 0 ∨ w = 1 ∨ w = 2 ∨ w = 3 by omega) with rfl | rfl | rfl | rfl
    · show (s 28 + 16 * s 29 + 256 * s 30 + 4096 * s 31 + 65536 * s 32 + 1048576 * s 33 + 16777216 * s 34 + 268435456 * s 35 + 4294967296 * s 36 + 68719476736 * s 37) / 268435456 % 2 = s 35 / 1 % 2
      omega
    · show (s 28 + 16 * s 29 + 256 * s 30 + 4096 * s 31 + 65536 * s 32 + 1048576 * s 33 + 16777216 * s 34 + 268435456 * s 35 + 4294967296 * s 36 + 68719476736 * s 37) / 536870912 % 2 = s 35 / 2 % 2
      omega
    · show (s 28 + 16 * s 29 + 256 * s 30 + 4096 * s 31 + 65536 * s 32 + 1048576 * s 33 + 16777216 * s 34 + 268435456 * s 35 + 4294967296 * s 36 + 68719476736 * s 37) / 1073741824 % 2 = s 35 / 4 % 2
      omega
    · show (s 28 + 16 * s 29 + 256 * s 30 + 4096 * s 31 + 65536 * s 32 + 1048576 * s 33 + 16777216 * s 34 + 268435456 * s 35 + 4294967296 * s 36 + 68719476736 * s 37) / 2147483648 % 2 = s 35 / 8 % 2
      omega
  · rcases (show w = 0 ∨ w = 1 ∨ w = 2 ∨ w = 3 by omega) with rfl | rfl | rfl | rfl
    · show (s 28 + 16 * s 29 + 256 * s 30 + 4096 * s 31 + 65536 * s 32 + 1048576 * s 33 + 16777216 * s 34 + 268435456 * s 35 + 4294967296 * s 36 + 68719476736 * s 37) / 4294967296 % 2 = s 36 / 1 % 2
      omega
    · show (s 28 + 16 * s 29 + 256 * s 30 + 4096 * s 31 + 65536 * s 32 + 1048576 * s 33 + 16777216 * s 34 + 268435456 * s 35 + 4294967296 * s 36 + 68719476736 * s 37) / 8589934592 % 2 = s 36 / 2 % 2
      omega
    · show (s 28 + 16 * s 29 + 256 * s 30 + 4096 * s 31 + 65536 * s 32 + 1048576 * s 33 + 16777216 * s 34 + 268435456 * s 35 + 4294967296 * s 36 + 68719476736 * s 37) / 17179869184 % 2 = s 36 / 4 % 2
      omega
    · show (s 28 + 16 * s 29 + 256 * s 30 + 4096 * s 31 + 65536 * s 32 + 1048576 * s 33 + 16777216 * s 34 + 268435456 * s 35 + 4294967296 * s 36 + 68719476736 * s 37) / 34359738368 % 2 = s 36 / 8 % 2
      omega
  · rcases (show w = 0 ∨ w = 1 ∨ w = 2 ∨ w = 3 by omega) with rfl | rfl | rfl | rfl
    · show (s 28 + 16 * s 29 + 256 * s 30 + 4096 * s 31 + 65536 * s 32 + 1048576 * s 33 + 16777216 * s 34 + 268435456 * s 35 + 4294967296 * s 36 + 68719476736 * s 37) / 68719476736 % 2 = s 37 / 1 % 2
      omega
    · show (s 28 + 16 * s 29 + 256 * s 30 + 4096 * s 31 + 65536 * s 32 + 1048576 * s 33 + 16777216 * s 34 + 268435456 * s 35 + 4294967296 * s 36 + 68719476736 * s 37) / 137438953472 % 2 = s 37 / 2 % 2
      omega
    · show (s 28 + 16 * s 29 + 256 * s 30 + 4096 * s 31 + 65536 * s 32 + 1048576 * s 33 + 16777216 * s 34 + 268435456 * s 35 + 4294967296 * s 36 + 68719476736 * s 37) / 274877906944 % 2 = s 37 / 4 % 2
      omega
    · show (s 28 + 16 * s 29 + 256 * s 30 + 4096 * s 31 + 65536 * s 32 + 1048576 * s 33 + 16777216 * s 34 + 268435456 * s 35 + 4294967296 * s 36 + 68719476736 * s 37) / 549755813888 % 2 = s 37 / 8 % 2
      omega
theorem gv_off {s : Nat → Int} {k : Nat} {v : Int} (hk : k < 28 ∨ 38 ≤ k) : gvZ (uZ s k v) = gvZ s := by
  unfold gvZ
  rw [uZ_nk s v (show ¬ 28 = k by omega), uZ_nk s v (show ¬ 29 = k by omega), uZ_nk s v (show ¬ 30 = k by omega), uZ_nk s v (show ¬ 31 = k by omega), uZ_nk s v (show ¬ 32 = k by omega), uZ_nk s v (show ¬ 33 = k by omega), uZ_nk s v (show ¬ 34 = k by omega), uZ_nk s v (show ¬ 35 = k by omega), uZ_nk s v (show ¬ 36 = k by omega), uZ_nk s v (show ¬ 37 = k by omega)]
theorem gv_add {s : Nat → Int} {x w : Int} (hx : 0 ≤ x ∧ x < 10) (hw : 0 ≤ w ∧ w < 4) : gvZ (uZ s (28 + x).toNat (s (28 + x).toNat + twoP w)) = gvZ s + p2 (4 * x + w) := by
  rcases (show x = 0 ∨ x = 1 ∨ x = 2 ∨ x = 3 ∨ x = 4 ∨ x = 5 ∨ x = 6 ∨ x = 7 ∨ x = 8 ∨ x = 9 by omega) with rfl | rfl | rfl | rfl | rfl | rfl | rfl | rfl | rfl | rfl
  · have e : ∀ t : Int, gvZ (uZ s 28 (s 28 + t)) = gvZ s + 1 * t := fun t => by
      unfold gvZ
      rw [uZ_eq, uZ_nk s _ (show ¬ 29 = 28 by decide), uZ_nk s _ (show ¬ 30 = 28 by decide), uZ_nk s _ (show ¬ 31 = 28 by decide), uZ_nk s _ (show ¬ 32 = 28 by decide), uZ_nk s _ (show ¬ 33 = 28 by decide), uZ_nk s _ (show ¬ 34 = 28 by decide), uZ_nk s _ (show ¬ 35 = 28 by decide), uZ_nk s _ (show ¬ 36 = 28 by decide), uZ_nk s _ (show ¬ 37 = 28 by decide)]
      omega
    rcases (show w = 0 ∨ w = 1 ∨ w = 2 ∨ w = 3 by omega) with rfl | rfl | rfl | rfl
    · exact (e (twoP 0)).trans (congrArg (fun q => gvZ s + q) (show 1 * twoP 0 = p2 (4 * 0 + 0) by decide))
    · exact (e (twoP 1)).trans (congrArg (fun q => gvZ s + q) (show 1 * twoP 1 = p2 (4 * 0 + 1) by decide))
    · exact (e (twoP 2)).trans (congrArg (fun q => gvZ s + q) (show 1 * twoP 2 = p2 (4 * 0 + 2) by decide))
    · exact (e (twoP 3)).trans (congrArg (fun q => gvZ s + q) (show 1 * twoP 3 = p2 (4 * 0 + 3) by decide))
  · have e : ∀ t : Int, gvZ (uZ s 29 (s 29 + t)) = gvZ s + 16 * t := fun t => by
      unfold gvZ
      rw [uZ_eq, uZ_nk s _ (show ¬ 28 = 29 by decide), uZ_nk s _ (show ¬ 30 = 29 by decide), uZ_nk s _ (show ¬ 31 = 29 by decide), uZ_nk s _ (show ¬ 32 = 29 by decide), uZ_nk s _ (show ¬ 33 = 29 by decide), uZ_nk s _ (show ¬ 34 = 29 by decide), uZ_nk s _ (show ¬ 35 = 29 by decide), uZ_nk s _ (show ¬ 36 = 29 by decide), uZ_nk s _ (show ¬ 37 = 29 by decide)]
      omega
    rcases (show w = 0 ∨ w = 1 ∨ w = 2 ∨ w = 3 by omega) with rfl | rfl | rfl | rfl
    · exact (e (twoP 0)).trans (congrArg (fun q => gvZ s + q) (show 16 * twoP 0 = p2 (4 * 1 + 0) by decide))
    · exact (e (twoP 1)).trans (congrArg (fun q => gvZ s + q) (show 16 * twoP 1 = p2 (4 * 1 + 1) by decide))
    · exact (e (twoP 2)).trans (congrArg (fun q => gvZ s + q) (show 16 * twoP 2 = p2 (4 * 1 + 2) by decide))
    · exact (e (twoP 3)).trans (congrArg (fun q => gvZ s + q) (show 16 * twoP 3 = p2 (4 * 1 + 3) by decide))
  · have e : ∀ t : Int, gvZ (uZ s 30 (s 30 + t)) = gvZ s + 256 * t := fun t => by
      unfold gvZ
      rw [uZ_eq, uZ_nk s _ (show ¬ 28 = 30 by decide), uZ_nk s _ (show ¬ 29 = 30 by decide), uZ_nk s _ (show ¬ 31 = 30 by decide), uZ_nk s _ (show ¬ 32 = 30 by decide), uZ_nk s _ (show ¬ 33 = 30 by decide), uZ_nk s _ (show ¬ 34 = 30 by decide), uZ_nk s _ (show ¬ 35 = 30 by decide), uZ_nk s _ (show ¬ 36 = 30 by decide), uZ_nk s _ (show ¬ 37 = 30 by decide)]
      omega
    rcases (show w = 0 ∨ w = 1 ∨ w = 2 ∨ w = 3 by omega) with rfl | rfl | rfl | rfl
    · exact (e (twoP 0)).trans (congrArg (fun q => gvZ s + q) (show 256 * twoP 0 = p2 (4 * 2 + 0) by decide))
    · exact (e (twoP 1)).trans (congrArg (fun q => gvZ s + q) (show 256 * twoP 1 = p2 (4 * 2 + 1) by decide))
    · exact (e (twoP 2)).trans (congrArg (fun q => gvZ s + q) (show 256 * twoP 2 = p2 (4 * 2 + 2) by decide))
    · exact (e (twoP 3)).trans (congrArg (fun q => gvZ s + q) (show 256 * twoP 3 = p2 (4 * 2 + 3) by decide))
  · have e : ∀ t : Int, gvZ (uZ s 31 (s 31 + t)) = gvZ s + 4096 * t := fun t => by
      unfold gvZ
      rw [uZ_eq, uZ_nk s _ (show ¬ 28 = 31 by decide), uZ_nk s _ (show ¬ 29 = 31 by decide), uZ_nk s _ (show ¬ 30 = 31 by decide), uZ_nk s _ (show ¬ 32 = 31 by decide), uZ_nk s _ (show ¬ 33 = 31 by decide), uZ_nk s _ (show ¬ 34 = 31 by decide), uZ_nk s _ (show ¬ 35 = 31 by decide), uZ_nk s _ (show ¬ 36 = 31 by decide), uZ_nk s _ (show ¬ 37 = 31 by decide)]
      omega
    rcases (show w = 0 ∨ w = 1 ∨ w = 2 ∨ w = 3 by omega) with rfl | rfl | rfl | rfl
    · exact (e (twoP 0)).trans (congrArg (fun q => gvZ s + q) (show 4096 * twoP 0 = p2 (4 * 3 + 0) by decide))
    · exact (e (twoP 1)).trans (congrArg (fun q => gvZ s + q) (show 4096 * twoP 1 = p2 (4 * 3 + 1) by decide))
    · exact (e (twoP 2)).trans (congrArg (fun q => gvZ s + q) (show 4096 * twoP 2 = p2 (4 * 3 + 2) by decide))
    · exact (e (twoP 3)).trans (congrArg (fun q => gvZ s + q) (show 4096 * twoP 3 = p2 (4 * 3 + 3) by decide))
  · have e : ∀ t : Int, gvZ (uZ s 32 (s 32 + t)) = gvZ s + 65536 * t := fun t => by
      unfold gvZ
      rw [uZ_eq, uZ_nk s _ (show ¬ 28 = 32 by decide), uZ_nk s _ (show ¬ 29 = 32 by decide), uZ_nk s _ (show ¬ 30 = 32 by decide), uZ_nk s _ (show ¬ 31 = 32 by decide), uZ_nk s _ (show ¬ 33 = 32 by decide), uZ_nk s _ (show ¬ 34 = 32 by decide), uZ_nk s _ (show ¬ 35 = 32 by decide), uZ_nk s _ (show ¬ 36 = 32 by decide), uZ_nk s _ (show ¬ 37 = 32 by decide)]
      omega
    rcases (show w = 0 ∨ w = 1 ∨ w = 2 ∨ w = 3 by omega) with rfl | rfl | rfl | rfl
    · exact (e (twoP 0)).trans (congrArg (fun q => gvZ s + q) (show 65536 * twoP 0 = p2 (4 * 4 + 0) by decide))
    · exact (e (twoP 1)).trans (congrArg (fun q => gvZ s + q) (show 65536 * twoP 1 = p2 (4 * 4 + 1) by decide))
    · exact (e (twoP 2)).trans (congrArg (fun q => gvZ s + q) (show 65536 * twoP 2 = p2 (4 * 4 + 2) by decide))
    · exact (e (twoP 3)).trans (congrArg (fun q => gvZ s + q) (show 65536 * twoP 3 = p2 (4 * 4 + 3) by decide))
  · have e : ∀ t : Int, gvZ (uZ s 33 (s 33 + t)) = gvZ s + 1048576 * t := fun t => by
      unfold gvZ
      rw [uZ_eq, uZ_nk s _ (show ¬ 28 = 33 by decide), uZ_nk s _ (show ¬ 29 = 33 by decide), uZ_nk s _ (show ¬ 30 = 33 by decide), uZ_nk s _ (show ¬ 31 = 33 by decide), uZ_nk s _ (show ¬ 32 = 33 by decide), uZ_nk s _ (show ¬ 34 = 33 by decide), uZ_nk s _ (show ¬ 35 = 33 by decide), uZ_nk s _ (show ¬ 36 = 33 by decide), uZ_nk s _ (show ¬ 37 = 33 by decide)]
      omega
    rcases (show w = 0 ∨ w = 1 ∨ w = 2 ∨ w = 3 by omega) with rfl | rfl | rfl | rfl
    · exact (e (twoP 0)).trans (congrArg (fun q => gvZ s + q) (show 1048576 * twoP 0 = p2 (4 * 5 + 0) by decide))
    · exact (e (twoP 1)).trans (congrArg (fun q => gvZ s + q) (show 1048576 * twoP 1 = p2 (4 * 5 + 1) by decide))
    · exact (e (twoP 2)).trans (congrArg (fun q => gvZ s + q) (show 1048576 * twoP 2 = p2 (4 * 5 + 2) by decide))
    · exact (e (twoP 3)).trans (congrArg (fun q => gvZ s + q) (show 1048576 * twoP 3 = p2 (4 * 5 + 3) by decide))
  · have e : ∀ t : Int, gvZ (uZ s 34 (s 34 + t)) = gvZ s + 16777216 * t := fun t => by
      unfold gvZ
      rw [uZ_eq, uZ_nk s _ (show ¬ 28 = 34 by decide), uZ_nk s _ (show ¬ 29 = 34 by decide), uZ_nk s _ (show ¬ 30 = 34 by decide), uZ_nk s _ (show ¬ 31 = 34 by decide), uZ_nk s _ (show ¬ 32 = 34 by decide), uZ_nk s _ (show ¬ 33 = 34 by decide), uZ_nk s _ (show ¬ 35 = 34 by decide), uZ_nk s _ (show ¬ 36 = 34 by decide), uZ_nk s _ (show ¬ 37 = 34 by decide)]
      omega
    rcases (show w = 0 ∨ w = 1 ∨ w = 2 ∨ w = 3 by omega) with rfl | rfl | rfl | rfl
    · exact (e (twoP 0)).trans (congrArg (fun q => gvZ s + q) (show 16777216 * twoP 0 = p2 (4 * 6 + 0) by decide))
    · exact (e (twoP 1)).trans (congrArg (fun q => gvZ s + q) (show 16777216 * twoP 1 = p2 (4 * 6 + 1) by decide))
    · exact (e (twoP 2)).trans (congrArg (fun q => gvZ s + q) (show 16777216 * twoP 2 = p2 (4 * 6 + 2) by decide))
    · exact (e (twoP 3)).trans (congrArg (fun q => gvZ s + q) (show 16777216 * twoP 3 = p2 (4 * 6 + 3) by decide))
  · have e : ∀ t : Int, gvZ (uZ s 35 (s 35 + t)) = gvZ s + 268435456 * t := fun t => by
      unfold gvZ
      rw [uZ_eq, uZ_nk s _ (show ¬ 28 = 35 by decide), uZ_nk s _ (show ¬ 29 = 35 by decide), uZ_nk s _ (show ¬ 30 = 35 by decide), uZ_nk s _ (show ¬ 31 = 35 by decide), uZ_nk s _ (show ¬ 32 = 35 by decide), uZ_nk s _ (show ¬ 33 = 35 by decide), uZ_nk s _ (show ¬ 34 = 35 by decide), uZ_nk s _ (show ¬ 36 = 35 by decide), uZ_nk s _ (show ¬ 37 = 35 by decide)]
      omega
    rcases (show w = 0 ∨ w = 1 ∨ w = 2 ∨ w = 3 by omega) with rfl | rfl | rfl | rfl
    · exact (e (twoP 0)).trans (congrArg (fun q => gvZ s + q) (show 268435456 * twoP 0 = p2 (4 * 7 + 0) by decide))
    · exact (e (twoP 1)).trans (congrArg (fun q => gvZ s + q) (show 268435456 * twoP 1 = p2 (4 * 7 + 1) by decide))
    · exact (e (twoP 2)).trans (congrArg (fun q => gvZ s + q) (show 268435456 * twoP 2 = p2 (4 * 7 + 2) by decide))
    · exact (e (twoP 3)).trans (congrArg (fun q => gvZ s + q) (show 268435456 * twoP 3 = p2 (4 * 7 + 3) by decide))
  · have e : ∀ t : Int, gvZ (uZ s 36 (s 36 + t)) = gvZ s + 4294967296 * t := fun t => by
      unfold gvZ
      rw [uZ_eq, uZ_nk s _ (show ¬ 28 = 36 by decide), uZ_nk s _ (show ¬ 29 = 36 by decide), uZ_nk s _ (show ¬ 30 = 36 by decide), uZ_nk s _ (show ¬ 31 = 36 by decide), uZ_nk s _ (show ¬ 32 = 36 by decide), uZ_nk s _ (show ¬ 33 = 36 by decide), uZ_nk s _ (show ¬ 34 = 36 by decide), uZ_nk s _ (show ¬ 35 = 36 by decide), uZ_nk s _ (show ¬ 37 = 36 by decide)]
      omega
    rcases (show w = 0 ∨ w = 1 ∨ w = 2 ∨ w = 3 by omega) with rfl | rfl | rfl | rfl
    · exact (e (twoP 0)).trans (congrArg (fun q => gvZ s + q) (show 4294967296 * twoP 0 = p2 (4 * 8 + 0) by decide))
    · exact (e (twoP 1)).trans (congrArg (fun q => gvZ s + q) (show 4294967296 * twoP 1 = p2 (4 * 8 + 1) by decide))
    · exact (e (twoP 2)).trans (congrArg (fun q => gvZ s + q) (show 4294967296 * twoP 2 = p2 (4 * 8 + 2) by decide))
    · exact (e (twoP 3)).trans (congrArg (fun q => gvZ s + q) (show 4294967296 * twoP 3 = p2 (4 * 8 + 3) by decide))
  · have e : ∀ t : Int, gvZ (uZ s 37 (s 37 + t)) = gvZ s + 68719476736 * t := fun t => by
      unfold gvZ
      rw [uZ_eq, uZ_nk s _ (show ¬ 28 = 37 by decide), uZ_nk s _ (show ¬ 29 = 37 by decide), uZ_nk s _ (show ¬ 30 = 37 by decide), uZ_nk s _ (show ¬ 31 = 37 by decide), uZ_nk s _ (show ¬ 32 = 37 by decide), uZ_nk s _ (show ¬ 33 = 37 by decide), uZ_nk s _ (show ¬ 34 = 37 by decide), uZ_nk s _ (show ¬ 35 = 37 by decide), uZ_nk s _ (show ¬ 36 = 37 by decide)]
      omega
    rcases (show w = 0 ∨ w = 1 ∨ w = 2 ∨ w = 3 by omega) with rfl | rfl | rfl | rfl
    · exact (e (twoP 0)).trans (congrArg (fun q => gvZ s + q) (show 68719476736 * twoP 0 = p2 (4 * 9 + 0) by decide))
    · exact (e (twoP 1)).trans (congrArg (fun q => gvZ s + q) (show 68719476736 * twoP 1 = p2 (4 * 9 + 1) by decide))
    · exact (e (twoP 2)).trans (congrArg (fun q => gvZ s + q) (show 68719476736 * twoP 2 = p2 (4 * 9 + 2) by decide))
    · exact (e (twoP 3)).trans (congrArg (fun q => gvZ s + q) (show 68719476736 * twoP 3 = p2 (4 * 9 + 3) by decide))
/-! A RUN OF THE CLASS AND ONE OF THE REFERENCE; of the path the places to n -/
def WR (n : Int) (s : Nat → Int) (i : Nat → Int) (g : Nat → Nat → Int) : Prop :=
  (i 0 = s 4 ∧ i 1 = s 5 ∧ i 2 = s 6 ∧ i 3 = s 7 ∧ i 5 = gvZ s) ∧ (∀ k : Nat, k < 4 → g 0 k = s k) ∧ (∀ k : Nat, k < 20 → g 1 k = s (8 + k)) ∧ (∀ k : Nat, k < 20 → g 2 k = s (139 + k)) ∧ (∀ k : Nat, k < 100 → (k : Int) ≤ n → g 3 k = s (39 + k))
theorem uZ_self {s : Nat → Int} {k : Nat} {v : Int} (h : v = s k) : uZ s k v = s := by
  funext j
  by_cases q : j = k
  · rw [q, uZ_eq, h]
  · rw [uZ_nk _ _ q]
theorem uZ_map {f h : Nat → Int} {N o w : Nat} {v : Int} (e : ∀ k, k < N → f k = h (o + k)) : ∀ k, k < N → uZ f w v k = uZ h (o + w) v (o + k) := by
  intro k hk
  by_cases q : k = w
  · subst q
    rw [uZ_eq, uZ_eq]
  · rw [uZ_nk _ _ q, uZ_nk _ _ (by omega)]
    exact e k hk
theorem uZ_map0 {f h : Nat → Int} {N w : Nat} {v : Int} (e : ∀ k, k < N → f k = h k) : ∀ k, k < N → uZ f w v k = uZ h w v k := by
  intro k hk
  by_cases q : k = w
  · subst q
    rw [uZ_eq, uZ_eq]
  · rw [uZ_nk _ _ q, uZ_nk _ _ q]
    exact e k hk
theorem WR.cnt {n : Int} {s s' i i' : Nat → Int} {g g' : Nat → Nat → Int} {k : Nat} {v : Int} (h : WR n s i g) (hk : k < 4) (es : s' = uZ s k v) (ei : i' 0 = i 0 ∧ i' 1 = i 1 ∧ i' 2 = i 2 ∧ i' 3 = i 3 ∧ i' 5 = i 5) (eg : g' 0 = uZ (g 0) k v ∧ g' 1 = g 1 ∧ g' 2 = g 2 ∧ g' 3 = g 3) : WR n s' i' g' := by
  subst es
  have off : ∀ j, 4 ≤ j → uZ s k v j = s j := fun j hj => uZ_nk _ _ (by omega)
  obtain ⟨⟨a0, a1, a2, a3, a5⟩, b0, b1, b2, b3⟩ := h
  obtain ⟨c0, c1, c2, c3, c5⟩ := ei
  obtain ⟨e0, e1, e2, e3⟩ := eg
  refine ⟨⟨?_, ?_, ?_, ?_, ?_⟩, ?_, ?_, ?_, ?_⟩
  · rw [c0, a0, off 4 (by omega)]
  · rw [c1, a1, off 5 (by omega)]
  · rw [c2, a2, off 6 (by omega)]
  · rw [c3, a3, off 7 (by omega)]
  · rw [c5, a5, gv_off (by omega)]
  · rw [e0]
    exact uZ_map0 b0
  · intro j hj
    rw [e1, off _ (by omega)]
    exact b1 j hj
  · intro j hj
    rw [e2, off _ (by omega)]
    exact b2 j hj
  · intro j hj hn
    rw [e3, off _ (by omega)]
    exact b3 j hj hn
theorem WR.give {n : Int} {s s' i i' : Nat → Int} {g g' : Nat → Nat → Int} {x w t : Int} (h : WR n s i g) (hx : 0 ≤ x ∧ x < 10) (hw : 0 ≤ w ∧ w < 4) (ht : 0 ≤ t ∧ t < 10) (es : s' = uZ (uZ (uZ s (28 + x).toNat (s (28 + x).toNat + twoP w)) (8 + 2 * t).toNat 0) (8 + 2 * t + 1).toNat 0) (ei : i' 0 = i 0 ∧ i' 1 = i 1 ∧ i' 2 = i 2 ∧ i' 3 = i 3 ∧ i' 5 = i 5 + p2 (4 * x + w)) (eg : g' 0 = g 0 ∧ g' 1 = uZ (uZ (g 1) (2 * t).toNat 0) (2 * t + 1).toNat 0 ∧ g' 2 = g 2 ∧ g' 3 = g 3) : WR n s' i' g' := by
  subst es
  have r1 : (8 + 2 * t).toNat = 8 + 2 * t.toNat := by omega
  have r2 : (8 + 2 * t + 1).toNat = 8 + (2 * t.toNat + 1) := by omega
  have r3 : (2 * t).toNat = 2 * t.toNat := by omega
  have r4 : (2 * t + 1).toNat = 2 * t.toNat + 1 := by omega
  have off : ∀ j, (j < 8 ∨ 38 ≤ j) → uZ (uZ (uZ s (28 + x).toNat (s (28 + x).toNat + twoP w)) (8 + 2 * t).toNat 0) (8 + 2 * t + 1).toNat 0 j = s j := fun j hj => by rw [uZ_nk _ _ (by omega), uZ_nk _ _ (by omega), uZ_nk _ _ (by omega)]
  obtain ⟨⟨a0, a1, a2, a3, a5⟩, b0, b1, b2, b3⟩ := h
  obtain ⟨c0, c1, c2, c3, c5⟩ := ei
  obtain ⟨e0, e1, e2, e3⟩ := eg
  refine ⟨⟨?_, ?_, ?_, ?_, ?_⟩, ?_, ?_, ?_, ?_⟩
  · rw [c0, a0, off 4 (by omega)]
  · rw [c1, a1, off 5 (by omega)]
  · rw [c2, a2, off 6 (by omega)]
  · rw [c3, a3, off 7 (by omega)]
  · rw [c5, a5, gv_off (by omega), gv_off (by omega), gv_add hx hw]
  · intro j hj
    rw [e0, off _ (by omega)]
    exact b0 j hj
  · rw [e1, r1, r2, r3, r4]
    exact uZ_map (uZ_map (fun k hk => by rw [uZ_nk _ _ (by omega)]; exact b1 k hk))
  · intro j hj
    rw [e2, off _ (by omega)]
    exact b2 j hj
  · intro j hj hn
    rw [e3, off _ (by omega)]
    exact b3 j hj hn
theorem WR.en {n : Int} {s s' i i' : Nat → Int} {g g' : Nat → Nat → Int} {v : Int} (h : WR n s i g) (es : s' = uZ s 6 v) (ei : i' 0 = i 0 ∧ i' 1 = i 1 ∧ i' 2 = v ∧ i' 3 = i 3 ∧ i' 5 = i 5) (eg : g' 0 = g 0 ∧ g' 1 = g 1 ∧ g' 2 = g 2 ∧ g' 3 = g 3) : WR n s' i' g' := by
  subst es
  have off : ∀ j, ¬ j = 6 → uZ s 6 v j = s j := fun j hj => uZ_nk _ _ hj
  obtain ⟨⟨a0, a1, a2, a3, a5⟩, b0, b1, b2, b3⟩ := h
  obtain ⟨c0, c1, c2, c3, c5⟩ := ei
  obtain ⟨e0, e1, e2, e3⟩ := eg
  refine ⟨⟨?_, ?_, ?_, ?_, ?_⟩, ?_, ?_, ?_, ?_⟩
  · rw [c0, a0, off 4 (by omega)]
  · rw [c1, a1, off 5 (by omega)]
  · rw [c2, uZ_eq]
  · rw [c3, a3, off 7 (by omega)]
  · rw [c5, a5, gv_off (by omega)]
  · intro j hj
    rw [e0, off _ (by omega)]
    exact b0 j hj
  · intro j hj
    rw [e1, off _ (by omega)]
    exact b1 j hj
  · intro j hj
    rw [e2, off _ (by omega)]
    exact b2 j hj
  · intro j hj hn
    rw [e3, off _ (by omega)]
    exact b3 j hj hn
theorem WR.stp {n : Int} {s s' i i' : Nat → Int} {g g' : Nat → Nat → Int} (h : WR n s i g) (es : s' = uZ s 5 (s 5 + 1)) (ei : i' 0 = i 0 ∧ i' 1 = i 1 + 1 ∧ i' 2 = i 2 ∧ i' 3 = i 3 ∧ i' 5 = i 5) (eg : g' 0 = g 0 ∧ g' 1 = g 1 ∧ g' 2 = g 2 ∧ g' 3 = g 3) : WR n s' i' g' := by
  subst es
  have off : ∀ j, ¬ j = 5 → uZ s 5 (s 5 + 1) j = s j := fun j hj => uZ_nk _ _ hj
  obtain ⟨⟨a0, a1, a2, a3, a5⟩, b0, b1, b2, b3⟩ := h
  obtain ⟨c0, c1, c2, c3, c5⟩ := ei
  obtain ⟨e0, e1, e2, e3⟩ := eg
  refine ⟨⟨?_, ?_, ?_, ?_, ?_⟩, ?_, ?_, ?_, ?_⟩
  · rw [c0, a0, off 4 (by omega)]
  · rw [c1, a1, uZ_eq]
  · rw [c2, a2, off 6 (by omega)]
  · rw [c3, a3, off 7 (by omega)]
  · rw [c5, a5, gv_off (by omega)]
  · intro j hj
    rw [e0, off _ (by omega)]
    exact b0 j hj
  · intro j hj
    rw [e1, off _ (by omega)]
    exact b1 j hj
  · intro j hj
    rw [e2, off _ (by omega)]
    exact b2 j hj
  · intro j hj hn
    rw [e3, off _ (by omega)]
    exact b3 j hj hn
theorem WR.took {n : Int} {s s' i i' : Nat → Int} {g g' : Nat → Nat → Int} {way L E : Int} (h : WR n s i g) (hw : 0 ≤ way ∧ way < 20) (es : s' = uZ (uZ (orU (incU (incU (incU s (8 + way).toNat) (139 + way).toNat) 7) way) 4 L) 6 E) (ei : i' 0 = L ∧ i' 1 = i 1 ∧ i' 2 = E ∧ i' 3 = i 3 + 1 ∧ i' 5 = i 5) (eg : g' 0 = g 0 ∧ g' 1 = uZ (g 1) way.toNat (g 1 way.toNat + 1) ∧ g' 2 = uZ (g 2) way.toNat (g 2 way.toNat + 1) ∧ g' 3 = g 3) : WR n s' i' g' := by
  unfold orU incU at es
  have r1 : (8 + way).toNat = 8 + way.toNat := by omega
  have r2 : (139 + way).toNat = 139 + way.toNat := by omega
  rw [r1, r2] at es
  obtain ⟨s1, h1⟩ : ∃ s1 : Nat → Int, s1 = uZ s (8 + way.toNat) (s (8 + way.toNat) + 1) := ⟨_, rfl⟩
  rw [← h1] at es
  have q1 : s1 (139 + way.toNat) = s (139 + way.toNat) := by rw [h1, uZ_nk _ _ (by omega)]
  rw [q1] at es
  obtain ⟨s2, h2⟩ : ∃ s2 : Nat → Int, s2 = uZ s1 (139 + way.toNat) (s (139 + way.toNat) + 1) := ⟨_, rfl⟩
  rw [← h2] at es
  have q2 : s2 7 = s 7 := by rw [h2, uZ_nk _ _ (by omega), h1, uZ_nk _ _ (by omega)]
  rw [q2] at es
  generalize orW (uZ s2 7 (s 7 + 1) 38) way = O at es
  have offA : ∀ j, ¬ j = 7 → ¬ j = 38 → ¬ j = 4 → ¬ j = 6 → s' j = s2 j := fun j u1 u2 u3 u4 => by rw [es, uZ_nk _ _ u4, uZ_nk _ _ u3, uZ_nk _ _ u2, uZ_nk _ _ u1]
  obtain ⟨⟨a0, a1, a2, a3, a5⟩, b0, b1, b2, b3⟩ := h
  obtain ⟨c0, c1, c2, c3, c5⟩ := ei
  obtain ⟨e0, e1, e2, e3⟩ := eg
  refine ⟨⟨?_, ?_, ?_, ?_, ?_⟩, ?_, ?_, ?_, ?_⟩
  · rw [c0, es, uZ_nk _ _ (by omega), uZ_eq]
  · rw [c1, a1, offA 5 (by omega) (by omega) (by omega) (by omega), h2, uZ_nk _ _ (by omega), h1, uZ_nk _ _ (by omega)]
  · rw [c2, es, uZ_eq]
  · rw [c3, a3, es, uZ_nk _ _ (by omega), uZ_nk _ _ (by omega), uZ_nk _ _ (by omega), uZ_eq]
  · rw [c5, a5, es, gv_off (by omega), gv_off (by omega), gv_off (by omega), gv_off (by omega), h2, gv_off (by omega), h1, gv_off (by omega)]
  · intro j hj
    rw [e0, offA _ (by omega) (by omega) (by omega) (by omega), h2, uZ_nk _ _ (by omega), h1, uZ_nk _ _ (by omega)]
    exact b0 j hj
  · intro j hj
    have q : s' (8 + j) = uZ s (8 + way.toNat) (s (8 + way.toNat) + 1) (8 + j) := by rw [offA _ (by omega) (by omega) (by omega) (by omega), h2, uZ_nk _ _ (show ¬ 8 + j = 139 + way.toNat by omega), h1]
    rw [q, e1, b1 way.toNat (by omega)]
    exact uZ_map b1 j hj
  · intro j hj
    rw [e2, offA _ (by omega) (by omega) (by omega) (by omega), h2, ← b2 way.toNat (by omega)]
    exact uZ_map (fun k hk => by rw [h1, uZ_nk _ _ (by omega)]; exact b2 k hk) j hj
  · intro j hj hn
    rw [e3, offA _ (by omega) (by omega) (by omega) (by omega), h2, uZ_nk _ _ (by omega), h1, uZ_nk _ _ (by omega)]
    exact b3 j hj hn
theorem WR.path {n : Int} {s i i' : Nat → Int} {g g' : Nat → Nat → Int} (h : WR n s i g) (hn : n + 1 = s 5) (h0 : 0 ≤ s 5) (hlt : s 5 < 100) (ei : i' 0 = i 0 ∧ i' 1 = i 1 ∧ i' 2 = i 2 ∧ i' 3 = i 3 ∧ i' 5 = i 5) (eg : g' 0 = g 0 ∧ g' 1 = g 1 ∧ g' 2 = g 2 ∧ g' 3 = uZ (g 3) (i 1).toNat (i 0)) : WR (pathF s 5) (pathF s) i' g' := by
  have es : pathF s = uZ s (39 + s 5).toNat (s 4) := if_pos hlt
  rw [es]
  have r1 : (39 + s 5).toNat = 39 + (s 5).toNat := by omega
  have off : ∀ j, ¬ j = 39 + (s 5).toNat → uZ s (39 + s 5).toNat (s 4) j = s j := fun j hj => by rw [r1]; exact uZ_nk _ _ hj
  obtain ⟨⟨a0, a1, a2, a3, a5⟩, b0, b1, b2, b3⟩ := h
  obtain ⟨c0, c1, c2, c3, c5⟩ := ei
  obtain ⟨e0, e1, e2, e3⟩ := eg
  refine ⟨⟨?_, ?_, ?_, ?_, ?_⟩, ?_, ?_, ?_, ?_⟩
  · rw [c0, a0, off 4 (by omega)]
  · rw [c1, a1, off 5 (by omega)]
  · rw [c2, a2, off 6 (by omega)]
  · rw [c3, a3, off 7 (by omega)]
  · rw [c5, a5, gv_off (by omega)]
  · intro j hj
    rw [e0, off _ (by omega)]
    exact b0 j hj
  · intro j hj
    rw [e1, off _ (by omega)]
    exact b1 j hj
  · intro j hj
    rw [e2, off _ (by omega)]
    exact b2 j hj
  · intro j hj hq
    rw [off 5 (by omega)] at hq
    rw [e3, a1, a0, r1]
    by_cases q : j = (s 5).toNat
    · subst q
      rw [uZ_eq, uZ_eq]
    · rw [uZ_nk _ _ q, uZ_nk _ _ (by omega)]
      exact b3 j hj (by omega)
theorem WR.nopath {n : Int} {s i : Nat → Int} {g : Nat → Nat → Int} (h : WR n s i g) (hn : n + 1 = s 5) (hlt : ¬ s 5 < 100) : WR (pathF s 5) (pathF s) i g := by
  have es : pathF s = s := if_neg hlt
  rw [es]
  exact ⟨h.1, h.2.1, h.2.2.1, h.2.2.2.1, fun j hj _ => h.2.2.2.2 j hj (by omega)⟩
