def NetW (n : Int) (g : Nat → Nat → Int) : Prop := (0 ≤ n ∧ n ≤ 10) ∧ (∀ k, k < 10 → -1 ≤ g 0 k ∧ g 0 k ≤ 2) ∧ (∀ k, k < 10 → -2 ≤ g 1 k ∧ g 1 k ≤ 3) ∧ (∀ k, k < 10 → 0 ≤ g 2 k ∧ g 2 k ≤ 4) ∧ (∀ k, k < 40 → 0 ≤ g 3 k ∧ g 3 k ≤ 3) ∧ (∀ k, k < 40 → 0 ≤ g 4 k ∧ g 4 k ≤ 9 ∧ (g 3 k ≠ 3 → g 4 k ≤ 3)) ∧ (∀ k, k < 40 → 0 ≤ g 5 k ∧ g 5 k ≤ 9) ∧ (∀ k, k < 20 → -2 ≤ g 6 k ∧ g 6 k ≤ 9 ∧ (0 < g 7 k → 0 ≤ g 6 k)) ∧ (∀ k, k < 20 → 0 ≤ g 7 k ∧ g 7 k ≤ 9)
theorem NetOk.weak {n : Int} {g : Nat → Nat → Int} (h : NetOk n g) : NetW n g := ⟨h.1, h.2.1, fun k hk => ⟨(h.2.2.1 k hk).1, (h.2.2.1 k hk).2.1⟩, h.2.2.2⟩
theorem NetW.strong {n : Int} {g : Nat → Nat → Int} (h : NetW n g) (q : ∀ k, k < 10 → g 0 k = 2 → 0 ≤ g 1 k) : NetOk n g := ⟨h.1, h.2.1, fun k hk => ⟨(h.2.2.1 k hk).1, (h.2.2.1 k hk).2, q k hk⟩, h.2.2.2⟩
theorem NetW.untell {n : Int} {g : Nat → Nat → Int} (h : NetW n g) {x : Int} (hx : 0 ≤ x ∧ x < 10) {g0 g1 g2 a6 g6 a7 g7 : Nat → Int} (e0 : g0 = uZ (g 0) x.toNat (-1)) (e1 : g1 = uZ (g 1) x.toNat (-2)) (e2 : g2 = uZ (g 2) x.toNat 0) (e6 : a6 = uZ (g 6) (2 * x).toNat (-2)) (e6b : g6 = uZ a6 (2 * x + 1).toNat (-2)) (e7 : a7 = uZ (g 7) (2 * x).toNat 0) (e7b : g7 = uZ a7 (2 * x + 1).toNat 0) : NetW n (fun k => [g0, g1, g2, g 3, g 4, g 5, g6, g7].getD k (fun _ => 0)) ∧ g0 x.toNat = -1 ∧ ∀ k, k ≠ x.toNat → g0 k = g 0 k := by
  obtain ⟨h0, h1, h2, h3, h4, h5, h6, h7, h8⟩ := h
  subst e0 e1 e2 e6 e6b e7 e7b
  refine ⟨⟨h0, ?_, ?_, ?_, h4, h5, h6, ?_, ?_⟩, by simp [uZ], fun k hk => by simp [uZ, hk]⟩
  · exact uZ_all (P := fun _ y => -1 ≤ y ∧ y ≤ 2) h1 (fun _ => by omega)
  · exact uZ_all (P := fun _ y => -2 ≤ y ∧ y ≤ 3) h2 (fun _ => by omega)
  · exact uZ_all (P := fun _ y => 0 ≤ y ∧ y ≤ 4) h3 (fun _ => by omega)
  · intro k hk
    have z := h7 k hk
    show -2 ≤ uZ (uZ (g 6) (2 * x).toNat (-2)) (2 * x + 1).toNat (-2) k ∧ uZ (uZ (g 6) (2 * x).toNat (-2)) (2 * x + 1).toNat (-2) k ≤ 9 ∧ (0 < uZ (uZ (g 7) (2 * x).toNat 0) (2 * x + 1).toNat 0 k → 0 ≤ uZ (uZ (g 6) (2 * x).toNat (-2)) (2 * x + 1).toNat (-2) k)
    by_cases e : k = (2 * x + 1).toNat
    · simp only [uZ, if_pos e]; omega
    · by_cases e2 : k = (2 * x).toNat
      · simp only [uZ, if_neg e, if_pos e2]; omega
      · simp only [uZ, if_neg e, if_neg e2]; exact z
  · exact uZ_all (P := fun _ y => 0 ≤ y ∧ y ≤ 9) (uZ_all (P := fun _ y => 0 ≤ y ∧ y ≤ 9) h8 (fun _ => by omega)) (fun _ => by omega)