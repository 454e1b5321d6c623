/-! EQUAL NETS: a line of the class's net against its row of twenty numbers -/
def NRow (g : Nat → Nat → Int) (P : Nat → Int) (k : Nat) : Prop :=
  (g 0 k = -1 ∧ (g 1 k = -2 ∧ g 2 k = 0 ∧ g 6 (2 * k) = -2 ∧ g 6 (2 * k + 1) = -2 ∧ g 7 (2 * k) = 0 ∧ g 7 (2 * k + 1) = 0) ∧ ∀ j : Nat, j < 20 → P (20 * k + j) = 0)
  ∨ (P (20 * k) = 1 ∧ (g 0 k = P (20 * k + 14) ∧ 0 ≤ g 0 k ∧ g 0 k ≤ 2) ∧ g 2 k = P (20 * k + 1)
    ∧ (∀ j : Nat, (j : Int) < g 2 k → g 3 (4 * k + j) = P (20 * k + (2 + 3 * j)) ∧ g 4 (4 * k + j) = P (20 * k + (2 + 3 * j + 1)) ∧ g 5 (4 * k + j) = P (20 * k + (2 + 3 * j + 2)))
    ∧ ((g 0 k = 0 ∧ g 6 (2 * k) = -2 ∧ g 7 (2 * k) = 0) ∨ (1 ≤ g 0 k ∧ g 6 (2 * k) = P (20 * k + 16) ∧ g 7 (2 * k) = P (20 * k + 17) ∧ 1 ≤ g 7 (2 * k)))
    ∧ ((g 0 k ≠ 2 ∧ g 1 k = -2 ∧ g 6 (2 * k + 1) = -2 ∧ g 7 (2 * k + 1) = 0) ∨ (g 0 k = 2 ∧ g 1 k = P (20 * k + 15) ∧ g 6 (2 * k + 1) = P (20 * k + 18) ∧ g 7 (2 * k + 1) = P (20 * k + 19) ∧ 1 ≤ g 7 (2 * k + 1))))
def NRel (g : Nat → Nat → Int) (P : Nat → Int) : Prop := ∀ k : Nat, k < 10 → NRow g P k
theorem NRow.congr {g g' : Nat → Nat → Int} {P P' : Nat → Int} {k : Nat} (h : NRow g P k) (e0 : g' 0 k = g 0 k) (e1 : g' 1 k = g 1 k) (e2 : g' 2 k = g 2 k) (h4 : g 2 k ≤ 4) (e3 : ∀ j : Nat, j < 4 → g' 3 (4 * k + j) = g 3 (4 * k + j) ∧ g' 4 (4 * k + j) = g 4 (4 * k + j) ∧ g' 5 (4 * k + j) = g 5 (4 * k + j)) (e6 : g' 6 (2 * k) = g 6 (2 * k) ∧ g' 6 (2 * k + 1) = g 6 (2 * k + 1)) (e7 : g' 7 (2 * k) = g 7 (2 * k) ∧ g' 7 (2 * k + 1) = g 7 (2 * k + 1)) (eP : ∀ j : Nat, j < 20 → P' (20 * k + j) = P (20 * k + j)) : NRow g' P' k := by
  have p0 : P' (20 * k) = P (20 * k) := eP 0 (by omega)
  unfold NRow at h ⊢
  rw [e0, e1, e2, e6.1, e6.2, e7.1, e7.2, p0, eP 14 (by omega), eP 1 (by omega), eP 16 (by omega), eP 17 (by omega), eP 15 (by omega), eP 18 (by omega), eP 19 (by omega)]
  rcases h with ⟨h1, h2, h3⟩ | ⟨h1, h2, h3, h5, h6⟩
  · exact Or.inl ⟨h1, h2, fun j hj => by rw [eP j hj]; exact h3 j hj⟩
  · refine Or.inr ⟨h1, h2, h3, fun j hj => ?_, h6⟩
    obtain ⟨a1, a2, a3⟩ := e3 j (by omega)
    rw [a1, a2, a3, eP (2 + 3 * j) (by omega), eP (2 + 3 * j + 1) (by omega), eP (2 + 3 * j + 2) (by omega)]
    exact h5 j hj
theorem actPut_at {P : Nat → Int} {x a t v : Int} (hx : 0 ≤ x) (hA : ActR a t v) (z0 : P x.toNat = 0) (z2 : P (x + 2).toNat = 0) : actPut P x a t v x.toNat = a ∧ actPut P x a t v (x + 1).toNat = t ∧ actPut P x a t v (x + 2).toNat = v := by
  obtain ⟨h1, h2, h3, h4, h5⟩ := hA
  have n01 : ¬ x.toNat = (x + 1).toNat := by omega
  have n02 : ¬ x.toNat = (x + 2).toNat := by omega
  have n10 : ¬ (x + 1).toNat = x.toNat := by omega
  have n12 : ¬ (x + 1).toNat = (x + 2).toNat := by omega
  have n20 : ¬ (x + 2).toNat = x.toNat := by omega
  have n21 : ¬ (x + 2).toNat = (x + 1).toNat := by omega
  have hs : ∀ (g : Nat → Int) (i : Nat) (w : Int), uZ g i w i = w := fun g i w => by simp [uZ]
  rcases (show a = 0 ∨ a = 1 ∨ a = 2 ∨ a = 3 by omega) with rfl | rfl | rfl | rfl
  · show uZ P (x + 1).toNat t x.toNat = 0 ∧ uZ P (x + 1).toNat t (x + 1).toNat = t ∧ uZ P (x + 1).toNat t (x + 2).toNat = v
    rw [uZ_nk _ _ n01, hs, uZ_nk _ _ n21, z0, z2, h5 (by omega)]
    exact ⟨rfl, rfl, rfl⟩
  · show uZ (uZ P x.toNat 1) (x + 1).toNat t x.toNat = 1 ∧ uZ (uZ P x.toNat 1) (x + 1).toNat t (x + 1).toNat = t ∧ uZ (uZ P x.toNat 1) (x + 1).toNat t (x + 2).toNat = v
    rw [uZ_nk _ _ n01, hs, hs, uZ_nk _ _ n21, uZ_nk _ _ n20, z2, h5 (by omega)]
    exact ⟨rfl, rfl, rfl⟩
  · show uZ (uZ (uZ P x.toNat 2) (x + 1).toNat t) (x + 2).toNat v x.toNat = 2 ∧ uZ (uZ (uZ P x.toNat 2) (x + 1).toNat t) (x + 2).toNat v (x + 1).toNat = t ∧ uZ (uZ (uZ P x.toNat 2) (x + 1).toNat t) (x + 2).toNat v (x + 2).toNat = v
    rw [uZ_nk _ _ n02, uZ_nk _ _ n01, hs, uZ_nk _ _ n12, hs, hs]
    exact ⟨rfl, rfl, rfl⟩
  · show uZ (uZ P x.toNat 3) (x + 1).toNat t x.toNat = 3 ∧ uZ (uZ P x.toNat 3) (x + 1).toNat t (x + 1).toNat = t ∧ uZ (uZ P x.toNat 3) (x + 1).toNat t (x + 2).toNat = v
    rw [uZ_nk _ _ n01, hs, hs, uZ_nk _ _ n21, uZ_nk _ _ n20, z2, h5 (by omega)]
    exact ⟨rfl, rfl, rfl⟩
/-- the acts stand in the row, and what lies behind them is still 0 -/
theorem actsPut_at {P K T V : Nat → Int} {x : Int} (hx : 0 ≤ x) (hz : ∀ j : Nat, j < 20 → P (x.toNat + j) = 0) : ∀ r : Nat, r ≤ 4 → (∀ j : Nat, j < r → ActR (K j) (T j) (V j)) → (∀ j : Nat, j < r → actsPut P x K T V r (x.toNat + (2 + 3 * j)) = K j ∧ actsPut P x K T V r (x.toNat + (2 + 3 * j + 1)) = T j ∧ actsPut P x K T V r (x.toNat + (2 + 3 * j + 2)) = V j) ∧ ∀ j : Nat, j < 20 → (j < 2 ∨ 2 + 3 * r ≤ j) → actsPut P x K T V r (x.toNat + j) = 0
  | 0, _, _ => ⟨fun j hj => absurd hj (by omega), fun j hj _ => hz j hj⟩
  | r + 1, hr, hA => by
    obtain ⟨ih1, ih2⟩ := actsPut_at (K := K) (T := T) (V := V) hx hz r (by omega) (fun j hj => hA j (by omega))
    have e : actsPut P x K T V (r + 1) = actPut (actsPut P x K T V r) (x + 2 + 3 * (r : Int)) (K r) (T r) (V r) := rfl
    have i0 : (x + 2 + 3 * (r : Int)).toNat = x.toNat + (2 + 3 * r) := by omega
    have i1 : (x + 2 + 3 * (r : Int) + 1).toNat = x.toNat + (2 + 3 * r + 1) := by omega
    have i2 : (x + 2 + 3 * (r : Int) + 2).toNat = x.toNat + (2 + 3 * r + 2) := by omega
    have ha := actPut_at (P := actsPut P x K T V r) (x := x + 2 + 3 * (r : Int)) (by omega) (hA r (by omega)) (by rw [i0]; exact ih2 _ (by omega) (by omega)) (by rw [i2]; exact ih2 _ (by omega) (by omega))
    rw [i0, i1, i2] at ha
    refine ⟨fun j hj => ?_, fun j hj h2 => ?_⟩
    · rw [e]
      by_cases q : j = r
      · subst q; exact ha
      · rw [actPut_out (by omega) (by omega), actPut_out (by omega) (by omega), actPut_out (by omega) (by omega)]
        exact ih1 j (by omega)
    · rw [e, actPut_out (by omega) (by omega)]
      exact ih2 j hj (by omega)
theorem lineQ {P K T V : Nat → Int} {x cnt : Int} (hx : 0 ≤ x) (hc : 0 ≤ cnt ∧ cnt ≤ 4) (hz : ∀ j : Nat, j < 20 → P (x.toNat + j) = 0) (hA : ∀ j : Nat, (j : Int) < cnt → ActR (K j) (T j) (V j)) {Q : Nat → Int} (hQ : Q = if cnt = 0 then P else uZ (actsPut P x K T V cnt.toNat) (x + 1).toNat cnt) : Q (x.toNat + 1) = cnt ∧ (∀ j : Nat, (j : Int) < cnt → Q (x.toNat + (2 + 3 * j)) = K j ∧ Q (x.toNat + (2 + 3 * j + 1)) = T j ∧ Q (x.toNat + (2 + 3 * j + 2)) = V j) ∧ Q (x.toNat + 14) = 0 := by
  by_cases q : cnt = 0
  · rw [if_pos q] at hQ
    subst hQ
    exact ⟨by rw [hz 1 (by omega)]; omega, fun j hj => absurd hj (by omega), hz 14 (by omega)⟩
  · rw [if_neg q] at hQ
    subst hQ
    obtain ⟨h1, h2⟩ := actsPut_at (K := K) (T := T) (V := V) hx hz cnt.toNat (by omega) (fun j hj => hA j (by omega))
    refine ⟨?_, fun j hj => ?_, ?_⟩
    · rw [show (x + 1).toNat = x.toNat + 1 by omega]; simp [uZ]
    · rw [uZ_nk _ _ (by omega), uZ_nk _ _ (by omega), uZ_nk _ _ (by omega)]
      exact h1 j (by omega)
    · rw [uZ_nk _ _ (by omega)]
      exact h2 14 (by omega) (by omega)
theorem goalPut_at {P : Nat → Int} {x go ask l0 v0 l1 v1 : Int} (hx : 0 ≤ x) (hg : 0 ≤ go ∧ go ≤ 2) (hz : P (x.toNat + 14) = 0) : goalPut P x go ask l0 v0 l1 v1 (x.toNat + 14) = go ∧ (1 ≤ go → goalPut P x go ask l0 v0 l1 v1 (x.toNat + 16) = l0 ∧ goalPut P x go ask l0 v0 l1 v1 (x.toNat + 17) = v0) ∧ (go = 2 → goalPut P x go ask l0 v0 l1 v1 (x.toNat + 15) = ask ∧ goalPut P x go ask l0 v0 l1 v1 (x.toNat + 18) = l1 ∧ goalPut P x go ask l0 v0 l1 v1 (x.toNat + 19) = v1) := by
  have e14 : (x + 14).toNat = x.toNat + 14 := by omega
  have e15 : (x + 15).toNat = x.toNat + 15 := by omega
  have e16 : (x + 16).toNat = x.toNat + 16 := by omega
  have e17 : (x + 16 + 1).toNat = x.toNat + 17 := by omega
  have e18 : (x + 18).toNat = x.toNat + 18 := by omega
  have e19 : (x + 18 + 1).toNat = x.toNat + 19 := by omega
  have hs : ∀ (g : Nat → Int) (i : Nat) (w : Int), uZ g i w i = w := fun g i w => by simp [uZ]
  rcases (show go = 0 ∨ go = 1 ∨ go = 2 by omega) with rfl | rfl | rfl
  · exact ⟨hz, fun q => absurd q (by decide), fun q => absurd q (by decide)⟩
  · have e : goalPut P x 1 ask l0 v0 l1 v1 = uZ (uZ (uZ P (x + 14).toNat 1) (x + 16).toNat l0) (x + 16 + 1).toNat v0 := rfl
    rw [e, e14, e16, e17]
    refine ⟨?_, fun _ => ⟨?_, ?_⟩, fun q => absurd q (by decide)⟩
    · rw [uZ_nk _ _ (by omega), uZ_nk _ _ (by omega), hs]
    · rw [uZ_nk _ _ (by omega), hs]
    · rw [hs]
  · have e : goalPut P x 2 ask l0 v0 l1 v1 = uZ (uZ (uZ (uZ (uZ (uZ P (x + 14).toNat 2) (x + 15).toNat ask) (x + 16).toNat l0) (x + 16 + 1).toNat v0) (x + 18).toNat l1) (x + 18 + 1).toNat v1 := rfl
    rw [e, e14, e15, e16, e17, e18, e19]
    refine ⟨?_, fun _ => ⟨?_, ?_⟩, fun _ => ⟨?_, ?_, ?_⟩⟩
    · rw [uZ_nk _ _ (by omega), uZ_nk _ _ (by omega), uZ_nk _ _ (by omega), uZ_nk _ _ (by omega), uZ_nk _ _ (by omega), hs]
    · rw [uZ_nk _ _ (by omega), uZ_nk _ _ (by omega), uZ_nk _ _ (by omega), hs]
    · rw [uZ_nk _ _ (by omega), uZ_nk _ _ (by omega), hs]
    · rw [uZ_nk _ _ (by omega), uZ_nk _ _ (by omega), uZ_nk _ _ (by omega), uZ_nk _ _ (by omega), hs]
    · rw [uZ_nk _ _ (by omega), hs]
    · rw [hs]
/-- ways are laid once at least -/
def GoalV (go v0 v1 : Int) : Prop := (1 ≤ go → 1 ≤ v0) ∧ (go = 2 → 1 ≤ v1)
theorem goal_v {f : Nat → Int} {n m c : Int} {nm : Nat → Int} {a : (Int × Int × (Int × Int) × (Int × Int)) × Int} (h : goalS f n m nm c = .inr a) : GoalV a.1.1 a.1.2.2.1.2 a.1.2.2.2.2 := by
  unfold goalS at h
  split at h
  · cases h
    exact ⟨fun q => absurd (show (1 : Int) ≤ 0 from q) (by decide), fun q => absurd (show (0 : Int) = 2 from q) (by decide)⟩
  · split at h
    · obtain ⟨x, h1, h2⟩ := bnd_inv h
      cases h2
      have q := way_rg h1
      exact ⟨fun _ => q.2.1, fun z => absurd (show (1 : Int) = 2 from z) (by decide)⟩
    · split at h
      · obtain ⟨x, h1, h2⟩ := bnd_inv h
        obtain ⟨y, h3, h4⟩ := bnd_inv h2
        obtain ⟨z, h5, h6⟩ := bnd_inv h4
        obtain ⟨u, h7, h8⟩ := bnd_inv h6
        obtain ⟨v, h9, h10⟩ := bnd_inv h8
        cases h10
        have q2 := way_rg h5
        have q3 := way_rg h9
        exact ⟨fun _ => q2.2.1, fun _ => q3.2.1⟩
      · cases h
theorem line_v {f : Nat → Int} {n m c : Int} {nm td : Nat → Int} {a : (Int × (Int × (Nat → Int) × (Nat → Int) × (Nat → Int)) × (Int × Int × (Int × Int) × (Int × Int))) × Int} (h : lineS f n m nm td c = .inr a) : GoalV a.1.2.2.1 a.1.2.2.2.2.1.2 a.1.2.2.2.2.2.2 := by
  unfold lineS at h
  split at h
  · cases h
  · obtain ⟨x, h1, h2⟩ := bnd_inv h
    split at h2
    · obtain ⟨y, h3, h4⟩ := bnd_inv h2
      obtain ⟨z, h5, h6⟩ := bnd_inv h4
      obtain ⟨w, h7, h8⟩ := bnd_inv h6
      cases h8
      have q := goal_v h7
      exact q
    · cases h2
/-- a line that is told: the rows stay alike -/
theorem NRel.line {P K T V : Nat → Int} {gn g : Nat → Nat → Int} {x cnt go ask l0 v0 l1 v1 : Int} (h : NRel gn P) (h4 : ∀ k : Nat, k < 10 → gn 2 k ≤ 4) (hx : 0 ≤ x ∧ x < 10) (hu : gn 0 x.toNat = -1) (hN : NLine gn g x cnt K T V go ask l0 v0 l1 v1) (hc : 0 ≤ cnt ∧ cnt ≤ 4) (hA : ∀ j : Nat, (j : Int) < cnt → ActR (K j) (T j) (V j)) (hg : 0 ≤ go ∧ go ≤ 2) (hv : GoalV go v0 v1) : NRel g (linePut P x cnt K T V go ask l0 v0 l1 v1) := by
  obtain ⟨gA, ⟨hR, hO, hC1, hC2⟩, hgo⟩ := hN
  obtain ⟨o3, o0, o1, o6, o7⟩ := hO
  have hxn : (20 * x).toNat = 20 * x.toNat := by omega
  have hx2 : (2 * x).toNat = 2 * x.toNat := by omega
  have hx3 : (2 * x + 1).toNat = 2 * x.toNat + 1 := by omega
  have hs : ∀ (g : Nat → Int) (i : Nat) (w : Int), uZ g i w i = w := fun g i w => by simp [uZ]
  -- what the goal writes
  have w0 : g 0 = uZ (gn 0) x.toNat go := by
    rw [hgo, ← o0]
    rcases (show go = 0 ∨ go = 1 ∨ go = 2 by omega) with rfl | rfl | rfl <;> rfl
  have w2 : g 2 = gA 2 ∧ g 3 = gA 3 ∧ g 4 = gA 4 ∧ g 5 = gA 5 := by
    rw [hgo]
    rcases (show go = 0 ∨ go = 1 ∨ go = 2 by omega) with rfl | rfl | rfl <;> exact ⟨rfl, rfl, rfl, rfl⟩
  have w1 : g 1 = if go = 2 then uZ (gn 1) x.toNat ask else gn 1 := by
    rw [hgo, ← o1]
    rcases (show go = 0 ∨ go = 1 ∨ go = 2 by omega) with rfl | rfl | rfl <;> rfl
  have w6 : g 6 = if go = 0 then gn 6 else if go = 1 then uZ (gn 6) (2 * x).toNat l0 else uZ (uZ (gn 6) (2 * x).toNat l0) (2 * x + 1).toNat l1 := by
    rw [hgo, ← o6]
    rcases (show go = 0 ∨ go = 1 ∨ go = 2 by omega) with rfl | rfl | rfl <;> rfl
  have w7 : g 7 = if go = 0 then gn 7 else if go = 1 then uZ (gn 7) (2 * x).toNat v0 else uZ (uZ (gn 7) (2 * x).toNat v0) (2 * x + 1).toNat v1 := by
    rw [hgo, ← o7]
    rcases (show go = 0 ∨ go = 1 ∨ go = 2 by omega) with rfl | rfl | rfl <;> rfl
  intro k hk
  by_cases q : k = x.toNat
  · subst q
    have hrow := h x.toNat hk
    unfold NRow at hrow
    rcases hrow with ⟨r1, ⟨r2, r3, r4, r5, r6, r7⟩, r8⟩ | ⟨r1, r2, -⟩
    · obtain ⟨Q, hQ⟩ : ∃ Q : Nat → Int, Q = if cnt = 0 then P else uZ (actsPut P (20 * x) K T V cnt.toNat) (20 * x + 1).toNat cnt := ⟨_, rfl⟩
      obtain ⟨a1, a2, a3⟩ := lineQ (x := 20 * x) (by omega) hc (by rw [hxn]; exact r8) hA hQ
      obtain ⟨b1, b2, b3⟩ := goalPut_at (P := Q) (x := 20 * x) (go := go) (ask := ask) (l0 := l0) (v0 := v0) (l1 := l1) (v1 := v1) (by omega) hg a3
      have eP : linePut P x cnt K T V go ask l0 v0 l1 v1 = uZ (goalPut Q (20 * x) go ask l0 v0 l1 v1) (20 * x + 0).toNat 1 := by rw [hQ]; rfl
      have e0 : (20 * x + 0).toNat = 20 * x.toNat := by omega
      rw [hxn] at a1 a2 b1 b2 b3
      have lo : ∀ j : Nat, j < 14 → goalPut Q (20 * x) go ask l0 v0 l1 v1 (20 * x.toNat + j) = Q (20 * x.toNat + j) := fun j hj => goalPut_out (by omega) (by omega)
      have up : ∀ j : Nat, 1 ≤ j → linePut P x cnt K T V go ask l0 v0 l1 v1 (20 * x.toNat + j) = goalPut Q (20 * x) go ask l0 v0 l1 v1 (20 * x.toNat + j) := fun j hj => by rw [eP, e0]; exact uZ_nk _ _ (by omega)
      unfold NRow
      refine Or.inr ⟨?_, ⟨?_, ?_⟩, ?_, ?_, ?_, ?_⟩
      · rw [eP, e0]; exact hs _ _ _
      · rw [w0, hs, up 14 (by omega), b1]
      · rw [w0, hs]; exact hg
      · rw [w2.1, hC1, up 1 (by omega), lo 1 (by omega), a1]
      · intro j hj
        rw [w2.1, hC1] at hj
        obtain ⟨c1, c2, c3⟩ := hR j hj
        obtain ⟨d1, d2, d3⟩ := a2 j hj
        rw [w2.2.1, w2.2.2.1, w2.2.2.2, c1, c2, c3, up _ (by omega), up _ (by omega), up _ (by omega), lo _ (by omega), lo _ (by omega), lo _ (by omega), d1, d2, d3]
        exact ⟨rfl, rfl, rfl⟩
      · rw [w0, hs, w6, w7]
        rcases (show go = 0 ∨ 1 ≤ go by omega) with z | z
        · left
          rw [if_pos z, if_pos z]
          exact ⟨z, r4, r6⟩
        · right
          rw [if_neg (show ¬ go = 0 by omega), if_neg (show ¬ go = 0 by omega), up 16 (by omega), up 17 (by omega), (b2 z).1, (b2 z).2]
          have hv1 := hv.1 z
          rcases (show go = 1 ∨ go = 2 by omega) with y | y
          · rw [if_pos y, if_pos y, hx2, hs, hs]
            exact ⟨z, rfl, rfl, hv1⟩
          · rw [if_neg (show ¬ go = 1 by omega), if_neg (show ¬ go = 1 by omega), hx2, hx3, uZ_nk _ _ (show ¬ 2 * x.toNat = 2 * x.toNat + 1 by omega), uZ_nk _ _ (show ¬ 2 * x.toNat = 2 * x.toNat + 1 by omega), hs, hs]
            exact ⟨z, rfl, rfl, hv1⟩
      · rw [w0, hs, w1, w6, w7]
        rcases (show go = 0 ∨ go = 1 ∨ go = 2 by omega) with z | z | z
        · left
          rw [if_neg (show ¬ go = 2 by omega), if_pos z, if_pos z]
          exact ⟨by omega, r2, r5, r7⟩
        · left
          rw [if_neg (show ¬ go = 2 by omega), if_neg (show ¬ go = 0 by omega), if_neg (show ¬ go = 0 by omega), if_pos z, if_pos z, hx2, uZ_nk _ _ (by omega), uZ_nk _ _ (by omega)]
          exact ⟨by omega, r2, r5, r7⟩
        · right
          rw [if_pos z, if_neg (show ¬ go = 0 by omega), if_neg (show ¬ go = 0 by omega), if_neg (show ¬ go = 1 by omega), if_neg (show ¬ go = 1 by omega), hx3, hs, hs, hs, up 15 (by omega), up 18 (by omega), up 19 (by omega), (b3 z).1, (b3 z).2.1, (b3 z).2.2]
          exact ⟨z, rfl, rfl, rfl, hv.2 z⟩
    · exact absurd hu (by omega)
  · refine (h k hk).congr ?_ ?_ ?_ (h4 k hk) (fun j hj => ?_) ⟨?_, ?_⟩ ⟨?_, ?_⟩ (fun j hj => linePut_out hx.1 hc (by omega))
    · rw [w0]; exact uZ_nk _ _ q
    · rw [w1]; split
      · exact uZ_nk _ _ q
      · rfl
    · rw [w2.1]; exact hC2 k q
    · rw [w2.2.1, w2.2.2.1, w2.2.2.2]; exact o3 _ (by omega)
    · rw [w6]; repeat' split
      · rfl
      · exact uZ_nk _ _ (by omega)
      · rw [uZ_nk _ _ (by omega)]; exact uZ_nk _ _ (by omega)
    · rw [w6]; repeat' split
      · rfl
      · exact uZ_nk _ _ (by omega)
      · rw [uZ_nk _ _ (by omega)]; exact uZ_nk _ _ (by omega)
    · rw [w7]; repeat' split
      · rfl
      · exact uZ_nk _ _ (by omega)
      · rw [uZ_nk _ _ (by omega)]; exact uZ_nk _ _ (by omega)
    · rw [w7]; repeat' split
      · rfl
      · exact uZ_nk _ _ (by omega)
      · rw [uZ_nk _ _ (by omega)]; exact uZ_nk _ _ (by omega)
