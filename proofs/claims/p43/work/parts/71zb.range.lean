/-! what was read lies in its bounds: a line that is told keeps the program one -/
theorem bnd_inv {α β : Type} {r : PR α} {k : α → PR β} {b : β} (h : bnd r k = .inr b) : ∃ a, r = .inr a ∧ k a = .inr b := by
  cases r with
  | inl e => exact absurd (show (.inl e : PR β) = .inr b from h) (by intro z; cases z)
  | inr a => exact ⟨a, rfl, h⟩
theorem fnd_exN (nm : Nat → Int) (w : Int) : ∀ d : Nat, (∀ k : Nat, k < d → nm k ≠ w) ∨ ∃ z : Nat, z < d ∧ nm z = w ∧ ∀ k : Nat, k < z → nm k ≠ w
  | 0 => Or.inl (fun k hk => absurd hk (by omega))
  | d + 1 => by
    rcases fnd_exN nm w d with h | ⟨z, h1, h2, h3⟩
    · by_cases q : nm d = w
      · exact Or.inr ⟨d, by omega, q, h⟩
      · refine Or.inl (fun k hk => ?_)
        by_cases e : k = d
        · rw [e]; exact q
        · exact h k (by omega)
    · exact Or.inr ⟨z, by omega, h2, h3⟩
theorem fnd_rg (m : Int) (nm : Nat → Int) (w : Int) : fnd m nm w = -1 ∨ (0 ≤ fnd m nm w ∧ fnd m nm w < m) := by
  rcases fnd_exN nm w m.toNat with h | ⟨z, h1, h2, h3⟩
  · exact Or.inl (Fnd.eq (Or.inl ⟨rfl, fun k hk => h k (by omega)⟩))
  · have e : fnd m nm w = (z : Int) := Fnd.eq (Or.inr ⟨by omega, by rw [Int.toNat_natCast]; exact h2, fun k hk => h3 k (by omega)⟩)
    omega
section RANGE
variable {f : Nat → Int} {n : Int}
theorem nam_rg {m c : Int} {nm : Nat → Int} {a : Int × Int} (h : namS f n m nm c = .inr a) : 0 ≤ a.1 ∧ a.1 < m := by
  unfold namS at h
  split at h
  · split at h
    · cases h
    · cases h
      have q := fnd_rg m nm (tWd f n c)
      show 0 ≤ fnd m nm (tWd f n c) ∧ fnd m nm (tWd f n c) < m
      omega
  · cases h
theorem num_rg {lo hi c : Int} {a : Int × Int} (h : numS f n lo hi c = .inr a) : lo ≤ a.1 ∧ a.1 ≤ hi := by
  unfold numS at h
  split at h
  · split at h
    · next q => cases h; exact q
    · cases h
  · cases h
theorem ctr_rg {c : Int} {a : Int × Int} (h : ctrS f n c = .inr a) : 0 ≤ a.1 ∧ a.1 ≤ 3 := by
  unfold ctrS at h
  split at h
  · next q => cases h; show 0 ≤ tKd f n c - 15 ∧ tKd f n c - 15 ≤ 3; omega
  · cases h
theorem way_rg {m c : Int} {nm : Nat → Int} {a : (Int × Int) × Int} (h : wayS f n m nm c = .inr a) : (0 ≤ a.1.1 ∧ a.1.1 < m) ∧ 1 ≤ a.1.2 ∧ a.1.2 ≤ 9 := by
  unfold wayS at h
  obtain ⟨x, h1, h2⟩ := bnd_inv h
  obtain ⟨y, h3, h4⟩ := bnd_inv h2
  obtain ⟨z, h5, h6⟩ := bnd_inv h4
  cases h6
  have q1 := nam_rg h1
  have q2 := num_rg h5
  exact ⟨q1, q2⟩
def ActR (k t v : Int) : Prop := (0 ≤ k ∧ k ≤ 3) ∧ (0 ≤ t ∧ t ≤ 9) ∧ (k = 3 ∨ t ≤ 3) ∧ (0 ≤ v ∧ v ≤ 9) ∧ (k ≠ 2 → v = 0)
theorem act_rg {m c : Int} {nm : Nat → Int} {a : (Int × Int × Int) × Int} (hm : m ≤ 10) (hk : 4 ≤ tKd f n c ∧ tKd f n c ≤ 7) (h : actS f n m nm c = .inr a) : ActR a.1.1 a.1.2.1 a.1.2.2 := by
  unfold actS at h
  split at h
  · obtain ⟨x, h1, h2⟩ := bnd_inv h
    cases h2
    have q := nam_rg h1
    refine ⟨by show (0 : Int) ≤ 3 ∧ (3 : Int) ≤ 3; omega, ?_, Or.inl rfl, by show (0 : Int) ≤ 0 ∧ (0 : Int) ≤ 9; omega, fun _ => rfl⟩
    show 0 ≤ x.1 ∧ x.1 ≤ 9
    omega
  · next hn7 =>
    obtain ⟨x, h1, h2⟩ := bnd_inv h
    have q := ctr_rg h1
    split at h2
    · obtain ⟨v, h3, h4⟩ := bnd_inv h2
      cases h4
      have q2 := num_rg h3
      refine ⟨by show (0 : Int) ≤ 2 ∧ (2 : Int) ≤ 3; omega, ?_, Or.inr q.2, q2, fun z => absurd rfl z⟩
      show 0 ≤ x.1 ∧ x.1 ≤ 9
      omega
    · next hn6 =>
      cases h2
      refine ⟨?_, ?_, Or.inr q.2, by show (0 : Int) ≤ 0 ∧ (0 : Int) ≤ 9; omega, fun _ => rfl⟩
      · show 0 ≤ tKd f n c - 4 ∧ tKd f n c - 4 ≤ 3
        omega
      · show 0 ≤ x.1 ∧ x.1 ≤ 9
        omega
theorem acts_rg {m : Int} {nm : Nat → Int} (hm : m ≤ 10) : ∀ (r : Nat) (i : Int) (K T V : Nat → Int) (c : Int) (a : (Int × (Nat → Int) × (Nat → Int) × (Nat → Int)) × Int), 0 ≤ i → (∀ j : Nat, (j : Int) < i → ActR (K j) (T j) (V j)) → actsS f n m nm r i K T V c = .inr a → (1 ≤ a.1.1 ∧ a.1.1 ≤ 4) ∧ ∀ j : Nat, (j : Int) < a.1.1 → ActR (a.1.2.1 j) (a.1.2.2.1 j) (a.1.2.2.2 j)
  | 0, i, K, T, V, c, a, _, _, h => by cases h
  | r + 1, i, K, T, V, c, a, hi, hr, h => by
    unfold actsS at h
    split at h
    · next hk =>
      split at h
      · cases h
      · next h4 =>
        obtain ⟨x, h1, h2⟩ := bnd_inv h
        have q := act_rg hm hk h1
        have hr2 : ∀ j : Nat, (j : Int) < i + 1 → ActR (uZ K i.toNat x.1.1 j) (uZ T i.toNat x.1.2.1 j) (uZ V i.toNat x.1.2.2 j) := by
          intro j hj
          by_cases e : j = i.toNat
          · simp only [uZ, if_pos e]; exact q
          · simp only [uZ, if_neg e]; exact hr j (by omega)
        split at h2
        · exact acts_rg hm r _ _ _ _ _ a (by omega) hr2 h2
        · cases h2
          refine ⟨?_, fun j hj => hr2 j hj⟩
          show 1 ≤ i + 1 ∧ i + 1 ≤ 4
          omega
    · cases h
def GoalR (go ask l0 v0 l1 v1 : Int) : Prop := (0 ≤ go ∧ go ≤ 2) ∧ (0 ≤ ask ∧ ask ≤ 3) ∧ (0 ≤ l0 ∧ l0 ≤ 9) ∧ (0 ≤ v0 ∧ v0 ≤ 9) ∧ (0 ≤ l1 ∧ l1 ≤ 9) ∧ (0 ≤ v1 ∧ v1 ≤ 9)
theorem goal_rg {m c : Int} {nm : Nat → Int} {a : (Int × Int × (Int × Int) × (Int × Int)) × Int} (hm : m ≤ 10) (h : goalS f n m nm c = .inr a) : GoalR a.1.1 a.1.2.1 a.1.2.2.1.1 a.1.2.2.1.2 a.1.2.2.2.1 a.1.2.2.2.2 := by
  unfold goalS at h
  split at h
  · cases h
    show GoalR 0 0 0 0 0 0
    unfold GoalR
    omega
  · split at h
    · obtain ⟨x, h1, h2⟩ := bnd_inv h
      cases h2
      have q := way_rg h1
      show GoalR 1 0 x.1.1 x.1.2 0 0
      unfold GoalR
      omega
    · split at h
      · obtain ⟨x, h1, h2⟩ := bnd_inv h
        obtain ⟨y, h3, h4⟩ := bnd_inv h2
        obtain ⟨z, h5, h6⟩ := bnd_inv h4
        obtain ⟨u, h7, h8⟩ := bnd_inv h6
        obtain ⟨v, h9, h10⟩ := bnd_inv h8
        cases h10
        have q1 := ctr_rg h1
        have q2 := way_rg h5
        have q3 := way_rg h9
        show GoalR 2 x.1 z.1.1 z.1.2 v.1.1 v.1.2
        unfold GoalR
        omega
      · cases h
theorem line_rg {m c : Int} {nm td : Nat → Int} {a : (Int × (Int × (Nat → Int) × (Nat → Int) × (Nat → Int)) × (Int × Int × (Int × Int) × (Int × Int))) × Int} (hm : m ≤ 10) (h : lineS f n m nm td c = .inr a) : ((0 ≤ a.1.1 ∧ a.1.1 < m) ∧ td a.1.1.toNat = 0) ∧ ((0 ≤ a.1.2.1.1 ∧ a.1.2.1.1 ≤ 4) ∧ ∀ j : Nat, (j : Int) < a.1.2.1.1 → ActR (a.1.2.1.2.1 j) (a.1.2.1.2.2.1 j) (a.1.2.1.2.2.2 j)) ∧ GoalR a.1.2.2.1 a.1.2.2.2.1 a.1.2.2.2.2.1.1 a.1.2.2.2.2.1.2 a.1.2.2.2.2.2.1 a.1.2.2.2.2.2.2 := by
  unfold lineS at h
  split at h
  · cases h
  · obtain ⟨x, h1, h2⟩ := bnd_inv h
    split at h2
    · next ht =>
      obtain ⟨y, h3, h4⟩ := bnd_inv h2
      obtain ⟨z, h5, h6⟩ := bnd_inv h4
      obtain ⟨w, h7, h8⟩ := bnd_inv h6
      cases h8
      have q1 := nam_rg h1
      have q2 := goal_rg hm h7
      refine ⟨⟨q1, ht⟩, ?_, q2⟩
      show (0 ≤ y.1.1 ∧ y.1.1 ≤ 4) ∧ ∀ j : Nat, (j : Int) < y.1.1 → ActR (y.1.2.1 j) (y.1.2.2.1 j) (y.1.2.2.2 j)
      split at h3
      · have q := acts_rg hm 5 0 _ _ _ _ y (by omega) (fun j hj => absurd hj (by omega)) h3
        exact ⟨by omega, q.2⟩
      · cases h3
        refine ⟨by show (0 : Int) ≤ 0 ∧ (0 : Int) ≤ 4; omega, fun j hj => ?_⟩
        exact absurd (show (j : Int) < 0 from hj) (by omega)
    · cases h2
end RANGE
theorem ProgOk.act1 {P : Nat → Int} {x i r a t v : Int} (h : ProgOk P) (hi : 0 ≤ i ∧ i < 10) (hr : 0 ≤ r ∧ r < 4) (hx : x = 20 * i + 2 + 3 * r) (hA : ActR a t v) : ProgOk (actPut P x a t v) := by
  obtain ⟨h1, h2, h3, h4, -⟩ := hA
  unfold actPut
  split
  · exact ProgOk.tgtA h rfl hi hr (by omega) (by omega)
  · split
    · exact ProgOk.pairA h rfl rfl hi hr (by omega) (by omega) (by omega) (by omega) (by omega)
    · split
      · exact ProgOk.valA (ProgOk.pairA h rfl rfl hi hr (k := x.toNat) (k1 := (x + 1).toNat) (by omega) (by omega) (by omega) (by omega) (by omega)) rfl hi hr (by omega) (by omega)
      · exact ProgOk.pairA h rfl rfl hi hr (by omega) (by omega) (by omega) (by omega) (by omega)
theorem ProgOk.acts1 {P K T V : Nat → Int} {i : Int} (h : ProgOk P) (hi : 0 ≤ i ∧ i < 10) : ∀ r : Nat, r ≤ 4 → (∀ j : Nat, j < r → ActR (K j) (T j) (V j)) → ProgOk (actsPut P (20 * i) K T V r)
  | 0, _, _ => h
  | r + 1, hr, hA => ProgOk.act1 (i := i) (r := (r : Int)) (ProgOk.acts1 h hi r (by omega) (fun j hj => hA j (by omega))) hi (by omega) (by omega) (hA r (by omega))
theorem ProgOk.set1 {P : Nat → Int} {k : Nat} {v m : Int} (h : ProgOk P) (o : Nat) (hk : k % 20 = o) (hm : pMax o = m) (hv : 0 ≤ v ∧ v ≤ m) (ho : o < 2 ∨ 13 < o) : ProgOk (uZ P k v) := ⟨h.1.set rfl o hk hm hv, h.2.set rfl (by omega)⟩
theorem ProgOk.goal1 {P : Nat → Int} {i go ask l0 v0 l1 v1 : Int} (h : ProgOk P) (hi : 0 ≤ i ∧ i < 10) (hG : GoalR go ask l0 v0 l1 v1) : ProgOk (goalPut P (20 * i) go ask l0 v0 l1 v1) := by
  obtain ⟨h1, h2, h3, h4, h5, h6⟩ := hG
  unfold goalPut
  split
  · exact h
  · split
    · exact ((h.set1 (m := 2) 14 (by omega) rfl (by omega) (by omega)).set1 (m := 9) 16 (by omega) rfl (by omega) (by omega)).set1 (m := 9) 17 (by omega) rfl (by omega) (by omega)
    · exact (((((h.set1 (m := 2) 14 (by omega) rfl (by omega) (by omega)).set1 (m := 3) 15 (by omega) rfl (by omega) (by omega)).set1 (m := 9) 16 (by omega) rfl (by omega) (by omega)).set1 (m := 9) 17 (by omega) rfl (by omega) (by omega)).set1 (m := 9) 18 (by omega) rfl (by omega) (by omega)).set1 (m := 9) 19 (by omega) rfl (by omega) (by omega)
theorem ProgOk.line1 {P K T V : Nat → Int} {i cnt go ask l0 v0 l1 v1 : Int} (h : ProgOk P) (hi : 0 ≤ i ∧ i < 10) (hc : 0 ≤ cnt ∧ cnt ≤ 4) (hA : ∀ j : Nat, (j : Int) < cnt → ActR (K j) (T j) (V j)) (hG : GoalR go ask l0 v0 l1 v1) : ProgOk (linePut P i cnt K T V go ask l0 v0 l1 v1) := by
  unfold linePut
  refine ProgOk.set1 (m := 1) (ProgOk.goal1 ?_ hi hG) 0 (by omega) rfl (by omega) (by omega)
  split
  · exact h
  · exact ProgOk.set1 (m := 4) (ProgOk.acts1 h hi _ (by omega) (fun j hj => hA j (by omega))) 1 (by omega) rfl (by omega) (by omega)
