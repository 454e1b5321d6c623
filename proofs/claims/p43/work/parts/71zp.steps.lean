/-! what a step keeps -/
theorem SI_actF {p s : Nat → Int} (hp : ProgOk p) (hs : SI p s) {x w : Int} (hx : 0 ≤ x ∧ x < 10) (hw : 0 ≤ w ∧ w < 4) : SI p (actF p s x w) ∧ rM (actF p s x w) ≤ rM s ∧ (actF p s x w 4 = s 4 ∧ actF p s x w 5 = s 5 ∧ actF p s x w 6 = s 6) := by
  obtain ⟨k1, k2, k3, k4⟩ := ProgOk.act hp (i := x) (n := w) (k := 20 * x + 2 + 3 * w) hx hw rfl
  unfold actF
  generalize p (20 * x + 2 + 3 * w).toNat = K at k1 k4 ⊢
  generalize p (20 * x + 2 + 3 * w + 1).toNat = T at k2 k4 ⊢
  generalize p (20 * x + 2 + 3 * w + 2).toNat = V at k3 ⊢
  have low : ∀ (t : Nat) (v : Int), t < 4 → (uZ s t v 4 = s 4 ∧ uZ s t v 5 = s 5 ∧ uZ s t v 6 = s 6) := fun t v ht => ⟨uZ_nk _ _ (by omega), uZ_nk _ _ (by omega), uZ_nk _ _ (by omega)⟩
  by_cases c0 : K = 0
  · rw [if_pos c0]
    have hc := hs.1 T.toNat (by omega)
    have hz : 0 ≤ lessZ 99 (s T.toNat + 1) ∧ lessZ 99 (s T.toNat + 1) ≤ 99 := by unfold lessZ; split <;> omega
    obtain ⟨h1, h2⟩ := SI.cnt hs (s' := uZ s T.toNat (lessZ 99 (s T.toNat + 1))) rfl (by omega) hz
    exact ⟨h1, by omega, low _ _ (by omega)⟩
  rw [if_neg c0]
  by_cases c1 : K = 1
  · rw [if_pos c1]
    have hc := hs.1 T.toNat (by omega)
    obtain ⟨z, hz⟩ : ∃ z : Int, z = if 0 < s T.toNat then s T.toNat - 1 else 0 := ⟨_, rfl⟩
    rw [← hz]
    have hz2 : 0 ≤ z ∧ z ≤ 99 := by rw [hz]; split <;> omega
    obtain ⟨h1, h2⟩ := SI.cnt hs (s' := uZ s T.toNat z) rfl (by omega) hz2
    exact ⟨h1, by omega, low _ _ (by omega)⟩
  rw [if_neg c1]
  by_cases c2 : K = 2
  · rw [if_pos c2]
    obtain ⟨h1, h2⟩ := SI.cnt hs (s' := uZ s T.toNat V) rfl (by omega) (by omega)
    exact ⟨h1, by omega, low _ _ (by omega)⟩
  rw [if_neg c2]
  by_cases c3 : s (28 + x).toNat / twoP w % 2 = 1
  · rw [if_pos c3]
    exact ⟨hs, by omega, rfl, rfl, rfl⟩
  rw [if_neg c3]
  have hg := SI.gave hs (i := x) (k := (28 + x).toNat) hx (by omega)
  have hb : ¬ bitB (s (28 + x).toNat) w := fun q => c3 ((bitB_div hg hw).mp q)
  obtain ⟨-, g2, g3, g4⟩ := gave_step hg hw hb
  obtain ⟨sa, ea⟩ : ∃ sa : Nat → Int, sa = uZ s (28 + x).toNat (s (28 + x).toNat + twoP w) := ⟨_, rfl⟩
  rw [← ea]
  obtain ⟨sb, eb⟩ : ∃ sb : Nat → Int, sb = uZ sa (8 + 2 * T).toNat 0 := ⟨_, rfl⟩
  rw [← eb]
  obtain ⟨sc, ec⟩ : ∃ sc : Nat → Int, sc = uZ sb (8 + 2 * T + 1).toNat 0 := ⟨_, rfl⟩
  rw [← ec]
  obtain ⟨h1, r1⟩ := SI.gv hs (i := x.toNat) ea (by omega) (by omega) (by omega)
  have t0 := SI.take h1 (i := T) (k := (8 + 2 * T).toNat) (l := (20 * T + 17).toNat) (by omega) (by omega) (by omega)
  have p0 := hp.1.le9 (20 * T + 17).toNat (by omega)
  have p1 := hp.1.pos (20 * T + 17).toNat (by omega)
  obtain ⟨h2, r2⟩ := SI.tk0 h1 (l := (20 * T + 17).toNat) (i := T.toNat) eb (by omega) (by omega) (by omega) (by omega)
  have t1 := SI.take1 h2 (i := T) (k := (8 + 2 * T + 1).toNat) (l := (20 * T + 19).toNat) (by omega) (by omega) (by omega)
  have p2' := hp.1.le9 (20 * T + 19).toNat (by omega)
  have p3 := hp.1.pos (20 * T + 19).toNat (by omega)
  obtain ⟨h3, r3⟩ := SI.tk1 h2 (l := (20 * T + 19).toNat) (i := T.toNat) ec (by omega) (by omega) (by omega) (by omega)
  refine ⟨h3, by omega, ?_, ?_, ?_⟩
  · rw [ec, uZ_nk _ _ (by omega), eb, uZ_nk _ _ (by omega), ea, uZ_nk _ _ (by omega)]
  · rw [ec, uZ_nk _ _ (by omega), eb, uZ_nk _ _ (by omega), ea, uZ_nk _ _ (by omega)]
  · rw [ec, uZ_nk _ _ (by omega), eb, uZ_nk _ _ (by omega), ea, uZ_nk _ _ (by omega)]
theorem SI_actsF {p s : Nat → Int} (hp : ProgOk p) (hs : SI p s) {x : Int} (hx : 0 ≤ x ∧ x < 10) : ∀ n : Nat, n ≤ 4 → SI p (actsF p s x n) ∧ rM (actsF p s x n) ≤ rM s ∧ (actsF p s x n 4 = s 4 ∧ actsF p s x n 5 = s 5 ∧ actsF p s x n 6 = s 6)
  | 0, _ => ⟨hs, Int.le_refl _, rfl, rfl, rfl⟩
  | n + 1, hn => by
    obtain ⟨h1, h2, h3, h4, h5⟩ := SI_actsF hp hs hx n (by omega)
    obtain ⟨k1, k2, k3, k4, k5⟩ := SI_actF hp h1 (x := x) (w := (n : Int)) hx (by omega)
    exact ⟨k1, Int.le_trans k2 h2, k3.trans h3, k4.trans h4, k5.trans h5⟩
theorem SI_takeF {p s : Nat → Int} (hp : ProgOk p) (hs : SI p s) (h6 : s 6 = 0) {i way k : Int} (hi : 0 ≤ i ∧ i < 10) (hw : (way = 2 * i + 0 ∧ k = 20 * i + 16) ∨ (way = 2 * i + 1 ∧ k = 20 * i + 18)) : SI p (takeF p s way k) ∧ takeF p s way k 5 = s 5 ∧ (takeF p s way k 6 = 0 → rM (takeF p s way k) = rM s - 1) := by
  unfold takeF
  by_cases c : s (8 + way).toNat = p (k + 1).toNat
  · rw [if_pos c]
    obtain ⟨h1, h2⟩ := SI.en hs (s' := uZ s 6 2) rfl (by omega)
    exact ⟨h1, uZ_nk _ _ (by omega), fun q => absurd (uZ_eq.symm.trans q) (by decide)⟩
  rw [if_neg c]
  unfold orU incU
  obtain ⟨sa, ea⟩ : ∃ sa : Nat → Int, sa = uZ s (8 + way).toNat (s (8 + way).toNat + 1) := ⟨_, rfl⟩
  rw [← ea]
  obtain ⟨sb, eb⟩ : ∃ sb : Nat → Int, sb = uZ sa (139 + way).toNat (sa (139 + way).toNat + 1) := ⟨_, rfl⟩
  rw [← eb]
  obtain ⟨sc, ec⟩ : ∃ sc : Nat → Int, sc = uZ sb 7 (sb 7 + 1) := ⟨_, rfl⟩
  rw [← ec]
  obtain ⟨sd, ed⟩ : ∃ sd : Nat → Int, sd = uZ sc 38 (orW (sc 38) way) := ⟨_, rfl⟩
  rw [← ed]
  obtain ⟨se, ee⟩ : ∃ se : Nat → Int, se = uZ sd 4 (p k.toNat) := ⟨_, rfl⟩
  rw [← ee]
  obtain ⟨E, hE⟩ : ∃ E : Int, E = if p (20 * p k.toNat + 0).toNat = 1 then 0 else 3 := ⟨_, rfl⟩
  rw [← hE]
  have hE2 : 0 ≤ E ∧ E ≤ 3 := by rw [hE]; split <;> omega
  obtain ⟨sf, ef⟩ : ∃ sf : Nat → Int, sf = uZ se 6 E := ⟨_, rfl⟩
  rw [← ef]
  have hpk : 0 ≤ p k.toNat ∧ p k.toNat ≤ 9 := ⟨hp.1.pos _ (by omega), hp.1.le9 _ (by omega)⟩
  have ha : SI p sa ∧ rM sa = rM s - 1 := by
    rcases hw with ⟨w1, w2⟩ | ⟨w1, w2⟩
    · have t0 := SI.take hs (i := i) (k := (8 + way).toNat) (l := (k + 1).toNat) hi (by omega) (by omega)
      obtain ⟨u1, u2⟩ := SI.tk0 hs (l := (k + 1).toNat) (i := i.toNat) ea (by omega) (by omega) (by omega) (by omega)
      exact ⟨u1, by omega⟩
    · have t0 := SI.take1 hs (i := i) (k := (8 + way).toNat) (l := (k + 1).toNat) hi (by omega) (by omega)
      obtain ⟨u1, u2⟩ := SI.tk1 hs (l := (k + 1).toNat) (i := i.toNat) ea (by omega) (by omega) (by omega) (by omega)
      exact ⟨u1, by omega⟩
  obtain ⟨a1, a2⟩ := ha
  obtain ⟨b1, b2⟩ := SI.free a1 eb (by omega)
  obtain ⟨c1, c2⟩ := SI.free b1 ec (by omega)
  obtain ⟨d1, d2⟩ := SI.free c1 ed (by omega)
  obtain ⟨e1, e2⟩ := SI.ats d1 ee hpk
  obtain ⟨f1, f2⟩ := SI.en e1 ef hE2
  refine ⟨f1, ?_, fun _ => by omega⟩
  rw [ef, uZ_nk _ _ (by omega), ee, uZ_nk _ _ (by omega), ed, uZ_nk _ _ (by omega), ec, uZ_nk _ _ (by omega), eb, uZ_nk _ _ (by omega), ea, uZ_nk _ _ (by omega)]
theorem StOk_stepF {p s : Nat → Int} (hp : ProgOk p) (hs : StOk p s) (h6 : s 6 = 0) : StOk p (stepF p s) ∧ stepF p s 5 = s 5 + 1 ∧ (stepF p s 6 = 0 → rM (stepF p s) < rM s) := by
  obtain ⟨hsi, hs5, hs6⟩ := hs
  have hat := hsi.2.1
  have hrp := rM_pos hsi hp.1.le9
  have hs7 := hs6 h6
  have hac := ProgR.at hp.1 (e := 20 * s 4 + 1) (m := 4) (s 4) 1 (by omega) rfl (by decide) rfl
  obtain ⟨a1, a2, a3, a4, a5⟩ := SI_actsF hp hsi (x := s 4) (by omega) (p (20 * s 4 + 1).toNat).toNat (by omega)
  unfold stepF
  generalize actsF p s (s 4) (p (20 * s 4 + 1).toNat).toNat = sa at a1 a2 a3 a4 a5 ⊢
  obtain ⟨sb, eb⟩ : ∃ sb : Nat → Int, sb = uZ sa 5 (sa 5 + 1) := ⟨_, rfl⟩
  rw [← eb]
  obtain ⟨b1, b2⟩ := SI.free a1 eb (by omega)
  have b5 : sb 5 = s 5 + 1 := by rw [eb, uZ_eq, a4]
  have b6 : sb 6 = 0 := by rw [eb, uZ_nk _ _ (by omega), a5, h6]
  have hgo : SI p (goF p sb (s 4)) ∧ goF p sb (s 4) 5 = s 5 + 1 ∧ (goF p sb (s 4) 6 = 0 → rM (goF p sb (s 4)) < rM s) := by
    unfold goF
    by_cases c : p (20 * s 4 + 14).toNat = 0
    · rw [if_pos c]
      obtain ⟨c1, c2⟩ := SI.en b1 (s' := uZ sb 6 1) rfl (by omega)
      exact ⟨c1, (uZ_nk _ _ (by omega)).trans b5, fun q => absurd (uZ_eq.symm.trans q) (by decide)⟩
    rw [if_neg c]
    by_cases c2 : p (20 * s 4 + 14).toNat = 2 ∧ sb (p (20 * s 4 + 15).toNat).toNat = 0
    · rw [if_pos c2]
      obtain ⟨d1, d2, d3⟩ := SI_takeF hp b1 b6 (i := s 4) (way := 2 * s 4 + 1) (k := 20 * s 4 + 18) (by omega) (Or.inr ⟨rfl, rfl⟩)
      exact ⟨d1, d2.trans b5, fun q => by have := d3 q; omega⟩
    · rw [if_neg c2]
      obtain ⟨d1, d2, d3⟩ := SI_takeF hp b1 b6 (i := s 4) (way := 2 * s 4 + 0) (k := 20 * s 4 + 16) (by omega) (Or.inl ⟨rfl, rfl⟩)
      exact ⟨d1, d2.trans b5, fun q => by have := d3 q; omega⟩
  obtain ⟨g1, g2, g3⟩ := hgo
  generalize goF p sb (s 4) = sg at g1 g2 g3 ⊢
  have hpa : SI p (pathF sg) ∧ rM (pathF sg) = rM sg ∧ pathF sg 5 = sg 5 ∧ pathF sg 6 = sg 6 := by
    unfold pathF
    by_cases c : sg 5 < 100
    · rw [if_pos c]
      obtain ⟨c1, c2⟩ := SI.free g1 (s' := uZ sg (39 + sg 5).toNat (sg 4)) rfl (by omega)
      exact ⟨c1, c2, uZ_nk _ _ (by omega), uZ_nk _ _ (by omega)⟩
    · rw [if_neg c]
      exact ⟨g1, rfl, rfl, rfl⟩
  obtain ⟨q1, q2, q3, q4⟩ := hpa
  refine ⟨⟨q1, by omega, fun z => ?_⟩, by omega, fun z => ?_⟩
  · have := g3 (by omega)
    omega
  · have := g3 (by omega)
    omega
/-- steps: as many as one likes behind the end -/
theorem StOk_stepsF {p : Nat → Int} (hp : ProgOk p) : ∀ (n : Nat) (s : Nat → Int), StOk p s → StOk p (stepsF p n s)
  | 0, s, h => h
  | n + 1, s, h => by
    by_cases c : s 6 = 0
    · rw [stepsF_go c]
      exact StOk_stepsF hp n _ (StOk_stepF hp h c).1
    · rw [stepsF_end c]
      exact h
theorem stepsF_over {p : Nat → Int} (hp : ProgOk p) : ∀ (n : Nat) (s : Nat → Int), StOk p s → rM s < (n : Int) → stepsF p n s 6 ≠ 0
  | 0, s, h, hr => absurd (rM_pos h.1 hp.1.le9) (by omega)
  | n + 1, s, h, hr => by
    by_cases c : s 6 = 0
    · obtain ⟨h1, h2, h3⟩ := StOk_stepF hp h c
      rw [stepsF_go c]
      by_cases d : stepF p s 6 = 0
      · exact stepsF_over hp n _ h1 (by have := h3 d; omega)
      · rw [stepsF_end d]
        exact d
    · rw [stepsF_end c]
      exact c
theorem stepsF_add {p : Nat → Int} : ∀ (n m : Nat) (s : Nat → Int), stepsF p (n + m) s = stepsF p m (stepsF p n s)
  | 0, m, s => by rw [Nat.zero_add]; rfl
  | n + 1, m, s => by
    by_cases c : s 6 = 0
    · rw [show n + 1 + m = (n + m) + 1 by omega, stepsF_go c, stepsF_go c]
      exact stepsF_add n m _
    · rw [stepsF_end c, stepsF_end c, stepsF_end c]
theorem rM_le {p s : Nat → Int} (h : SI p s) : rM s ≤ 940 := by
  have q : ∀ n : Nat, n ≤ 20 → sumZ (fun w => 9 - s (8 + w)) n ≤ 9 * (n : Int) := fun n => by
    induction n with
    | zero => intro _; exact Int.le_refl _
    | succ n ih =>
      intro hn
      have h1 := ih (by omega)
      have h2 : 0 ≤ s (8 + n) := by
        have h3 := h.2.2.2.1 (n / 2) (by omega)
        rcases (show n = 2 * (n / 2) ∨ n = 2 * (n / 2) + 1 by omega) with z | z
        · rw [z]; exact h3.1.1
        · rw [z]; exact h3.2.1
      show sumZ (fun w => 9 - s (8 + w)) n + (9 - s (8 + n)) ≤ 9 * ((n + 1 : Nat) : Int)
      omega
  have q2 : ∀ n : Nat, n ≤ 10 → sumZ (fun i => 4 - popZ (s (28 + i))) n ≤ 4 * (n : Int) := fun n => by
    induction n with
    | zero => intro _; exact Int.le_refl _
    | succ n ih =>
      intro hn
      have h1 := ih (by omega)
      have h2 : 0 ≤ popZ (s (28 + n)) := by
        have h3 := h.2.2.2.2 n (by omega)
        generalize s (28 + n) = z at h3 ⊢
        obtain ⟨a, rfl⟩ : ∃ a : Nat, z = a := ⟨z.toNat, by omega⟩
        have h4 : ∀ b ∈ List.range 16, 0 ≤ popZ ((b : Nat) : Int) := by decide
        exact h4 a (List.mem_range.mpr (by omega))
      show sumZ (fun i => 4 - popZ (s (28 + i))) n + (4 - popZ (s (28 + n))) ≤ 4 * ((n + 1 : Nat) : Int)
      omega
  have h1 := q 20 (by omega)
  have h2 := q2 10 (by omega)
  show sumZ (fun w => 9 - s (8 + w)) 20 + 19 * sumZ (fun i => 4 - popZ (s (28 + i))) 10 ≤ 940
  omega
/-- a run to its end -/
def runF (p s : Nat → Int) : Nat → Int := stepsF p 941 s
theorem runF_eq {p s : Nat → Int} (hp : ProgOk p) (h : StOk p s) {n : Nat} (hn : 941 ≤ n) : stepsF p n s = runF p s := by
  obtain ⟨m, rfl⟩ : ∃ m : Nat, n = 941 + m := ⟨n - 941, by omega⟩
  rw [stepsF_add]
  exact stepsF_end (stepsF_over hp 941 s h (by have := rM_le h.1; omega)) m
theorem runF_ok {p s : Nat → Int} (hp : ProgOk p) (h : StOk p s) : StOk p (runF p s) := StOk_stepsF hp 941 s h
/-- what is over stays so: with any fuel with which it ends -/
theorem stepsF_end_eq {p s : Nat → Int} (hp : ProgOk p) (h : StOk p s) {n : Nat} (hn : stepsF p n s 6 ≠ 0) : stepsF p n s = runF p s := by
  rw [← runF_eq hp h (n := n + 941) (by omega), stepsF_add, stepsF_end hn]
