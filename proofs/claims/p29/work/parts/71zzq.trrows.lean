/-! TRAILS -/
theorem sumN_upd {f f' : Nat → Int} {w : Nat} : ∀ m : Nat, (∀ k, k < m → ¬ k = w → f' k = f k) → sumN f' m = sumN f m + (if w < m then f' w - f w else 0)
  | 0, _ => by
    rw [if_neg (by omega)]
    rfl
  | m + 1, h => by
    have q := sumN_upd (f := f) (f' := f') (w := w) m (fun k hk => h k (by omega))
    have e1 : sumN f' (m + 1) = sumN f' m + f' m := rfl
    have e2 : sumN f (m + 1) = sumN f m + f m := rfl
    by_cases c : w = m
    · subst c
      rw [if_neg (by omega)] at q
      rw [if_pos (by omega)]
      omega
    · have q2 := h m (by omega) (fun e => c e.symm)
      by_cases c2 : w < m
      · rw [if_pos c2] at q
        rw [if_pos (by omega)]
        omega
      · rw [if_neg c2] at q
        rw [if_neg (by omega)]
        omega
theorem sumN_le0 {f : Nat → Int} : ∀ m : Nat, (∀ k, k < m → f k ≤ 0) → sumN f m ≤ 0 ∧ (sumN f m = 0 → ∀ k, k < m → f k = 0)
  | 0, _ => ⟨Int.le_refl 0, fun _ k hk => absurd hk (by omega)⟩
  | m + 1, h => by
    obtain ⟨q1, q2⟩ := sumN_le0 (f := f) m (fun k hk => h k (by omega))
    have e1 : sumN f (m + 1) = sumN f m + f m := rfl
    have q3 := h m (by omega)
    refine ⟨by omega, fun z k hk => ?_⟩
    rcases (show k < m ∨ k = m by omega) with q | q
    · exact q2 (by omega) k q
    · rw [q]
      omega
/-- a way gone once more -/
def dnW (r : Nat → Int) (w : Nat) : Nat → Int := uZ r w (r w - 1)
theorem dnW_at {r : Nat → Int} {w : Nat} : dnW r w w = r w - 1 := uZ_eq
theorem dnW_nk {r : Nat → Int} {w k : Nat} (h : ¬ k = w) : dnW r w k = r k := uZ_nk _ _ h
theorem dnW_dg {d : Nat → Nat} {r : Nat → Int} {w v : Nat} (hw : w < 20) : dgS d (dnW r w) 20 v = dgS d r 20 v - (if w / 2 = v then 1 else 0) + (if d w = v then 1 else 0) := by
  have q := sumN_upd (f := dgT d r v) (f' := dgT d (dnW r w) v) (w := w) 20 (fun k _ hk => by
    unfold dgT
    rw [dnW_nk hk])
  rw [if_pos hw] at q
  have e : dgT d (dnW r w) v w - dgT d r v w = (if d w = v then 1 else 0) - (if w / 2 = v then 1 else 0) := by
    unfold dgT
    rw [dnW_at]
    repeat' split
    all_goals omega
  rw [dgS_e, dgS_e, q, e]
  repeat' split
  all_goals omega
theorem tdN_z {T : Nat → Prop} {n : Nat} (h : tdN T n = 0) (k : Nat) (hk : k < n) : ¬ T k := fun t => by
  have h1 := tdN_lt hk t
  have h2 := tdN_nn (T := T) k
  omega
theorem tdN_u {T : Nat → Prop} {n : Nat} (h : tdN T n = 1) : ∃ j, j < n ∧ T j ∧ ∀ k, k < n → T k → k = j := by
  rcases Classical.em (∃ j, j < n ∧ T j) with ⟨j, h1, h2⟩ | c
  · refine ⟨j, h1, h2, fun k hk t => ?_⟩
    have q := tdN_nn (T := T) j
    have q' := tdN_nn (T := T) k
    rcases Nat.lt_trichotomy j k with e | e | e
    · have q1 := tdN_lt e h2
      have q2 := tdN_lt hk t
      omega
    · exact e.symm
    · have q1 := tdN_lt e t
      have q2 := tdN_lt h1 h2
      omega
  · have z := tdN_none (T := T) n (fun k hk t => c ⟨k, hk, t⟩)
    omega
theorem tdN_1 {T : Nat → Prop} {n j : Nat} (hj : j < n) (t : T j) (u : ∀ k, k < n → T k → k = j) : tdN T n = 1 := by
  have q := (tdN_one (T := T) (f := j) n).1 ⟨hj, t⟩
  rw [← q]
  exact tdN_congr (n := n) (fun k hk => ⟨fun s => ⟨s, u k hk s⟩, fun s => s.1⟩) n (Nat.le_refl n)
/-- nothing is more or less, or one more out of f and one less out of another -/
def DgN (G : Nat → Int) (n f : Nat) : Prop := (∀ v, v < n → G v = 0) ∨ ∃ j, (j < n ∧ f < n ∧ ¬ j = f) ∧ G f = 1 ∧ G j = -1 ∧ ∀ v, v < n → ¬ v = f → ¬ v = j → G v = 0
theorem DgF.n {G : Nat → Int} {n f : Nat} (h : DgF G n f) : DgN G n f := by
  obtain ⟨h1, h2, h3⟩ := h
  have q := tdN_one (T := fun k => G k = 1) (f := f) n
  by_cases c : f < n ∧ G f = 1
  · have a : tdN (fun k => G k = 1 ∧ k = f) n = 1 := q.1 c
    rw [a] at h2
    obtain ⟨j, hj, tj, uj⟩ := tdN_u h2.symm
    have tj' : G j = -1 := tj
    refine Or.inr ⟨j, ⟨hj, c.1, fun e => ?_⟩, c.2, tj', fun v hv n1 n2 => ?_⟩
    · have c2 := c.2
      rw [e] at tj'
      omega
    · rcases h1 v hv with y | y | y
      · exact y
      · exact absurd y.2 n1
      · exact absurd (uj v hv y) n2
  · have a : tdN (fun k => G k = 1 ∧ k = f) n = 0 := q.2 c
    rw [a] at h2
    refine Or.inl (fun v hv => ?_)
    rcases h1 v hv with y | ⟨y1, y2⟩ | y
    · exact y
    · subst y2
      exact absurd ⟨hv, y1⟩ c
    · exact absurd y (tdN_z h2.symm v hv)
theorem DgN.f {G : Nat → Int} {n f : Nat} (h : DgN G n f) : DgF G n f := by
  rcases h with h | ⟨j, ⟨a1, a2, a3⟩, b1, b2, b3⟩
  · have t1 : tdN (fun k => G k = 1 ∧ k = f) n = 0 := tdN_none n (fun k hk (q : G k = 1 ∧ k = f) => by
      have q1 := h k hk
      have q2 := q.1
      omega)
    have t2 : tdN (fun k => G k = -1) n = 0 := tdN_none n (fun k hk (q : G k = -1) => by
      have q1 := h k hk
      omega)
    refine ⟨fun k hk => Or.inl (h k hk), ?_, ?_⟩
    · rw [t1, t2]
    · rw [t1]
      decide
  · have t1 : tdN (fun k => G k = 1 ∧ k = f) n = 1 := (tdN_one (T := fun k => G k = 1) (f := f) n).1 ⟨a2, b1⟩
    have t2 : tdN (fun k => G k = -1) n = 1 := tdN_1 (T := fun k => G k = -1) a1 b2 (fun k hk (q : G k = -1) => by
      by_cases e : k = j
      · exact e
      · by_cases e2 : k = f
        · rw [e2] at q
          omega
        · have q1 := b3 k hk e2 e
          omega)
    refine ⟨fun k hk => ?_, ?_, ?_⟩
    · by_cases e : k = f
      · exact Or.inr (Or.inl ⟨by rw [e]; exact b1, e⟩)
      · by_cases e2 : k = j
        · exact Or.inr (Or.inr (by rw [e2]; exact b2))
        · exact Or.inl (b3 k hk e e2)
    · rw [t1, t2]
    · rw [t1]
      exact Int.le_refl 1
theorem DgN.step {G G' : Nat → Int} {n i k : Nat} (h : DgN G n i) (hi : i < n) (hk : k < n) (e : ∀ v, G' v = G v - (if i = v then 1 else 0) + (if k = v then 1 else 0)) : DgN G' n k := by
  by_cases c : i = k
  · subst c
    have e2 : G' = G := funext fun v => by
      rw [e v]
      split
      all_goals omega
    rw [e2]
    exact h
  · have ek := e k
    have ei := e i
    rw [if_neg c, if_pos rfl] at ek
    rw [if_pos rfl, if_neg (fun q => c q.symm)] at ei
    rcases h with h | ⟨j, ⟨a1, a2, a3⟩, b1, b2, b3⟩
    · have hk0 := h k hk
      have hi0 := h i hi
      refine Or.inr ⟨i, ⟨hi, hk, c⟩, by omega, by omega, fun v hv n1 n2 => ?_⟩
      have ev := e v
      have hv0 := h v hv
      rw [if_neg (fun q => n2 q.symm), if_neg (fun q => n1 q.symm)] at ev
      omega
    · by_cases c2 : k = j
      · subst c2
        refine Or.inl (fun v hv => ?_)
        by_cases v1 : i = v
        · subst v1
          omega
        · by_cases v2 : k = v
          · subst v2
            omega
          · have ev := e v
            have hv0 := b3 v hv (fun q => v1 q.symm) (fun q => v2 q.symm)
            rw [if_neg v1, if_neg v2] at ev
            omega
      · have hk0 := b3 k hk (fun q => c q.symm) c2
        have ej := e j
        rw [if_neg (fun q => a3 q.symm), if_neg c2] at ej
        refine Or.inr ⟨j, ⟨a1, hk, fun q => c2 q.symm⟩, by omega, by omega, fun v hv n1 n2 => ?_⟩
        by_cases v1 : i = v
        · subst v1
          omega
        · have ev := e v
          have hv0 := b3 v hv (fun q => v1 q.symm) n2
          rw [if_neg v1, if_neg (fun q => n1 q.symm)] at ev
          omega
theorem DgN.one {G : Nat → Int} {n f j j' : Nat} (h : DgN G n f) (hj : j < n) (hj' : j' < n) (g : G j = -1) (g' : G j' = -1) : j = j' := by
  rcases h with h | ⟨j0, ⟨a1, a2, a3⟩, b1, b2, b3⟩
  · have := h j hj
    omega
  · have u : ∀ v, v < n → G v = -1 → v = j0 := fun v hv q => by
      by_cases e : v = j0
      · exact e
      · by_cases e2 : v = f
        · rw [e2] at q
          omega
        · have := b3 v hv e2 e
          omega
    exact (u j hj g).trans (u j' hj' g').symm
theorem sum_three {S : Nat → Prop} {F : Nat → Int} {a b c : Nat} {x y z : Int} (n : Nat) (h : ∀ v, v < n → F v = ((if a = v then x else 0) + (if b = v then y else 0)) + (if c = v then z else 0)) : sumN (fun v => iteC (S v) (F v) 0) n = (iteC (a < n ∧ S a) x 0 + iteC (b < n ∧ S b) y 0) + iteC (c < n ∧ S c) z 0 := by
  have e : sumN (fun v => iteC (S v) (F v) 0) n = sumN (fun v => (iteC (S v) (if a = v then x else 0) 0 + iteC (S v) (if b = v then y else 0) 0) + iteC (S v) (if c = v then z else 0) 0) n := sumN_congr n (fun v hv => by
    rcases Classical.em (S v) with s | s
    · rw [iteC_y s, iteC_y s, iteC_y s, iteC_y s, h v hv]
    · rw [iteC_n s, iteC_n s, iteC_n s, iteC_n s]
      rfl)
  rw [e, sumN_add, sumN_add, sumN_one, sumN_one, sumN_one]
theorem dn_E {r : Nat → Int} {a w : Nat} (h : ¬ w = a) : EL (dnW r a) w ↔ EL r w := by
  unfold EL
  rw [dnW_nk h]
theorem dn_E1 {r : Nat → Int} {a w : Nat} (ha : EL r a) (h : EL (dnW r a) w) : EL r w := by
  by_cases e : w = a
  · rw [e]
    exact ha
  · exact (dn_E e).mp h
theorem dn_pos {r : Nat → Int} {a : Nat} (h0 : ∀ w, w < 20 → 0 ≤ r w) (ha : EL r a) : ∀ w, w < 20 → 0 ≤ dnW r a w := fun w hw => by
  by_cases e : w = a
  · rw [e, dnW_at]
    have := ha.2
    omega
  · rw [dnW_nk e]
    exact h0 w hw
/-- what hangs together behind way a is cut off from where one was: then the line with one less is cut off too -/
theorem cutA {d : Nat → Nat} {r : Nat → Int} {n i a : Nat} (h0 : ∀ w, w < 20 → 0 ≤ r w) (hB : ∀ w, EL r w → w / 2 < n ∧ d w < n) (hg : ∀ w, EL r w → Uch (EL r) d i (w / 2)) (hd : DgN (dgS d r 20) n i) (ha : EL r a) (hai : a / 2 = i) (hc : ¬ ∀ w, EL (dnW r a) w → Uch (EL (dnW r a)) d (d a) (w / 2)) : ¬ Uch (EL (dnW r a)) d (d a) i ∧ r a = 1 ∧ ∃ j, j < n ∧ dgS d r 20 j = -1 ∧ dgS d r 20 i = 1 ∧ Uch (EL (dnW r a)) d (d a) j := by
  have c1 : ¬ Uch (EL (dnW r a)) d (d a) i := fun hi => hc (fun w hw => hg w (dn_E1 ha hw) (Uch (EL (dnW r a)) d (d a)) hi (fun u hu hs => by
    by_cases e : u = a
    · subst e
      exact ⟨by rw [hai]; exact hi, Uch.zero⟩
    · exact Uch.cl u ((dn_E e).mpr hu) hs))
  have c2 : r a = 1 := by
    by_cases e : r a = 1
    · exact e
    · have p : EL (dnW r a) a := ⟨ha.1, by
        rw [dnW_at]
        have := ha.2
        omega⟩
      have q : Uch (EL (dnW r a)) d (d a) (a / 2) := (Uch.cl a p (Or.inr Uch.zero)).1
      rw [hai] at q
      exact absurd q c1
  have hp : ∀ w, w < 20 → dnW r a w ≠ 0 → EL (dnW r a) w := fun w hw hz => ⟨hw, by
    have := dn_pos h0 ha w hw
    omega⟩
  have s0 := dg_closed (d := d) (r := dnW r a) (m := 20) (N := n) (S := Uch (EL (dnW r a)) d (d a)) (fun w hw hz => hB w (dn_E1 ha (hp w hw hz))) (fun w hw hz => ⟨fun s => (Uch.cl w (hp w hw hz) (Or.inl s)).2, fun s => (Uch.cl w (hp w hw hz) (Or.inr s)).1⟩)
  refine ⟨c1, c2, ?_⟩
  have hk : d a < n := (hB a ha).2
  have e : ∀ v, dgS d (dnW r a) 20 v = dgS d r 20 v - (if i = v then 1 else 0) + (if d a = v then 1 else 0) := fun v => by rw [dnW_dg ha.1, hai]
  rcases hd with hd | ⟨j, ⟨a1, a2, a3⟩, b1, b2, b3⟩
  · have t := sum_three (S := Uch (EL (dnW r a)) d (d a)) (F := dgS d (dnW r a) 20) (a := i) (b := d a) (c := i) (x := -1) (y := 1) (z := 0) n (fun v hv => by
      rw [e v, hd v hv]
      repeat' split
      all_goals omega)
    rw [t, iteC_n (fun q => c1 q.2), iteC_y ⟨hk, Uch.zero⟩, iteC_n (fun q => c1 q.2)] at s0
    exact absurd s0 (by decide)
  · have t := sum_three (S := Uch (EL (dnW r a)) d (d a)) (F := dgS d (dnW r a) 20) (a := j) (b := d a) (c := i) (x := -1) (y := 1) (z := 0) n (fun v hv => by
      have g : dgS d r 20 v = (if i = v then 1 else 0) + (if j = v then -1 else 0) := by
        by_cases v1 : i = v
        · subst v1
          rw [if_pos rfl, if_neg a3]
          omega
        · by_cases v2 : j = v
          · subst v2
            rw [if_neg v1, if_pos rfl]
            omega
          · have q := b3 v hv (fun q => v1 q.symm) (fun q => v2 q.symm)
            rw [if_neg v1, if_neg v2]
            omega
      rw [e v, g]
      repeat' split
      all_goals omega)
    rcases Classical.em (Uch (EL (dnW r a)) d (d a) j) with cj | cj
    · exact ⟨j, a1, b2, b1, cj⟩
    · rw [t, iteC_n (fun q => cj q.2), iteC_y ⟨hk, Uch.zero⟩, iteC_n (fun q => c1 q.2)] at s0
      exact absurd s0 (by decide)
theorem dg_in {d : Nat → Nat} {r : Nat → Int} {i : Nat} (h0 : ∀ w, w < 20 → 0 ≤ r w) (ho : ∀ w, w < 20 → w / 2 = i → r w = 0) : dgS d r 20 i ≤ 0 ∧ (dgS d r 20 i = 0 → ∀ w, EL r w → ¬ d w = i) := by
  have f0 : ∀ k, k < 20 → dgT d r i k ≤ 0 := fun k hk => by
    have h1 := h0 k hk
    have h2 := ho k hk
    unfold dgT
    repeat' split
    all_goals omega
  obtain ⟨q1, q2⟩ := sumN_le0 20 f0
  refine ⟨q1, fun z w hw e => ?_⟩
  have q3 := q2 z w hw.1
  have q4 := hw.2
  have q5 := ho w hw.1
  unfold dgT at q3
  rw [if_pos e] at q3
  split at q3
  · have := q5 (by assumption)
    omega
  · omega
/-- no way out of where one is: nothing is left -/
theorem trail_end {d : Nat → Nat} {r : Nat → Int} {n i : Nat} (h0 : ∀ w, w < 20 → 0 ≤ r w) (hi : i < n) (hg : ∀ w, EL r w → Uch (EL r) d i (w / 2)) (hd : DgN (dgS d r 20) n i) (ho : ∀ w, w < 20 → w / 2 = i → r w = 0) : ∀ w, ¬ EL r w := fun w hw => by
  obtain ⟨q1, q2⟩ := dg_in (d := d) h0 ho
  have z : dgS d r 20 i = 0 := by
    rcases hd with hd | ⟨j, -, b1, -⟩
    · exact hd i hi
    · omega
  have u := hg w hw (fun v => v = i) rfl (fun x hx s => by
    rcases s with s | s
    · have := ho x hx.1 s
      have := hx.2
      omega
    · exact absurd s (q2 z x hx))
  have := ho w hw.1 u
  have := hw.2
  omega
/-- one way alone out of where one is: it can be taken -/
theorem trail_one {d : Nat → Nat} {r : Nat → Int} {n i a : Nat} (h0 : ∀ w, w < 20 → 0 ≤ r w) (hB : ∀ w, EL r w → w / 2 < n ∧ d w < n) (hg : ∀ w, EL r w → Uch (EL r) d i (w / 2)) (hd : DgN (dgS d r 20) n i) (ha : EL r a) (hai : a / 2 = i) (ho : ∀ w, w < 20 → w / 2 = i → ¬ w = a → r w = 0) : ∀ w, EL (dnW r a) w → Uch (EL (dnW r a)) d (d a) (w / 2) := by
  refine Classical.byContradiction (fun hc => hc ?_)
  obtain ⟨c1, c2, j, hj, g1, gi, cj⟩ := cutA h0 hB hg hd ha hai hc
  have hk : ¬ d a = i := fun e => c1 (by
    have q : Uch (EL (dnW r a)) d (d a) (d a) := Uch.zero
    rw [e] at q
    rw [e]
    exact q)
  have gi' : dgS d (dnW r a) 20 i = 0 := by
    have q := dnW_dg (d := d) (r := r) (w := a) (v := i) ha.1
    rw [if_pos hai, if_neg hk] at q
    omega
  have ho' : ∀ w, w < 20 → w / 2 = i → dnW r a w = 0 := fun w hw e => by
    by_cases q : w = a
    · rw [q, dnW_at]
      omega
    · rw [dnW_nk q]
      exact ho w hw e q
  obtain ⟨-, q2⟩ := dg_in (d := d) (dn_pos h0 ha) ho'
  have q3 := q2 gi'
  intro w hw
  have u := hg w (dn_E1 ha hw) (fun v => Uch (EL (dnW r a)) d (d a) v ∨ v = i) (Or.inr rfl) (fun x hx s => by
    by_cases e : x = a
    · subst e
      exact ⟨Or.inr hai, Or.inl Uch.zero⟩
    · have hx' := (dn_E (r := r) e).mpr hx
      have n1 : ¬ x / 2 = i := fun y => by
        have := ho x hx.1 y e
        have := hx.2
        omega
      have n2 := q3 x hx'
      have s' : Uch (EL (dnW r a)) d (d a) (x / 2) ∨ Uch (EL (dnW r a)) d (d a) (d x) := by
        rcases s with (s | s) | (s | s)
        · exact Or.inl s
        · exact absurd s n1
        · exact Or.inr s
        · exact absurd s n2
      have k := Uch.cl x hx' s'
      exact ⟨Or.inl k.1, Or.inl k.2⟩)
  rcases u with u | u
  · exact u
  · have := ho' w hw.1 u
    have := hw.2
    omega
/-- two ways out of where one is: one of them can be taken -/
theorem trail_two {d : Nat → Nat} {r : Nat → Int} {n i a b : Nat} (h0 : ∀ w, w < 20 → 0 ≤ r w) (hB : ∀ w, EL r w → w / 2 < n ∧ d w < n) (hg : ∀ w, EL r w → Uch (EL r) d i (w / 2)) (hd : DgN (dgS d r 20) n i) (ha : EL r a) (hai : a / 2 = i) (hb : EL r b) (hbi : b / 2 = i) (hab : ¬ a = b) (hc : ¬ ∀ w, EL (dnW r a) w → Uch (EL (dnW r a)) d (d a) (w / 2)) : ∀ w, EL (dnW r b) w → Uch (EL (dnW r b)) d (d b) (w / 2) := by
  refine Classical.byContradiction (fun hc2 => ?_)
  obtain ⟨c1, c2, j, hj, g1, -, cj⟩ := cutA h0 hB hg hd ha hai hc
  obtain ⟨e1, e2, j', hj', g1', -, ej⟩ := cutA h0 hB hg hd hb hbi hc2
  have ejj := hd.one hj hj' g1 g1'
  subst ejj
  have pa : EL (dnW r b) a := (dn_E hab).mpr ha
  have kb : ¬ Uch (EL (dnW r b)) d (d b) (d a) := fun y => by
    have q := (Uch.cl a pa (Or.inr y)).1
    rw [hai] at q
    exact e1 q
  have s := cj (fun v => Uch (EL (dnW r a)) d (d a) v ∧ ¬ Uch (EL (dnW r b)) d (d b) v) ⟨Uch.zero, kb⟩ (fun x hx s => by
    have k : Uch (EL (dnW r a)) d (d a) (x / 2) ∧ Uch (EL (dnW r a)) d (d a) (d x) := Uch.cl x hx (s.imp (fun q => q.1) (fun q => q.1))
    have xa : ¬ x = a := fun q => by
      rw [q] at hx
      have h1 := hx.2
      rw [dnW_at] at h1
      omega
    have xb : ¬ x = b := fun q => by
      rw [q, hbi] at k
      exact c1 k.1
    have hx2 : EL (dnW r b) x := (dn_E xb).mpr ((dn_E xa).mp hx)
    have n0 : ¬ Uch (EL (dnW r b)) d (d b) (x / 2) ∧ ¬ Uch (EL (dnW r b)) d (d b) (d x) := by
      rcases s with s | s
      · exact ⟨s.2, fun q => s.2 (Uch.cl x hx2 (Or.inr q)).1⟩
      · exact ⟨fun q => s.2 (Uch.cl x hx2 (Or.inl q)).2, s.2⟩
    exact ⟨⟨k.1, n0.1⟩, ⟨k.2, n0.2⟩⟩)
  exact s.2 ej
/-- the way that is taken next, or -1 -/
noncomputable def nxW (p : Nat → Int) (n : Nat) (r : Nat → Int) (i : Nat) : Int := iteC (0 < r (2 * i) ∧ EvF p (dnW r (2 * i)) n (dW p (2 * i))) ((2 * i : Nat) : Int) (iteC (0 < r (2 * i + 1) ∧ EvF p (dnW r (2 * i + 1)) n (dW p (2 * i + 1))) ((2 * i + 1 : Nat) : Int) (-1))
theorem nxW_a {p r : Nat → Int} {n i : Nat} (h : 0 < r (2 * i)) (h2 : EvF p (dnW r (2 * i)) n (dW p (2 * i))) : nxW p n r i = ((2 * i : Nat) : Int) := by
  unfold nxW
  exact iteC_y ⟨h, h2⟩
theorem nxW_b {p r : Nat → Int} {n i : Nat} (h0 : ¬ (0 < r (2 * i) ∧ EvF p (dnW r (2 * i)) n (dW p (2 * i)))) (h : 0 < r (2 * i + 1)) (h2 : EvF p (dnW r (2 * i + 1)) n (dW p (2 * i + 1))) : nxW p n r i = ((2 * i + 1 : Nat) : Int) := by
  unfold nxW
  rw [iteC_n h0]
  exact iteC_y ⟨h, h2⟩
theorem nxW_n {p r : Nat → Int} {n i : Nat} (h0 : ¬ (0 < r (2 * i) ∧ EvF p (dnW r (2 * i)) n (dW p (2 * i)))) (h1 : ¬ (0 < r (2 * i + 1) ∧ EvF p (dnW r (2 * i + 1)) n (dW p (2 * i + 1)))) : nxW p n r i = -1 := by
  unfold nxW
  rw [iteC_n h0, iteC_n h1]
theorem nxW_of {p r : Nat → Int} {n i : Nat} (h : 0 ≤ nxW p n r i) : ∃ w : Nat, nxW p n r i = (w : Int) ∧ w / 2 = i ∧ 0 < r w ∧ EvF p (dnW r w) n (dW p w) := by
  rcases Classical.em (0 < r (2 * i) ∧ EvF p (dnW r (2 * i)) n (dW p (2 * i))) with c | c
  · exact ⟨2 * i, nxW_a c.1 c.2, by omega, c⟩
  · rcases Classical.em (0 < r (2 * i + 1) ∧ EvF p (dnW r (2 * i + 1)) n (dW p (2 * i + 1))) with e | e
    · exact ⟨2 * i + 1, nxW_b c e.1 e.2, by omega, e⟩
    · rw [nxW_n c e] at h
      exact absurd h (by decide)
theorem nxW_none {p r : Nat → Int} {n i : Nat} (hi : i < 10) (h : ∀ w, ¬ EL r w) : nxW p n r i = -1 := nxW_n (fun q => h (2 * i) ⟨by omega, q.1⟩) (fun q => h (2 * i + 1) ⟨by omega, q.1⟩)
theorem nxW_congr {p r r' : Nat → Int} {n i : Nat} (hi : i < 10) (h : ∀ w, w < 20 → r w = r' w) : nxW p n r i = nxW p n r' i := by
  have e : ∀ w, w < 20 → (EvF p (dnW r w) n (dW p w) ↔ EvF p (dnW r' w) n (dW p w)) := fun w hw => EvF.congr (fun k hk => by
    by_cases q : k = w
    · rw [q, dnW_at, dnW_at, h w hw]
    · rw [dnW_nk q, dnW_nk q, h k hk])
  rcases Classical.em (0 < r (2 * i) ∧ EvF p (dnW r (2 * i)) n (dW p (2 * i))) with c | c
  · rw [nxW_a c.1 c.2, nxW_a (by rw [← h _ (by omega)]; exact c.1) ((e _ (by omega)).mp c.2)]
  · have c' : ¬ (0 < r' (2 * i) ∧ EvF p (dnW r' (2 * i)) n (dW p (2 * i))) := fun q => c ⟨by rw [h _ (by omega)]; exact q.1, (e _ (by omega)).mpr q.2⟩
    rcases Classical.em (0 < r (2 * i + 1) ∧ EvF p (dnW r (2 * i + 1)) n (dW p (2 * i + 1))) with k | k
    · rw [nxW_b c k.1 k.2, nxW_b c' (by rw [← h _ (by omega)]; exact k.1) ((e _ (by omega)).mp k.2)]
    · rw [nxW_n c k, nxW_n c' (fun q => k ⟨by rw [h _ (by omega)]; exact q.1, (e _ (by omega)).mpr q.2⟩)]
/-- what is left and where one is behind k steps -/
noncomputable def TS (p : Nat → Int) (n : Nat) : Nat → (Nat → Int) × Nat
  | 0 => (lF p, 0)
  | k + 1 => if nxW p n (TS p n k).1 (TS p n k).2 < 0 then TS p n k else (dnW (TS p n k).1 (nxW p n (TS p n k).1 (TS p n k).2).toNat, dW p (nxW p n (TS p n k).1 (TS p n k).2).toNat)
/-- the way of step k -/
noncomputable def tW (p : Nat → Int) (n k : Nat) : Int := nxW p n (TS p n k).1 (TS p n k).2
theorem TS_go {p : Nat → Int} {n k : Nat} (h : 0 ≤ tW p n k) : TS p n (k + 1) = (dnW (TS p n k).1 (tW p n k).toNat, dW p (tW p n k).toNat) := by
  show (if tW p n k < 0 then TS p n k else _) = _
  rw [if_neg (by omega)]
  rfl
/-- a row of ways as far as step k: what is left r, where one is i -/
def TrI (p : Nat → Int) (n : Nat) (r t : Nat → Int) (i k : Int) : Prop := (0 ≤ k ∧ (0 ≤ i ∧ i < 10)) ∧ (∀ w, w < 20 → r w = (TS p n k.toNat).1 w) ∧ i.toNat = (TS p n k.toNat).2 ∧ (∀ j : Nat, (j : Int) < k → t j = tW p n j ∧ 0 ≤ t j) ∧ EvF p r n i.toNat ∧ Rst p r
theorem TrI.init {p r t : Nat → Int} {n : Nat} (hp : ProgOk p) (h : ∀ w, w < 20 → r w = lF p w) (he : EvF p (lF p) n 0) : TrI p n r t 0 0 := ⟨by omega, h, rfl, fun j hj => absurd hj (by omega), (EvF.congr h).mpr he, Rst.ofl hp h⟩
theorem TrI.nx {p r t : Nat → Int} {n : Nat} {i k : Int} (h : TrI p n r t i k) : tW p n k.toNat = nxW p n r i.toNat := by
  unfold tW
  rw [← h.2.2.1]
  exact nxW_congr (by have := h.1; omega) (fun w hw => (h.2.1 w hw).symm)
theorem Rst.dn {p r : Nat → Int} {w : Nat} (h : Rst p r) (hw : 0 < r w) : Rst p (dnW r w) := fun k hk => by
  have q := h k hk
  by_cases e : k = w
  · subst e
    rw [dnW_at]
    omega
  · rw [dnW_nk e]
    exact q
theorem TrI.step {p r r' t t' : Nat → Int} {n : Nat} {i k z i' : Int} (h : TrI p n r t i k) (hz : z = nxW p n r i.toNat) (h0 : 0 ≤ z) (hr : r' = uZ r z.toNat (r z.toNat - 1)) (ht : t' = uZ t k.toNat z) (hi : i' = gtF p z) (hi2 : 0 ≤ i' ∧ i' < 10) : TrI p n r' t' i' (k + 1) := by
  have hn := h.nx
  obtain ⟨h1, h2, h3, h4, h5, h6⟩ := h
  obtain ⟨w, e1, e2, e3, e4⟩ := nxW_of (p := p) (n := n) (r := r) (i := i.toNat) (by omega)
  have ez : z.toNat = w := by omega
  rw [ez] at hr
  have hd : dW p w = i'.toNat := by
    unfold dW
    rw [hi, show ((w : Nat) : Int) = z by omega]
  have ek : (k + 1).toNat = k.toNat + 1 := by omega
  have et : tW p n k.toNat = (w : Int) := by omega
  have es : TS p n (k + 1).toNat = (dnW (TS p n k.toNat).1 w, dW p w) := by
    rw [ek, TS_go (by omega), et]
    rfl
  refine ⟨by omega, fun v hv => ?_, ?_, fun j hj => ?_, ?_, ?_⟩
  · rw [es, hr]
    show dnW r w v = dnW (TS p n k.toNat).1 w v
    by_cases q : v = w
    · rw [q, dnW_at, dnW_at, h2 w (by omega)]
    · rw [dnW_nk q, dnW_nk q, h2 v hv]
  · rw [es]
    exact hd.symm
  · rcases (show (j : Int) < k ∨ j = k.toNat by omega) with q | q
    · rw [ht, uZ_nk _ _ (by omega)]
      exact h4 j q
    · rw [q, ht, uZ_eq]
      omega
  · rw [hr, ← hd]
    exact e4
  · rw [hr]
    exact h6.dn e3
/-- m ways, one behind the other, as far as one comes -/
def TrF (p : Nat → Int) (n : Nat) (m : Int) (t : Nat → Int) : Prop := 0 ≤ m ∧ (∀ j : Nat, (j : Int) < m → t j = tW p n j ∧ 0 ≤ t j) ∧ tW p n m.toNat = -1
def TrA (p : Nat → Int) (n : Nat) (m : Int) (t : Nat → Int) : Prop := (EvF p (lF p) n 0 ∧ TrF p n m t) ∨ (¬ EvF p (lF p) n 0 ∧ m = -2)
theorem TrI.fin {p r t : Nat → Int} {n : Nat} {i k : Int} (h : TrI p n r t i k) (hx : nxW p n r i.toNat = -1) : TrF p n k t := ⟨h.1.1, h.2.2.2.1, h.nx.trans hx⟩
theorem TrA.same {p : Nat → Int} {n : Nat} {m m' : Int} {t t' : Nat → Int} (h : TrA p n m t) (h' : TrA p n m' t') : m = m' ∧ ∀ j : Nat, (j : Int) < m → t j = t' j := by
  rcases h with ⟨a, b0, b1, b2⟩ | ⟨a, b⟩ <;> rcases h' with ⟨a', c0, c1, c2⟩ | ⟨a', c⟩
  · have e : m = m' := by
      rcases (show m < m' ∨ m = m' ∨ m' < m by omega) with q | q | q
      · have y := c1 m.toNat (by omega)
        omega
      · exact q
      · have y := b1 m'.toNat (by omega)
        omega
    exact ⟨e, fun j hj => (b1 j hj).1.trans (c1 j (by omega)).1.symm⟩
  · exact absurd a a'
  · exact absurd a' a
  · exact ⟨by omega, fun j hj => absurd hj (by omega)⟩
/-- what the class takes next -/
theorem nxW_cls {p r : Nat → Int} {n i : Nat} (hp : ProgOk p) (hW : Rst p r) (hl : LN p (n : Int)) (hD : DN p (n : Int)) (hi : i < 10) (h : EvF p r n i) (hn : i < n ∨ i = 0) (hs : ∃ w, EL r w) : (r (2 * i) = 0 → 0 < r (2 * i + 1) ∧ nxW p n r i = ((2 * i + 1 : Nat) : Int)) ∧ (¬ r (2 * i) = 0 → r (2 * i + 1) = 0 → nxW p n r i = ((2 * i : Nat) : Int)) ∧ (¬ r (2 * i) = 0 → ¬ r (2 * i + 1) = 0 → ((∀ w, EL (dnW r (2 * i)) w → Uch (EL (dnW r (2 * i))) (dW p) (dW p (2 * i)) (w / 2)) → nxW p n r i = ((2 * i : Nat) : Int)) ∧ (¬ (∀ w, EL (dnW r (2 * i)) w → Uch (EL (dnW r (2 * i))) (dW p) (dW p (2 * i)) (w / 2)) → nxW p n r i = ((2 * i + 1 : Nat) : Int))) := by
  obtain ⟨hg, hd0⟩ := h
  have hd := hd0.n
  have h0 : ∀ w, w < 20 → 0 ≤ r w := fun w hw => (hW w hw).1
  have hB : ∀ w, EL r w → w / 2 < n ∧ dW p w < n := fun w he => by
    have q := hW.lows hp hl hD he
    omega
  have hin : i < n := by
    obtain ⟨w, hw⟩ := hs
    have := (hB w hw).1
    omega
  have hdn : ∀ a, EL r a → a / 2 = i → DgF (dgS (dW p) (dnW r a) 20) n (dW p a) := fun a ha e => (hd.step hin (hB a ha).2 (fun v => by rw [dnW_dg ha.1, e])).f
  have hA : ¬ r (2 * i) = 0 → EL r (2 * i) := fun q => ⟨by omega, by have := h0 (2 * i) (by omega); omega⟩
  have hC : ¬ r (2 * i + 1) = 0 → EL r (2 * i + 1) := fun q => ⟨by omega, by have := h0 (2 * i + 1) (by omega); omega⟩
  refine ⟨fun z => ?_, fun a z => ?_, fun a b => ⟨fun c => ?_, fun c => ?_⟩⟩
  · have hb : ¬ r (2 * i + 1) = 0 := fun y => by
      obtain ⟨w, hw⟩ := hs
      exact trail_end h0 hin hg hd (fun v hv e => by
        rcases (show v = 2 * i ∨ v = 2 * i + 1 by omega) with q | q
        · rw [q]
          exact z
        · rw [q]
          exact y) w hw
    have eb := hC hb
    exact ⟨eb.2, nxW_b (fun q => by have := q.1; omega) eb.2 ⟨trail_one h0 hB hg hd eb (by omega) (fun w hw e n1 => by
      rw [show w = 2 * i by omega]
      exact z), hdn _ eb (by omega)⟩⟩
  · have ea := hA a
    exact nxW_a ea.2 ⟨trail_one h0 hB hg hd ea (by omega) (fun w hw e n1 => by
      rw [show w = 2 * i + 1 by omega]
      exact z), hdn _ ea (by omega)⟩
  · have ea := hA a
    exact nxW_a ea.2 ⟨c, hdn _ ea (by omega)⟩
  · have ea := hA a
    have eb := hC b
    exact nxW_b (fun q => c q.2.1) eb.2 ⟨trail_two h0 hB hg hd ea (by omega) eb (by omega) (by omega) c, hdn _ eb (by omega)⟩
theorem sumN_dn {r : Nat → Int} {w m : Nat} (hw : w < m) : sumN (dnW r w) m = sumN r m - 1 := by
  have q := sumN_upd (f := r) (f' := dnW r w) (w := w) m (fun k _ hk => dnW_nk hk)
  rw [if_pos hw, dnW_at] at q
  omega
theorem sumN_ge0 {f : Nat → Int} : ∀ m : Nat, (∀ k, k < m → 0 ≤ f k) → 0 ≤ sumN f m ∧ (sumN f m = 0 → ∀ k, k < m → f k = 0)
  | 0, _ => ⟨Int.le_refl 0, fun _ k hk => absurd hk (by omega)⟩
  | m + 1, h => by
    obtain ⟨q1, q2⟩ := sumN_ge0 (f := f) m (fun k hk => h k (by omega))
    have e1 : sumN f (m + 1) = sumN f m + f m := rfl
    have q3 := h m (by omega)
    refine ⟨by omega, fun z k hk => ?_⟩
    rcases (show k < m ∨ k = m by omega) with q | q
    · exact q2 (by omega) k q
    · rw [q]
      omega
theorem EL_sum {r : Nat → Int} (h0 : ∀ w, w < 20 → 0 ≤ r w) : (sumN r 20 = 0 → ∀ w, ¬ EL r w) ∧ (¬ sumN r 20 = 0 → ∃ w, EL r w) := by
  obtain ⟨q1, q2⟩ := sumN_ge0 20 h0
  refine ⟨fun z w hw => ?_, fun z => ?_⟩
  · have := q2 z w hw.1
    have := hw.2
    omega
  · rcases Classical.em (∃ w, EL r w) with c | c
    · exact c
    · refine absurd ?_ z
      exact (sumN_congr 20 (fun k hk => by
        have a := h0 k hk
        have b : ¬ 0 < r k := fun y => c ⟨k, hk, y⟩
        show r k = 0
        omega)).trans (sumN_zero 20)
/-- what the class keeps of a trail -/
def TrC (p : Nat → Int) (n : Nat) (i : Nat → Int) (g : Nat → Nat → Int) : Prop := i 0 = 0 ∨ TrA p n (i 1) (g 0)
theorem TrC.mv {p p' : Nat → Int} {n n' : Int} {i i' : Nat → Int} {g g' : Nat → Nat → Int} {F : Prop} (h : TrC p n.toNat i g) (h1 : i' 0 = 0 ∨ (F ∧ i' = i ∧ g' = g)) (h2 : F → p' = p ∧ n' = n) : TrC p' n'.toNat i' g' := by
  rcases h1 with q | ⟨f, q1, q2⟩
  · exact Or.inl q
  · obtain ⟨e1, e2⟩ := h2 f
    rw [e1, e2, q1, q2]
    exact h
/-- the x-th way of the trail, or -1 -/
def TrV (p : Nat → Int) (n : Nat) (x z : Int) : Prop := ∃ (m : Int) (t : Nat → Int), TrA p n m t ∧ ((x < m ∧ z = t x.toNat) ∨ (¬ x < m ∧ z = -1))
theorem TrV.same {p : Nat → Int} {n : Nat} {x z z' : Int} (hx : 0 ≤ x) (h : TrV p n x z) (h' : TrV p n x z') : z = z' := by
  obtain ⟨m, t, a, b⟩ := h
  obtain ⟨m', t', a', b'⟩ := h'
  obtain ⟨e1, e2⟩ := a.same a'
  rcases b with ⟨b1, b2⟩ | ⟨b1, b2⟩ <;> rcases b' with ⟨c1, c2⟩ | ⟨c1, c2⟩
  · rw [b2, c2]
    exact e2 x.toNat (by omega)
  · omega
  · omega
  · omega
theorem uZ_back {g g' g'' : Nat → Int} {k : Nat} {x y : Int} (e : g' = uZ g k x) (e2 : g'' = uZ g' k y) (hy : y = g k) : g'' = g := funext fun w => by
  by_cases q : w = k
  · rw [e2, q, uZ_eq, hy]
  · rw [e2, uZ_nk _ _ q, e, uZ_nk _ _ q]
/-- of the ways out of line i below w none can be taken -/
def NoT (p : Nat → Int) (n : Nat) (r : Nat → Int) (i w : Int) : Prop := (2 * i < w → ¬ (0 < r (2 * i.toNat) ∧ EvF p (dnW r (2 * i.toNat)) n (dW p (2 * i.toNat)))) ∧ (2 * i + 1 < w → ¬ (0 < r (2 * i.toNat + 1) ∧ EvF p (dnW r (2 * i.toNat + 1)) n (dW p (2 * i.toNat + 1))))
theorem NoT.init {p r : Nat → Int} {n : Nat} {i : Int} : NoT p n r i (2 * i) := ⟨fun q => absurd q (by omega), fun q => absurd q (by omega)⟩
theorem NoT.step {p r : Nat → Int} {n : Nat} {i w : Int} (h : NoT p n r i w) (hi : 0 ≤ i) (hw : 2 * i ≤ w ∧ w < 2 * i + 2) (hn : ¬ (0 < r w.toNat ∧ EvF p (dnW r w.toNat) n (dW p w.toNat))) : NoT p n r i (w + 1) := by
  obtain ⟨h1, h2⟩ := h
  rcases (show w = 2 * i ∨ w = 2 * i + 1 by omega) with q | q
  · rw [show w.toNat = 2 * i.toNat by omega] at hn
    exact ⟨fun _ => hn, fun y => absurd y (by omega)⟩
  · rw [show w.toNat = 2 * i.toNat + 1 by omega] at hn
    exact ⟨fun _ => h1 (by omega), fun _ => hn⟩
theorem NoT.fin {p r : Nat → Int} {n : Nat} {i w : Int} (h : NoT p n r i w) (hi : 0 ≤ i) (hw : 2 * i + 2 ≤ w) : nxW p n r i.toNat = -1 := nxW_n (h.1 (by omega)) (h.2 (by omega))
theorem NoT.yes {p r : Nat → Int} {n : Nat} {i w : Int} (h : NoT p n r i w) (hi : 0 ≤ i) (hw : 2 * i ≤ w ∧ w < 2 * i + 2) (hy : 0 < r w.toNat ∧ EvF p (dnW r w.toNat) n (dW p w.toNat)) : w = nxW p n r i.toNat := by
  rcases (show w = 2 * i ∨ w = 2 * i + 1 by omega) with q | q
  · rw [show w.toNat = 2 * i.toNat by omega] at hy
    rw [nxW_a hy.1 hy.2]
    omega
  · rw [show w.toNat = 2 * i.toNat + 1 by omega] at hy
    rw [nxW_b (h.1 (by omega)) hy.1 hy.2]
    omega
