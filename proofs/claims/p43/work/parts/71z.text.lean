/-! THE WHOLE TEXT. What was read so far: the names, the rows of the lines, the wants -/
theorem uZ_nk (g : Nat → Int) {i k : Nat} (v : Int) (h : ¬ k = i) : uZ g i v k = g k := by simp [uZ, h]
def actsPut (P : Nat → Int) (x : Int) (K T V : Nat → Int) : Nat → (Nat → Int)
  | 0 => P
  | r + 1 => actPut (actsPut P x K T V r) (x + 2 + 3 * (r : Int)) (K r) (T r) (V r)
theorem actsPut_congr {P K T V K' T' V' : Nat → Int} {x : Int} : ∀ r : Nat, (∀ j, j < r → K j = K' j ∧ T j = T' j ∧ V j = V' j) → actsPut P x K T V r = actsPut P x K' T' V' r
  | 0, _ => rfl
  | r + 1, h => by
    show actPut (actsPut P x K T V r) (x + 2 + 3 * (r : Int)) (K r) (T r) (V r) = actPut (actsPut P x K' T' V' r) (x + 2 + 3 * (r : Int)) (K' r) (T' r) (V' r)
    obtain ⟨h1, h2, h3⟩ := h r (by omega)
    rw [actsPut_congr r (fun j hj => h j (by omega)), h1, h2, h3]
theorem actsPut_add {P K T V : Nat → Int} {x v a t w : Int} (hv : 0 ≤ v) : actPut (actsPut P x K T V v.toNat) (x + 2 + 3 * v) a t w = actsPut P x (uZ K v.toNat a) (uZ T v.toNat t) (uZ V v.toNat w) (v + 1).toNat := by
  have e : (v + 1).toNat = v.toNat + 1 := by omega
  rw [e]
  show _ = actPut (actsPut P x (uZ K v.toNat a) (uZ T v.toNat t) (uZ V v.toNat w) v.toNat) (x + 2 + 3 * (v.toNat : Int)) (uZ K v.toNat a v.toNat) (uZ T v.toNat t v.toNat) (uZ V v.toNat w v.toNat)
  have h : actsPut P x (uZ K v.toNat a) (uZ T v.toNat t) (uZ V v.toNat w) v.toNat = actsPut P x K T V v.toNat := by
    apply actsPut_congr
    intro j hj
    have q : ¬ j = v.toNat := by omega
    exact ⟨uZ_nk _ _ q, uZ_nk _ _ q, uZ_nk _ _ q⟩
  rw [h, show ((v.toNat : Nat) : Int) = v by omega]
  simp only [uZ, if_true]
theorem actPut_out {P : Nat → Int} {x a t v : Int} {k : Nat} (hx : 0 ≤ x) (h : k < x.toNat ∨ x.toNat + 3 ≤ k) : actPut P x a t v k = P k := by
  have h0 : ¬ k = x.toNat := by omega
  have h1 : ¬ k = (x + 1).toNat := by omega
  have h2 : ¬ k = (x + 2).toNat := by omega
  unfold actPut
  repeat' split
  all_goals simp only [uZ, if_neg h0, if_neg h1, if_neg h2]
theorem actsPut_out {P K T V : Nat → Int} {x : Int} {k : Nat} (hx : 0 ≤ x) : ∀ r : Nat, r ≤ 4 → (k < x.toNat ∨ x.toNat + 20 ≤ k) → actsPut P x K T V r k = P k
  | 0, _, _ => rfl
  | r + 1, hr, h => by
    show actPut (actsPut P x K T V r) (x + 2 + 3 * (r : Int)) (K r) (T r) (V r) k = P k
    rw [actPut_out (by omega) (by omega)]
    exact actsPut_out hx r (by omega) h
theorem goalPut_out {P : Nat → Int} {x go ask l0 v0 l1 v1 : Int} {k : Nat} (hx : 0 ≤ x) (h : k < x.toNat + 14 ∨ x.toNat + 20 ≤ k) : goalPut P x go ask l0 v0 l1 v1 k = P k := by
  have h0 : ¬ k = (x + 14).toNat := by omega
  have h1 : ¬ k = (x + 15).toNat := by omega
  have h2 : ¬ k = (x + 16).toNat := by omega
  have h3 : ¬ k = (x + 16 + 1).toNat := by omega
  have h4 : ¬ k = (x + 18).toNat := by omega
  have h5 : ¬ k = (x + 18 + 1).toNat := by omega
  unfold goalPut
  repeat' split
  all_goals simp only [uZ, if_neg h0, if_neg h1, if_neg h2, if_neg h3, if_neg h4, if_neg h5]
def linePut (P : Nat → Int) (i cnt : Int) (K T V : Nat → Int) (go ask l0 v0 l1 v1 : Int) : Nat → Int := uZ (goalPut (if cnt = 0 then P else uZ (actsPut P (20 * i) K T V cnt.toNat) (20 * i + 1).toNat cnt) (20 * i) go ask l0 v0 l1 v1) (20 * i + 0).toNat 1
theorem linePut_at {P : Nat → Int} {i cnt : Int} {K T V : Nat → Int} {go ask l0 v0 l1 v1 : Int} : linePut P i cnt K T V go ask l0 v0 l1 v1 (20 * i).toNat = 1 := by
  unfold linePut
  rw [Int.add_zero]
  simp only [uZ, if_true]
theorem linePut_out {P : Nat → Int} {i cnt : Int} {K T V : Nat → Int} {go ask l0 v0 l1 v1 : Int} {k : Nat} (hi : 0 ≤ i) (hc : 0 ≤ cnt ∧ cnt ≤ 4) (h : k < (20 * i).toNat ∨ (20 * i).toNat + 20 ≤ k) : linePut P i cnt K T V go ask l0 v0 l1 v1 k = P k := by
  have h0 : ¬ k = (20 * i + 0).toNat := by omega
  have h1 : ¬ k = (20 * i + 1).toNat := by omega
  unfold linePut
  rw [uZ_nk _ _ h0, goalPut_out (by omega) (by omega)]
  by_cases q : cnt = 0
  · rw [if_pos q]
  · rw [if_neg q, uZ_nk _ _ h1]
    exact actsPut_out (by omega) _ (by omega) h
theorem linePut_td {P : Nat → Int} {i cnt : Int} {K T V : Nat → Int} {go ask l0 v0 l1 v1 : Int} (hi : 0 ≤ i) (hc : 0 ≤ cnt ∧ cnt ≤ 4) (h : ∀ k : Nat, k < 10 → P (20 * k) = 0 ∨ P (20 * k) = 1) : ∀ k : Nat, k < 10 → linePut P i cnt K T V go ask l0 v0 l1 v1 (20 * k) = 0 ∨ linePut P i cnt K T V go ask l0 v0 l1 v1 (20 * k) = 1 := by
  intro k hk
  by_cases q : k = i.toNat
  · right
    rw [show 20 * k = (20 * i).toNat by omega]; exact linePut_at
  · rw [linePut_out hi hc (by omega)]; exact h k hk
def wantPut (A : Nat → Int) (w : Int) (N : Nat → Int) (v : Int) : Nat → Int := fun k => if k < 5 * w.toNat ∨ 5 * w.toNat + 5 ≤ k then A k else if k = 5 * w.toNat + 4 then v else N (k - 5 * w.toNat)
theorem wantPut_of {A g N : Nat → Int} {w v : Int} (h1 : ∀ j : Nat, (j : Int) < 4 → g (5 * w.toNat + j) = N j) (h2 : g (5 * w.toNat + 4) = v) (h3 : ∀ k : Nat, (k < 5 * w.toNat ∨ 5 * w.toNat + 5 ≤ k) → g k = A k) : g = wantPut A w N v := by
  funext k
  unfold wantPut
  by_cases q : k < 5 * w.toNat ∨ 5 * w.toNat + 5 ≤ k
  · rw [if_pos q]; exact h3 k q
  · rw [if_neg q]
    by_cases q2 : k = 5 * w.toNat + 4
    · rw [if_pos q2, q2]; exact h2
    · rw [if_neg q2]
      have e := h1 (k - 5 * w.toNat) (by omega)
      rwa [show 5 * w.toNat + (k - 5 * w.toNat) = k by omega] at e
abbrev RSt : Type := (Int × (Nat → Int)) × (Nat → Int) × (Int × (Nat → Int))
section SPEC2
variable (f : Nat → Int) (n : Int)
noncomputable def stepS (s : RSt) (c : Int) : PR (RSt × Int) :=
  if tKd f n c = 0 then bnd (prgS f n s.1.1 s.1.2 c) (fun a => .inr ((a.1, s.2.1, s.2.2), a.2))
  else if tKd f n c = 1 then bnd (lineS f n s.1.1 s.1.2 (fun k => s.2.1 (20 * k)) c) (fun a => .inr ((s.1, linePut s.2.1 a.1.1 a.1.2.1.1 a.1.2.1.2.1 a.1.2.1.2.2.1 a.1.2.1.2.2.2 a.1.2.2.1 a.1.2.2.2.1 a.1.2.2.2.2.1.1 a.1.2.2.2.2.1.2 a.1.2.2.2.2.2.1 a.1.2.2.2.2.2.2, s.2.2), a.2))
  else if tKd f n c = 2 then bnd (wantS f n s.2.2.1 c) (fun a => .inr ((s.1, s.2.1, (s.2.2.1 + 1, wantPut s.2.2.2 s.2.2.1 a.1.1 a.1.2)), a.2))
  else .inl (1, tPl f n c)
noncomputable def tailS (R : RSt → Int → PR RSt) (a : RSt × Int) : PR RSt := if tKd f n a.2 = 21 then R a.1 (tEn f n a.2) else if tKd f n a.2 = 24 then (if a.1.1.1 = 0 then .inl (6, tPl f n a.2) else .inr a.1) else .inl (1, tPl f n a.2)
noncomputable def readS : Nat → RSt → Int → PR RSt
  | 0, _, _ => .inl (0, 0)
  | r + 1, s, c => bnd (stepS f n s c) (tailS f n (readS r))
end SPEC2
/-! cursors go on -/
def Mon {α : Type} (c : Int) (r : PR (α × Int)) : Prop := ∀ a, r = .inr a → c ≤ a.2
theorem Mon.inl {α : Type} {c : Int} {e : Int × Int} : Mon (α := α) c (.inl e) := fun _ h => by cases h
theorem Mon.inr {α : Type} {c : Int} {a : α × Int} (h : c ≤ a.2) : Mon c (.inr a : PR (α × Int)) := fun _ h2 => by cases h2; exact h
theorem Mon.ite {α : Type} {c : Int} {r t : PR (α × Int)} {q : Prop} [Decidable q] (h : Mon c r) (h2 : Mon c t) : Mon c (if q then r else t) := by
  by_cases z : q
  · rw [if_pos z]; exact h
  · rw [if_neg z]; exact h2
theorem Mon.bind {α β : Type} {c : Int} {r : PR (α × Int)} {k : α × Int → PR (β × Int)} (h : Mon c r) (hk : ∀ a, Mon a.2 (k a)) : Mon c (bnd r k) := by
  intro b hb
  cases r with
  | inl e => exact absurd (show (.inl e : PR (β × Int)) = .inr b from hb) (by intro z; cases z)
  | inr a => exact Int.le_trans (h a rfl) (hk a b hb)
theorem Mon.bindW {β : Type} {c : Int} {r : PR Int} {k : Int → PR (β × Int)} (h : ∀ d, r = .inr d → c ≤ d) (hk : ∀ d, Mon d (k d)) : Mon c (bnd r k) := by
  intro b hb
  cases r with
  | inl e => exact absurd (show (.inl e : PR (β × Int)) = .inr b from hb) (by intro z; cases z)
  | inr a => exact Int.le_trans (h a rfl) (hk a b hb)
theorem Mon.le {α : Type} {c c' : Int} {r : PR (α × Int)} (hc : c ≤ c') (h : Mon c' r) : Mon c r := fun a h2 => Int.le_trans hc (h a h2)
section MON
variable {f : Nat → Int} {n : Int}
theorem tPl_ge (c : Int) : c ≤ tPl f n c := (stp_Stop (S := sSp) (f := f) (n := n) (p := c) (by unfold sSp; omega)).1
theorem tEn_ge (c : Int) : c ≤ tEn f n c := by
  have h := tPl_ge (f := f) (n := n) c
  have h2 := (stp_Stop (S := sSm) (f := f) (n := n) (p := tPl f n c) (by unfold sSm; omega)).1
  have h3 := (stp_Stop (S := sDg) (f := f) (n := n) (p := tPl f n c) (by unfold sDg; omega)).1
  unfold tEn
  repeat' split
  all_goals omega
theorem wrd_mon {k c : Int} : ∀ d, wrdS f n k c = .inr d → c ≤ d := by
  intro d h
  have h1 := wrd_ok h
  unfold wrdS at h
  rw [if_pos h1] at h
  cases h
  exact tEn_ge c
theorem num_mon {lo hi c : Int} : Mon c (numS f n lo hi c) := by
  unfold numS; exact Mon.ite (Mon.ite (Mon.inr (tEn_ge c)) Mon.inl) Mon.inl
theorem ctr_mon {c : Int} : Mon c (ctrS f n c) := by
  unfold ctrS; exact Mon.ite (Mon.inr (tEn_ge c)) Mon.inl
theorem nam_mon {m c : Int} {nm : Nat → Int} : Mon c (namS f n m nm c) := by
  unfold namS; exact Mon.ite (Mon.ite Mon.inl (Mon.inr (tEn_ge c))) Mon.inl
theorem way_mon {m c : Int} {nm : Nat → Int} : Mon c (wayS f n m nm c) := by
  unfold wayS; exact Mon.bind nam_mon (fun a => Mon.bindW wrd_mon (fun d => Mon.bind num_mon (fun v => Mon.inr (Int.le_refl _))))
theorem act_mon {m c : Int} {nm : Nat → Int} : Mon c (actS f n m nm c) := by
  unfold actS; exact Mon.ite (Mon.le (tEn_ge c) (Mon.bind nam_mon (fun a => Mon.inr (Int.le_refl _)))) (Mon.le (tEn_ge c) (Mon.bind ctr_mon (fun a => Mon.ite (Mon.bind num_mon (fun v => Mon.inr (Int.le_refl _))) (Mon.inr (Int.le_refl _)))))
theorem acts_mon {m : Int} {nm : Nat → Int} : ∀ (r : Nat) (i : Int) (K T V : Nat → Int) (c : Int), Mon c (actsS f n m nm r i K T V c)
  | 0, _, _, _, _, _ => Mon.inl
  | r + 1, i, K, T, V, c => by
    unfold actsS
    exact Mon.ite (Mon.ite Mon.inl (Mon.bind act_mon (fun a => Mon.ite (Mon.le (tEn_ge a.2) (acts_mon r _ _ _ _ _)) (Mon.inr (Int.le_refl _))))) Mon.inl
theorem goal_mon {m c : Int} {nm : Nat → Int} : Mon c (goalS f n m nm c) := by
  unfold goalS
  exact Mon.ite (Mon.inr (tEn_ge c)) (Mon.ite (Mon.le (tEn_ge c) (Mon.bind way_mon (fun a => Mon.inr (Int.le_refl _)))) (Mon.ite (Mon.le (tEn_ge c) (Mon.bind ctr_mon (fun x => Mon.bindW wrd_mon (fun c2 => Mon.bind way_mon (fun a => Mon.bindW wrd_mon (fun c4 => Mon.bind way_mon (fun b => Mon.inr (Int.le_refl _)))))))) Mon.inl))
theorem nms_mon : ∀ (r : Nat) (m : Int) (nm : Nat → Int) (c : Int), Mon c (nmsS f n r m nm c)
  | 0, _, _, _ => Mon.inl
  | r + 1, m, nm, c => by
    unfold nmsS
    exact Mon.ite (Mon.ite (Mon.ite Mon.inl (Mon.ite (Mon.le (Int.le_trans (tEn_ge c) (tEn_ge _)) (nms_mon r _ _ _)) (Mon.inr (tEn_ge c)))) Mon.inl) Mon.inl
theorem nums_mon : ∀ (r : Nat) (i : Int) (A : Nat → Int) (c : Int), Mon c (numsS f n r i A c)
  | 0, _, _, _ => Mon.inr (Int.le_refl _)
  | r + 1, i, A, c => by
    unfold numsS
    exact Mon.ite Mon.inl (Mon.le (tEn_ge c) (Mon.bind num_mon (fun v => nums_mon r _ _ _)))
theorem tKd_semi {c : Int} (h : tKd f n c = 21) : tPl f n c < n ∧ tEn f n c = tPl f n c + 1 := by
  have hk := (Kd.ex (tWd f n c)).le
  unfold tKd at h
  by_cases h1 : tCh f n c = -1
  · rw [if_pos h1] at h; omega
  · rw [if_neg h1] at h
    by_cases h2 : 97 ≤ tCh f n c ∧ tCh f n c ≤ 122
    · rw [if_pos h2] at h
      by_cases h3 : tEn f n c - tPl f n c ≤ 8
      · rw [if_pos h3] at h; omega
      · rw [if_neg h3] at h; omega
    · rw [if_neg h2] at h
      by_cases h4 : 48 ≤ tCh f n c ∧ tCh f n c ≤ 57
      · rw [if_pos h4] at h
        by_cases h5 : tEn f n c - tPl f n c ≤ 3
        · rw [if_pos h5] at h; omega
        · rw [if_neg h5] at h; omega
      · refine ⟨?_, ?_⟩
        · rcases (show tPl f n c < n ∨ n ≤ tPl f n c by omega) with z | z
          · exact z
          · exact absurd (show tCh f n c = -1 from lk_ge z) h1
        · unfold tEn; rw [if_neg h1, if_neg h2, if_neg h4]
theorem tEn_gt {c : Int} (h : tKd f n c ≤ 19) : c < tEn f n c := by
  obtain ⟨h1, h2, h3, h4⟩ := tKd_word h
  have h5 := h4.gt (show sSm (lk f n (tPl f n c)) from h1)
  have h6 := tPl_ge (f := f) (n := n) c
  omega
theorem step_gt {s : RSt} {c : Int} {a : RSt × Int} (h : stepS f n s c = .inr a) : c < a.2 := by
  have hp : Mon (tEn f n c) (prgS f n s.1.1 s.1.2 c) := by unfold prgS; exact Mon.ite Mon.inl (nms_mon _ _ _ _)
  have hl : Mon (tEn f n c) (lineS f n s.1.1 s.1.2 (fun k => s.2.1 (20 * k)) c) := by
    unfold lineS
    exact Mon.ite Mon.inl (Mon.bind nam_mon (fun a => Mon.ite (Mon.bind (Mon.ite (Mon.le (tEn_ge a.2) (acts_mon _ _ _ _ _ _)) (Mon.inr (Int.le_refl _))) (fun k => Mon.bindW wrd_mon (fun c4 => Mon.bind goal_mon (fun g => Mon.inr (Int.le_refl _))))) Mon.inl))
  have hw : Mon (tEn f n c) (wantS f n s.2.2.1 c) := by
    unfold wantS
    refine Mon.ite Mon.inl (Mon.bind ?_ (fun a => Mon.bindW wrd_mon (fun c2 => Mon.bind num_mon (fun v => Mon.inr (Int.le_refl _)))))
    show Mon (tEn f n c) (if 0 < (0 : Int) ∧ tKd f n c ≠ 22 then .inl (1, tPl f n c) else bnd (numS f n 0 9 (tEn f n c)) (fun w => numsS f n 3 (0 + 1) (uZ (fun _ => 0) (0 : Int).toNat w.1) w.2))
    exact Mon.ite Mon.inl (Mon.bind num_mon (fun v => nums_mon _ _ _ _))
  have hm : Mon (tEn f n c) (stepS f n s c) := by
    unfold stepS
    exact Mon.ite (Mon.bind hp (fun a => Mon.inr (Int.le_refl _))) (Mon.ite (Mon.bind hl (fun a => Mon.inr (Int.le_refl _))) (Mon.ite (Mon.bind hw (fun a => Mon.inr (Int.le_refl _))) Mon.inl))
  have hk : tKd f n c ≤ 19 := by
    unfold stepS at h
    by_cases q0 : tKd f n c = 0
    · omega
    · rw [if_neg q0] at h
      by_cases q1 : tKd f n c = 1
      · omega
      · rw [if_neg q1] at h
        by_cases q2 : tKd f n c = 2
        · omega
        · rw [if_neg q2] at h; cases h
  have z := hm a h
  have z2 := tEn_gt (f := f) (n := n) (c := c) hk
  omega
theorem read_ok {r : Nat} {s : RSt} {c : Int} {a : RSt × Int} {X : PR RSt} (h : readS f n (r + 1) s c = X) (h2 : stepS f n s c = .inr a) : tailS f n (readS f n r) a = X ∧ c < a.2 := ⟨by rw [← h]; exact (bnd_r h2).symm, step_gt h2⟩
theorem read_no {r : Nat} {s : RSt} {c : Int} {e : Int × Int} {X : PR RSt} (h : readS f n (r + 1) s c = X) (h2 : stepS f n s c = .inl e) : X = .inl e := by rw [← h]; exact bnd_l h2
theorem tail_next {k : Nat} {s : RSt} {c : Int} {X : PR RSt} (h : tailS f n (readS f n k) (s, c) = X) (hk : 900 ≤ (k : Int) + c) (hs : tKd f n c = 21) (hn : n ≤ 900) : ∃ j : Nat, readS f n (j + 1) s (tEn f n c) = X ∧ 900 ≤ (j : Int) + tEn f n c ∧ c + 1 ≤ tEn f n c ∧ tEn f n c ≤ 900 := by
  obtain ⟨h1, h2⟩ := tKd_semi hs
  have h3 := tPl_ge (f := f) (n := n) c
  refine ⟨k - 1, ?_, by omega, by omega, by omega⟩
  rw [show k - 1 + 1 = k by omega, ← h]
  exact (if_pos hs).symm
theorem tail_over {R : RSt → Int → PR RSt} {s : RSt} {c : Int} (h : tKd f n c = 24) : tailS f n R (s, c) = if s.1.1 = 0 then .inl (6, tPl f n c) else .inr s := by
  unfold tailS; rw [if_neg (show ¬ tKd f n c = 21 by omega), if_pos (show tKd f n c = 24 from h)]
theorem tail_form {R : RSt → Int → PR RSt} {s : RSt} {c : Int} (h : tKd f n c ≠ 24) (h2 : tKd f n c ≠ 21) : tailS f n R (s, c) = .inl (1, tPl f n c) := by
  unfold tailS; rw [if_neg (show ¬ tKd f n c = 21 from h2), if_neg (show ¬ tKd f n c = 24 from h)]
/-- what a line of the acts does -/
theorem acts_ok {m v c : Int} {nm K T V : Nat → Int} {a : (Int × Int × Int) × Int} (hv : 0 ≤ v ∧ v ≤ 4) (h : actWS f n m nm v c = .inr a) : actsS f n m nm (5 - v).toNat v K T V c = if tKd f n a.2 = 22 then actsS f n m nm (5 - (v + 1)).toNat (v + 1) (uZ K v.toNat a.1.1) (uZ T v.toNat a.1.2.1) (uZ V v.toNat a.1.2.2) (tEn f n a.2) else .inr ((v + 1, uZ K v.toNat a.1.1, uZ T v.toNat a.1.2.1, uZ V v.toNat a.1.2.2), a.2) := by
  rw [acts_un hv]
  unfold actWS at h
  by_cases q : 4 ≤ tKd f n c ∧ tKd f n c ≤ 7
  · rw [if_pos q] at h ⊢
    by_cases q2 : 4 ≤ v
    · rw [if_pos q2] at h; cases h
    · rw [if_neg q2] at h ⊢
      rw [bnd_r h]
  · rw [if_neg q] at h; cases h
theorem acts_no {m v c : Int} {nm K T V : Nat → Int} {e : Int × Int} (hv : 0 ≤ v ∧ v ≤ 4) (h : actWS f n m nm v c = .inl e) : actsS f n m nm (5 - v).toNat v K T V c = .inl e := by
  rw [acts_un hv]
  unfold actWS at h
  by_cases q : 4 ≤ tKd f n c ∧ tKd f n c ≤ 7
  · rw [if_pos q] at h ⊢
    by_cases q2 : 4 ≤ v
    · rw [if_pos q2] at h ⊢; cases h; rfl
    · rw [if_neg q2] at h ⊢
      rw [bnd_l h]
  · rw [if_neg q] at h ⊢; cases h; rfl
end MON
def zer (P : Nat → Int) (v : Int) : Nat → Int := fun k => if (k : Int) < v then 0 else P k
theorem zer_0 {P : Nat → Int} : P = zer P 0 := by
  funext k
  unfold zer
  rw [if_neg (by omega)]
theorem zer_add {P g g' : Nat → Int} {v : Int} (hv : 0 ≤ v) (h : g = zer P v) (e : g' = uZ g v.toNat 0) : g' = zer P (v + 1) := by
  subst e; subst h
  funext k
  by_cases q : k = v.toNat
  · simp only [uZ, if_pos q, zer]; rw [if_pos (by omega)]
  · simp only [uZ, if_neg q, zer]
    by_cases q2 : (k : Int) < v
    · rw [if_pos q2, if_pos (by omega)]
    · rw [if_neg q2, if_neg (by omega)]
