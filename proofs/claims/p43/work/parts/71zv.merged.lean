/-! LINES ALIKE: what counts at place k of a row whose acts are A, whose goal is G -/
abbrev CntP (A G k : Int) : Prop := k < 2 ∨ (2 ≤ k ∧ k < 14 ∧ k - 2 < 3 * A) ∨ k = 14 ∨ ((k = 15 ∨ k = 18) ∧ G = 2) ∨ (k = 16 ∧ 0 < G)
def AlkB (P : Nat → Int) (x w n : Int) : Prop := ∀ k : Int, 1 ≤ k → k < n → CntP (P (20 * x + 1).toNat) (P (20 * x + 14).toNat) k → P (20 * x + k).toNat = P (20 * w + k).toNat
def Alk (P : Nat → Int) (x w : Int) : Prop := (P (20 * x + 0).toNat = 1 ∧ P (20 * w + 0).toNat = 1) ∧ AlkB P x w 19
theorem alk_step {P : Nat → Int} {x w n v v' : Int} (hn : 1 ≤ n) (h : v = 1 ↔ AlkB P x w n) (hv : v' = 1 ↔ (v = 1 ∧ (CntP (P (20 * x + 1).toNat) (P (20 * x + 14).toNat) n → P (20 * x + n).toNat = P (20 * w + n).toNat))) : v' = 1 ↔ AlkB P x w (n + 1) := by
  rw [hv, h]
  constructor
  · rintro ⟨h1, h2⟩ k k1 k2 k3
    by_cases c : k < n
    · exact h1 k k1 c k3
    · have e : k = n := by omega
      subst e
      exact h2 k3
  · intro h1
    exact ⟨fun k k1 k2 k3 => h1 k k1 (by omega) k3, fun k3 => h1 n hn (by omega) k3⟩
def SameA (g : Nat → Nat → Int) (x y n : Int) : Prop := ∀ j : Int, 0 ≤ j → j < n → g 3 (x * 4 + j).toNat = g 3 (y * 4 + j).toNat ∧ g 4 (x * 4 + j).toNat = g 4 (y * 4 + j).toNat ∧ g 5 (x * 4 + j).toNat = g 5 (y * 4 + j).toNat
def AlkC (g : Nat → Nat → Int) (x y : Int) : Prop := (g 0 x.toNat ≠ -1 ∧ g 0 y.toNat ≠ -1) ∧ (g 0 x.toNat = g 0 y.toNat ∧ g 1 x.toNat = g 1 y.toNat ∧ g 6 (2 * x).toNat = g 6 (2 * y).toNat ∧ g 6 (2 * x + 1).toNat = g 6 (2 * y + 1).toNat) ∧ g 2 x.toNat = g 2 y.toNat ∧ SameA g x y (g 2 x.toNat)
/-- a told row, in whole numbers -/
theorem NRel.row {g : Nat → Nat → Int} {P : Nat → Int} (h : NRel g P) {x : Int} (hx : 0 ≤ x ∧ x < 10) (ht : g 0 x.toNat ≠ -1) : (P (20 * x + 1).toNat = g 2 x.toNat ∧ P (20 * x + 14).toNat = g 0 x.toNat ∧ 0 ≤ g 0 x.toNat ∧ g 0 x.toNat ≤ 2)
    ∧ (∀ j : Int, 0 ≤ j → j < g 2 x.toNat → P (20 * x + (2 + 3 * j)).toNat = g 3 (x * 4 + j).toNat ∧ P (20 * x + (2 + 3 * j + 1)).toNat = g 4 (x * 4 + j).toNat ∧ P (20 * x + (2 + 3 * j + 2)).toNat = g 5 (x * 4 + j).toNat)
    ∧ ((g 0 x.toNat = 0 ∧ g 6 (2 * x).toNat = -2 ∧ g 7 (2 * x).toNat = 0) ∨ (1 ≤ g 0 x.toNat ∧ P (20 * x + 16).toNat = g 6 (2 * x).toNat ∧ P (20 * x + 17).toNat = g 7 (2 * x).toNat ∧ 1 ≤ g 7 (2 * x).toNat))
    ∧ ((g 0 x.toNat ≠ 2 ∧ g 1 x.toNat = -2 ∧ g 6 (2 * x + 1).toNat = -2 ∧ g 7 (2 * x + 1).toNat = 0) ∨ (g 0 x.toNat = 2 ∧ P (20 * x + 15).toNat = g 1 x.toNat ∧ P (20 * x + 18).toNat = g 6 (2 * x + 1).toNat ∧ P (20 * x + 19).toNat = g 7 (2 * x + 1).toNat ∧ 1 ≤ g 7 (2 * x + 1).toNat)) := by
  obtain ⟨-, h2, h3, h4, h5, h6⟩ := (h x.toNat (by omega)).told ht
  rw [show (20 * x + 14).toNat = 20 * x.toNat + 14 by omega, show (20 * x + 1).toNat = 20 * x.toNat + 1 by omega, show (20 * x + 16).toNat = 20 * x.toNat + 16 by omega, show (20 * x + 17).toNat = 20 * x.toNat + 17 by omega, show (20 * x + 15).toNat = 20 * x.toNat + 15 by omega, show (20 * x + 18).toNat = 20 * x.toNat + 18 by omega, show (20 * x + 19).toNat = 20 * x.toNat + 19 by omega, show (2 * x).toNat = 2 * x.toNat by omega, show (2 * x + 1).toNat = 2 * x.toNat + 1 by omega]
  refine ⟨⟨h3.symm, h2.1.symm, h2.2⟩, fun j j0 hj => ?_, ?_, ?_⟩
  · obtain ⟨e1, e2, e3⟩ := h4 j.toNat (by omega)
    rw [show (20 * x + (2 + 3 * j)).toNat = 20 * x.toNat + (2 + 3 * j.toNat) by omega, show (20 * x + (2 + 3 * j + 1)).toNat = 20 * x.toNat + (2 + 3 * j.toNat + 1) by omega, show (20 * x + (2 + 3 * j + 2)).toNat = 20 * x.toNat + (2 + 3 * j.toNat + 2) by omega, show (x * 4 + j).toNat = 4 * x.toNat + j.toNat by omega]
    exact ⟨e1.symm, e2.symm, e3.symm⟩
  · rcases h5 with a | ⟨a1, a2, a3, a4⟩
    · exact Or.inl a
    · exact Or.inr ⟨a1, a2.symm, a3.symm, a4⟩
  · rcases h6 with a | ⟨a1, a2, a3, a4, a5⟩
    · exact Or.inl a
    · exact Or.inr ⟨a1, a2.symm, a3.symm, a4.symm, a5⟩
theorem alk_iff {g : Nat → Nat → Int} {P : Nat → Int} (h : NRel g P) {x y : Int} (hx : 0 ≤ x ∧ x < 10) (hy : 0 ≤ y ∧ y < 10) (h4 : g 2 x.toNat ≤ 4) : AlkC g x y ↔ Alk P x y := by
  rcases h.td hx with ⟨t1, t2⟩ | ⟨t1, t2⟩
  · exact ⟨fun q => absurd t1 q.1.1, fun q => absurd (t2.symm.trans q.1.1) (by decide)⟩
  rcases h.td hy with ⟨u1, u2⟩ | ⟨u1, u2⟩
  · exact ⟨fun q => absurd u1 q.1.2, fun q => absurd (u2.symm.trans q.1.2) (by decide)⟩
  obtain ⟨⟨x1, x14, xa, xb⟩, xj, x6, x7⟩ := h.row hx t1
  obtain ⟨⟨y1, y14, ya, yb⟩, yj, y6, y7⟩ := h.row hy u1
  constructor
  · rintro ⟨-, ⟨c0, c1, c2, c3⟩, c4, c5⟩
    refine ⟨⟨t2, u2⟩, fun k k1 k2 k3 => ?_⟩
    rcases k3 with k3 | ⟨k3, k4, k5⟩ | k3 | ⟨k3, k4⟩ | ⟨k3, k4⟩
    · have e : k = 1 := by omega
      subst e
      rw [x1, y1]
      exact c4
    · obtain ⟨j, hj⟩ : ∃ j : Int, j = (k - 2) / 3 := ⟨_, rfl⟩
      have hjr : 0 ≤ j ∧ j < g 2 x.toNat := by omega
      obtain ⟨a1, a2, a3⟩ := xj j hjr.1 hjr.2
      obtain ⟨b1, b2, b3⟩ := yj j hjr.1 (by omega)
      obtain ⟨d1, d2, d3⟩ := c5 j hjr.1 hjr.2
      rcases (show k = 2 + 3 * j ∨ k = 2 + 3 * j + 1 ∨ k = 2 + 3 * j + 2 by omega) with e | e | e
      · rw [e, a1, b1]; exact d1
      · rw [e, a2, b2]; exact d2
      · rw [e, a3, b3]; exact d3
    · subst k3
      rw [x14, y14]
      exact c0
    · rcases x7 with x7 | ⟨x7, x15, x18, -⟩
      · exact absurd (x14.symm.trans k4) x7.1
      rcases y7 with y7 | ⟨y7, y15, y18, -⟩
      · exact absurd (c0.symm.trans x7) y7.1
      rcases k3 with k3 | k3
      · subst k3
        rw [x15, y15]
        exact c1
      · subst k3
        rw [x18, y18]
        exact c3
    · rcases x6 with x6 | ⟨x6, x16, -⟩
      · exact absurd k4 (by omega)
      rcases y6 with y6 | ⟨y6, y16, -⟩
      · exact absurd k4 (by omega)
      subst k3
      rw [x16, y16]
      exact c2
  · rintro ⟨-, q⟩
    have q1 := q 1 (by omega) (by omega) (Or.inl (by omega))
    have q14 := q 14 (by omega) (by omega) (Or.inr (Or.inr (Or.inl rfl)))
    rw [x1, y1] at q1
    rw [x14, y14] at q14
    have q2 : g 0 x.toNat = 2 → g 1 x.toNat = g 1 y.toNat ∧ g 6 (2 * x + 1).toNat = g 6 (2 * y + 1).toNat := fun z => by
      have a15 := q 15 (by omega) (by omega) (Or.inr (Or.inr (Or.inr (Or.inl ⟨Or.inl rfl, x14.trans z⟩))))
      have a18 := q 18 (by omega) (by omega) (Or.inr (Or.inr (Or.inr (Or.inl ⟨Or.inr rfl, x14.trans z⟩))))
      rcases x7 with x7 | ⟨x7, x15, x18, -⟩
      · exact absurd z x7.1
      rcases y7 with y7 | ⟨y7, y15, y18, -⟩
      · exact absurd (q14.symm.trans z) y7.1
      rw [x15, y15] at a15
      rw [x18, y18] at a18
      exact ⟨a15, a18⟩
    refine ⟨⟨t1, u1⟩, ⟨q14, ?_, ?_, ?_⟩, q1, fun j j0 hj => ?_⟩
    · by_cases z : g 0 x.toNat = 2
      · exact (q2 z).1
      · rcases x7 with x7 | x7
        · rcases y7 with y7 | y7
          · rw [x7.2.1, y7.2.1]
          · exact absurd (q14.trans y7.1) z
        · exact absurd x7.1 z
    · by_cases z : 1 ≤ g 0 x.toNat
      · have a16 := q 16 (by omega) (by omega) (Or.inr (Or.inr (Or.inr (Or.inr ⟨rfl, by omega⟩))))
        rcases x6 with x6 | ⟨x6, x16, -⟩
        · exact absurd z (by omega)
        rcases y6 with y6 | ⟨y6, y16, -⟩
        · exact absurd z (by omega)
        rw [x16, y16] at a16
        exact a16
      · rcases x6 with x6 | x6
        · rcases y6 with y6 | y6
          · rw [x6.2.1, y6.2.1]
          · exact absurd y6.1 (by omega)
        · exact absurd x6.1 z
    · by_cases z : g 0 x.toNat = 2
      · exact (q2 z).2
      · rcases x7 with x7 | x7
        · rcases y7 with y7 | y7
          · rw [x7.2.2.1, y7.2.2.1]
          · exact absurd (q14.trans y7.1) z
        · exact absurd x7.1 z
    · obtain ⟨a1, a2, a3⟩ := xj j j0 hj
      obtain ⟨b1, b2, b3⟩ := yj j j0 (by omega)
      have d1 := q (2 + 3 * j) (by omega) (by omega) (Or.inr (Or.inl ⟨by omega, by omega, by omega⟩))
      have d2 := q (2 + 3 * j + 1) (by omega) (by omega) (Or.inr (Or.inl ⟨by omega, by omega, by omega⟩))
      have d3 := q (2 + 3 * j + 2) (by omega) (by omega) (Or.inr (Or.inl ⟨by omega, by omega, by omega⟩))
      rw [a1, b1] at d1
      rw [a2, b2] at d2
      rw [a3, b3] at d3
      exact ⟨d1, d2, d3⟩
/-! MERGED: what becomes of the 200 numbers -/
abbrev TgtP (P : Nat → Int) (l o : Nat) : Prop := (o = 16 ∧ 0 < P (20 * l + 14)) ∨ (o = 18 ∧ P (20 * l + 14) = 2) ∨ (3 ≤ o ∧ o < 14 ∧ o % 3 = 0 ∧ (((o - 3) / 3 : Nat) : Int) < P (20 * l + 1) ∧ P (20 * l + o - 1) = 3)
def mB (P : Nat → Int) (x w : Int) (l o : Nat) : Int :=
  if (l : Int) = w then 0
  else if o = 17 ∧ (l : Int) = x ∧ 0 < P (20 * x + 14).toNat then lessZ 9 (P (20 * x + 17).toNat + P (20 * w + 17).toNat)
  else if o = 19 ∧ (l : Int) = x ∧ P (20 * x + 14).toNat = 2 then lessZ 9 (P (20 * x + 19).toNat + P (20 * w + 19).toNat)
  else P (20 * l + o)
def mF (P : Nat → Int) (x w n : Int) (l o : Nat) : Int := if (l : Int) ≠ w ∧ (l : Int) < n ∧ P (20 * l) ≠ 0 ∧ TgtP P l o ∧ P (20 * l + o) = w then x else mB P x w l o
/-- the program, w merged into x -/
def mergeF (P : Nat → Int) (x w n : Int) : Nat → Int := fun k => mF P x w n (k / 20) (k % 20)
theorem mergeF_at {P : Nat → Int} {x w n : Int} {l o : Nat} (ho : o < 20) : mergeF P x w n (20 * l + o) = mF P x w n l o := by
  unfold mergeF
  rw [show (20 * l + o) / 20 = l by omega, show (20 * l + o) % 20 = o by omega]
theorem mB_P {P : Nat → Int} {x w : Int} {l o : Nat} (hl : (l : Int) ≠ w) (h17 : o ≠ 17) (h19 : o ≠ 19) : mB P x w l o = P (20 * l + o) := by
  unfold mB
  rw [if_neg hl, if_neg (fun q => h17 q.1), if_neg (fun q => h19 q.1)]
theorem mB_w {P : Nat → Int} {x w : Int} {l o : Nat} (hl : (l : Int) = w) : mB P x w l o = 0 := if_pos hl
theorem mF_no {P : Nat → Int} {x w n : Int} {l o : Nat} (h : ¬ ((l : Int) ≠ w ∧ (l : Int) < n ∧ P (20 * l) ≠ 0 ∧ TgtP P l o ∧ P (20 * l + o) = w)) : mF P x w n l o = mB P x w l o := if_neg h
theorem mF_yes {P : Nat → Int} {x w n : Int} {l o : Nat} (h : (l : Int) ≠ w ∧ (l : Int) < n ∧ P (20 * l) ≠ 0 ∧ TgtP P l o ∧ P (20 * l + o) = w) : mF P x w n l o = x := if_pos h
theorem mF_P {P : Nat → Int} {x w n : Int} {l o : Nat} (hl : (l : Int) ≠ w) (h : o = 0 ∨ o = 1 ∨ o = 14 ∨ o = 15 ∨ (o < 14 ∧ o % 3 ≠ 0)) : mF P x w n l o = P (20 * l + o) := by
  rw [mF_no (fun q => by
    rcases q.2.2.2.1 with z | z | z <;> omega), mB_P hl (by omega) (by omega)]
/-- how far row l is done -/
abbrev dnP (t : Int) (o : Nat) : Prop := (o = 16 ∧ 1 ≤ t) ∨ (o = 18 ∧ 2 ≤ t) ∨ (o < 14 ∧ (o : Int) < 3 * t - 6)
def Mst (P : Nat → Int) (x w n : Int) (q : Nat → Int) (v t : Int) : Prop := ∀ l o : Nat, l < 10 → o < 20 → q (20 * l + o) = if (l : Int) < v ∨ ((l : Int) = v ∧ dnP t o) then mF P x w n l o else mB P x w l o
theorem Mst.lo {P q : Nat → Int} {x w n v t : Int} (h : Mst P x w n q v t) {l o : Nat} (hl : (l : Int) = v) (hl2 : l < 10) (ho : o < 20) (hd : ¬ dnP t o) : q (20 * l + o) = mB P x w l o := (h l o hl2 ho).trans (if_neg (fun z => by rcases z with z | z; omega; exact hd z.2))
theorem Mst.val {P q : Nat → Int} {x w n v t : Int} (h : Mst P x w n q v t) (hv : 0 ≤ v ∧ v < 10) (hw : v ≠ w) {o : Nat} (ho : o = 0 ∨ o = 1 ∨ o = 14 ∨ o = 15 ∨ (o < 14 ∧ o % 3 ≠ 0)) {e : Int} (he : e = 20 * v + (o : Int)) : q e.toNat = P e.toNat := by
  obtain ⟨l, rfl⟩ : ∃ l : Nat, v = l := ⟨v.toNat, by omega⟩
  rw [show e.toNat = 20 * l + o by omega, h l o (by omega) (by omega)]
  split
  · exact mF_P hw ho
  · exact mB_P hw (by omega) (by omega)
theorem Mst.val2 {P q : Nat → Int} {x w n v t : Int} (h : Mst P x w n q v t) (hv : 0 ≤ v ∧ v < 10) (hw : v ≠ w) {o : Nat} (ho : o < 17 ∨ o = 18) (hd : ¬ dnP t o) {e : Int} (he : e = 20 * v + (o : Int)) : q e.toNat = P e.toNat := by
  obtain ⟨l, rfl⟩ : ∃ l : Nat, v = l := ⟨v.toNat, by omega⟩
  rw [show e.toNat = 20 * l + o by omega, h.lo rfl (by omega) (by omega) hd, mB_P hw (by omega) (by omega)]
/-- one place more of row v -/
theorem Mst.step {P q q' : Nat → Int} {x w n v t t' : Int} {o0 : Nat} (h : Mst P x w n q v t) (hv : 0 ≤ v ∧ v < 10) (h0 : o0 < 20) (hq : q' (20 * v + (o0 : Int)).toNat = mF P x w n v.toNat o0) (hoff : ∀ k : Nat, k ≠ (20 * v + (o0 : Int)).toNat → q' k = q k) (hd : ∀ o : Nat, o < 20 → (dnP t o → dnP t' o) ∧ (dnP t' o → ¬ dnP t o → o = o0 ∨ mF P x w n v.toNat o = mB P x w v.toNat o)) (h1 : dnP t' o0) : Mst P x w n q' v t' := by
  obtain ⟨a, rfl⟩ : ∃ a : Nat, v = a := ⟨v.toNat, by omega⟩
  have ha : ((a : Int)).toNat = a := by omega
  rw [ha] at hq hd
  rw [show (20 * (a : Int) + (o0 : Int)).toNat = 20 * a + o0 by omega] at hq hoff
  intro l o hl ho
  by_cases c : 20 * l + o = 20 * a + o0
  · have e1 : l = a := by omega
    have e2 : o = o0 := by omega
    subst e1 e2
    rw [hq, if_pos (Or.inr ⟨rfl, h1⟩)]
  · rw [hoff _ c, h l o hl ho]
    by_cases e : l = a
    · subst e
      obtain ⟨d1, d2⟩ := hd o ho
      by_cases z : dnP t o
      · rw [if_pos (Or.inr ⟨rfl, z⟩), if_pos (Or.inr ⟨rfl, d1 z⟩)]
      · rw [if_neg (fun y => by rcases y with y | y; omega; exact z y.2)]
        by_cases z2 : dnP t' o
        · rw [if_pos (Or.inr ⟨rfl, z2⟩)]
          rcases d2 z2 z with y | y
          · exact absurd (by rw [y]) c
          · exact y.symm
        · rw [if_neg (fun y => by rcases y with y | y; omega; exact z2 y.2)]
    · by_cases z : (l : Int) < (a : Int)
      · rw [if_pos (Or.inl z), if_pos (Or.inl z)]
      · rw [if_neg (fun y => by rcases y with y | y <;> omega), if_neg (fun y => by rcases y with y | y <;> omega)]
/-- a row that is through -/
theorem Mst.next {P q : Nat → Int} {x w n v t : Int} (h : Mst P x w n q v t) (hv : 0 ≤ v ∧ v < 10) (hr : ∀ o : Nat, o < 20 → ¬ dnP t o → mF P x w n v.toNat o = mB P x w v.toNat o) : Mst P x w n q (v + 1) 0 := by
  obtain ⟨a, rfl⟩ : ∃ a : Nat, v = a := ⟨v.toNat, by omega⟩
  rw [show ((a : Int)).toNat = a by omega] at hr
  intro l o hl ho
  rw [h l o hl ho]
  by_cases c : (l : Int) < (a : Int)
  · rw [if_pos (Or.inl c), if_pos (Or.inl (by omega))]
  · by_cases d : l = a
    · subst d
      rw [if_pos (show (l : Int) < (l : Int) + 1 ∨ _ from Or.inl (by omega))]
      by_cases z : dnP t o
      · rw [if_pos (Or.inr ⟨rfl, z⟩)]
      · rw [if_neg (fun y => by rcases y with y | y; omega; exact z y.2)]
        exact (hr o ho z).symm
    · rw [if_neg (fun y => by rcases y with y | y <;> omega), if_neg (fun y => by rcases y with y | ⟨y1, y2⟩ <;> omega)]
/-- the first half -/
theorem Mst.start {P q q1 q2 : Nat → Int} {x w n : Int} (hx : 0 ≤ x ∧ x < 10) (hxw : x ≠ w) (hz : ∀ k : Nat, k < 200 → q k = if 20 * w ≤ (k : Int) ∧ (k : Int) < 20 * w + 20 then 0 else P k)
    (h1 : (0 < P (20 * x + 14).toNat ∧ q1 = uZ q (20 * x + 17).toNat (lessZ 9 (P (20 * x + 17).toNat + P (20 * w + 17).toNat))) ∨ (¬ 0 < P (20 * x + 14).toNat ∧ q1 = q))
    (h2 : (P (20 * x + 14).toNat = 2 ∧ q2 = uZ q1 (20 * x + 19).toNat (lessZ 9 (P (20 * x + 19).toNat + P (20 * w + 19).toNat))) ∨ (P (20 * x + 14).toNat ≠ 2 ∧ q2 = q1)) : Mst P x w n q2 0 0 := by
  intro l o hl ho
  rw [if_neg (fun y => by rcases y with y | ⟨y1, y2⟩ <;> omega)]
  have e0 : q (20 * l + o) = if (l : Int) = w then 0 else P (20 * l + o) := by
    rw [hz _ (by omega)]
    by_cases c : (l : Int) = w
    · rw [if_pos c, if_pos (by omega)]
    · rw [if_neg c, if_neg (by omega)]
  have e1 : q1 (20 * l + o) = if o = 17 ∧ (l : Int) = x ∧ 0 < P (20 * x + 14).toNat then lessZ 9 (P (20 * x + 17).toNat + P (20 * w + 17).toNat) else q (20 * l + o) := by
    rcases h1 with ⟨a1, a2⟩ | ⟨a1, a2⟩
    · rw [a2]
      by_cases c : o = 17 ∧ (l : Int) = x
      · rw [if_pos ⟨c.1, c.2, a1⟩, show 20 * l + o = (20 * x + 17).toNat by omega, uZ_eq]
      · rw [if_neg (fun z => c ⟨z.1, z.2.1⟩)]
        exact uZ_nk _ _ (fun z => c (by omega))
    · rw [a2, if_neg (fun z => a1 z.2.2)]
  have e2 : q2 (20 * l + o) = if o = 19 ∧ (l : Int) = x ∧ P (20 * x + 14).toNat = 2 then lessZ 9 (P (20 * x + 19).toNat + P (20 * w + 19).toNat) else q1 (20 * l + o) := by
    rcases h2 with ⟨a1, a2⟩ | ⟨a1, a2⟩
    · rw [a2]
      by_cases c : o = 19 ∧ (l : Int) = x
      · rw [if_pos ⟨c.1, c.2, a1⟩, show 20 * l + o = (20 * x + 19).toNat by omega, uZ_eq]
      · rw [if_neg (fun z => c ⟨z.1, z.2.1⟩)]
        exact uZ_nk _ _ (fun z => c (by omega))
    · rw [a2, if_neg (fun z => a1 z.2.2)]
  rw [e2, e1, e0]
  unfold mB
  by_cases c : (l : Int) = w
  · rw [if_pos c, if_pos c, if_neg (fun z => hxw (z.2.1.symm.trans c)), if_neg (fun z => hxw (z.2.1.symm.trans c))]
  · rw [if_neg c, if_neg c]
    by_cases d : o = 17 ∧ (l : Int) = x ∧ 0 < P (20 * x + 14).toNat
    · rw [if_pos d, if_neg (fun z => by omega), if_pos d]
    · rw [if_neg d, if_neg d]
theorem Mst.all {P q : Nat → Int} {x w n v : Int} (h : Mst P x w n q v 0) (hn : v = n ∨ 10 ≤ v) (hv : 0 ≤ v) : ∀ k : Nat, k < 200 → q k = mergeF P x w n k := by
  intro k hk
  unfold mergeF
  have e := h (k / 20) (k % 20) (by omega) (by omega)
  rw [show 20 * (k / 20) + k % 20 = k by omega] at e
  rw [e]
  split
  · rfl
  · rename_i c
    exact (mF_no (fun z => c (Or.inl (by omega)))).symm
/-- the class's net, y merged into x -/
def MrgC (g g' : Nat → Nat → Int) (x w : Int) : Prop :=
  ((∀ k : Nat, k < 10 → g' 0 k = if (k : Int) = w then -1 else g 0 k) ∧ (∀ k : Nat, k < 10 → g' 1 k = if (k : Int) = w then -2 else g 1 k) ∧ (∀ k : Nat, k < 10 → g' 2 k = if (k : Int) = w then 0 else g 2 k))
  ∧ ((∀ k : Nat, k < 40 → g' 3 k = g 3 k) ∧ (∀ k : Nat, k < 40 → g' 4 k = if g 3 k = 3 ∧ g 4 k = w then x else g 4 k) ∧ (∀ k : Nat, k < 40 → g' 5 k = g 5 k))
  ∧ (∀ l s : Nat, l < 10 → s < 2 → g' 6 (2 * l + s) = if (l : Int) = w then -2 else if g 6 (2 * l + s) = w then x else g 6 (2 * l + s))
  ∧ (∀ l s : Nat, l < 10 → s < 2 → g' 7 (2 * l + s) = if (l : Int) = w then 0 else if (l : Int) = x then lessZ 9 (g 7 (2 * l + s) + g 7 (2 * w.toNat + s)) else g 7 (2 * l + s))
theorem NRel.merge {g g' : Nat → Nat → Int} {P Q : Nat → Int} {x w n : Int} (h : NRel g P) (h4 : ∀ k : Nat, k < 10 → g 2 k ≤ 4) (hn : ∀ l : Nat, l < 10 → n ≤ (l : Int) → P (20 * l) = 0) (hx : 0 ≤ x ∧ x < 10) (hw : 0 ≤ w ∧ w < 10) (hxw : x ≠ w) (ha : Alk P x w) (hC : MrgC g g' x w) (hQ : ∀ k : Nat, k < 200 → Q k = mergeF P x w n k) : NRel g' Q := by
  obtain ⟨⟨c0, c1, c2⟩, ⟨c3, c4, c5⟩, c6, c7⟩ := hC
  have hq : ∀ l o : Nat, l < 10 → o < 20 → Q (20 * l + o) = mF P x w n l o := fun l o hl ho => (hQ _ (by omega)).trans (mergeF_at ho)
  obtain ⟨⟨ax, aw⟩, hal⟩ := ha
  have e14 := hal 14 (by omega) (by omega) (Or.inr (Or.inr (Or.inl rfl)))
  intro l hl
  by_cases clw : (l : Int) = w
  · left
    have z6 : ∀ s : Nat, s < 2 → g' 6 (2 * l + s) = -2 := fun s hs => (c6 l s hl hs).trans (if_pos clw)
    have z7 : ∀ s : Nat, s < 2 → g' 7 (2 * l + s) = 0 := fun s hs => (c7 l s hl hs).trans (if_pos clw)
    refine ⟨(c0 l hl).trans (if_pos clw), ⟨(c1 l hl).trans (if_pos clw), (c2 l hl).trans (if_pos clw), z6 0 (by omega), z6 1 (by omega), z7 0 (by omega), z7 1 (by omega)⟩, fun j hj => ?_⟩
    rw [hq l j hl hj, mF_no (fun z => z.1 clw), mB_w clw]
  have d0 : g' 0 l = g 0 l := (c0 l hl).trans (if_neg clw)
  have d1 : g' 1 l = g 1 l := (c1 l hl).trans (if_neg clw)
  have d2 : g' 2 l = g 2 l := (c2 l hl).trans (if_neg clw)
  have d6 : ∀ s : Nat, s < 2 → g' 6 (2 * l + s) = if g 6 (2 * l + s) = w then x else g 6 (2 * l + s) := fun s hs => (c6 l s hl hs).trans (if_neg clw)
  have d7 : ∀ s : Nat, s < 2 → g' 7 (2 * l + s) = if (l : Int) = x then lessZ 9 (g 7 (2 * l + s) + g 7 (2 * w.toNat + s)) else g 7 (2 * l + s) := fun s hs => (c7 l s hl hs).trans (if_neg clw)
  rcases h l hl with ⟨r0, ⟨r1, r2, r3, r4, r5, r6⟩, r7⟩ | ⟨p1, ⟨p2, p2a, p2b⟩, p3, p4, p5, p6⟩
  · have hlx : (l : Int) ≠ x := fun z => by
      have q := r7 0 (by omega)
      rw [show 20 * l + 0 = (20 * x + 0).toNat by omega, ax] at q
      exact absurd q (by decide)
    left
    have y6 : ∀ s : Nat, s < 2 → g 6 (2 * l + s) = -2 → g' 6 (2 * l + s) = -2 := fun s hs e => by rw [d6 s hs, e, if_neg (by omega)]
    refine ⟨d0.trans r0, ⟨d1.trans r1, d2.trans r2, y6 0 (by omega) r3, y6 1 (by omega) r4, (d7 0 (by omega)).trans ((if_neg hlx).trans r5), (d7 1 (by omega)).trans ((if_neg hlx).trans r6)⟩, fun j hj => ?_⟩
    have hP0 := r7 0 (by omega)
    rw [hq l j hl hj, mF_no (fun z => z.2.2.1 hP0)]
    unfold mB
    rw [if_neg clw, if_neg (fun z => hlx z.2.1), if_neg (fun z => hlx z.2.1)]
    exact r7 j hj
  · have hln : (l : Int) < n := by
      by_cases z : (l : Int) < n
      · exact z
      · have q := hn l hl (by omega)
        rw [p1] at q
        exact absurd q (by decide)
    have hg : ∀ o : Nat, (o = 0 ∨ o = 1 ∨ o = 14 ∨ o = 15 ∨ (o < 14 ∧ o % 3 ≠ 0)) → Q (20 * l + o) = P (20 * l + o) := fun o ho => (hq l o hl (by omega)).trans (mF_P clw ho)
    -- the row of w, where l is x
    have hwr : (l : Int) = x → (g 0 w.toNat = g 0 l) ∧ (g 0 l = 0 → g 7 (2 * w.toNat + 0) = 0) ∧ (g 0 l ≠ 2 → g 7 (2 * w.toNat + 1) = 0) ∧ (1 ≤ g 0 l → g 7 (2 * w.toNat + 0) = P (20 * w + 17).toNat ∧ 1 ≤ g 7 (2 * w.toNat + 0)) ∧ (g 0 l = 2 → g 7 (2 * w.toNat + 1) = P (20 * w + 19).toNat ∧ 1 ≤ g 7 (2 * w.toNat + 1)) := fun z => by
      have tw : g 0 w.toNat ≠ -1 := by
        rcases h.td hw with ⟨q1, q2⟩ | ⟨q1, q2⟩
        · rw [aw] at q2
          exact absurd q2 (by decide)
        · exact q1
      obtain ⟨⟨w1, w14, wa, wb⟩, wj, w6, w7⟩ := h.row hw tw
      have e : g 0 w.toNat = g 0 l := by
        rw [← w14, ← e14, p2, show (20 * x + 14).toNat = 20 * l + 14 by omega]
      rw [e] at w6 w7
      rw [show (2 * w).toNat = 2 * w.toNat + 0 by omega] at w6
      rw [show (2 * w + 1).toNat = 2 * w.toNat + 1 by omega] at w7
      refine ⟨e, fun q => ?_, fun q => ?_, fun q => ?_, fun q => ?_⟩
      · rcases w6 with a | a
        · exact a.2.2
        · exact absurd q (by omega)
      · rcases w7 with a | a
        · exact a.2.2.2
        · exact absurd a.1 q
      · rcases w6 with a | a
        · exact absurd q (by omega)
        · exact ⟨a.2.2.1.symm, a.2.2.2⟩
      · rcases w7 with a | a
        · exact absurd q a.1
        · exact ⟨a.2.2.2.1.symm, a.2.2.2.2⟩
    have lz0 : lessZ 9 ((0 : Int) + 0) = 0 := by decide
    have lz1 : ∀ a b : Int, 1 ≤ a → 1 ≤ b → 1 ≤ lessZ 9 (a + b) := fun a b u v => by
      unfold lessZ
      split <;> omega
    have nX : (l : Int) = x → (20 * x + 14).toNat = 20 * l + 14 ∧ (20 * x + 17).toNat = 20 * l + 17 ∧ (20 * x + 19).toNat = 20 * l + 19 := fun z => by omega
    right
    rw [d0, d1, d2]
    refine ⟨(hg 0 (Or.inl rfl)).trans p1, ⟨p2.trans (hg 14 (by omega)).symm, p2a, p2b⟩, p3.trans (hg 1 (by omega)).symm, fun j hj => ?_, ?_, ?_⟩
    · have hj4 := h4 l hl
      obtain ⟨k1, k2, k3⟩ := p4 j hj
      refine ⟨?_, ?_, ?_⟩
      · rw [c3 _ (by omega), k1, hg _ (by omega)]
      · rw [c4 _ (by omega), k1, k2, hq l (2 + 3 * j + 1) hl (by omega)]
        by_cases z : P (20 * l + (2 + 3 * j)) = 3 ∧ P (20 * l + (2 + 3 * j + 1)) = w
        · rw [if_pos z, mF_yes ⟨clw, hln, by rw [p1]; decide, Or.inr (Or.inr ⟨by omega, by omega, by omega, by rw [show (2 + 3 * j + 1 - 3) / 3 = j by omega, ← p3]; exact hj, z.1⟩), z.2⟩]
        · rw [if_neg z, mF_no (fun y => z ⟨by
            rcases y.2.2.2.1 with u | u | u
            · omega
            · omega
            · exact u.2.2.2.2, y.2.2.2.2⟩), mB_P clw (by omega) (by omega)]
      · rw [c5 _ (by omega), k3, hg _ (by omega)]
    · rcases p5 with ⟨u1, u2, u3⟩ | ⟨u1, u2, u3, u4⟩
      · left
        refine ⟨u1, ?_, ?_⟩
        · have q := d6 0 (by omega)
          rw [Nat.add_zero, u2, if_neg (by omega)] at q
          exact q
        · have q := d7 0 (by omega)
          rw [Nat.add_zero, u3] at q
          rw [q]
          by_cases z : (l : Int) = x
          · have y := (hwr z).2.1 u1
            rw [Nat.add_zero] at y
            rw [if_pos z, Nat.add_zero, y, lz0]
          · rw [if_neg z]
      · right
        have q6 := d6 0 (by omega)
        have q7 := d7 0 (by omega)
        rw [Nat.add_zero] at q6 q7
        have hQ16 := hq l 16 hl (by omega)
        have hQ17 := hq l 17 hl (by omega)
        rw [mF_no (fun z => by rcases z.2.2.2.1 with y | y | y <;> omega)] at hQ17
        refine ⟨u1, ?_, ?_, ?_⟩
        · rw [q6, u2, hQ16]
          by_cases z : P (20 * l + 16) = w
          · rw [if_pos z, mF_yes ⟨clw, hln, by rw [p1]; decide, Or.inl ⟨rfl, by omega⟩, z⟩]
          · rw [if_neg z, mF_no (fun y => z y.2.2.2.2), mB_P clw (by omega) (by omega)]
        · rw [q7, hQ17]
          unfold mB
          rw [if_neg clw]
          by_cases z : (l : Int) = x
          · obtain ⟨-, -, -, y1, -⟩ := hwr z
            have y2 := (y1 u1).1
            rw [Nat.add_zero] at y2
            obtain ⟨n1, n2, n3⟩ := nX z
            rw [if_pos z, if_pos ⟨rfl, z, by rw [n1]; omega⟩, Nat.add_zero, y2, u3, n2]
          · rw [if_neg z, if_neg (fun y => z y.2.1), if_neg (fun y => z y.2.1)]
            exact u3
        · rw [q7]
          by_cases z : (l : Int) = x
          · obtain ⟨-, -, -, y1, -⟩ := hwr z
            rw [if_pos z]
            exact lz1 _ _ u4 (y1 u1).2
          · rw [if_neg z]
            exact u4
    · rcases p6 with ⟨u1, u2, u3, u4⟩ | ⟨u1, u2, u3, u4, u5⟩
      · left
        refine ⟨u1, u2, ?_, ?_⟩
        · rw [d6 1 (by omega), u3, if_neg (by omega)]
        · rw [d7 1 (by omega), u4]
          by_cases z : (l : Int) = x
          · rw [if_pos z, (hwr z).2.2.1 u1, lz0]
          · rw [if_neg z]
      · right
        have q6 := d6 1 (by omega)
        have q7 := d7 1 (by omega)
        have hQ18 := hq l 18 hl (by omega)
        have hQ19 := hq l 19 hl (by omega)
        rw [mF_no (fun z => by rcases z.2.2.2.1 with y | y | y <;> omega)] at hQ19
        refine ⟨u1, ?_, ?_, ?_, ?_⟩
        · exact u2.trans (hg 15 (by omega)).symm
        · rw [q6, u3, hQ18]
          by_cases z : P (20 * l + 18) = w
          · rw [if_pos z, mF_yes ⟨clw, hln, by rw [p1]; decide, Or.inr (Or.inl ⟨rfl, by omega⟩), z⟩]
          · rw [if_neg z, mF_no (fun y => z y.2.2.2.2), mB_P clw (by omega) (by omega)]
        · rw [q7, hQ19]
          unfold mB
          rw [if_neg clw]
          by_cases z : (l : Int) = x
          · obtain ⟨-, -, -, -, y1⟩ := hwr z
            have y2 := (y1 u1).1
            obtain ⟨n1, n2, n3⟩ := nX z
            rw [if_pos z, if_neg (fun y => absurd y.1 (by decide)), if_pos ⟨rfl, z, by rw [n1]; omega⟩, y2, u4, n3]
          · rw [if_neg z, if_neg (fun y => z y.2.1), if_neg (fun y => z y.2.1)]
            exact u4
        · rw [q7]
          by_cases z : (l : Int) = x
          · obtain ⟨-, -, -, -, y1⟩ := hwr z
            rw [if_pos z]
            exact lz1 _ _ u5 (y1 u1).2
          · rw [if_neg z]
            exact u5
