/-! THE GRAMMAR. A cursor c stands for the token that is found from c on; a result is a fault and its place, or what was read and the cursor behind it -/
abbrev PR (α : Type) : Type := (Int × Int) ⊕ α
def bnd {α β : Type} (r : PR α) (k : α → PR β) : PR β := match r with
  | .inl e => .inl e
  | .inr a => k a
theorem bnd_r {α β : Type} {r : PR α} {k : α → PR β} {a : α} (h : r = .inr a) : bnd r k = k a := by rw [h]; rfl
theorem bnd_l {α β : Type} {r : PR α} {k : α → PR β} {e : Int × Int} (h : r = .inl e) : bnd r k = .inl e := by rw [h]; rfl
/-- the first of the names that is w -/
def Fnd (m : Int) (nm : Nat → Int) (w z : Int) : Prop := (z = -1 ∧ ∀ k : Nat, (k : Int) < m → nm k ≠ w) ∨ ((0 ≤ z ∧ z < m) ∧ nm z.toNat = w ∧ ∀ k : Nat, (k : Int) < z → nm k ≠ w)
theorem Fnd.one {m : Int} {nm : Nat → Int} {w z z' : Int} (h : Fnd m nm w z) (h' : Fnd m nm w z') : z = z' := by
  rcases h with ⟨h1, h2⟩ | ⟨h1, h2, h3⟩ <;> rcases h' with ⟨h4, h5⟩ | ⟨h4, h5, h6⟩
  · rw [h1, h4]
  · exact absurd h5 (h2 _ (by omega))
  · exact absurd h2 (h5 _ (by omega))
  · rcases (show z < z' ∨ z = z' ∨ z' < z by omega) with q | q | q
    · exact absurd h2 (h6 _ (by omega))
    · exact q
    · exact absurd h5 (h3 _ (by omega))
noncomputable def fnd (m : Int) (nm : Nat → Int) (w : Int) : Int := Classical.epsilon (fun z => Fnd m nm w z)
theorem Fnd.eq {m : Int} {nm : Nat → Int} {w z : Int} (h : Fnd m nm w z) : fnd m nm w = z := Fnd.one (Classical.epsilon_spec (p := fun z => Fnd m nm w z) ⟨z, h⟩) h
section SPEC
variable (f : Nat → Int) (n : Int)
noncomputable def numS (lo hi c : Int) : PR (Int × Int) := if tKd f n c = 20 then (if lo ≤ tNu f n c ∧ tNu f n c ≤ hi then .inr (tNu f n c, tEn f n c) else .inl (4, tPl f n c)) else .inl (1, tPl f n c)
noncomputable def ctrS (c : Int) : PR (Int × Int) := if 15 ≤ tKd f n c ∧ tKd f n c < 19 then .inr (tKd f n c - 15, tEn f n c) else .inl (1, tPl f n c)
noncomputable def wrdS (k c : Int) : PR Int := if tKd f n c = k then .inr (tEn f n c) else .inl (1, tPl f n c)
noncomputable def namS (m : Int) (nm : Nat → Int) (c : Int) : PR (Int × Int) := if tKd f n c = 19 then (if fnd m nm (tWd f n c) = -1 then .inl (2, tPl f n c) else .inr (fnd m nm (tWd f n c), tEn f n c)) else .inl (1, tPl f n c)
noncomputable def wayS (m : Int) (nm : Nat → Int) (c : Int) : PR ((Int × Int) × Int) := bnd (namS f n m nm c) (fun a => bnd (wrdS f n 12 a.2) (fun c2 => bnd (numS f n 1 9 c2) (fun v => .inr ((a.1, v.1), v.2))))
/-- an act: kind, target, value -/
noncomputable def actS (m : Int) (nm : Nat → Int) (c : Int) : PR ((Int × Int × Int) × Int) :=
  if tKd f n c = 7 then bnd (namS f n m nm (tEn f n c)) (fun a => .inr ((3, a.1, 0), a.2))
  else bnd (ctrS f n (tEn f n c)) (fun a => if tKd f n c = 6 then bnd (numS f n 0 9 a.2) (fun v => .inr ((2, a.1, v.1), v.2)) else .inr ((tKd f n c - 4, a.1, 0), a.2))
/-- the acts of a line from its i-th on, at most r of them; K, T, V those before -/
noncomputable def actsS (m : Int) (nm : Nat → Int) : Nat → Int → (Nat → Int) → (Nat → Int) → (Nat → Int) → Int → PR ((Int × (Nat → Int) × (Nat → Int) × (Nat → Int)) × Int)
  | 0, _, _, _, _, c => .inl (0, tPl f n c)
  | r + 1, i, K, T, V, c => if 4 ≤ tKd f n c ∧ tKd f n c ≤ 7 then (if 4 ≤ i then .inl (5, tPl f n c) else bnd (actS f n m nm c) (fun a => if tKd f n a.2 = 22 then actsS m nm r (i + 1) (uZ K i.toNat a.1.1) (uZ T i.toNat a.1.2.1) (uZ V i.toNat a.1.2.2) (tEn f n a.2) else .inr ((i + 1, uZ K i.toNat a.1.1, uZ T i.toNat a.1.2.1, uZ V i.toNat a.1.2.2), a.2))) else .inl (1, tPl f n c)
/-- where a line leads: its goal, what it asks, its two ways -/
noncomputable def goalS (m : Int) (nm : Nat → Int) (c : Int) : PR ((Int × Int × (Int × Int) × (Int × Int)) × Int) :=
  if tKd f n c = 9 then .inr ((0, 0, (0, 0), (0, 0)), tEn f n c)
  else if tKd f n c = 10 then bnd (wayS f n m nm (tEn f n c)) (fun a => .inr ((1, 0, a.1, (0, 0)), a.2))
  else if tKd f n c = 11 then bnd (ctrS f n (tEn f n c)) (fun x => bnd (wrdS f n 10 x.2) (fun c2 => bnd (wayS f n m nm c2) (fun a => bnd (wrdS f n 13 a.2) (fun c4 => bnd (wayS f n m nm c4) (fun b => .inr ((2, x.1, a.1, b.1), b.2))))))
  else .inl (1, tPl f n c)
/-- names from c on, at most r more -/
noncomputable def nmsS : Nat → Int → (Nat → Int) → Int → PR ((Int × (Nat → Int)) × Int)
  | 0, _, _, c => .inl (0, tPl f n c)
  | r + 1, m, nm, c => if tKd f n c = 19 then (if fnd m nm (tWd f n c) = -1 then (if 10 ≤ m then .inl (5, tPl f n c) else if tKd f n (tEn f n c) = 22 then nmsS r (m + 1) (uZ nm m.toNat (tWd f n c)) (tEn f n (tEn f n c)) else .inr ((m + 1, uZ nm m.toNat (tWd f n c)), tEn f n c)) else .inl (3, tPl f n c)) else .inl (1, tPl f n c)
/-- a want from its i-th number on; A those before -/
noncomputable def numsS : Nat → Int → (Nat → Int) → Int → PR ((Nat → Int) × Int)
  | 0, _, A, c => .inr (A, c)
  | r + 1, i, A, c => if 0 < i ∧ tKd f n c ≠ 22 then .inl (1, tPl f n c) else bnd (numS f n 0 9 (tEn f n c)) (fun v => numsS r (i + 1) (uZ A i.toNat v.1) v.2)
/-- a line: which, its acts, where it leads -/
noncomputable def lineS (m : Int) (nm td : Nat → Int) (c : Int) : PR ((Int × (Int × (Nat → Int) × (Nat → Int) × (Nat → Int)) × (Int × Int × (Int × Int) × (Int × Int))) × Int) :=
  if m = 0 then .inl (6, tPl f n c) else bnd (namS f n m nm (tEn f n c)) (fun a => if td a.1.toNat = 0 then bnd (if tKd f n a.2 = 3 then actsS f n m nm 5 0 (fun _ => 0) (fun _ => 0) (fun _ => 0) (tEn f n a.2) else .inr ((0, fun _ => 0, fun _ => 0, fun _ => 0), a.2)) (fun k => bnd (wrdS f n 8 k.2) (fun c4 => bnd (goalS f n m nm c4) (fun g => .inr ((a.1, k.1, g.1), g.2)))) else .inl (3, tPl f n (tEn f n c)))
noncomputable def prgS (m : Int) (nm : Nat → Int) (c : Int) : PR ((Int × (Nat → Int)) × Int) := if 0 < m then .inl (3, tPl f n c) else nmsS f n 11 m nm (tEn f n c)
noncomputable def wantS (w : Int) (c : Int) : PR (((Nat → Int) × Int) × Int) := if 6 ≤ w then .inl (5, tPl f n c) else bnd (numsS f n 4 0 (fun _ => 0) c) (fun a => bnd (wrdS f n 14 a.2) (fun c2 => bnd (numS f n 0 99 c2) (fun v => .inr ((a.1, v.1), v.2))))
end SPEC
