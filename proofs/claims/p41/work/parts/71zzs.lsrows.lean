/-- sums -/
def sumN (f : Nat → Int) : Nat → Int
  | 0 => 0
  | k + 1 => sumN f k + f k
theorem sumN_congr {f g : Nat → Int} : ∀ n : Nat, (∀ k, k < n → f k = g k) → sumN f n = sumN g n
  | 0, _ => rfl
  | n + 1, h => by
    show sumN f n + f n = sumN g n + g n
    rw [sumN_congr n (fun k hk => h k (by omega)), h n (by omega)]
theorem sumN_rg {f : Nat → Int} {m : Int} (hm : 0 ≤ m) : ∀ n : Nat, (∀ k, k < n → 0 ≤ f k ∧ f k ≤ m) → 0 ≤ sumN f n ∧ sumN f n ≤ m * n
  | 0, _ => ⟨Int.le_refl _, by show (0 : Int) ≤ m * 0; omega⟩
  | n + 1, h => by
    obtain ⟨a1, a2⟩ := sumN_rg hm n (fun k hk => h k (by omega))
    obtain ⟨b1, b2⟩ := h n (by omega)
    have e : sumN f (n + 1) = sumN f n + f n := rfl
    have e2 : m * ((n + 1 : Nat) : Int) = m * n + m := by rw [Int.natCast_add, Int.mul_add]; omega
    rw [e, e2]
    omega
theorem sumN_upd {f f' : Nat → Int} {w : Nat} : ∀ m : Nat, (∀ k, k < m → ¬ k = w → f' k = f k) → sumN f' m = sumN f m + (if w < m then f' w - f w else 0)
  | 0, _ => by
    rw [if_neg (by omega)]
    rfl
  | m + 1, h => by
    have q := sumN_upd (f := f) (f' := f') (w := w) m (fun k hk => h k (by omega))
    have e1 : sumN f' (m + 1) = sumN f' m + f' m := rfl
    have e2 : sumN f (m + 1) = sumN f m + f m := rfl
    by_cases c : w = m
    · subst c
      rw [if_neg (by omega)] at q
      rw [if_pos (by omega)]
      omega
    · have q2 := h m (by omega) (fun e => c e.symm)
      by_cases c2 : w < m
      · rw [if_pos c2] at q
        rw [if_pos (by omega)]
        omega
      · rw [if_neg c2] at q
        rw [if_neg (by omega)]
        omega
/-! LEAST PROGRAMS -/
def lsG (n : Int) : Int := 1 + n + n * n
theorem lsG_c {n : Int} (hn : 1 ≤ n ∧ n ≤ 3) : (n = 1 ∧ lsG n = 3) ∨ (n = 2 ∧ lsG n = 7) ∨ (n = 3 ∧ lsG n = 13) := by
  rcases (show n = 1 ∨ n = 2 ∨ n = 3 by omega) with q | q | q
  · subst q
    exact Or.inl ⟨rfl, rfl⟩
  · subst q
    exact Or.inr (Or.inl ⟨rfl, rfl⟩)
  · subst q
    exact Or.inr (Or.inr ⟨rfl, rfl⟩)
/-- a line's number: its act, where it goes to, where else (-1: to the end, or nowhere else) -/
def lsA (n x : Int) : Int := x / lsG n
def lsT (n x : Int) : Int := if x % lsG n = 0 then -1 else if x % lsG n ≤ n then x % lsG n - 1 else (x % lsG n - 1 - n) / n
def lsE (n x : Int) : Int := if x % lsG n ≤ n then -1 else (x % lsG n - 1 - n) % n
theorem ls_rg {n x : Int} (hn : 1 ≤ n ∧ n ≤ 3) (hx : 0 ≤ x ∧ x < 4 * lsG n) : (0 ≤ lsA n x ∧ lsA n x ≤ 3) ∧ (-1 ≤ lsT n x ∧ lsT n x < n) ∧ (-1 ≤ lsE n x ∧ lsE n x < n) ∧ (lsT n x = -1 → lsE n x = -1) := by
  unfold lsA lsT lsE
  rcases lsG_c hn with ⟨e, g⟩ | ⟨e, g⟩ | ⟨e, g⟩
  · rw [g] at hx ⊢
    subst e
    refine ⟨by omega, ?_, ?_, ?_⟩
    all_goals repeat' split
    all_goals omega
  · rw [g] at hx ⊢
    subst e
    refine ⟨by omega, ?_, ?_, ?_⟩
    all_goals repeat' split
    all_goals omega
  · rw [g] at hx ⊢
    subst e
    refine ⟨by omega, ?_, ?_, ?_⟩
    all_goals repeat' split
    all_goals omega
/-- a line of a least program -/
def lsL (n w x : Int) (o : Nat) : Int :=
  if o = 0 then 1 else if o = 1 then (if lsA n x = 0 then 0 else 1) else if o = 2 then (if lsA n x < 2 then 0 else 1) else if o = 3 then (if lsA n x = 3 then 1 else 0)
  else if lsT n x = -1 then 0
  else if o = 14 then (if lsE n x = -1 then 1 else 2) else if o = 15 then 1 else if o = 16 then lsT n x else if o = 17 then w
  else if o = 18 then (if lsE n x = -1 then 0 else lsE n x) else if o = 19 then w else 0
theorem lsL_0 {n w x : Int} : lsL n w x 0 = 1 := by
  unfold lsL
  rw [if_pos rfl]
theorem lsL_1 {n w x : Int} : lsL n w x 1 = if lsA n x = 0 then 0 else 1 := by
  unfold lsL
  rw [if_neg (show ¬ (1 : Nat) = 0 by decide), if_pos (show (1 : Nat) = 1 from rfl)]
theorem lsL_2 {n w x : Int} : lsL n w x 2 = if lsA n x < 2 then 0 else 1 := by
  unfold lsL
  rw [if_neg (show ¬ (2 : Nat) = 0 by decide), if_neg (show ¬ (2 : Nat) = 1 by decide), if_pos (show (2 : Nat) = 2 from rfl)]
theorem lsL_3 {n w x : Int} : lsL n w x 3 = if lsA n x = 3 then 1 else 0 := by
  unfold lsL
  rw [if_neg (show ¬ (3 : Nat) = 0 by decide), if_neg (show ¬ (3 : Nat) = 1 by decide), if_neg (show ¬ (3 : Nat) = 2 by decide), if_pos (show (3 : Nat) = 3 from rfl)]
theorem lsL_z {n w x : Int} {o : Nat} (ho : 4 ≤ o) (h : lsT n x = -1) : lsL n w x o = 0 := by
  unfold lsL
  rw [if_neg (show ¬ o = 0 by omega), if_neg (show ¬ o = 1 by omega), if_neg (show ¬ o = 2 by omega), if_neg (show ¬ o = 3 by omega), if_pos h]
theorem lsL_g {n w x : Int} {o : Nat} (ho : 4 ≤ o) (h : ¬ lsT n x = -1) : lsL n w x o = if o = 14 then (if lsE n x = -1 then 1 else 2) else if o = 15 then 1 else if o = 16 then lsT n x else if o = 17 then w else if o = 18 then (if lsE n x = -1 then 0 else lsE n x) else if o = 19 then w else 0 := by
  unfold lsL
  rw [if_neg (show ¬ o = 0 by omega), if_neg (show ¬ o = 1 by omega), if_neg (show ¬ o = 2 by omega), if_neg (show ¬ o = 3 by omega), if_neg h]
def lsP (n w : Int) (t : Nat → Int) (k : Nat) : Int := if ((k / 20 : Nat) : Int) < n then lsL n w (t (k / 20)) (k % 20) else 0
theorem lsP_at {n w : Int} {t : Nat → Int} {l o k : Nat} (hk : k = 20 * l + o) (hl : (l : Int) < n) (ho : o < 20) : lsP n w t k = lsL n w (t l) o := by
  subst hk
  unfold lsP
  rw [show (20 * l + o) / 20 = l by omega, show (20 * l + o) % 20 = o by omega, if_pos hl]
/-- what an act makes of a and of b -/
def lsCa (x a : Int) : Int := if x = 1 then (if a < 99 then a + 1 else a) else if x = 2 then (if 0 < a then a - 1 else a) else a
def lsCb (x b : Int) : Int := if x = 3 then (if 0 < b then b - 1 else b) else b
theorem lsC_rg {x a b : Int} (ha : 0 ≤ a ∧ a ≤ 99) (hb : 0 ≤ b ∧ b ≤ 99) : (0 ≤ lsCa x a ∧ lsCa x a ≤ 99) ∧ (0 ≤ lsCb x b ∧ lsCb x b ≤ 99) := by
  unfold lsCa lsCb
  refine ⟨?_, ?_⟩
  all_goals repeat' split
  all_goals omega
theorem ls_acts {n w line : Int} {t σ A : Nat → Int} (hn : 1 ≤ n ∧ n ≤ 3) (hl : 0 ≤ line ∧ line < n) (hx : 0 ≤ t line.toNat ∧ t line.toNat < 4 * lsG n) (h4 : σ 4 = line) (ha : 0 ≤ σ 0 ∧ σ 0 ≤ 99) (hb : 0 ≤ σ 1 ∧ σ 1 ≤ 99) (hA : A = actsF (lsP n w t) σ (σ 4) (lsP n w t (20 * σ 4 + 1).toNat).toNat) : A 0 = lsCa (lsA n (t line.toNat)) (σ 0) ∧ A 1 = lsCb (lsA n (t line.toNat)) (σ 1) ∧ ∀ k : Nat, 2 ≤ k → A k = σ k := by
  have hr := (ls_rg hn hx).1
  rw [h4] at hA
  have p1 : lsP n w t (20 * line + 1).toNat = if lsA n (t line.toNat) = 0 then 0 else 1 := (lsP_at (l := line.toNat) (o := 1) (by omega) (by omega) (by omega)).trans lsL_1
  have p2 : lsP n w t (20 * line + 2 + 3 * ((0 : Nat) : Int)).toNat = if lsA n (t line.toNat) < 2 then 0 else 1 := (lsP_at (l := line.toNat) (o := 2) (by omega) (by omega) (by omega)).trans lsL_2
  have p3 : lsP n w t (20 * line + 2 + 3 * ((0 : Nat) : Int) + 1).toNat = if lsA n (t line.toNat) = 3 then 1 else 0 := (lsP_at (l := line.toNat) (o := 3) (by omega) (by omega) (by omega)).trans lsL_3
  rcases (show lsA n (t line.toNat) = 0 ∨ lsA n (t line.toNat) = 1 ∨ lsA n (t line.toNat) = 2 ∨ lsA n (t line.toNat) = 3 by omega) with c | c | c | c
  · rw [p1, if_pos c] at hA
    have e : A = σ := hA
    rw [e, c]
    refine ⟨?_, ?_, fun k _ => rfl⟩
    · unfold lsCa
      rw [if_neg (by decide), if_neg (by decide)]
    · unfold lsCb
      rw [if_neg (by decide)]
  · rw [p1, if_neg (show ¬ lsA n (t line.toNat) = 0 by omega)] at hA
    have e : A = actF (lsP n w t) σ line ((0 : Nat) : Int) := hA
    unfold actF at e
    rw [p2, p3, if_pos (show lsA n (t line.toNat) < 2 by omega), if_neg (show ¬ lsA n (t line.toNat) = 3 by omega), if_pos rfl] at e
    have e' : A = uZ σ 0 (lessZ 99 (σ 0 + 1)) := e
    rw [e', c]
    refine ⟨?_, ?_, fun k hk => ?_⟩
    · rw [uZ_eq]
      unfold lsCa lessZ
      rw [if_pos rfl]
      repeat' split
      all_goals omega
    · rw [uZ_nk _ _ (by decide)]
      unfold lsCb
      rw [if_neg (by decide)]
    · rw [uZ_nk _ _ (by omega)]
  · rw [p1, if_neg (show ¬ lsA n (t line.toNat) = 0 by omega)] at hA
    have e : A = actF (lsP n w t) σ line ((0 : Nat) : Int) := hA
    unfold actF at e
    rw [p2, p3, if_neg (show ¬ lsA n (t line.toNat) < 2 by omega), if_neg (show ¬ lsA n (t line.toNat) = 3 by omega), if_neg (show ¬ (1 : Int) = 0 by decide), if_pos rfl] at e
    have e' : A = uZ σ 0 (if 0 < σ 0 then σ 0 - 1 else 0) := e
    rw [e', c]
    refine ⟨?_, ?_, fun k hk => ?_⟩
    · rw [uZ_eq]
      unfold lsCa
      rw [if_neg (show ¬ (2 : Int) = 1 by decide), if_pos rfl]
      repeat' split
      all_goals omega
    · rw [uZ_nk _ _ (by decide)]
      unfold lsCb
      rw [if_neg (by decide)]
    · rw [uZ_nk _ _ (by omega)]
  · rw [p1, if_neg (show ¬ lsA n (t line.toNat) = 0 by omega)] at hA
    have e : A = actF (lsP n w t) σ line ((0 : Nat) : Int) := hA
    unfold actF at e
    rw [p2, p3, if_neg (show ¬ lsA n (t line.toNat) < 2 by omega), if_pos c, if_neg (show ¬ (1 : Int) = 0 by decide), if_pos rfl] at e
    have e' : A = uZ σ 1 (if 0 < σ 1 then σ 1 - 1 else 0) := e
    rw [e', c]
    refine ⟨?_, ?_, fun k hk => ?_⟩
    · rw [uZ_nk _ _ (by decide)]
      unfold lsCa
      rw [if_neg (by decide), if_neg (by decide)]
    · rw [uZ_eq]
      unfold lsCb
      rw [if_pos rfl]
      repeat' split
      all_goals omega
    · rw [uZ_nk _ _ (by omega)]
/-- a run of the reference stands so: a, b, its line, its steps, how often ways are taken -/
def LsR (σ : Nat → Int) (a b line s : Int) (tk : Nat → Int) : Prop := σ 0 = a ∧ σ 1 = b ∧ σ 4 = line ∧ σ 6 = 0 ∧ (∀ k, k < 6 → σ (8 + k) = tk k) ∧ σ 5 = s
theorem tkV {S F : Nat → Int} {way to : Int} {i1 i2 wn : Nat} (h1 : i1 = 8 + wn) (hw : wn < 6) (h2 : 139 ≤ i2) (hF : F = uZ (uZ (orU (incU (incU (incU S i1) i2) 7) way) 4 to) 6 0) : F 0 = S 0 ∧ F 1 = S 1 ∧ F 4 = to ∧ F 5 = S 5 ∧ F 6 = 0 ∧ F (8 + wn) = S (8 + wn) + 1 ∧ ∀ j, j < 6 → ¬ j = wn → F (8 + j) = S (8 + j) := by
  subst h1
  unfold orU incU at hF
  refine ⟨?_, ?_, ?_, ?_, ?_, ?_, fun j hj hn => ?_⟩
  · rw [hF, uZ_nk _ _ (by omega), uZ_nk _ _ (by omega), uZ_nk _ _ (by omega), uZ_nk _ _ (by omega), uZ_nk _ _ (by omega), uZ_nk _ _ (by omega)]
  · rw [hF, uZ_nk _ _ (by omega), uZ_nk _ _ (by omega), uZ_nk _ _ (by omega), uZ_nk _ _ (by omega), uZ_nk _ _ (by omega), uZ_nk _ _ (by omega)]
  · rw [hF, uZ_nk _ _ (by omega), uZ_eq]
  · rw [hF, uZ_nk _ _ (by omega), uZ_nk _ _ (by omega), uZ_nk _ _ (by omega), uZ_nk _ _ (by omega), uZ_nk _ _ (by omega), uZ_nk _ _ (by omega)]
  · rw [hF, uZ_eq]
  · rw [hF, uZ_nk _ _ (by omega), uZ_nk _ _ (by omega), uZ_nk _ _ (by omega), uZ_nk _ _ (by omega), uZ_nk _ _ (by omega), uZ_eq]
  · rw [hF, uZ_nk _ _ (by omega), uZ_nk _ _ (by omega), uZ_nk _ _ (by omega), uZ_nk _ _ (by omega), uZ_nk _ _ (by omega), uZ_nk _ _ (by omega)]
/-- which way is gone, and where to -/
def LsW (n x b line way to : Int) : Prop := ((¬ lsE n x = -1 ∧ lsCb (lsA n x) b = 0) ∧ way = 2 * line + 1 ∧ to = lsE n x) ∨ (¬ (¬ lsE n x = -1 ∧ lsCb (lsA n x) b = 0) ∧ way = 2 * line ∧ to = lsT n x)
theorem ls_step {n w a b line s : Int} {t tk σ : Nat → Int} (hn : 1 ≤ n ∧ n ≤ 3) (hl : 0 ≤ line ∧ line < n) (hx : 0 ≤ t line.toNat ∧ t line.toNat < 4 * lsG n) (ha : 0 ≤ a ∧ a ≤ 99) (hb : 0 ≤ b ∧ b ≤ 99) (hs : 0 ≤ s) (hr : LsR σ a b line s tk) :
    (lsT n (t line.toNat) = -1 → stepF (lsP n w t) σ 6 = 1 ∧ stepF (lsP n w t) σ 0 = lsCa (lsA n (t line.toNat)) a)
    ∧ ∀ way to : Int, ¬ lsT n (t line.toNat) = -1 → LsW n (t line.toNat) b line way to → (tk way.toNat = w → stepF (lsP n w t) σ 6 = 2) ∧ (¬ tk way.toNat = w → LsR (stepF (lsP n w t) σ) (lsCa (lsA n (t line.toNat)) a) (lsCb (lsA n (t line.toNat)) b) to (s + 1) (uZ tk way.toNat (tk way.toNat + 1))) := by
  obtain ⟨r0, r1, r4, r6, rt, r5⟩ := hr
  obtain ⟨A, hA⟩ : ∃ A, A = actsF (lsP n w t) σ (σ 4) (lsP n w t (20 * σ 4 + 1).toNat).toNat := ⟨_, rfl⟩
  obtain ⟨a0, a1, ak⟩ := ls_acts hn hl hx r4 (by omega) (by omega) hA
  obtain ⟨S1, hS⟩ : ∃ S1, S1 = uZ A 5 (A 5 + 1) := ⟨_, rfl⟩
  have eS : stepF (lsP n w t) σ = pathF (goF (lsP n w t) S1 line) := by
    unfold stepF
    rw [← hA, ← hS, r4]
  have s0 : S1 0 = lsCa (lsA n (t line.toNat)) a := by rw [hS, uZ_nk _ _ (by decide), a0, r0]
  have s1 : S1 1 = lsCb (lsA n (t line.toNat)) b := by rw [hS, uZ_nk _ _ (by decide), a1, r1]
  have s5 : S1 5 = s + 1 := by rw [hS, uZ_eq, ak 5 (by decide), r5]
  have sk : ∀ k, 2 ≤ k → ¬ k = 5 → S1 k = σ k := fun k h1 h2 => by rw [hS, uZ_nk _ _ h2, ak k h1]
  have pk : ∀ (g : Nat → Int) (k : Nat), g 5 = s + 1 → k < 39 → pathF g k = g k := fun g k h1 h2 => by
    unfold pathF
    split
    · rw [uZ_nk _ _ (by omega)]
    · rfl
  have hro := ls_rg hn hx
  have p14 : lsP n w t (20 * line + 14).toNat = lsL n w (t line.toNat) 14 := lsP_at (o := 14) (by omega) (by omega) (by omega)
  refine ⟨fun hT => ?_, fun way to hT hc => ?_⟩
  · have eg : goF (lsP n w t) S1 line = uZ S1 6 1 := by
      unfold goF
      rw [if_pos (p14.trans (lsL_z (by decide) hT))]
    rw [eS, eg]
    have h5 : uZ S1 6 1 5 = s + 1 := by rw [uZ_nk _ _ (by decide), s5]
    refine ⟨?_, ?_⟩
    · rw [pk _ _ h5 (by decide), uZ_eq]
    · rw [pk _ _ h5 (by decide), uZ_nk _ _ (by decide), s0]
  · have g14 : lsP n w t (20 * line + 14).toNat = if lsE n (t line.toNat) = -1 then 1 else 2 := p14.trans ((lsL_g (by decide) hT).trans (if_pos rfl))
    have g15 : lsP n w t (20 * line + 15).toNat = 1 := (lsP_at (l := line.toNat) (o := 15) (by omega) (by omega) (by omega)).trans ((lsL_g (by decide) hT).trans ((if_neg (by decide)).trans (if_pos rfl)))
    have g16 : lsP n w t (20 * line + 16).toNat = lsT n (t line.toNat) := (lsP_at (l := line.toNat) (o := 16) (by omega) (by omega) (by omega)).trans ((lsL_g (by decide) hT).trans ((if_neg (by decide)).trans ((if_neg (by decide)).trans (if_pos rfl))))
    have g17 : lsP n w t (20 * line + 16 + 1).toNat = w := (lsP_at (l := line.toNat) (o := 17) (by omega) (by omega) (by omega)).trans ((lsL_g (by decide) hT).trans ((if_neg (by decide)).trans ((if_neg (by decide)).trans ((if_neg (by decide)).trans (if_pos rfl)))))
    have g18 : lsP n w t (20 * line + 18).toNat = if lsE n (t line.toNat) = -1 then 0 else lsE n (t line.toNat) := (lsP_at (l := line.toNat) (o := 18) (by omega) (by omega) (by omega)).trans ((lsL_g (by decide) hT).trans ((if_neg (by decide)).trans ((if_neg (by decide)).trans ((if_neg (by decide)).trans ((if_neg (by decide)).trans (if_pos rfl))))))
    have g19 : lsP n w t (20 * line + 18 + 1).toNat = w := (lsP_at (l := line.toNat) (o := 19) (by omega) (by omega) (by omega)).trans ((lsL_g (by decide) hT).trans ((if_neg (by decide)).trans ((if_neg (by decide)).trans ((if_neg (by decide)).trans ((if_neg (by decide)).trans ((if_neg (by decide)).trans (if_pos rfl)))))))
    have n14 : ¬ lsP n w t (20 * line + 14).toNat = 0 := by
      rw [g14]
      split
      · decide
      · decide
    obtain ⟨k, ek, eto, ew, hway, hto⟩ : ∃ k : Int, goF (lsP n w t) S1 line = takeF (lsP n w t) S1 way k ∧ lsP n w t k.toNat = to ∧ lsP n w t (k + 1).toNat = w ∧ (0 ≤ way ∧ way < 6) ∧ (0 ≤ to ∧ to < n) := by
      rcases hc with ⟨⟨c1, c2⟩, c3, c4⟩ | ⟨c1, c3, c4⟩
      · refine ⟨20 * line + 18, ?_, ?_, g19, by omega, by omega⟩
        · unfold goF
          rw [if_neg n14, if_pos ⟨by rw [g14, if_neg c1], by rw [g15]; exact s1.trans c2⟩, c3]
        · rw [g18, if_neg c1, c4]
      · refine ⟨20 * line + 16, ?_, ?_, g17, by omega, by omega⟩
        · unfold goF
          rw [if_neg n14, if_neg (fun q => c1 ⟨fun y => by
            have q1 := q.1
            rw [g14, if_pos y] at q1
            exact absurd q1 (by decide), by
            have q2 := q.2
            rw [g15] at q2
            exact s1.symm.trans q2⟩), c3, Int.add_zero]
        · rw [g16, c4]
    have sw : S1 (8 + way).toNat = tk way.toNat := by rw [show (8 + way).toNat = 8 + way.toNat by omega, sk _ (by omega) (by omega), rt _ (by omega)]
    refine ⟨fun q => ?_, fun q => ?_⟩
    · have et : takeF (lsP n w t) S1 way k = uZ S1 6 2 := by
        unfold takeF
        rw [if_pos (by rw [sw, ew]; exact q)]
      have h5 : uZ S1 6 2 5 = s + 1 := by rw [uZ_nk _ _ (by decide), s5]
      rw [eS, ek, et, pk _ _ h5 (by decide), uZ_eq]
    · have told : lsP n w t (20 * to + 0).toNat = 1 := (lsP_at (l := to.toNat) (o := 0) (by omega) (by omega) (by omega)).trans lsL_0
      have et : takeF (lsP n w t) S1 way k = uZ (uZ (orU (incU (incU (incU S1 (8 + way).toNat) (139 + way).toNat) 7) way) 4 to) 6 0 := by
        unfold takeF
        rw [if_neg (by rw [sw, ew]; exact q), eto, if_pos told]
      obtain ⟨f0, f1, f4, f5, f6, fw, fk⟩ := tkV (wn := way.toNat) (by omega) (by omega) (by omega) et
      have h5 : takeF (lsP n w t) S1 way k 5 = s + 1 := f5.trans s5
      rw [eS, ek]
      refine ⟨?_, ?_, ?_, ?_, fun j hj => ?_, ?_⟩
      · rw [pk _ _ h5 (by decide), f0, s0]
      · rw [pk _ _ h5 (by decide), f1, s1]
      · rw [pk _ _ h5 (by decide), f4]
      · rw [pk _ _ h5 (by decide), f6]
      · rw [pk _ _ h5 (by omega)]
        by_cases e : j = way.toNat
        · rw [e, fw, uZ_eq, ← sw, show (8 + way).toNat = 8 + way.toNat by omega]
        · rw [fk j hj e, uZ_nk _ _ e, sk _ (by omega) (by omega), rt j hj]
      · rw [pk _ _ h5 (by decide), h5]
theorem stepsF_split {p : Nat → Int} : ∀ (m k : Nat) (s : Nat → Int), stepsF p (m + k) s = stepsF p k (stepsF p m s)
  | 0, k, s => by
    rw [Nat.zero_add]
    rfl
  | m + 1, k, s => by
    by_cases h : s 6 = 0
    · rw [show m + 1 + k = (m + k) + 1 by omega, stepsF_go h, stepsF_go h]
      exact stepsF_split m k _
    · rw [stepsF_end h (m + 1 + k), stepsF_end h (m + 1), stepsF_end h k]
theorem stepsF_one {p s : Nat → Int} {m : Nat} (h : stepsF p m s 6 = 0) : stepsF p (m + 1) s = stepF p (stepsF p m s) := by
  rw [stepsF_split, stepsF_go h]
  rfl
theorem run_at {p s : Nat → Int} {m : Nat} (h : stepsF p m s 6 = 0) (hm : m < 941) (he : ¬ stepF p (stepsF p m s) 6 = 0) : runF p s = stepF p (stepsF p m s) := by
  have e : stepsF p 941 s = stepsF p (m + ((940 - m) + 1)) s := by rw [show m + ((940 - m) + 1) = 941 by omega]
  unfold runF
  rw [e, stepsF_split, stepsF_go h, stepsF_end he]
def LsAns (p : Nat → Int) (x0 x1 x2 x3 x4 : Int) : Prop := runF p (begF p x0 x1 x2 x3) 6 = 1 ∧ runF p (begF p x0 x1 x2 x3) 0 = x4
/-- numbers of n lines -/
def Dig (n : Int) (t : Nat → Int) : Prop := ∀ j : Nat, (j : Int) < n → 0 ≤ t j ∧ t j < 4 * lsG n
/-- those whose first k numbers are v's -/
def LsX (n : Int) (v : Nat → Int) (k : Int) (t : Nat → Int) : Prop := Dig n t ∧ ∀ j : Nat, (j : Int) < k → t j = v j
/-- all programs that begin so run so -/
def LsI (n w : Int) (v : Nat → Int) (k x0 x1 x2 x3 a b line s : Int) (tk : Nat → Int) : Prop := ∀ t, LsX n v k t → LsR (stepsF (lsP n w t) s.toNat (begF (lsP n w t) x0 x1 x2 x3)) a b line s tk
theorem LsI.init {n w k x0 x1 x2 x3 : Int} {v tk : Nat → Int} (hn : 1 ≤ n ∧ n ≤ 3) (h0 : ∀ j, j < 6 → tk j = 0) : LsI n w v k x0 x1 x2 x3 x0 x1 0 0 tk := fun t ht => by
  have e : stepsF (lsP n w t) (0 : Int).toNat (begF (lsP n w t) x0 x1 x2 x3) = begF (lsP n w t) x0 x1 x2 x3 := rfl
  rw [e]
  have told : lsP n w t (20 * 0 + 0 : Int).toNat = 1 := (lsP_at (l := 0) (o := 0) (by omega) (by omega) (by omega)).trans lsL_0
  obtain ⟨c0, c1, -, -⟩ := begF_c (p := lsP n w t) (a := x0) (b := x1) (c := x2) (d := x3)
  refine ⟨c0, c1, begF_z (by omega) (by omega), ?_, fun j hj => ?_, begF_z (by omega) (by omega)⟩
  · rw [begF_6, if_pos told]
  · rw [begF_z (by omega) (by omega), h0 j hj]
theorem LsI.step {n w k x0 x1 x2 x3 a b line s way to : Int} {v tk : Nat → Int} (h : LsI n w v k x0 x1 x2 x3 a b line s tk) (hn : 1 ≤ n ∧ n ≤ 3) (hk : k ≤ n) (hl : 0 ≤ line ∧ line < k) (ha : 0 ≤ a ∧ a ≤ 99) (hb : 0 ≤ b ∧ b ≤ 99) (hs : 0 ≤ s) (hT : ¬ lsT n (v line.toNat) = -1) (hW : LsW n (v line.toNat) b line way to) (hw : ¬ tk way.toNat = w) : LsI n w v k x0 x1 x2 x3 (lsCa (lsA n (v line.toNat)) a) (lsCb (lsA n (v line.toNat)) b) to (s + 1) (uZ tk way.toNat (tk way.toNat + 1)) := fun t ht => by
  have r := h t ht
  have e := ht.2 line.toNat (by omega)
  rw [← e] at hT hW ⊢
  have q := ((ls_step (w := w) hn ⟨hl.1, by omega⟩ (ht.1 line.toNat (by omega)) ha hb hs r).2 way to hT hW).2 hw
  rw [show (s + 1).toNat = s.toNat + 1 by omega, stepsF_one r.2.2.2.1]
  exact q
theorem LsI.burnt {n w k x0 x1 x2 x3 x4 a b line s way to : Int} {v tk : Nat → Int} (h : LsI n w v k x0 x1 x2 x3 a b line s tk) (hn : 1 ≤ n ∧ n ≤ 3) (hk : k ≤ n) (hl : 0 ≤ line ∧ line < k) (ha : 0 ≤ a ∧ a ≤ 99) (hb : 0 ≤ b ∧ b ≤ 99) (hs : 0 ≤ s ∧ s < 941) (hT : ¬ lsT n (v line.toNat) = -1) (hW : LsW n (v line.toNat) b line way to) (hw : tk way.toNat = w) (t : Nat → Int) (ht : LsX n v k t) : ¬ LsAns (lsP n w t) x0 x1 x2 x3 x4 := fun c => by
  have r := h t ht
  have e := ht.2 line.toNat (by omega)
  rw [← e] at hT hW
  have q := ((ls_step (w := w) hn ⟨hl.1, by omega⟩ (ht.1 line.toNat (by omega)) ha hb hs.1 r).2 way to hT hW).1 hw
  have y := run_at r.2.2.2.1 (by omega) (by omega)
  have c1 := c.1
  rw [y] at c1
  omega
theorem LsI.ended {n w k x0 x1 x2 x3 x4 a b line s : Int} {v tk : Nat → Int} (h : LsI n w v k x0 x1 x2 x3 a b line s tk) (hn : 1 ≤ n ∧ n ≤ 3) (hk : k ≤ n) (hl : 0 ≤ line ∧ line < k) (ha : 0 ≤ a ∧ a ≤ 99) (hb : 0 ≤ b ∧ b ≤ 99) (hs : 0 ≤ s ∧ s < 941) (hT : lsT n (v line.toNat) = -1) (t : Nat → Int) (ht : LsX n v k t) : LsAns (lsP n w t) x0 x1 x2 x3 x4 ↔ lsCa (lsA n (v line.toNat)) a = x4 := by
  have r := h t ht
  have e := ht.2 line.toNat (by omega)
  rw [← e] at hT ⊢
  obtain ⟨q1, q2⟩ := (ls_step (w := w) hn ⟨hl.1, by omega⟩ (ht.1 line.toNat (by omega)) ha hb hs.1 r).1 hT
  have y := run_at r.2.2.2.1 (by omega) (by omega)
  unfold LsAns
  rw [y, q1, q2]
  exact ⟨fun c => c.2, fun c => ⟨rfl, c⟩⟩
/-- all wants are answered -/
def AnsA (p : Nat → Int) (c : Int) (wa : Nat → Int) : Prop := ∀ k : Nat, (k : Int) < c → LsAns p (wa (5 * k)) (wa (5 * k + 1)) (wa (5 * k + 2)) (wa (5 * k + 3)) (wa (5 * k + 4))
theorem AnsA.congr {p : Nat → Int} {c : Int} {wa wb : Nat → Int} (hw : ∀ k : Nat, (k : Int) < 5 * c → wa k = wb k) : AnsA p c wa ↔ AnsA p c wb := by
  constructor
  · intro h k hk
    have q := h k hk
    rw [hw _ (by omega), hw _ (by omega), hw _ (by omega), hw _ (by omega), hw _ (by omega)] at q
    exact q
  · intro h k hk
    rw [hw _ (by omega), hw _ (by omega), hw _ (by omega), hw _ (by omega), hw _ (by omega)]
    exact h k hk
def Lex (n : Int) (t v : Nat → Int) : Prop := ∃ j : Nat, (j : Int) < n ∧ (∀ i, i < j → t i = v i) ∧ t j < v j
theorem Lex.tri {v v' : Nat → Int} : ∀ m : Nat, (∀ j : Nat, j < m → v j = v' j) ∨ Lex m v v' ∨ Lex m v' v
  | 0 => Or.inl (fun j hj => absurd hj (by omega))
  | m + 1 => by
    rcases Lex.tri (v := v) (v' := v') m with h | ⟨j, h1, h2⟩ | ⟨j, h1, h2⟩
    · rcases (show v m = v' m ∨ v m < v' m ∨ v' m < v m by omega) with q | q | q
      · refine Or.inl (fun j hj => ?_)
        rcases (show j < m ∨ j = m by omega) with y | y
        · exact h j y
        · rw [y]
          exact q
      · exact Or.inr (Or.inl ⟨m, by omega, h, q⟩)
      · exact Or.inr (Or.inr ⟨m, by omega, fun i hi => (h i hi).symm, q⟩)
    · exact Or.inr (Or.inl ⟨j, by omega, h2⟩)
    · exact Or.inr (Or.inr ⟨j, by omega, h2⟩)
/-- no program of n lines answers; the first that does is v -/
def LsN (n w c : Int) (wa : Nat → Int) : Prop := ∀ t, Dig n t → ¬ AnsA (lsP n w t) c wa
def LsF (n w c : Int) (wa v : Nat → Int) : Prop := Dig n v ∧ AnsA (lsP n w v) c wa ∧ ∀ t, Dig n t → Lex n t v → ¬ AnsA (lsP n w t) c wa
def LsO (w c : Int) (wa : Nat → Int) (m : Int) (v : Nat → Int) : Prop := (m = -2 ∧ ∀ n : Int, 1 ≤ n ∧ n ≤ 3 → LsN n w c wa) ∨ ((1 ≤ m ∧ m ≤ 3) ∧ (∀ n : Int, 1 ≤ n ∧ n < m → LsN n w c wa) ∧ LsF m w c wa v)
theorem LsO.same {w c m m' : Int} {wa v v' : Nat → Int} (h : LsO w c wa m v) (h' : LsO w c wa m' v') : m = m' ∧ ∀ j : Nat, (j : Int) < m → v j = v' j := by
  rcases h with ⟨a, a1⟩ | ⟨a, a1, a2, a3, a4⟩ <;> rcases h' with ⟨b, b1⟩ | ⟨b, b1, b2, b3, b4⟩
  · exact ⟨by omega, fun j hj => absurd hj (by omega)⟩
  · exact absurd b3 (a1 m' b v' b2)
  · exact absurd a3 (b1 m a v a2)
  · have e : m = m' := by
      rcases (show m < m' ∨ m = m' ∨ m' < m by omega) with q | q | q
      · exact absurd a3 (b1 m ⟨a.1, q⟩ v a2)
      · exact q
      · exact absurd b3 (a1 m' ⟨b.1, q⟩ v' b2)
    subst e
    refine ⟨rfl, ?_⟩
    have em : ((m.toNat : Nat) : Int) = m := by omega
    rcases Lex.tri (v := v) (v' := v') m.toNat with q | q | q
    · exact fun j hj => q j (by omega)
    · rw [em] at q
      exact absurd a3 (b4 v a2 q)
    · rw [em] at q
      exact absurd b3 (a4 v' b2 q)
/-! the class's search -/
def Bef (k : Int) (v t : Nat → Int) : Prop := ∃ j : Nat, (j : Int) ≤ k ∧ (∀ i, i < j → t i = v i) ∧ ((j : Int) < k → t j < v j) ∧ ((j : Int) = k → t j ≤ v j)
def Nob (n w c : Int) (wa : Nat → Int) (k : Int) (v : Nat → Int) : Prop := ∀ t, Dig n t → Bef k v t → ¬ AnsA (lsP n w t) c wa
theorem Nob.init {n w c : Int} {wa v : Nat → Int} (hn : 1 ≤ n) (h : v 0 = -1) : Nob n w c wa 0 v := fun t ht ⟨j, h1, h2, h3, h4⟩ => by
  have e : j = 0 := by omega
  subst e
  have q1 := h4 rfl
  have q2 := ht 0 (by omega)
  omega
theorem Nob.pop {n w c k : Int} {wa v v' : Nat → Int} (h : Nob n w c wa k v) (hk : 1 ≤ k ∧ k < n) (hL : 4 * lsG n ≤ v k.toNat + 1) (e : ∀ i : Nat, (i : Int) < k → v' i = v i) : Nob n w c wa (k - 1) v' := fun t ht ⟨j, h1, h2, h3, h4⟩ => h t ht (by
  have e2 : ∀ i, i < j → t i = v i := fun i hi => (h2 i hi).trans (e i (by omega))
  have ej := e j (by omega)
  rcases (show (j : Int) < k - 1 ∨ (j : Int) = k - 1 by omega) with q | q
  · have q3 := h3 q
    exact ⟨j, by omega, e2, fun _ => by omega, fun y => absurd y (by omega)⟩
  · have q4 := h4 q
    rcases (show t j < v j ∨ t j = v j by omega) with y | y
    · exact ⟨j, by omega, e2, fun _ => y, fun z => absurd z (by omega)⟩
    · have q5 := ht k.toNat (by omega)
      refine ⟨k.toNat, by omega, fun i hi => ?_, fun z => absurd z (by omega), fun _ => by omega⟩
      rcases (show i < j ∨ i = j by omega) with z | z
      · exact e2 i z
      · rw [z]
        exact y)
theorem Nob.none {n w c : Int} {wa v : Nat → Int} (h : Nob n w c wa 0 v) (hn : 1 ≤ n) (hL : 4 * lsG n ≤ v 0 + 1) : LsN n w c wa := fun t ht => h t ht (by
  have q := ht 0 (by omega)
  exact ⟨0, by omega, fun i hi => absurd hi (by omega), fun z => absurd z (by omega), fun _ => by omega⟩)
theorem Nob.skip {n w c k : Int} {wa v v' : Nat → Int} (h : Nob n w c wa k v) (hk : 0 ≤ k) (e : v' = uZ v k.toNat (v k.toNat + 1)) (hp : ∀ t, LsX n v' (k + 1) t → ¬ AnsA (lsP n w t) c wa) : Nob n w c wa k v' := fun t ht ⟨j, h1, h2, h3, h4⟩ => by
  have ev : ∀ i : Nat, (i : Int) < k → v' i = v i := fun i hi => by rw [e, uZ_nk _ _ (by omega)]
  have ek : v' k.toNat = v k.toNat + 1 := by rw [e, uZ_eq]
  rcases (show (j : Int) < k ∨ j = k.toNat by omega) with q | q
  · have q3 := h3 q
    rw [ev j q] at q3
    exact h t ht ⟨j, by omega, fun i hi => (h2 i hi).trans (ev i (by omega)), fun _ => q3, fun z => absurd z (by omega)⟩
  · subst q
    have q4 := h4 (by omega)
    rw [ek] at q4
    rcases (show t k.toNat ≤ v k.toNat ∨ t k.toNat = v' k.toNat by omega) with y | y
    · exact h t ht ⟨k.toNat, by omega, fun i hi => (h2 i hi).trans (ev i (by omega)), fun z => absurd z (by omega), fun _ => y⟩
    · refine hp t ⟨ht, fun i hi => ?_⟩
      rcases (show i < k.toNat ∨ i = k.toNat by omega) with z | z
      · exact h2 i z
      · rw [z]
        exact y
theorem Nob.push {n w c k : Int} {wa v v' : Nat → Int} (h : Nob n w c wa k v) (hk : 0 ≤ k ∧ k + 1 < n) (e0 : ∀ i : Nat, (i : Int) < k → v' i = v i) (e1 : v' k.toNat = v k.toNat + 1) (e2 : v' (k + 1).toNat = -1) : Nob n w c wa (k + 1) v' := fun t ht ⟨j, h1, h2, h3, h4⟩ => by
  rcases (show (j : Int) < k ∨ j = k.toNat ∨ j = (k + 1).toNat by omega) with q | q | q
  · have q3 := h3 (by omega)
    rw [e0 j q] at q3
    exact h t ht ⟨j, by omega, fun i hi => (h2 i hi).trans (e0 i (by omega)), fun _ => q3, fun z => absurd z (by omega)⟩
  · subst q
    have q3 := h3 (by omega)
    exact h t ht ⟨k.toNat, by omega, fun i hi => (h2 i hi).trans (e0 i (by omega)), fun z => absurd z (by omega), fun _ => by omega⟩
  · subst q
    have q4 := h4 (by omega)
    have q5 := ht (k + 1).toNat (by omega)
    omega
theorem Nob.found {n w c k : Int} {wa v v' : Nat → Int} (h : Nob n w c wa k v) (hk : 0 ≤ k ∧ k + 1 = n) (e0 : ∀ i : Nat, (i : Int) < k → v' i = v i) (e1 : v' k.toNat = v k.toNat + 1) (hd : Dig n v') (ha : AnsA (lsP n w v') c wa) : LsF n w c wa v' := ⟨hd, ha, fun t ht ⟨j, h1, h2, h3⟩ => by
  rcases (show (j : Int) < k ∨ j = k.toNat by omega) with q | q
  · rw [e0 j q] at h3
    exact h t ht ⟨j, by omega, fun i hi => (h2 i hi).trans (e0 i (by omega)), fun _ => h3, fun z => absurd z (by omega)⟩
  · subst q
    exact h t ht ⟨k.toNat, by omega, fun i hi => (h2 i hi).trans (e0 i (by omega)), fun z => absurd z (by omega), fun _ => by omega⟩⟩
/-- what the class has told of a program's first k lines -/
def LsTd (n : Int) (v : Nat → Int) (k : Int) (ac to el : Nat → Int) : Prop := ∀ j : Nat, (j : Int) < k → ac j = lsA n (v j) ∧ to j = lsT n (v j) ∧ el j = lsE n (v j)
theorem ls_keep6 {g : Nat → Nat → Int} {a : Nat → Int} : ∀ j, j < 6 → (fun k => [g 0, g 1, g 2, g 3, g 4, g 5, a].getD k (fun _ => 0)) j = g j := fun j hj => by
  rcases (show j = 0 ∨ j = 1 ∨ j = 2 ∨ j = 3 ∨ j = 4 ∨ j = 5 by omega) with q | q | q | q | q | q <;> subst q <;> rfl
def TkB (g : Nat → Int) (s y : Int) : Prop := sumN g 6 = s ∧ ∀ k, k < 6 → 0 ≤ g k ∧ g k ≤ y
theorem TkB.init {g : Nat → Int} {y : Int} (hy : 0 ≤ y) (h : ∀ k, k < 6 → g k = 0) : TkB g 0 y := by
  refine ⟨?_, fun k hk => ?_⟩
  · exact (sumN_congr 6 (fun k hk => h k hk)).trans (show sumN (fun _ => 0) 6 = 0 from rfl)
  · rw [h k hk]
    omega
theorem TkB.le {g : Nat → Int} {s y : Int} (h : TkB g s y) (hy : 1 ≤ y ∧ y ≤ 9) : 0 ≤ s ∧ s ≤ 54 := by
  have q := sumN_rg (f := g) (m := y) (by omega) 6 h.2
  have e := h.1
  omega
theorem TkB.step {g g' : Nat → Int} {s y : Int} {w : Nat} (h : TkB g s y) (hw : w < 6) (e : g' = uZ g w (g w + 1)) (hy : g w < y) : TkB g' (s + 1) y := by
  obtain ⟨h1, h2⟩ := h
  have q := sumN_upd (f := g) (f' := g') (w := w) 6 (fun k _ hk => by rw [e, uZ_nk _ _ hk])
  rw [if_pos hw, e, uZ_eq, ← e] at q
  refine ⟨by omega, fun k hk => ?_⟩
  by_cases c : k = w
  · have := h2 w hw
    rw [c, e, uZ_eq]
    omega
  · rw [e, uZ_nk _ _ c]
    exact h2 k hk
/-- how many rounds the search has made, at most -/
def csC (n k a b c : Int) : Int := if n = 1 then (if k < 0 then 13 else a + 1) else if n = 2 then (if k < 0 then 841 else if k = 0 then (a + 1) * 30 else a * 30 + 1 + (b + 1)) else (if k < 0 then 146121 else if k = 0 then (a + 1) * 2810 else if k = 1 then a * 2810 + 1 + (b + 1) * 54 else a * 2810 + 1 + (b * 54 + 1) + (c + 1))
theorem cs_lt {n k : Int} {g : Nat → Int} (hn : 1 ≤ n ∧ n ≤ 3) (hk : k < n) (h : ∀ i : Nat, (i : Int) ≤ k → g i < 4 * lsG n) : csC n k (g 0) (g 1) (g 2) < 1000000 := by
  unfold csC
  rcases lsG_c hn with ⟨e, q⟩ | ⟨e, q⟩ | ⟨e, q⟩
  · rw [q] at h
    subst e
    rw [if_pos rfl]
    split
    · decide
    · have := h 0 (by omega)
      omega
  · rw [q] at h
    subst e
    rw [if_neg (by decide), if_pos rfl]
    split
    · decide
    · have a := h 0 (by omega)
      split
      · omega
      · have b := h 1 (by omega)
        omega
  · rw [q] at h
    subst e
    rw [if_neg (by decide), if_neg (by decide)]
    split
    · decide
    · have a := h 0 (by omega)
      split
      · omega
      · have b := h 1 (by omega)
        split
        · omega
        · have c := h 2 (by omega)
          omega
theorem cs_up {n k s : Int} {g g' : Nat → Int} (hn : 1 ≤ n ∧ n ≤ 3) (hk : 0 ≤ k ∧ k < n) (h : s ≤ csC n k (g 0) (g 1) (g 2)) (e0 : ∀ i : Nat, (i : Int) < k → g' i = g i) (e1 : g' k.toNat = g k.toNat + 1) : s + 1 ≤ csC n k (g' 0) (g' 1) (g' 2) := by
  unfold csC at h ⊢
  rcases (show n = 1 ∨ n = 2 ∨ n = 3 by omega) with q | q | q <;> rcases (show k = 0 ∨ k = 1 ∨ k = 2 by omega) with r | r | r <;> subst q <;> subst r
  all_goals first | omega | skip
  · have y : g' 0 = g 0 + 1 := e1
    rw [if_pos rfl, if_neg (by decide)] at h ⊢
    omega
  · have y : g' 0 = g 0 + 1 := e1
    rw [if_neg (by decide), if_pos rfl, if_neg (by decide), if_pos rfl] at h ⊢
    omega
  · have y : g' 1 = g 1 + 1 := e1
    have y0 := e0 0 (by decide)
    rw [if_neg (by decide), if_pos rfl, if_neg (by decide), if_neg (by decide)] at h ⊢
    omega
  · have y : g' 0 = g 0 + 1 := e1
    rw [if_neg (by decide), if_neg (by decide), if_neg (by decide), if_pos rfl] at h ⊢
    omega
  · have y : g' 1 = g 1 + 1 := e1
    have y0 := e0 0 (by decide)
    rw [if_neg (by decide), if_neg (by decide), if_neg (by decide), if_neg (by decide), if_pos rfl] at h ⊢
    omega
  · have y : g' 2 = g 2 + 1 := e1
    have y0 := e0 0 (by decide)
    have y1 := e0 1 (by decide)
    rw [if_neg (by decide), if_neg (by decide), if_neg (by decide), if_neg (by decide), if_neg (by decide)] at h ⊢
    omega
theorem cs_push {n k s : Int} {g g' : Nat → Int} (hn : 1 ≤ n ∧ n ≤ 3) (hk : 0 ≤ k ∧ k + 1 < n) (h : s ≤ csC n k (g 0) (g 1) (g 2)) (e0 : ∀ i : Nat, (i : Int) < k → g' i = g i) (e1 : g' k.toNat = g k.toNat + 1) (e2 : g' (k + 1).toNat = -1) : s + 1 ≤ csC n (k + 1) (g' 0) (g' 1) (g' 2) := by
  unfold csC at h ⊢
  rcases (show (n = 2 ∧ k = 0) ∨ (n = 3 ∧ k = 0) ∨ (n = 3 ∧ k = 1) by omega) with ⟨q, r⟩ | ⟨q, r⟩ | ⟨q, r⟩ <;> subst q <;> subst r
  · have y : g' 0 = g 0 + 1 := e1
    have z : g' 1 = -1 := e2
    rw [if_neg (by decide), if_pos rfl, if_neg (by decide), if_pos rfl] at h
    rw [if_neg (by decide), if_pos rfl, if_neg (by decide), if_neg (by decide)]
    omega
  · have y : g' 0 = g 0 + 1 := e1
    have z : g' 1 = -1 := e2
    rw [if_neg (by decide), if_neg (by decide), if_neg (by decide), if_pos rfl] at h
    rw [if_neg (by decide), if_neg (by decide), if_neg (by decide), if_neg (by decide), if_pos (by decide)]
    omega
  · have y : g' 1 = g 1 + 1 := e1
    have z : g' 2 = -1 := e2
    have y0 := e0 0 (by decide)
    rw [if_neg (by decide), if_neg (by decide), if_neg (by decide), if_neg (by decide), if_pos rfl] at h
    rw [if_neg (by decide), if_neg (by decide), if_neg (by decide), if_neg (by decide), if_neg (by decide)]
    omega
theorem cs_pop {n k s : Int} {g g' : Nat → Int} (hn : 1 ≤ n ∧ n ≤ 3) (hk : 0 ≤ k ∧ k < n) (h : s ≤ csC n k (g 0) (g 1) (g 2)) (hl : g k.toNat < 4 * lsG n) (e0 : ∀ i : Nat, (i : Int) < k → g' i = g i) : s + 1 ≤ csC n (k - 1) (g' 0) (g' 1) (g' 2) := by
  unfold csC at h ⊢
  rcases (show (n = 1 ∧ k = 0) ∨ (n = 2 ∧ k = 0) ∨ (n = 2 ∧ k = 1) ∨ (n = 3 ∧ k = 0) ∨ (n = 3 ∧ k = 1) ∨ (n = 3 ∧ k = 2) by omega) with ⟨q, r⟩ | ⟨q, r⟩ | ⟨q, r⟩ | ⟨q, r⟩ | ⟨q, r⟩ | ⟨q, r⟩ <;> subst q <;> subst r
  · have y : g 0 < 12 := hl
    rw [if_pos rfl, if_neg (by decide)] at h
    rw [if_pos rfl, if_pos (by decide)]
    omega
  · have y : g 0 < 28 := hl
    rw [if_neg (by decide), if_pos rfl, if_neg (by decide), if_pos rfl] at h
    rw [if_neg (by decide), if_pos rfl, if_pos (by decide)]
    omega
  · have y : g 1 < 28 := hl
    have y0 := e0 0 (by decide)
    rw [if_neg (by decide), if_pos rfl, if_neg (by decide), if_neg (by decide)] at h
    rw [if_neg (by decide), if_pos rfl, if_neg (by decide), if_pos (by decide)]
    omega
  · have y : g 0 < 52 := hl
    rw [if_neg (by decide), if_neg (by decide), if_neg (by decide), if_pos rfl] at h
    rw [if_neg (by decide), if_neg (by decide), if_pos (by decide)]
    omega
  · have y : g 1 < 52 := hl
    have y0 := e0 0 (by decide)
    rw [if_neg (by decide), if_neg (by decide), if_neg (by decide), if_neg (by decide), if_pos rfl] at h
    rw [if_neg (by decide), if_neg (by decide), if_neg (by decide), if_pos (by decide)]
    omega
  · have y : g 2 < 52 := hl
    have y0 := e0 0 (by decide)
    have y1 := e0 1 (by decide)
    rw [if_neg (by decide), if_neg (by decide), if_neg (by decide), if_neg (by decide), if_neg (by decide)] at h
    rw [if_neg (by decide), if_neg (by decide), if_neg (by decide), if_neg (by decide), if_pos (by decide)]
    omega
/-- the numbers of the lines as far as k -/
def LsDg (n k : Int) (v : Nat → Int) : Prop := (∀ j : Nat, (j : Int) < k → 0 ≤ v j ∧ v j < 4 * lsG n) ∧ (0 ≤ k → -1 ≤ v k.toNat ∧ v k.toNat < 4 * lsG n)
theorem LsDg.lt {n k : Int} {v : Nat → Int} (h : LsDg n k v) (i : Nat) (hi : (i : Int) ≤ k) : v i < 4 * lsG n := by
  rcases (show (i : Int) < k ∨ i = k.toNat by omega) with q | q
  · exact (h.1 i q).2
  · rw [q]
    exact (h.2 (by omega)).2
theorem LsDg.pop {n k : Int} {v v' : Nat → Int} (h : LsDg n k v) (e0 : ∀ i : Nat, (i : Int) < k → v' i = v i) : LsDg n (k - 1) v' := by
  refine ⟨fun j hj => ?_, fun q => ?_⟩
  · rw [e0 j (by omega)]
    exact h.1 j (by omega)
  · have y := h.1 (k - 1).toNat (by omega)
    rw [e0 (k - 1).toNat (by omega)]
    omega
theorem LsDg.up {n k : Int} {v v' : Nat → Int} (h : LsDg n k v) (e0 : ∀ i : Nat, (i : Int) < k → v' i = v i) (e1 : 0 ≤ k → 0 ≤ v' k.toNat ∧ v' k.toNat < 4 * lsG n) : LsDg n k v' := by
  refine ⟨fun j hj => ?_, fun q => ?_⟩
  · rw [e0 j hj]
    exact h.1 j hj
  · have y := e1 q
    omega
theorem LsDg.push {n k : Int} {v v' : Nat → Int} (h : LsDg n k v) (hk : 0 ≤ k) (hn : 0 < lsG n) (e0 : ∀ i : Nat, (i : Int) < k → v' i = v i) (e1 : 0 ≤ v' k.toNat ∧ v' k.toNat < 4 * lsG n) (e2 : v' (k + 1).toNat = -1) : LsDg n (k + 1) v' := by
  refine ⟨fun j hj => ?_, fun q => ?_⟩
  · rcases (show (j : Int) < k ∨ j = k.toNat by omega) with y | y
    · rw [e0 j y]
      exact h.1 j y
    · rw [y]
      exact e1
  · rw [e2]
    omega
theorem LsTd.pop {n k : Int} {v v' ac to el : Nat → Int} (h : LsTd n v k ac to el) (e0 : ∀ i : Nat, (i : Int) < k → v' i = v i) : LsTd n v' (k - 1) ac to el := fun j hj => by
  rw [e0 j (by omega)]
  exact h j (by omega)
theorem LsTd.eqv {n k : Int} {v v' ac to el : Nat → Int} (h : LsTd n v k ac to el) (e0 : ∀ i : Nat, (i : Int) < k → v' i = v i) : LsTd n v' k ac to el := fun j hj => by
  rw [e0 j hj]
  exact h j hj
theorem LsTd.told {n k : Int} {v v' ac to el ac' to' el' : Nat → Int} (h : LsTd n v k ac to el) (hk : 0 ≤ k) (e0 : ∀ i : Nat, (i : Int) < k → v' i = v i) (e1 : ac' k.toNat = lsA n (v' k.toNat) ∧ to' k.toNat = lsT n (v' k.toNat) ∧ el' k.toNat = lsE n (v' k.toNat)) (e2 : ∀ i : Nat, ¬ i = k.toNat → ac' i = ac i ∧ to' i = to i ∧ el' i = el i) : LsTd n v' (k + 1) ac' to' el' := fun j hj => by
  rcases (show (j : Int) < k ∨ j = k.toNat by omega) with q | q
  · obtain ⟨a, b, c⟩ := e2 j (by omega)
    rw [a, b, c, e0 j q]
    exact h j q
  · rw [q]
    exact e1
/-- what the class keeps of least programs -/
def LsC (c : Int) (wa : Nat → Int) (g : Nat → Nat → Int) : Prop := ∀ w : Nat, 1 ≤ w → w ≤ 9 → g 0 w = 0 ∨ LsO (w : Int) c wa (g 0 w) (fun j => g 1 (3 * w + j))
theorem LsO.eqv {w c m : Int} {wa v v' : Nat → Int} (h : LsO w c wa m v) (hv : v' = v) : LsO w c wa m v' := by
  rw [hv]
  exact h
theorem LsF.ext {n w c : Int} {wa v v' : Nat → Int} (h : LsF n w c wa v) (hn : n ≤ 3) (e : ∀ j : Nat, j < 3 → v' j = v j) : LsF n w c wa v' := by
  obtain ⟨h1, h2, h3⟩ := h
  have ep : lsP n w v' = lsP n w v := funext fun k => by
    unfold lsP
    by_cases q : ((k / 20 : Nat) : Int) < n
    · rw [if_pos q, if_pos q, e _ (by omega)]
    · rw [if_neg q, if_neg q]
  refine ⟨fun j hj => ?_, ?_, fun t ht ⟨j, a, b, d⟩ => h3 t ht ⟨j, a, fun i hi => ?_, ?_⟩⟩
  · rw [e j (by omega)]
    exact h1 j hj
  · rw [ep]
    exact h2
  · rw [b i hi, e i (by omega)]
  · rw [e j (by omega)] at d
    exact d
theorem LsO.ext {w c m : Int} {wa v v' : Nat → Int} (h : LsO w c wa m v) (e : ∀ j : Nat, j < 3 → v' j = v j) : LsO w c wa m v' := by
  rcases h with h | ⟨h1, h2, h3⟩
  · exact Or.inl h
  · exact Or.inr ⟨h1, h2, h3.ext h1.2 e⟩
theorem LsO.wants {w c m : Int} {wa wb v : Nat → Int} (h : LsO w c wa m v) (hw : ∀ k : Nat, (k : Int) < 5 * c → wa k = wb k) : LsO w c wb m v := by
  have e : ∀ p, AnsA p c wa ↔ AnsA p c wb := fun p => AnsA.congr hw
  rcases h with ⟨h1, h2⟩ | ⟨h1, h2, h3, h4, h5⟩
  · exact Or.inl ⟨h1, fun n hn t ht q => h2 n hn t ht ((e _).mpr q)⟩
  · exact Or.inr ⟨h1, fun n hn t ht q => h2 n hn t ht ((e _).mpr q), h3, (e _).mp h4, fun t ht hl q => h5 t ht hl ((e _).mpr q)⟩
theorem LsC.set {c y z : Int} {wa v : Nat → Int} {g g' : Nat → Nat → Int} (h : LsC c wa g) (hy : 1 ≤ y ∧ y ≤ 9) (ho : LsO y c wa z v) (e0 : g' 0 = uZ (g 0) y.toNat z) (e1 : g' 1 = va_cpy v (g 1) 0 (y * 3).toNat 3) : LsC c wa g' ∧ LsO y c wa z (fun j => g' 1 (3 * y.toNat + j)) := by
  have ev : ∀ j : Nat, j < 3 → g' 1 (3 * y.toNat + j) = v j := fun j hj => by
    rw [e1]
    unfold va_cpy
    rw [if_pos (by omega)]
    congr 1
    omega
  have hy2 : LsO y c wa z (fun j => g' 1 (3 * y.toNat + j)) := ho.ext ev
  refine ⟨fun w h1 h2 => ?_, hy2⟩
  by_cases q : w = y.toNat
  · right
    have e : g' 0 w = z := by rw [e0, q, uZ_eq]
    rw [e, show ((w : Nat) : Int) = y by omega, q]
    exact hy2
  · have e : g' 0 w = g 0 w := by rw [e0, uZ_nk _ _ q]
    rw [e]
    rcases h w h1 h2 with y1 | y1
    · exact Or.inl y1
    · refine Or.inr (y1.ext (fun j hj => ?_))
      rw [e1]
      unfold va_cpy
      rw [if_neg (by omega)]
theorem cs_init {n : Int} {g : Nat → Int} (h : g 0 = -1) : 0 ≤ csC n 0 (g 0) (g 1) (g 2) := by
  unfold csC
  rw [h]
  repeat' split
  all_goals omega
theorem Nob.down {n w c k : Int} {wa v v' : Nat → Int} (h : Nob n w c wa k v) (hk : 0 ≤ k ∧ k < n) (hL : 4 * lsG n ≤ v k.toNat + 1) (e : ∀ i : Nat, (i : Int) < k → v' i = v i) : (0 ≤ k - 1 → Nob n w c wa (k - 1) v') ∧ (k - 1 < 0 → LsN n w c wa) := by
  refine ⟨fun q => h.pop ⟨by omega, hk.2⟩ hL e, fun q => ?_⟩
  have k0 : k = 0 := by omega
  subst k0
  exact h.none (by omega) hL
theorem LsDg.dv {n k : Int} {v v' : Nat → Int} (h : LsDg n k v) (e0 : ∀ i : Nat, (i : Int) < k → v' i = v i) (e1 : 0 ≤ v' k.toNat ∧ v' k.toNat < 4 * lsG n) : ∀ j : Nat, (j : Int) < k + 1 → 0 ≤ v' j ∧ v' j < 4 * lsG n := fun j hj => by
  rcases (show (j : Int) < k ∨ j = k.toNat by omega) with q | q
  · rw [e0 j q]
    exact h.1 j q
  · rw [q]
    exact e1
/-- the y-th number of the least program, or -1 -/
def LsV (w c : Int) (wa : Nat → Int) (y z : Int) : Prop := ∃ (m : Int) (v : Nat → Int), LsO w c wa m v ∧ ((y < m ∧ z = v y.toNat) ∨ (¬ y < m ∧ z = -1))
theorem LsV.same {w c y z z' : Int} {wa : Nat → Int} (hy : 0 ≤ y) (h : LsV w c wa y z) (h' : LsV w c wa y z') : z = z' := by
  obtain ⟨m, t, a, b⟩ := h
  obtain ⟨m', t', a', b'⟩ := h'
  obtain ⟨e1, e2⟩ := a.same a'
  rcases b with ⟨b1, b2⟩ | ⟨b1, b2⟩ <;> rcases b' with ⟨c1, c2⟩ | ⟨c1, c2⟩
  · rw [b2, c2]
    exact e2 y.toNat (by omega)
  · omega
  · omega
  · omega
theorem LsO.rg {w c m : Int} {wa v : Nat → Int} (h : LsO w c wa m v) : -2 ≤ m ∧ m ≤ 3 := by
  rcases h with ⟨h1, -⟩ | ⟨h1, -⟩ <;> omega
theorem LsO.le {w c m : Int} {wa v : Nat → Int} (h : LsO w c wa m v) : m ≤ 3 := by
  rcases h with ⟨h1, -⟩ | ⟨h1, -⟩ <;> omega
theorem LsV.big {w c y z : Int} {wa : Nat → Int} (hy : 3 ≤ y) (h : LsV w c wa y z) : z = -1 := by
  obtain ⟨m, t, a, b⟩ := h
  have q := a.le
  rcases b with ⟨b1, b2⟩ | ⟨b1, b2⟩
  · omega
  · exact b2
theorem LsC.none {c : Int} {wa : Nat → Int} {g : Nat → Nat → Int} (h : ∀ w : Nat, w < 10 → g 0 w = 0) : LsC c wa g := fun w _ h2 => Or.inl (h w (by omega))
theorem LsAns.e2 {p p' : Nat → Int} {x0 x1 x2 x3 x4 : Int} (hp : ProgOk p) (e : E2 p p') (h0 : 0 ≤ x0 ∧ x0 ≤ 99) (h1 : 0 ≤ x1 ∧ x1 ≤ 99) (h2 : 0 ≤ x2 ∧ x2 ≤ 99) (h3 : 0 ≤ x3 ∧ x3 ≤ 99) : LsAns p' x0 x1 x2 x3 x4 ↔ LsAns p x0 x1 x2 x3 x4 := by
  have q : runF p' (begF p' x0 x1 x2 x3) = runF p (begF p x0 x1 x2 x3) := by
    rw [e.beg]
    exact E2.steps hp e 941 _ (StOk_begF hp h0 h1 h2 h3)
  unfold LsAns
  rw [q]
/-- the rows of a program's first m lines are laid -/
def Laid (n w : Int) (u g : Nat → Int) (m : Int) : Prop := (∀ k : Nat, k < 200 → 20 * n ≤ (k : Int) → g k = 0) ∧ ∀ l : Nat, (l : Int) < m → ∀ o : Nat, o < 20 → g (20 * l + o) = lsL n w (u l) o
theorem Laid.e2 {n w : Int} {u g : Nat → Int} (h : Laid n w u g n) : E2 g (lsP n w u) := fun k hk => by
  unfold lsP
  by_cases q : ((k / 20 : Nat) : Int) < n
  · rw [if_pos q]
    have y := h.2 (k / 20) q (k % 20) (by omega)
    rw [show 20 * (k / 20) + k % 20 = k by omega] at y
    exact y.symm
  · rw [if_neg q]
    exact (h.1 k hk (by omega)).symm
theorem Laid.step {n w x r : Int} {u u' g g' : Nat → Int} {m : Int} (h : Laid n w u g m) (hx : 0 ≤ x ∧ x < n) (hm : m ≤ x) (hk : ∀ k : Nat, k < 200 → ¬ (20 * x ≤ (k : Int) ∧ (k : Int) < 20 * x + 20) → g' k = g k) (hr : ∀ o : Nat, o < 20 → g' (20 * x.toNat + o) = lsL n w r o) (hn : n ≤ 10) (hu : ∀ l : Nat, (l : Int) < m → u' l = u l) (hux : u' x.toNat = r) (hmx : m = x) : Laid n w u' g' (x + 1) := by
  refine ⟨fun k h1 h2 => ?_, fun l hl o ho => ?_⟩
  · rw [hk k h1 (by omega)]
    exact h.1 k h1 h2
  · rcases (show (l : Int) < m ∨ l = x.toNat by omega) with q | q
    · rw [hk _ (by omega) (by omega), hu l q]
      exact h.2 l q o ho
    · rw [q, hux]
      exact hr o ho
/-! the reference's search -/
theorem lsP_ext {n w : Int} {t u : Nat → Int} (h : ∀ j : Nat, (j : Int) < n → t j = u j) : lsP n w t = lsP n w u := funext fun k => by
  unfold lsP
  by_cases q : ((k / 20 : Nat) : Int) < n
  · rw [if_pos q, if_pos q, h _ q]
  · rw [if_neg q, if_neg q]
def lsU (a b c : Int) (j : Nat) : Int := if j = 0 then a else if j = 1 then b else c
def NoX (n w c : Int) (wa : Nat → Int) (a : Int) : Prop := ∀ t, Dig n t → t 0 < a → ¬ AnsA (lsP n w t) c wa
def NoY (n w c : Int) (wa : Nat → Int) (a b : Int) : Prop := ∀ t, Dig n t → t 0 = a → ((1 < n ∧ t 1 < b) ∨ (¬ 1 < n ∧ 0 < b)) → ¬ AnsA (lsP n w t) c wa
def NoZ (n w c : Int) (wa : Nat → Int) (a b d : Int) : Prop := ∀ t, Dig n t → t 0 = a → (1 < n → t 1 = b) → ((2 < n ∧ t 2 < d) ∨ (¬ 2 < n ∧ 0 < d)) → ¬ AnsA (lsP n w t) c wa
theorem NoX.zero {n w c : Int} {wa : Nat → Int} (hn : 1 ≤ n) : NoX n w c wa 0 := fun t ht h => by
  have q := ht 0 (by omega)
  omega
theorem NoY.zero {n w c a : Int} {wa : Nat → Int} : NoY n w c wa a 0 := fun t ht _ h => by
  rcases h with ⟨h1, h2⟩ | ⟨h1, h2⟩
  · have q := ht 1 (by omega)
    omega
  · omega
theorem NoZ.zero {n w c a b : Int} {wa : Nat → Int} : NoZ n w c wa a b 0 := fun t ht _ _ h => by
  rcases h with ⟨h1, h2⟩ | ⟨h1, h2⟩
  · have q := ht 2 (by omega)
    omega
  · omega
theorem NoX.next {n w c a b : Int} {wa : Nat → Int} (h : NoX n w c wa a) (hY : NoY n w c wa a b) (hb : (1 < n ∧ 4 * lsG n ≤ b) ∨ (¬ 1 < n ∧ 0 < b)) : NoX n w c wa (a + 1) := fun t ht h1 => by
  rcases (show t 0 < a ∨ t 0 = a by omega) with q | q
  · exact h t ht q
  · refine hY t ht q ?_
    rcases hb with ⟨y, z⟩ | y
    · have r := ht 1 (by omega)
      exact Or.inl ⟨y, by omega⟩
    · exact Or.inr y
theorem NoY.next {n w c a b d : Int} {wa : Nat → Int} (h : NoY n w c wa a b) (hZ : NoZ n w c wa a b d) (hd : (2 < n ∧ 4 * lsG n ≤ d) ∨ (¬ 2 < n ∧ 0 < d)) (hb : 1 < n ∨ b = 0) : NoY n w c wa a (b + 1) := fun t ht h0 h1 => by
  have hz2 : (2 < n ∧ t 2 < d) ∨ (¬ 2 < n ∧ 0 < d) := by
    rcases hd with ⟨y, z⟩ | y
    · have r := ht 2 (by omega)
      exact Or.inl ⟨y, by omega⟩
    · exact Or.inr y
  rcases h1 with ⟨y, z⟩ | ⟨y, z⟩
  · rcases (show t 1 < b ∨ t 1 = b by omega) with q | q
    · exact h t ht h0 (Or.inl ⟨y, q⟩)
    · exact hZ t ht h0 (fun _ => q) hz2
  · exact hZ t ht h0 (fun k => absurd k y) hz2
theorem NoZ.next {n w c a b d : Int} {wa : Nat → Int} (hn : n ≤ 3) (h : NoZ n w c wa a b d) (hna : ¬ AnsA (lsP n w (lsU a b d)) c wa) (hd : 2 < n ∨ d = 0) : NoZ n w c wa a b (d + 1) := fun t ht h0 h1 h2 => by
  rcases h2 with ⟨y, z⟩ | ⟨y, z⟩
  · rcases (show t 2 < d ∨ t 2 = d by omega) with q | q
    · exact h t ht h0 h1 (Or.inl ⟨y, q⟩)
    · rw [lsP_ext (u := lsU a b d) (fun j hj => by
        rcases (show j = 0 ∨ j = 1 ∨ j = 2 by omega) with e | e | e
        · rw [e]
          exact h0
        · rw [e]
          exact h1 (by omega)
        · rw [e]
          exact q)]
      exact hna
  · rw [lsP_ext (u := lsU a b d) (fun j hj => by
      rcases (show j = 0 ∨ j = 1 by omega) with e | e
      · rw [e]
        exact h0
      · rw [e]
        exact h1 (by omega))]
    exact hna
theorem NoX.fin {n w c a : Int} {wa : Nat → Int} (h : NoX n w c wa a) (hn : 1 ≤ n) (ha : 4 * lsG n ≤ a) : LsN n w c wa := fun t ht => h t ht (by
  have q := ht 0 (by omega)
  omega)
theorem No.found {n w c a b d : Int} {wa v : Nat → Int} (hn : 1 ≤ n ∧ n ≤ 3) (hX : NoX n w c wa a) (hY : NoY n w c wa a b) (hZ : NoZ n w c wa a b d) (ha : 0 ≤ a ∧ a < 4 * lsG n) (hb : 0 ≤ b ∧ (1 < n → b < 4 * lsG n)) (hd : 0 ≤ d ∧ (2 < n → d < 4 * lsG n)) (hA : AnsA (lsP n w (lsU a b d)) c wa) (hv : v 0 = a ∧ v 1 = b ∧ v 2 = d) : LsF n w c wa v := by
  have k : LsF n w c wa (lsU a b d) := by
    refine ⟨fun j hj => ?_, hA, fun t ht ⟨j, h1, h2, h3⟩ => ?_⟩
    · rcases (show j = 0 ∨ j = 1 ∨ j = 2 by omega) with e | e | e
      · rw [e]
        exact ha
      · rw [e]
        exact ⟨hb.1, hb.2 (by omega)⟩
      · rw [e]
        exact ⟨hd.1, hd.2 (by omega)⟩
    · rcases (show j = 0 ∨ j = 1 ∨ j = 2 by omega) with e | e | e
      · rw [e] at h3
        exact hX t ht h3
      · rw [e] at h3 h2
        exact hY t ht (h2 0 (by omega)) (Or.inl ⟨by omega, h3⟩)
      · rw [e] at h3 h2
        exact hZ t ht (h2 0 (by omega)) (fun _ => h2 1 (by omega)) (Or.inl ⟨by omega, h3⟩)
  refine k.ext hn.2 (fun j hj => ?_)
  rcases (show j = 0 ∨ j = 1 ∨ j = 2 by omega) with e | e | e
  · rw [e]
    exact hv.1
  · rw [e]
    exact hv.2.1
  · rw [e]
    exact hv.2.2
def SRo (g : Nat → Int) (x : Int) (f : Nat → Int) : Prop := ∀ o : Nat, o < 20 → g (20 * x.toNat + o) = f o
def SKo (g g0 : Nat → Int) (x : Int) : Prop := ∀ k : Nat, k < 200 → ¬ (20 * x ≤ (k : Int) ∧ (k : Int) < 20 * x + 20) → g k = g0 k
theorem SRo.set {g g' f : Nat → Int} {x v : Int} {i c : Nat} (h : SRo g x f) (e : g' = uZ g i v) (hi : i = 20 * x.toNat + c) : SRo g' x (uZ f c v) := fun o ho => by
  by_cases q : o = c
  · rw [e, hi, q, uZ_eq, uZ_eq]
  · rw [e, uZ_nk _ _ (by omega), uZ_nk _ _ q]
    exact h o ho
theorem SKo.set {g g' g0 : Nat → Int} {x v : Int} {i : Nat} (h : SKo g g0 x) (e : g' = uZ g i v) (hi : 20 * x ≤ (i : Int) ∧ (i : Int) < 20 * x + 20) : SKo g' g0 x := fun k h1 h2 => by
  rw [e, uZ_nk _ _ (fun q => h2 (by rw [q]; exact hi))]
  exact h k h1 h2
theorem ly_z {n w r z1 z2 z3 : Int} (h1 : z1 = if lsA n r = 0 then 0 else 1) (h2 : z2 = if lsA n r < 2 then 0 else 1) (h3 : z3 = if lsA n r = 3 then 1 else 0) (hT : lsT n r = -1) (o : Nat) (ho : o < 20) : uZ (uZ (uZ (uZ (fun _ => 0) 0 1) 1 z1) 2 z2) 3 z3 o = lsL n w r o := by
  rcases (show o = 0 ∨ o = 1 ∨ o = 2 ∨ o = 3 ∨ 4 ≤ o by omega) with e | e | e | e | e
  · subst e
    rw [uZ_nk _ _ (by decide), uZ_nk _ _ (by decide), uZ_nk _ _ (by decide), uZ_eq, lsL_0]
  · subst e
    rw [uZ_nk _ _ (by decide), uZ_nk _ _ (by decide), uZ_eq, lsL_1, h1]
  · subst e
    rw [uZ_nk _ _ (by decide), uZ_eq, lsL_2, h2]
  · subst e
    rw [uZ_eq, lsL_3, h3]
  · rw [uZ_nk _ _ (by omega), uZ_nk _ _ (by omega), uZ_nk _ _ (by omega), uZ_nk _ _ (by omega), lsL_z e hT]
theorem ly_g {n w r z1 z2 z3 z14 z16 z18 : Int} (h1 : z1 = if lsA n r = 0 then 0 else 1) (h2 : z2 = if lsA n r < 2 then 0 else 1) (h3 : z3 = if lsA n r = 3 then 1 else 0) (hT : ¬ lsT n r = -1) (h14 : z14 = if lsE n r = -1 then 1 else 2) (h16 : z16 = lsT n r) (h18 : z18 = if lsE n r = -1 then 0 else lsE n r) (o : Nat) (ho : o < 20) : uZ (uZ (uZ (uZ (uZ (uZ (uZ (uZ (uZ (uZ (fun _ => 0) 0 1) 1 z1) 2 z2) 3 z3) 14 z14) 15 1) 16 z16) 18 z18) 17 w) 19 w o = lsL n w r o := by
  rcases (show o = 0 ∨ o = 1 ∨ o = 2 ∨ o = 3 ∨ o = 14 ∨ o = 15 ∨ o = 16 ∨ o = 17 ∨ o = 18 ∨ o = 19 ∨ (4 ≤ o ∧ (o < 14)) by omega) with e | e | e | e | e | e | e | e | e | e | e
  · subst e
    rw [uZ_nk _ _ (by decide), uZ_nk _ _ (by decide), uZ_nk _ _ (by decide), uZ_nk _ _ (by decide), uZ_nk _ _ (by decide), uZ_nk _ _ (by decide), uZ_nk _ _ (by decide), uZ_nk _ _ (by decide), uZ_nk _ _ (by decide), uZ_eq, lsL_0]
  · subst e
    rw [uZ_nk _ _ (by decide), uZ_nk _ _ (by decide), uZ_nk _ _ (by decide), uZ_nk _ _ (by decide), uZ_nk _ _ (by decide), uZ_nk _ _ (by decide), uZ_nk _ _ (by decide), uZ_nk _ _ (by decide), uZ_eq, lsL_1, h1]
  · subst e
    rw [uZ_nk _ _ (by decide), uZ_nk _ _ (by decide), uZ_nk _ _ (by decide), uZ_nk _ _ (by decide), uZ_nk _ _ (by decide), uZ_nk _ _ (by decide), uZ_nk _ _ (by decide), uZ_eq, lsL_2, h2]
  · subst e
    rw [uZ_nk _ _ (by decide), uZ_nk _ _ (by decide), uZ_nk _ _ (by decide), uZ_nk _ _ (by decide), uZ_nk _ _ (by decide), uZ_nk _ _ (by decide), uZ_eq, lsL_3, h3]
  · subst e
    rw [lsL_g (by decide) hT, uZ_nk _ _ (by decide), uZ_nk _ _ (by decide), uZ_nk _ _ (by decide), uZ_nk _ _ (by decide), uZ_nk _ _ (by decide), uZ_eq, if_pos rfl, h14]
  · subst e
    rw [lsL_g (by decide) hT, uZ_nk _ _ (by decide), uZ_nk _ _ (by decide), uZ_nk _ _ (by decide), uZ_nk _ _ (by decide), uZ_eq, if_neg (show ¬ (15 : Nat) = 14 by decide), if_pos rfl]
  · subst e
    rw [lsL_g (by decide) hT, uZ_nk _ _ (by decide), uZ_nk _ _ (by decide), uZ_nk _ _ (by decide), uZ_eq, if_neg (show ¬ (16 : Nat) = 14 by decide), if_neg (show ¬ (16 : Nat) = 15 by decide), if_pos rfl, h16]
  · subst e
    rw [lsL_g (by decide) hT, uZ_nk _ _ (by decide), uZ_eq, if_neg (show ¬ (17 : Nat) = 14 by decide), if_neg (show ¬ (17 : Nat) = 15 by decide), if_neg (show ¬ (17 : Nat) = 16 by decide), if_pos rfl]
  · subst e
    rw [lsL_g (by decide) hT, uZ_nk _ _ (by decide), uZ_nk _ _ (by decide), uZ_eq, if_neg (show ¬ (18 : Nat) = 14 by decide), if_neg (show ¬ (18 : Nat) = 15 by decide), if_neg (show ¬ (18 : Nat) = 16 by decide), if_neg (show ¬ (18 : Nat) = 17 by decide), if_pos rfl, h18]
  · subst e
    rw [lsL_g (by decide) hT, uZ_eq, if_neg (show ¬ (19 : Nat) = 14 by decide), if_neg (show ¬ (19 : Nat) = 15 by decide), if_neg (show ¬ (19 : Nat) = 16 by decide), if_neg (show ¬ (19 : Nat) = 17 by decide), if_neg (show ¬ (19 : Nat) = 18 by decide), if_pos rfl]
  · rw [lsL_g e.1 hT, uZ_nk _ _ (by omega), uZ_nk _ _ (by omega), uZ_nk _ _ (by omega), uZ_nk _ _ (by omega), uZ_nk _ _ (by omega), uZ_nk _ _ (by omega), uZ_nk _ _ (by omega), uZ_nk _ _ (by omega), uZ_nk _ _ (by omega), uZ_nk _ _ (by omega), if_neg (show ¬ o = 14 by omega), if_neg (show ¬ o = 15 by omega), if_neg (show ¬ o = 16 by omega), if_neg (show ¬ o = 17 by omega), if_neg (show ¬ o = 18 by omega), if_neg (show ¬ o = 19 by omega)]
theorem ans_step {P : Nat → Prop} {v1 z v2 : Int} (h : v1 = 1 ↔ ∀ k : Nat, (k : Int) < v2 → P k) (h1 : v1 = 1) (hv : 0 ≤ v2) (hz : z = 1 ↔ P v2.toNat) : z = 1 ↔ ∀ k : Nat, (k : Int) < v2 + 1 → P k := by
  constructor
  · intro q k hk
    rcases (show (k : Int) < v2 ∨ k = v2.toNat by omega) with y | y
    · exact h.mp h1 k y
    · rw [y]
      exact hz.mp q
  · intro q
    exact hz.mpr (q _ (by omega))
theorem AnsA.e2 {p p' : Nat → Int} {c : Int} {wa : Nat → Int} (hp : ProgOk p) (e : E2 p p') (hc : c ≤ 6) (hA : ∀ k, k < 30 → 0 ≤ wa k ∧ wa k ≤ 99) : AnsA p' c wa ↔ AnsA p c wa := by
  constructor
  · exact fun h k hk => (LsAns.e2 hp e (hA _ (by omega)) (hA _ (by omega)) (hA _ (by omega)) (hA _ (by omega))).mp (h k hk)
  · exact fun h k hk => (LsAns.e2 hp e (hA _ (by omega)) (hA _ (by omega)) (hA _ (by omega)) (hA _ (by omega))).mpr (h k hk)
theorem LsV.wants {w c y z : Int} {wa wb : Nat → Int} (h : LsV w c wa y z) (hw : ∀ k : Nat, (k : Int) < 5 * c → wa k = wb k) : LsV w c wb y z := by
  obtain ⟨m, v, a, b⟩ := h
  exact ⟨m, v, a.wants hw, b⟩
theorem LsC.rg {c y : Int} {wa : Nat → Int} {g : Nat → Nat → Int} (h : LsC c wa g) (hy : 1 ≤ y ∧ y ≤ 9) : -2 ≤ g 0 y.toNat ∧ g 0 y.toNat ≤ 3 := by
  rcases h y.toNat (by omega) (by omega) with q | q
  · omega
  · exact q.rg
