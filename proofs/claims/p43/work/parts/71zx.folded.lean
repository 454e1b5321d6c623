def E2 (p p' : Nat → Int) : Prop := ∀ k, k < 200 → p' k = p k
theorem E2.act {p p' s : Nat → Int} (h : E2 p p') {x w : Int} (hx : 0 ≤ x ∧ x < 10) (hw : 0 ≤ w ∧ w < 4) : actF p' s x w = actF p s x w := by
  unfold actF
  rw [h (20 * x + 2 + 3 * w).toNat (by omega), h (20 * x + 2 + 3 * w + 1).toNat (by omega), h (20 * x + 2 + 3 * w + 2).toNat (by omega)]
theorem E2.acts {p p' s : Nat → Int} (h : E2 p p') {x : Int} (hx : 0 ≤ x ∧ x < 10) : ∀ n : Nat, n ≤ 4 → actsF p' s x n = actsF p s x n
  | 0, _ => rfl
  | n + 1, hn => by
    show actF p' (actsF p' s x n) x (n : Int) = actF p (actsF p s x n) x (n : Int)
    rw [h.acts hx n (by omega), h.act hx (by omega)]
theorem E2.take {p p' s : Nat → Int} (hp : ProgOk p) (h : E2 p p') {way k : Int} (hk : 0 ≤ k ∧ k < 199) : takeF p' s way k = takeF p s way k := by
  have h9 := hp.1.le9 k.toNat (by omega)
  have h0 := hp.1.pos k.toNat (by omega)
  unfold takeF
  rw [h (k + 1).toNat (by omega), h k.toNat (by omega), h (20 * p k.toNat + 0).toNat (by omega)]
theorem E2.go {p p' s : Nat → Int} (hp : ProgOk p) (h : E2 p p') {i : Int} (hi : 0 ≤ i ∧ i < 10) : goF p' s i = goF p s i := by
  unfold goF
  rw [h (20 * i + 14).toNat (by omega), h (20 * i + 15).toNat (by omega), h.take hp (by omega), h.take hp (by omega)]
theorem E2.step {p p' s : Nat → Int} (hp : ProgOk p) (h : E2 p p') (hs : StOk p s) : stepF p' s = stepF p s := by
  have hat := hs.1.2.1
  have hac := ProgR.at hp.1 (e := 20 * s 4 + 1) (m := 4) (s 4) 1 (by omega) rfl (by decide) rfl
  unfold stepF
  rw [h (20 * s 4 + 1).toNat (by omega), h.acts (by omega) _ (by omega), h.go hp (by omega)]
theorem E2.steps {p p' : Nat → Int} (hp : ProgOk p) (h : E2 p p') : ∀ (n : Nat) (s : Nat → Int), StOk p s → stepsF p' n s = stepsF p n s
  | 0, _, _ => rfl
  | n + 1, s, hs => by
    by_cases c : s 6 = 0
    · rw [stepsF_go c, stepsF_go c, h.step hp hs]
      exact h.steps hp n _ (StOk_stepF hp hs c).1
    · rw [stepsF_end c, stepsF_end c]
theorem E2.beg {p p' : Nat → Int} (h : E2 p p') {a b c d : Int} : begF p' a b c d = begF p a b c d := by
  unfold begF
  rw [h (20 * 0 + 0 : Int).toNat (by decide)]
theorem E2.runn {p p' : Nat → Int} (hp : ProgOk p) (h : E2 p p') {k x : Int} (hk : 0 ≤ k ∧ k ≤ 3) (hx : 0 ≤ x ∧ x < inZ k) : runI p' k x = runI p k x := by
  have e : begI p' k x = begI p k x := h.beg
  show stepsF p' 941 (begI p' k x) = stepsF p 941 (begI p k x)
  rw [e]
  exact h.steps hp 941 _ (StOk_begI hp hk hx)
theorem E2.eqn {p p' q q' : Nat → Int} (hp : ProgOk p) (h : E2 p p') (hq : ProgOk q) (h2 : E2 q q') {k x : Int} (hk : 0 ≤ k ∧ k ≤ 3) (hx : 0 ≤ x ∧ x < inZ k) : eqI p' q' k x ↔ eqI p q k x := by
  unfold eqI
  rw [h.runn hp hk hx, h2.runn hq hk hx]
theorem E2.unl {p p' q q' : Nat → Int} (hp : ProgOk p) (h : E2 p p') (hq : ProgOk q) (h2 : E2 q q') {k z : Int} (hk : 0 ≤ k ∧ k ≤ 3) (hu : Unl p' q' k z) : Unl p q k z := by
  rcases hu with ⟨a1, a2⟩ | ⟨a1, a2, a3⟩
  · exact Or.inl ⟨a1, fun n h0 hn => (h.eqn hp hq h2 hk ⟨h0, hn⟩).mp (a2 n h0 hn)⟩
  · exact Or.inr ⟨a1, fun n h0 hn => (h.eqn hp hq h2 hk ⟨h0, by omega⟩).mp (a2 n h0 hn), fun q9 => a3 ((h.eqn hp hq h2 hk ⟨a1.1, a1.2⟩).mpr q9)⟩
theorem E2.symm {p p' : Nat → Int} (h : E2 p p') : E2 p' p := fun k hk => (h k hk).symm
theorem E2.trans {p q r : Nat → Int} (h : E2 p q) (h2 : E2 q r) : E2 p r := fun k hk => (h2 k hk).trans (h k hk)
theorem E2.refl (p : Nat → Int) : E2 p p := fun _ _ => rfl
theorem E2.alk {p p' : Nat → Int} (h : E2 p p') {x w : Int} (hx : 0 ≤ x ∧ x < 10) (hw : 0 ≤ w ∧ w < 10) (ha : Alk p' x w) : Alk p x w := by
  obtain ⟨⟨a1, a2⟩, a3⟩ := ha
  rw [h _ (by omega)] at a1 a2
  refine ⟨⟨a1, a2⟩, fun k k1 k2 k3 => ?_⟩
  rw [← h (20 * x + k).toNat (by omega), ← h (20 * w + k).toNat (by omega)]
  refine a3 k k1 k2 ?_
  rw [h (20 * x + 1).toNat (by omega), h (20 * x + 14).toNat (by omega)]
  exact k3
theorem E2.merged {p p' : Nat → Int} (h : E2 p p') {x w n : Int} (hx : 0 ≤ x ∧ x < 10) (hw : 0 ≤ w ∧ w < 10) : E2 (mergeF p x w n) (mergeF p' x w n) := by
  intro k hk
  show mF p' x w n (k / 20) (k % 20) = mF p x w n (k / 20) (k % 20)
  generalize hl : k / 20 = l
  generalize ho : k % 20 = o
  have l1 : l < 10 := by omega
  have o1 : o < 20 := by omega
  unfold mF mB
  rw [h (20 * l) (by omega), h (20 * l + o) (by omega), h (20 * x + 14).toNat (by omega), h (20 * x + 17).toNat (by omega), h (20 * x + 19).toNat (by omega), h (20 * w + 17).toNat (by omega), h (20 * w + 19).toNat (by omega)]
  have e : TgtP p' l o ↔ TgtP p l o := by
    show (o = 16 ∧ 0 < p' (20 * l + 14)) ∨ (o = 18 ∧ p' (20 * l + 14) = 2) ∨ (3 ≤ o ∧ o < 14 ∧ o % 3 = 0 ∧ (((o - 3) / 3 : Nat) : Int) < p' (20 * l + 1) ∧ p' (20 * l + o - 1) = 3) ↔ _
    rw [h (20 * l + 14) (by omega), h (20 * l + 1) (by omega), h (20 * l + o - 1) (by omega)]
  by_cases c : (l : Int) ≠ w ∧ (l : Int) < n ∧ p (20 * l) ≠ 0 ∧ TgtP p l o ∧ p (20 * l + o) = w
  · rw [if_pos c, if_pos ⟨c.1, c.2.1, c.2.2.1, e.mpr c.2.2.2.1, c.2.2.2.2⟩]
  · rw [if_neg c, if_neg (fun z => c ⟨z.1, z.2.1, z.2.2.1, e.mp z.2.2.2.1, z.2.2.2.2⟩)]
theorem lessZ9 {a b : Int} (ha : 0 ≤ a) (hb : 0 ≤ b) : 0 ≤ lessZ 9 (a + b) ∧ lessZ 9 (a + b) ≤ 9 := by
  unfold lessZ
  split <;> omega
theorem pMax_pos : ∀ o ∈ List.range 20, 0 ≤ pMax o := by decide
theorem ProgOk.merged {p : Nat → Int} (hp : ProgOk p) {x w n : Int} (hx : 0 ≤ x ∧ x < 10) (hw : 0 ≤ w ∧ w < 10) : ProgOk (mergeF p x w n) := by
  have hB : ∀ l o : Nat, l < 10 → o < 20 → 0 ≤ mB p x w l o ∧ mB p x w l o ≤ pMax o := fun l o hl ho => by
    have h0 := pMax_pos o (List.mem_range.mpr ho)
    have a1 := hp.1.pos (20 * x + 17).toNat (by omega)
    have a2 := hp.1.pos (20 * w + 17).toNat (by omega)
    have a3 := hp.1.pos (20 * x + 19).toNat (by omega)
    have a4 := hp.1.pos (20 * w + 19).toNat (by omega)
    unfold mB
    by_cases c : (l : Int) = w
    · rw [if_pos c]
      exact ⟨Int.le_refl _, h0⟩
    rw [if_neg c]
    by_cases c1 : o = 17 ∧ (l : Int) = x ∧ 0 < p (20 * x + 14).toNat
    · rw [if_pos c1]
      obtain ⟨rfl, -⟩ := c1
      exact lessZ9 a1 a2
    rw [if_neg c1]
    by_cases c2 : o = 19 ∧ (l : Int) = x ∧ p (20 * x + 14).toNat = 2
    · rw [if_pos c2]
      obtain ⟨rfl, -⟩ := c2
      exact lessZ9 a3 a4
    rw [if_neg c2]
    have q := hp.1 (20 * l + o) (by omega)
    rw [show (20 * l + o) % 20 = o by omega] at q
    exact q
  refine ⟨fun k hk => ?_, fun i m hi hm => ?_⟩
  · show 0 ≤ mF p x w n (k / 20) (k % 20) ∧ mF p x w n (k / 20) (k % 20) ≤ _
    by_cases c : ((k / 20 : Nat) : Int) ≠ w ∧ ((k / 20 : Nat) : Int) < n ∧ p (20 * (k / 20)) ≠ 0 ∧ TgtP p (k / 20) (k % 20) ∧ p (20 * (k / 20) + k % 20) = w
    · rw [mF_yes c]
      have t : pMax (k % 20) = 9 := by
        rcases c.2.2.2.1 with ⟨z, -⟩ | ⟨z, -⟩ | ⟨z1, z2, z3, -⟩
        · rw [z]; rfl
        · rw [z]; rfl
        · rcases (show k % 20 = 3 ∨ k % 20 = 6 ∨ k % 20 = 9 ∨ k % 20 = 12 by omega) with z | z | z | z <;> rw [z] <;> rfl
      omega
    · rw [mF_no c]
      exact hB _ _ (by omega) (by omega)
  · rw [show 20 * i + 2 + 3 * m = 20 * i + (2 + 3 * m) by omega, show 20 * i + 3 + 3 * m = 20 * i + (3 + 3 * m) by omega, mergeF_at (by omega), mergeF_at (by omega)]
    by_cases c : (i : Int) = w
    · right
      rw [mF_no (fun z => z.1 c), mB_w c]
      omega
    · rw [mF_P c (by omega)]
      by_cases d : (i : Int) ≠ w ∧ (i : Int) < n ∧ p (20 * i) ≠ 0 ∧ TgtP p i (3 + 3 * m) ∧ p (20 * i + (3 + 3 * m)) = w
      · left
        rcases d.2.2.2.1 with z | z | z
        · omega
        · omega
        · have e := z.2.2.2.2
          rwa [show 20 * i + (3 + 3 * m) - 1 = 20 * i + (2 + 3 * m) by omega] at e
      · rw [mF_no d, mB_P c (by omega) (by omega)]
        have q := hp.2 i m hi hm
        rwa [show 20 * i + 2 + 3 * m = 20 * i + (2 + 3 * m) by omega, show 20 * i + 3 + 3 * m = 20 * i + (3 + 3 * m) by omega] at q
/-- lines told lie below n -/
def LN (p : Nat → Int) (n : Int) : Prop := ∀ l : Nat, l < 10 → n ≤ (l : Int) → p (20 * l) = 0
theorem LN.e2 {p p' : Nat → Int} {n : Int} (h : LN p n) (e : E2 p p') : LN p' n := fun l hl hn => (e _ (by omega)).trans (h l hl hn)
theorem LN.merged {p : Nat → Int} {x w n : Int} (h : LN p n) : LN (mergeF p x w n) n := fun l hl hn => by
  have e := mergeF_at (P := p) (x := x) (w := w) (n := n) (l := l) (o := 0) (by omega)
  rw [Nat.add_zero] at e
  rw [e]
  by_cases c : (l : Int) = w
  · rw [mF_no (fun z => z.1 c), mB_w c]
  · rw [mF_P c (Or.inl rfl), Nat.add_zero]
    exact h l hl hn
theorem Unl.rg {p q : Nat → Int} {k z : Int} (hk : 0 ≤ k ∧ k ≤ 3) (h : Unl p q k z) : -2 ≤ z ∧ z < 256 := by
  have q := inZ_le hk
  rcases h with ⟨h, -⟩ | ⟨h, -⟩ <;> omega
/-! FOLDED -/
def Fb (p : Nat → Int) (k n x w : Int) : Prop := Alk p x w ∧ Unl p (mergeF p x w n) k (-2)
def NoB (p : Nat → Int) (k n x w : Int) : Prop := ∀ a b : Int, 0 ≤ a → a < b → b < n → (a < x ∨ (a = x ∧ b < w)) → ¬ Fb p k n a b
def FPair (p : Nat → Int) (k n x w : Int) : Prop := (0 ≤ x ∧ x < w ∧ w < n) ∧ NoB p k n x w ∧ Fb p k n x w
theorem NoB.first (p : Nat → Int) (k n : Int) : NoB p k n 0 1 := fun a b h1 h2 h3 h4 => by omega
theorem NoB.w {p : Nat → Int} {k n x w : Int} (h : NoB p k n x w) (hn : ¬ Fb p k n x w) : NoB p k n x (w + 1) := fun a b h1 h2 h3 h4 => by
  by_cases c : a = x ∧ b = w
  · rw [c.1, c.2]
    exact hn
  · exact h a b h1 h2 h3 (by omega)
theorem NoB.x {p : Nat → Int} {k n x w : Int} (h : NoB p k n x w) (hw : n ≤ w) : NoB p k n (x + 1) (x + 1 + 1) := fun a b h1 h2 h3 h4 => h a b h1 h2 h3 (by omega)
theorem NoB.all {p : Nat → Int} {k n x w : Int} (h : NoB p k n x w) (hx : n ≤ x) : NoB p k n n n := fun a b h1 h2 h3 h4 => h a b h1 h2 h3 (by omega)
theorem FPair.uniq {p : Nat → Int} {k n x w x' w' : Int} (h : FPair p k n x w) (h' : FPair p k n x' w') : x = x' ∧ w = w' := by
  obtain ⟨a1, a2, a3⟩ := h
  obtain ⟨b1, b2, b3⟩ := h'
  by_cases c : x < x' ∨ (x = x' ∧ w < w')
  · exact absurd a3 (b2 x w a1.1 a1.2.1 a1.2.2 c)
  · by_cases d : x' < x ∨ (x' = x ∧ w' < w)
    · exact absurd b3 (a2 x' w' b1.1 b1.2.1 b1.2.2 d)
    · omega
theorem NoB.pair {p : Nat → Int} {k n x w : Int} (h : NoB p k n n n) (h' : FPair p k n x w) : False := h x w h'.1.1 h'.1.2.1 h'.1.2.2 (by have := h'.1; omega) h'.2.2
theorem E2.fb {p p' : Nat → Int} (hp : ProgOk p) (h : E2 p p') {k n x w : Int} (hk : 0 ≤ k ∧ k ≤ 3) (hx : 0 ≤ x ∧ x < 10) (hw : 0 ≤ w ∧ w < 10) (hf : Fb p' k n x w) : Fb p k n x w := ⟨h.alk hx hw hf.1, h.unl hp (hp.merged hx hw) (h.merged hx hw) hk hf.2⟩
theorem E2.nob {p p' : Nat → Int} (hp : ProgOk p) (h : E2 p p') {k n x w : Int} (hk : 0 ≤ k ∧ k ≤ 3) (hn : n ≤ 10) (hb : NoB p' k n x w) : NoB p k n x w := fun a b h1 h2 h3 h4 hf => hb a b h1 h2 h3 h4 (h.symm.fb (hp.congr h) hk (by omega) (by omega) hf)
theorem E2.fpair {p p' : Nat → Int} (hp : ProgOk p) (h : E2 p p') {k n x w : Int} (hk : 0 ≤ k ∧ k ≤ 3) (hn : n ≤ 10) (hf : FPair p' k n x w) : FPair p k n x w := ⟨hf.1, h.nob hp hk hn hf.2.1, h.fb hp hk (by have := hf.1; omega) (by have := hf.1; omega) hf.2.2⟩
/-- m lines folded away -/
def Chain (k n : Int) : Nat → (Nat → Int) → (Nat → Int) → Prop
  | 0, p, q => q = p
  | m + 1, p, q => ∃ r, Chain k n m p r ∧ ∃ x w, FPair r k n x w ∧ q = mergeF r x w n
theorem Chain.uniq {k n : Int} : ∀ (m : Nat) {p q q' : Nat → Int}, Chain k n m p q → Chain k n m p q' → q = q'
  | 0, _, _, _, h, h' => Eq.trans h (Eq.symm h')
  | m + 1, _, _, _, ⟨r, h1, x, w, h2, h3⟩, ⟨r', h1', x', w', h2', h3'⟩ => by
    have e := Chain.uniq m h1 h1'
    subst e
    obtain ⟨e1, e2⟩ := h2.uniq h2'
    rw [h3, h3', e1, e2]
/-- what a longer chain goes through can still be folded -/
theorem Chain.cut {k n : Int} : ∀ (d m : Nat) {p q : Nat → Int}, Chain k n (m + (d + 1)) p q → ∃ r x w, Chain k n m p r ∧ FPair r k n x w
  | 0, _, _, _, ⟨r, h1, x, w, h2, _⟩ => ⟨r, x, w, h1, h2⟩
  | d + 1, m, _, _, ⟨_, h1, _⟩ => Chain.cut d m h1
theorem Chain.same {k n : Int} {m m' : Nat} {p q q' : Nat → Int} (h : Chain k n m p q) (hb : NoB q k n n n) (h' : Chain k n m' p q') (hb' : NoB q' k n n n) : m = m' ∧ q = q' := by
  rcases Nat.lt_trichotomy m m' with c | c | c
  · obtain ⟨d, rfl⟩ : ∃ d : Nat, m' = m + (d + 1) := ⟨m' - m - 1, by omega⟩
    obtain ⟨r, x, w, h1, h2⟩ := Chain.cut d m h'
    have e := Chain.uniq m h h1
    subst e
    exact (hb.pair h2).elim
  · subst c
    exact ⟨rfl, Chain.uniq m h h'⟩
  · obtain ⟨d, rfl⟩ : ∃ d : Nat, m = m' + (d + 1) := ⟨m - m' - 1, by omega⟩
    obtain ⟨r, x, w, h1, h2⟩ := Chain.cut d m' h
    have e := Chain.uniq m' h' h1
    subst e
    exact (hb'.pair h2).elim
theorem Chain.prog {k n : Int} (hn : n ≤ 10) : ∀ (m : Nat) {p q : Nat → Int}, ProgOk p → LN p n → Chain k n m p q → ProgOk q ∧ LN q n
  | 0, _, _, hp, hl, h => by
    have e : _ = _ := h
    rw [e]
    exact ⟨hp, hl⟩
  | m + 1, _, _, hp, hl, ⟨r, h1, x, w, h2, h3⟩ => by
    obtain ⟨a, b⟩ := Chain.prog hn m hp hl h1
    have hx := h2.1
    rw [h3]
    exact ⟨a.merged (by omega) (by omega), b.merged⟩
/-! the places of a row, one behind the other -/
theorem Mst.more {P q : Nat → Int} {x w n v t t' : Int} (h : Mst P x w n q v t) (hv : 0 ≤ v ∧ v < 10) (hd : ∀ o : Nat, o < 20 → (dnP t o → dnP t' o) ∧ (dnP t' o → ¬ dnP t o → mF P x w n v.toNat o = mB P x w v.toNat o)) : Mst P x w n q v t' := by
  obtain ⟨a, rfl⟩ : ∃ a : Nat, v = a := ⟨v.toNat, by omega⟩
  rw [show ((a : Int)).toNat = a by omega] at hd
  intro l o hl ho
  rw [h l o hl ho]
  by_cases e : l = a
  · subst e
    obtain ⟨d1, d2⟩ := hd o ho
    by_cases z : dnP t o
    · rw [if_pos (Or.inr ⟨rfl, z⟩), if_pos (Or.inr ⟨rfl, d1 z⟩)]
    · rw [if_neg (fun y => by rcases y with y | y; omega; exact z y.2)]
      by_cases z2 : dnP t' o
      · rw [if_pos (Or.inr ⟨rfl, z2⟩)]
        exact (d2 z2 z).symm
      · rw [if_neg (fun y => by rcases y with y | y; omega; exact z2 y.2)]
  · by_cases z : (l : Int) < (a : Int)
    · rw [if_pos (Or.inl z), if_pos (Or.inl z)]
    · rw [if_neg (fun y => by rcases y with y | y <;> omega), if_neg (fun y => by rcases y with y | y <;> omega)]
theorem Mst.skip {P q : Nat → Int} {x w n v : Int} (h : Mst P x w n q v 0) (hv : 0 ≤ v ∧ v < 10) (h0 : q (20 * v + 0).toNat = 0) : Mst P x w n q (v + 1) 0 := by
  refine h.next hv (fun o ho _ => mF_no (fun z => ?_))
  have e := h.val hv (o := 0) (by omega) (Or.inl rfl) (e := 20 * v + 0) rfl
  rw [h0, show (20 * v + 0).toNat = 20 * v.toNat by omega] at e
  exact z.2.2.1 e.symm
theorem Mst.told {P q : Nat → Int} {x w n v : Int} (h : Mst P x w n q v 0) (hv : 0 ≤ v ∧ v < 10) (h0 : q (20 * v + 0).toNat ≠ 0) : v ≠ w ∧ P (20 * v.toNat) ≠ 0 := by
  have hw : v ≠ w := fun z => by
    have e := h.lo (l := v.toNat) (o := 0) (by omega) (by omega) (by omega) (by omega)
    rw [mB_w (by omega), show 20 * v.toNat + 0 = (20 * v + 0).toNat by omega] at e
    exact h0 e
  refine ⟨hw, fun z => h0 ?_⟩
  rw [h.val hv hw (o := 0) (Or.inl rfl) (e := 20 * v + 0) rfl, show (20 * v + 0).toNat = 20 * v.toNat by omega]
  exact z
/-- the way's target at place o0 -/
theorem Mst.way {P q q' : Nat → Int} {x w n v t t' : Int} {o0 : Nat} {C : Prop} (h : Mst P x w n q v t) (hv : 0 ≤ v ∧ v < 10) (hw : v ≠ w ∧ P (20 * v.toNat) ≠ 0) (hn : v < n) (ho : o0 < 20) (hval : q (20 * v + (o0 : Int)).toNat = P (20 * v + (o0 : Int)).toNat) (hB : o0 ≠ 17 ∧ o0 ≠ 19) (hT : TgtP P v.toNat o0 ↔ C) (hd : ∀ o : Nat, o < 20 → (dnP t o → dnP t' o) ∧ (dnP t' o → ¬ dnP t o → o = o0 ∨ mF P x w n v.toNat o = mB P x w v.toNat o)) (h1 : dnP t' o0)
    (hc : (C ∧ q (20 * v + (o0 : Int)).toNat = w ∧ q' = uZ q (20 * v + (o0 : Int)).toNat x) ∨ (¬ (C ∧ q (20 * v + (o0 : Int)).toNat = w) ∧ q' = q)) : Mst P x w n q' v t' := by
  have ei : (20 * v + (o0 : Int)).toNat = 20 * v.toNat + o0 := by omega
  rcases hc with ⟨c1, c2, c3⟩ | ⟨c1, c2⟩
  · refine h.step hv ho ?_ (fun k hk => by rw [c3]; exact uZ_nk _ _ hk) hd h1
    rw [c3, uZ_eq]
    refine (mF_yes ⟨by omega, by omega, hw.2, hT.mpr c1, ?_⟩).symm
    rw [← ei, ← hval]
    exact c2
  · refine h.step hv ho ?_ (fun k hk => by rw [c2]) hd h1
    rw [c2, hval, ei, mF_no (fun z => c1 ⟨hT.mp z.2.2.2.1, by rw [hval, ei]; exact z.2.2.2.2⟩), mB_P (by omega) hB.1 hB.2]
theorem Mst.s16 {P q q' : Nat → Int} {x w n v : Int} (h : Mst P x w n q v 0) (hv : 0 ≤ v ∧ v < 10) (hw : v ≠ w ∧ P (20 * v.toNat) ≠ 0) (hn : v < n) (hc : ((0 < q (20 * v + 14).toNat) ∧ q (20 * v + 16).toNat = w ∧ q' = uZ q (20 * v + 16).toNat x) ∨ (¬ ((0 < q (20 * v + 14).toNat) ∧ q (20 * v + 16).toNat = w) ∧ q' = q)) : Mst P x w n q' v 1 := by
  refine h.way hv hw hn (o0 := 16) (by omega) (h.val2 hv hw.1 (o := 16) (by omega) (by omega) rfl) (by omega) ?_ (fun o ho => by omega) (by omega) hc
  rw [h.val hv hw.1 (o := 14) (by omega) (e := 20 * v + 14) rfl, show (20 * v + 14).toNat = 20 * v.toNat + 14 by omega]
  constructor
  · intro z
    rcases z with z | z | z
    · exact z.2
    · omega
    · omega
  · exact fun z => Or.inl ⟨rfl, z⟩
theorem Mst.s18 {P q q' : Nat → Int} {x w n v : Int} (h : Mst P x w n q v 1) (hv : 0 ≤ v ∧ v < 10) (hw : v ≠ w ∧ P (20 * v.toNat) ≠ 0) (hn : v < n) (hc : (q (20 * v + 14).toNat = 2 ∧ q (20 * v + 18).toNat = w ∧ q' = uZ q (20 * v + 18).toNat x) ∨ (¬ (q (20 * v + 14).toNat = 2 ∧ q (20 * v + 18).toNat = w) ∧ q' = q)) : Mst P x w n q' v 3 := by
  have h2 : Mst P x w n q' v 2 := by
    refine h.way hv hw hn (o0 := 18) (by omega) (h.val2 hv hw.1 (o := 18) (by omega) (by omega) rfl) (by omega) ?_ (fun o ho => by omega) (by omega) hc
    rw [h.val hv hw.1 (o := 14) (by omega) (e := 20 * v + 14) rfl, show (20 * v + 14).toNat = 20 * v.toNat + 14 by omega]
    constructor
    · intro z
      rcases z with z | z | z
      · omega
      · exact z.2
      · omega
    · exact fun z => Or.inr (Or.inl ⟨rfl, z⟩)
  exact h2.more hv (fun o ho => ⟨fun z => by omega, fun z z2 => by rw [mF_P (by omega) (by omega), mB_P (by omega) (by omega) (by omega)]⟩)
theorem Mst.sA {P q q' : Nat → Int} {x w n v m : Int} (h : Mst P x w n q v (3 + m)) (hv : 0 ≤ v ∧ v < 10) (hw : v ≠ w ∧ P (20 * v.toNat) ≠ 0) (hn : v < n) (hm : (0 ≤ m ∧ m < 4) ∧ m < q (20 * v + 1).toNat) (hc : (q (20 * v + 2 + 3 * m).toNat = 3 ∧ q (20 * v + 2 + 3 * m + 1).toNat = w ∧ q' = uZ q (20 * v + 2 + 3 * m + 1).toNat x) ∨ (¬ (q (20 * v + 2 + 3 * m).toNat = 3 ∧ q (20 * v + 2 + 3 * m + 1).toNat = w) ∧ q' = q)) : Mst P x w n q' v (3 + (m + 1)) := by
  obtain ⟨o0, ho0⟩ : ∃ o0 : Nat, (o0 : Int) = 3 + 3 * m := ⟨(3 + 3 * m).toNat, by omega⟩
  rw [show 20 * v + 2 + 3 * m + 1 = 20 * v + (o0 : Int) by omega] at hc
  have k3 := h.val hv hw.1 (o := o0 - 1) (by omega) (e := 20 * v + 2 + 3 * m) (by omega)
  have k1 := h.val hv hw.1 (o := 1) (by omega) (e := 20 * v + 1) rfl
  refine h.way hv hw hn (o0 := o0) (by omega) (h.val2 hv hw.1 (o := o0) (by omega) (by omega) rfl) (by omega) ?_ (fun o ho => ⟨fun z => by omega, fun z z2 => ?_⟩) (by omega) hc
  · rw [k3, show (20 * v + 2 + 3 * m).toNat = 20 * v.toNat + o0 - 1 by omega]
    constructor
    · intro z
      rcases z with z | z | z
      · omega
      · omega
      · exact z.2.2.2.2
    · intro z
      refine Or.inr (Or.inr ⟨by omega, by omega, by omega, ?_, z⟩)
      rw [show 20 * v.toNat + 1 = (20 * v + 1).toNat by omega, ← k1]
      omega
  · by_cases c : o = o0
    · exact Or.inl c
    · right
      rw [mF_P (by omega) (by omega), mB_P (by omega) (by omega) (by omega)]
theorem Mst.fin {P q : Nat → Int} {x w n v m : Int} (h : Mst P x w n q v (3 + m)) (hv : 0 ≤ v ∧ v < 10) (hw : v ≠ w ∧ P (20 * v.toNat) ≠ 0) (hm : 0 ≤ m ∧ q (20 * v + 1).toNat ≤ m) : Mst P x w n q (v + 1) 0 := by
  have k1 := h.val hv hw.1 (o := 1) (by omega) (e := 20 * v + 1) rfl
  rw [k1, show (20 * v + 1).toNat = 20 * v.toNat + 1 by omega] at hm
  refine h.next hv (fun o ho hd => mF_no (fun z => ?_))
  rcases z.2.2.2.1 with y | y | y <;> omega
