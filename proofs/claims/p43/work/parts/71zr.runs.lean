/-! RUNS: the line at which a run stands is told; what lies behind the 159 numbers doesn't count -/
def RT (p s : Nat → Int) : Prop := s 6 = 0 → p (20 * s 4 + 0).toNat = 1
theorem takeF_5 {p s : Nat → Int} {way k : Int} (hw : 0 ≤ way) : takeF p s way k 5 = s 5 := by
  unfold takeF
  by_cases c : s (8 + way).toNat = p (k + 1).toNat
  · rw [if_pos c]
    exact uZ_nk _ _ (by omega)
  · rw [if_neg c]
    unfold orU incU
    rw [uZ_nk _ _ (by omega), uZ_nk _ _ (by omega), uZ_nk _ _ (by omega), uZ_nk _ _ (by omega), uZ_nk _ _ (by omega), uZ_nk _ _ (by omega)]
theorem goF_5 {p s : Nat → Int} {i : Int} (hi : 0 ≤ i) : goF p s i 5 = s 5 := by
  unfold goF
  by_cases c : p (20 * i + 14).toNat = 0
  · rw [if_pos c]
    exact uZ_nk _ _ (by omega)
  rw [if_neg c]
  by_cases c2 : p (20 * i + 14).toNat = 2 ∧ s (p (20 * i + 15).toNat).toNat = 0
  · rw [if_pos c2]
    exact takeF_5 (by omega)
  · rw [if_neg c2]
    exact takeF_5 (by omega)
theorem RT_takeF {p s : Nat → Int} {way k : Int} : RT p (takeF p s way k) := by
  unfold takeF
  by_cases c : s (8 + way).toNat = p (k + 1).toNat
  · rw [if_pos c]
    intro q
    exact absurd (uZ_eq.symm.trans q) (by decide)
  · rw [if_neg c]
    intro q
    rw [uZ_eq] at q
    rw [uZ_nk _ _ (show ¬ (4 : Nat) = 6 by decide), uZ_eq]
    by_cases c2 : p (20 * p k.toNat + 0).toNat = 1
    · exact c2
    · rw [if_neg c2] at q
      exact absurd q (by decide)
theorem RT_goF {p s : Nat → Int} {i : Int} : RT p (goF p s i) := by
  unfold goF
  by_cases c : p (20 * i + 14).toNat = 0
  · rw [if_pos c]
    intro q
    exact absurd (uZ_eq.symm.trans q) (by decide)
  rw [if_neg c]
  by_cases c2 : p (20 * i + 14).toNat = 2 ∧ s (p (20 * i + 15).toNat).toNat = 0
  · rw [if_pos c2]
    exact RT_takeF
  · rw [if_neg c2]
    exact RT_takeF
theorem pathF_lo {t : Nat → Int} {j : Nat} (h : 0 ≤ t 5) (hj : j < 39) : pathF t j = t j := by
  unfold pathF
  by_cases c : t 5 < 100
  · rw [if_pos c]
    exact uZ_nk _ _ (by omega)
  · rw [if_neg c]
theorem stepF_mid {p s : Nat → Int} (hp : ProgOk p) (hs : StOk p s) : ∃ t, stepF p s = pathF t ∧ RT p t ∧ t 5 = s 5 + 1 := by
  obtain ⟨hsi, hs5, hs6⟩ := hs
  have hat := hsi.2.1
  have hac := ProgR.at hp.1 (e := 20 * s 4 + 1) (m := 4) (s 4) 1 (by omega) rfl (by decide) rfl
  obtain ⟨a1, a2, a3, a4, a5⟩ := SI_actsF hp hsi (x := s 4) (by omega) (p (20 * s 4 + 1).toNat).toNat (by omega)
  refine ⟨_, rfl, RT_goF, ?_⟩
  rw [goF_5 (by omega), uZ_eq, a4]
theorem RT_stepF {p s : Nat → Int} (hp : ProgOk p) (hs : StOk p s) : RT p (stepF p s) := by
  obtain ⟨t, e, h, h5⟩ := stepF_mid hp hs
  have h0 := hs.2.1
  rw [e]
  intro q
  rw [pathF_lo (by omega) (by omega)] at q
  rw [pathF_lo (by omega) (by omega)]
  exact h q
theorem RT_stepsF {p : Nat → Int} (hp : ProgOk p) : ∀ (n : Nat) (s : Nat → Int), StOk p s → RT p s → RT p (stepsF p n s)
  | 0, s, _, h => h
  | n + 1, s, hs, h => by
    by_cases c : s 6 = 0
    · rw [stepsF_go c]
      exact RT_stepsF hp n _ (StOk_stepF hp hs c).1 (RT_stepF hp hs)
    · rw [stepsF_end c]
      exact h
def E9 (s s' : Nat → Int) : Prop := ∀ k, k < 159 → s' k = s k
theorem E9.refl (s : Nat → Int) : E9 s s := fun _ _ => rfl
theorem E9.trans {a b c : Nat → Int} (h : E9 a b) (h2 : E9 b c) : E9 a c := fun k hk => (h2 k hk).trans (h k hk)
theorem E9.u {s s' : Nat → Int} (h : E9 s s') (k : Nat) (v : Int) : E9 (uZ s k v) (uZ s' k v) := fun j hj => by
  by_cases q : j = k
  · rw [q, uZ_eq, uZ_eq]
  · rw [uZ_nk _ _ q, uZ_nk _ _ q]
    exact h j hj
theorem E9.inc {s s' : Nat → Int} (h : E9 s s') {k : Nat} (hk : k < 159) : E9 (incU s k) (incU s' k) := by
  unfold incU
  rw [h k hk]
  exact h.u _ _
theorem E9.orw {s s' : Nat → Int} (h : E9 s s') (w : Int) : E9 (orU s w) (orU s' w) := by
  unfold orU
  rw [h 38 (by omega)]
  exact h.u _ _
theorem E9.act {p s s' : Nat → Int} (hp : ProgOk p) (h : E9 s s') {x w : Int} (hx : 0 ≤ x ∧ x < 10) (hw : 0 ≤ w ∧ w < 4) : E9 (actF p s x w) (actF p s' x w) := by
  obtain ⟨k1, k2, k3, k4⟩ := ProgOk.act hp (i := x) (n := w) (k := 20 * x + 2 + 3 * w) hx hw rfl
  unfold actF
  generalize p (20 * x + 2 + 3 * w).toNat = K at k1 k4 ⊢
  generalize p (20 * x + 2 + 3 * w + 1).toNat = T at k2 k4 ⊢
  generalize p (20 * x + 2 + 3 * w + 2).toNat = V at k3 ⊢
  rw [h T.toNat (by omega), h (28 + x).toNat (by omega)]
  by_cases c0 : K = 0
  · rw [if_pos c0, if_pos c0]
    exact h.u _ _
  rw [if_neg c0, if_neg c0]
  by_cases c1 : K = 1
  · rw [if_pos c1, if_pos c1]
    exact h.u _ _
  rw [if_neg c1, if_neg c1]
  by_cases c2 : K = 2
  · rw [if_pos c2, if_pos c2]
    exact h.u _ _
  rw [if_neg c2, if_neg c2]
  by_cases c3 : s (28 + x).toNat / twoP w % 2 = 1
  · rw [if_pos c3, if_pos c3]
    exact h
  rw [if_neg c3, if_neg c3]
  exact ((h.u _ _).u _ _).u _ _
theorem E9.acts {p s s' : Nat → Int} (hp : ProgOk p) (h : E9 s s') {x : Int} (hx : 0 ≤ x ∧ x < 10) : ∀ n : Nat, n ≤ 4 → E9 (actsF p s x n) (actsF p s' x n)
  | 0, _ => h
  | n + 1, hn => E9.act hp (E9.acts hp h hx n (by omega)) hx (by omega)
theorem E9.take {p s s' : Nat → Int} (h : E9 s s') {way k : Int} (hw : 0 ≤ way ∧ way < 20) : E9 (takeF p s way k) (takeF p s' way k) := by
  unfold takeF
  rw [h (8 + way).toNat (by omega)]
  by_cases c : s (8 + way).toNat = p (k + 1).toNat
  · rw [if_pos c, if_pos c]
    exact h.u _ _
  · rw [if_neg c, if_neg c]
    exact (((((h.inc (by omega)).inc (by omega)).inc (by omega)).orw _).u _ _).u _ _
theorem E9.go {p s s' : Nat → Int} (hp : ProgOk p) (h : E9 s s') {i : Int} (hi : 0 ≤ i ∧ i < 10) : E9 (goF p s i) (goF p s' i) := by
  have h15 := ProgR.at hp.1 (e := 20 * i + 15) (m := 3) i 15 hi rfl (by decide) rfl
  unfold goF
  rw [h (p (20 * i + 15).toNat).toNat (by omega)]
  by_cases c : p (20 * i + 14).toNat = 0
  · rw [if_pos c, if_pos c]
    exact h.u _ _
  rw [if_neg c, if_neg c]
  by_cases c2 : p (20 * i + 14).toNat = 2 ∧ s (p (20 * i + 15).toNat).toNat = 0
  · rw [if_pos c2, if_pos c2]
    exact h.take (by omega)
  · rw [if_neg c2, if_neg c2]
    exact h.take (by omega)
theorem E9.path {s s' : Nat → Int} (h : E9 s s') : E9 (pathF s) (pathF s') := by
  unfold pathF
  rw [h 5 (by omega), h 4 (by omega)]
  by_cases c : s 5 < 100
  · rw [if_pos c, if_pos c]
    exact h.u _ _
  · rw [if_neg c, if_neg c]
    exact h
theorem E9.step {p s s' : Nat → Int} (hp : ProgOk p) (hs : StOk p s) (h : E9 s s') : E9 (stepF p s) (stepF p s') := by
  have hat := hs.1.2.1
  have hac := ProgR.at hp.1 (e := 20 * s 4 + 1) (m := 4) (s 4) 1 (by omega) rfl (by decide) rfl
  have ha := E9.acts hp h (x := s 4) (by omega) (p (20 * s 4 + 1).toNat).toNat (by omega)
  unfold stepF
  rw [h 4 (by omega)]
  refine E9.path (E9.go hp ?_ (by omega))
  rw [ha 5 (by omega)]
  exact ha.u _ _
theorem E9.steps {p : Nat → Int} (hp : ProgOk p) : ∀ (n : Nat) (s s' : Nat → Int), StOk p s → E9 s s' → E9 (stepsF p n s) (stepsF p n s')
  | 0, _, _, _, h => h
  | n + 1, s, s', hs, h => by
    by_cases c : s 6 = 0
    · rw [stepsF_go c, stepsF_go ((h 6 (by omega)).trans c)]
      exact E9.steps hp n _ _ (StOk_stepF hp hs c).1 (E9.step hp hs h)
    · rw [stepsF_end c, stepsF_end (fun q => c ((h 6 (by omega)).symm.trans q))]
      exact h
theorem E9.rt {p s s' : Nat → Int} (h : E9 s s') (hr : RT p s) : RT p s' := fun q => by
  rw [h 4 (by omega)]
  exact hr ((h 6 (by omega)).symm.trans q)
theorem E9.gv {s s' : Nat → Int} (h : E9 s s') : gvZ s' = gvZ s := by
  unfold gvZ
  rw [h 28 (by omega), h 29 (by omega), h 30 (by omega), h 31 (by omega), h 32 (by omega), h 33 (by omega), h 34 (by omega), h 35 (by omega), h 36 (by omega), h 37 (by omega)]
theorem WR.e9 {n : Int} {s s' i : Nat → Int} {g : Nat → Nat → Int} (h : WR n s i g) (e : E9 s s') : WR n s' i g := by
  obtain ⟨⟨a0, a1, a2, a3, a5⟩, b0, b1, b2, b3⟩ := h
  refine ⟨⟨?_, ?_, ?_, ?_, ?_⟩, ?_, ?_, ?_, ?_⟩
  · rw [a0, e 4 (by omega)]
  · rw [a1, e 5 (by omega)]
  · rw [a2, e 6 (by omega)]
  · rw [a3, e 7 (by omega)]
  · rw [a5, e.gv]
  · intro j hj
    rw [e _ (by omega)]
    exact b0 j hj
  · intro j hj
    rw [e _ (by omega)]
    exact b1 j hj
  · intro j hj
    rw [e _ (by omega)]
    exact b2 j hj
  · intro j hj hn
    rw [e _ (by omega)]
    exact b3 j hj hn
/-- a run that begins -/
def begF (p : Nat → Int) (a b c d : Int) : Nat → Int := uZ (uZ (uZ (uZ (uZ (fun _ => 0) 0 a) 1 b) 2 c) 3 d) 6 (if p (20 * 0 + 0 : Int).toNat = 1 then 0 else 3)
theorem begF_z {p : Nat → Int} {a b c d : Int} {j : Nat} (h4 : 4 ≤ j) (h6 : ¬ j = 6) : begF p a b c d j = 0 := by
  unfold begF
  rw [uZ_nk _ _ h6, uZ_nk _ _ (by omega), uZ_nk _ _ (by omega), uZ_nk _ _ (by omega), uZ_nk _ _ (by omega)]
theorem begF_6 {p : Nat → Int} {a b c d : Int} : begF p a b c d 6 = if p (20 * 0 + 0 : Int).toNat = 1 then 0 else 3 := uZ_eq
theorem begF_c {p : Nat → Int} {a b c d : Int} : begF p a b c d 0 = a ∧ begF p a b c d 1 = b ∧ begF p a b c d 2 = c ∧ begF p a b c d 3 = d := by
  unfold begF
  refine ⟨?_, ?_, ?_, ?_⟩ <;> simp [uZ]
theorem StOk_begF {p : Nat → Int} (hp : ProgOk p) {a b c d : Int} (ha : 0 ≤ a ∧ a ≤ 99) (hb : 0 ≤ b ∧ b ≤ 99) (hc : 0 ≤ c ∧ c ≤ 99) (hd : 0 ≤ d ∧ d ≤ 99) : StOk p (begF p a b c d) :=
  StOk.begun (g := fun _ => 0) hp.1.pos (fun _ _ => rfl) rfl rfl rfl rfl rfl ha hb hc hd (by split <;> omega)
theorem RT_begF {p : Nat → Int} {a b c d : Int} : RT p (begF p a b c d) := fun q => by
  rw [begF_6] at q
  rw [begF_z (by omega) (by omega)]
  by_cases c : p (20 * 0 + 0 : Int).toNat = 1
  · exact c
  · rw [if_neg c] at q
    exact absurd q (by decide)
theorem WR.beg {p i : Nat → Int} {g : Nat → Nat → Int} {a b c d : Int} (hi : i 0 = 0 ∧ i 1 = 0 ∧ i 2 = (if p (20 * 0 + 0 : Int).toNat = 1 then 0 else 3) ∧ i 3 = 0 ∧ i 5 = 0) (h0 : g 0 0 = a ∧ g 0 1 = b ∧ g 0 2 = c ∧ g 0 3 = d) (h1 : ∀ k : Nat, k < 20 → g 1 k = 0) (h2 : ∀ k : Nat, k < 20 → g 2 k = 0) (h3 : g 3 0 = 0) : WR 0 (begF p a b c d) i g := by
  obtain ⟨i0, i1, i2, i3, i5⟩ := hi
  refine ⟨⟨?_, ?_, ?_, ?_, ?_⟩, ?_, ?_, ?_, ?_⟩
  · rw [i0, begF_z (by omega) (by omega)]
  · rw [i1, begF_z (by omega) (by omega)]
  · rw [i2, begF_6]
  · rw [i3, begF_z (by omega) (by omega)]
  · rw [i5]
    unfold gvZ
    rw [begF_z (by omega) (by omega), begF_z (by omega) (by omega), begF_z (by omega) (by omega), begF_z (by omega) (by omega), begF_z (by omega) (by omega), begF_z (by omega) (by omega), begF_z (by omega) (by omega), begF_z (by omega) (by omega), begF_z (by omega) (by omega), begF_z (by omega) (by omega)]
    rfl
  · intro k hk
    rcases (show k = 0 ∨ k = 1 ∨ k = 2 ∨ k = 3 by omega) with rfl | rfl | rfl | rfl
    · rw [begF_c.1]; exact h0.1
    · rw [begF_c.2.1]; exact h0.2.1
    · rw [begF_c.2.2.1]; exact h0.2.2.1
    · rw [begF_c.2.2.2]; exact h0.2.2.2
  · intro k hk
    rw [begF_z (by omega) (by omega)]; exact h1 k hk
  · intro k hk
    rw [begF_z (by omega) (by omega)]; exact h2 k hk
  · intro k hk hn
    have hz : k = 0 := by omega
    subst hz
    rw [begF_z (by omega) (by omega)]; exact h3
theorem cnt4 {g g1 g2 g3 g4 : Nat → Int} {a b c d : Int} (e1 : g1 = uZ g (0 : Int).toNat a) (e2 : g2 = uZ g1 (1 : Int).toNat b) (e3 : g3 = uZ g2 (2 : Int).toNat c) (e4 : g4 = uZ g3 (3 : Int).toNat d) : g4 0 = a ∧ g4 1 = b ∧ g4 2 = c ∧ g4 3 = d := by
  subst e1 e2 e3 e4
  refine ⟨?_, ?_, ?_, ?_⟩ <;> simp [uZ]
theorem E9.beg {p gs g0 g1 g2 g3 g6 : Nat → Int} {a b c d v : Int} (hz : ∀ k : Nat, k < 159 → gs k = 0) (e0 : g0 = uZ gs 0 a) (e1 : g1 = uZ g0 1 b) (e2 : g2 = uZ g1 2 c) (e3 : g3 = uZ g2 3 d) (e6 : g6 = uZ g3 6 v) (hv : v = if p (20 * 0 + 0 : Int).toNat = 1 then 0 else 3) : E9 (begF p a b c d) g6 := by
  subst e0 e1 e2 e3 e6 hv
  have h : E9 (fun _ => 0) gs := hz
  exact ((((h.u 0 a).u 1 b).u 2 c).u 3 d).u 6 _
/-- the run of an input to a bound -/
def begI (p : Nat → Int) (k x : Int) : Nat → Int := begF p (x / ((k + 1) * (k + 1) * (k + 1))) (x / ((k + 1) * (k + 1)) % (k + 1)) (x / (k + 1) % (k + 1)) (x % (k + 1))
def inZ (k : Int) : Int := (k + 1) * (k + 1) * (k + 1) * (k + 1)
theorem begI_0 {p : Nat → Int} {x : Int} : begI p 0 x = begF p (x / 1) (x / 1 % 1) (x / 1 % 1) (x % 1) := rfl
theorem begI_1 {p : Nat → Int} {x : Int} : begI p 1 x = begF p (x / 8) (x / 4 % 2) (x / 2 % 2) (x % 2) := rfl
theorem begI_2 {p : Nat → Int} {x : Int} : begI p 2 x = begF p (x / 27) (x / 9 % 3) (x / 3 % 3) (x % 3) := rfl
theorem begI_3 {p : Nat → Int} {x : Int} : begI p 3 x = begF p (x / 64) (x / 16 % 4) (x / 4 % 4) (x % 4) := rfl
theorem inZ_le {k : Int} (hk : 0 ≤ k ∧ k ≤ 3) : 1 ≤ inZ k ∧ inZ k ≤ 256 := by
  rcases (show k = 0 ∨ k = 1 ∨ k = 2 ∨ k = 3 by omega) with rfl | rfl | rfl | rfl <;> decide
theorem StOk_begI {p : Nat → Int} (hp : ProgOk p) {k x : Int} (hk : 0 ≤ k ∧ k ≤ 3) (hx : 0 ≤ x ∧ x < inZ k) : StOk p (begI p k x) := by
  rcases (show k = 0 ∨ k = 1 ∨ k = 2 ∨ k = 3 by omega) with rfl | rfl | rfl | rfl
  · have h : x < 1 := hx.2
    rw [begI_0]
    exact StOk_begF hp (by omega) (by omega) (by omega) (by omega)
  · have h : x < 16 := hx.2
    rw [begI_1]
    exact StOk_begF hp (by omega) (by omega) (by omega) (by omega)
  · have h : x < 81 := hx.2
    rw [begI_2]
    exact StOk_begF hp (by omega) (by omega) (by omega) (by omega)
  · have h : x < 256 := hx.2
    rw [begI_3]
    exact StOk_begF hp (by omega) (by omega) (by omega) (by omega)
def runI (p : Nat → Int) (k x : Int) : Nat → Int := runF p (begI p k x)
theorem StOk_runI {p : Nat → Int} (hp : ProgOk p) {k x : Int} (hk : 0 ≤ k ∧ k ≤ 3) (hx : 0 ≤ x ∧ x < inZ k) : StOk p (runI p k x) := runF_ok hp (StOk_begI hp hk hx)
/-- how a run ended, with which counters -/
def enP (s : Nat → Int) : Nat → Int
  | 0 => s 6
  | n + 1 => enP s n * 100 + s n
def endZ (s : Nat → Int) : Int := enP s 4
theorem enP_step {s : Nat → Int} {v e e' : Int} (hv : 0 ≤ v) (h : e = enP s v.toNat) (h' : e' = e * 100 + s v.toNat) : e' = enP s (v + 1).toNat := by
  rw [show (v + 1).toNat = v.toNat + 1 by omega, h', h]
  rfl
theorem endZ_eq (s : Nat → Int) : endZ s = (((s 6 * 100 + s 0) * 100 + s 1) * 100 + s 2) * 100 + s 3 := rfl
theorem endZ_rg {p s : Nat → Int} (h : SI p s) : 0 ≤ endZ s ∧ endZ s ≤ 399999999 := by
  have h0 := h.1 0 (by omega)
  have h1 := h.1 1 (by omega)
  have h2 := h.1 2 (by omega)
  have h3 := h.1 3 (by omega)
  have h6 := h.2.2.1
  rw [endZ_eq]
  omega
theorem endZ_iff {p q s t : Nat → Int} (h : SI p s) (h' : SI q t) : endZ s = endZ t ↔ (s 6 = t 6 ∧ s 0 = t 0 ∧ s 1 = t 1 ∧ s 2 = t 2 ∧ s 3 = t 3) := by
  have h0 := h.1 0 (by omega)
  have h1 := h.1 1 (by omega)
  have h2 := h.1 2 (by omega)
  have h3 := h.1 3 (by omega)
  have h6 := h.2.2.1
  have g0 := h'.1 0 (by omega)
  have g1 := h'.1 1 (by omega)
  have g2 := h'.1 2 (by omega)
  have g3 := h'.1 3 (by omega)
  have g6 := h'.2.2.1
  rw [endZ_eq, endZ_eq]
  omega
theorem E9.en {s s' : Nat → Int} (h : E9 s s') : endZ s' = endZ s := by
  rw [endZ_eq, endZ_eq, h 6 (by omega), h 0 (by omega), h 1 (by omega), h 2 (by omega), h 3 (by omega)]
theorem E9.run {p s s' : Nat → Int} (hp : ProgOk p) (hs : StOk p s) (h : E9 s s') : E9 (runF p s) (runF p s') := E9.steps hp 941 s s' hs h
theorem actsF_succ {p s : Nat → Int} {x v : Int} (hv : 0 ≤ v) : actsF p s x (v + 1).toNat = actF p (actsF p s x v.toNat) x v := (actsF_step hv rfl rfl).symm
