/-! THE INVARIANT: what is told in room r and in the model's arrays s, lw, tk -/
abbrev Dt : Type := Ct × Nat × (Nat → Int32) × (Nat → Ev) × Nat × Nat × Bool × Nat
def dC (D : Dt) : Ct := D.1
def dL (D : Dt) : Nat := D.2.1
def dH (D : Dt) : Nat → Int32 := D.2.2.1
def dE (D : Dt) : Nat → Ev := D.2.2.2.1
def dk (D : Dt) : Nat := D.2.2.2.2.1
def dl (D : Dt) : Nat := D.2.2.2.2.2.1
def da (D : Dt) : Bool := D.2.2.2.2.2.2.1
def di (D : Dt) : Nat := D.2.2.2.2.2.2.2
def CW0 (C : Ct) : Prop := cJ C ≤ 12 ∧ cT C ≤ 12 ∧ (∀ t, t < cT C → ¬ abS (cS C t) ≤ -1) ∧ (∀ i, i < cJ C → cK C i ≤ 7 ∧ 1 ≤ cM C i ∧ cM C i ≤ 30)
def LwT (g : Nat → Nat → Int32) (s lw l : Nat) (e : Ev) : Prop := ∃ N x cs, g s (103 + l) = nI N ∧ N ≤ 100 ∧ (∀ i, i < N → g lw (100 * l + i) = x i) ∧ sumS x N 8 0 0 = (N, some (cs, e))
def RWc (τ : Hp) (r : Nat) (D : Dt) (lno : Nat → Int32) : Prop := RL τ r ∧ hI τ r 0 = nI (cT (dC D)) ∧ hI τ r 2 = nI (cJ (dC D)) ∧ (∀ t, t < cT (dC D) → hI τ (r + 1) t = cS (dC D) t) ∧ (∀ j, j < cJ (dC D) → ∃ T, hR τ (r + 2) j = some T ∧ TR τ (hI τ) T (cK (dC D) j) (cH (dC D) j) (cM (dC D) j) (cL (dC D) j) (cP (dC D) j) (cE (dC D) j) ∧ hI τ T 0 = nI j ∧ hI τ T 6 = lno j ∧ hI τ (r + 3) j = dH D j) ∧ hI τ r 5 = nI (dL D) ∧ (∀ l, l < dL D → ∃ q, hR τ (r + 4) l = some q ∧ LwO τ (hI τ) q (dE D l)) ∧ RU (hI τ) r (dk D) (dl D) (da D) (di D)
def RWm (g : Nat → Nat → Int32) (s lw : Nat) (D : Dt) (lno : Nat → Int32) : Prop := g s 0 = nI (cT (dC D)) ∧ g s 1 = nI (cJ (dC D)) ∧ g s 2 = nI (dL D) ∧ (∀ t, t < cT (dC D) → g s (7 + t) = cS (dC D) t) ∧ g s 3 = nI (dk D) ∧ g s 4 = nI (dl D) ∧ (g s 5 = if da D then 1 else 0) ∧ g s 6 = nI (di D) ∧ (∀ j, j < cJ (dC D) → g s (19 + 7 * j + 0) = nI (cK (dC D) j) ∧ g s (19 + 7 * j + 1) = cH (dC D) j ∧ g s (19 + 7 * j + 2) = nI (cM (dC D) j) ∧ g s (19 + 7 * j + 3) = cL (dC D) j ∧ g s (19 + 7 * j + 4) = cP (dC D) j ∧ g s (19 + 7 * j + 5) = lno j ∧ g s (19 + 7 * j + 6) = dH D j) ∧ ∀ l, l < dL D → LwT g s lw l (dE D l)
def DW (D : Dt) (lno : Nat → Int32) : Prop := CW0 (dC D) ∧ dL D ≤ 6 ∧ ∀ j, j < cJ (dC D) → isS (cT (dC D)) (dH D j) ∧ ¬ cH (dC D) j < 0 ∧ ((lno j = -1 ∧ cE (dC D) j = evP) ∨ ∃ l, l < dL D ∧ lno j = nI l ∧ cE (dC D) j = dE D l)
def TKc (τ : Hp) (r : Nat) (D : Dt) : Option Tk → Prop
  | none => hI τ r 8 = 0 ∧ hI τ r 10 = 0 ∧ hI τ r 11 = 0 ∧ hI τ r 12 = 0 ∧ hI τ r 13 = 0 ∧ True ∧ ∀ i, i < cJ (dC D) → hI τ (r + 6) i = dH D i ∧ hI τ (r + 7) i = wgh (cS (dC D)) (dH D i) (cT (dC D)) ∧ hI τ (r + 8) i = 0 ∧ hI τ (r + 9) i = -1
  | some T => hI τ r 8 = 1 ∧ CT τ (hI τ) r (dC D) T
def TKm (g : Nat → Nat → Int32) (tk : Nat) (D : Dt) : Option Tk → Prop
  | none => ¬ g tk 6 = 1
  | some T => g tk 6 = 1 ∧ MT g tk (dC D) T ∧ g tk 5 = nI (cJ (dC D)) ∧ ∀ i, i < cJ (dC D) → g tk (7 + i) = nI i
def TKw (D : Dt) : Option Tk → Prop
  | none => True
  | some T => 0 < cJ (dC D) ∧ TW (dC D) T ∧ tM T ≤ 3030
def WOs (τ : Hp) (r s lw tk : Nat) (D : Dt) (lno : Nat → Int32) (ot : Option Tk) : Prop := RWc τ r D lno ∧ RWm (hI τ) s lw D lno ∧ DW D lno ∧ TKc τ r D ot ∧ TKm (hI τ) tk D ot ∧ TKw D ot
def voiceS (k mn : Nat) (he pt th : Int32) : Int32 := match k with
  | 1 => nI mn + bcv th
  | 2 => nI mn + he
  | 3 => 2 * (nI mn + he)
  | 4 => nI mn + bcv th + 5
  | 5 => nI mn + 10
  | 6 => nI mn - 1
  | 7 => nI mn - 1 + pt
  | _ => nI mn
def tossS (k : Nat) (he no : Int32) : Int32 := if k = 6 ∨ k = 7 ∨ he = 0 then -15 else if k = 3 then no + 100 else if k = 4 then he + 200 else no
def ShE (τ : Hp) (d : Nat) : Prop := ∃ N, N ≤ 100 ∧ hI τ (32 + 2 * d) 3 = nI N ∧ hI τ 58 d = nI N ∧ ∀ i, i < 100 → hI τ (33 + 2 * d) i = hI τ 59 (100 * d + i)
def ShK (τ : Hp) (d : Nat) : Prop := (hI τ 56 d = 0 ∧ hR τ (32 + 2 * d) 0 = none ∧ hI τ (32 + 2 * d) 2 = -1) ∨ (hI τ 56 d = 1 ∧ hI τ (32 + 2 * d) 2 = -1 ∧ ∃ T k he mn ln pt e, hR τ (32 + 2 * d) 0 = some T ∧ TR τ (hI τ) T k he mn ln pt e ∧ k ≤ 7 ∧ ¬ he < 0 ∧ hI τ 60 d = voiceS k mn he pt (hI τ (32 + 2 * d) 1) ∧ hI τ 61 d = tossS k he (hI τ T 0)) ∨ (hI τ 56 d = 2 ∧ hR τ (32 + 2 * d) 0 = none ∧ ∃ so : Nat, so ≤ 2 ∧ hI τ (32 + 2 * d) 2 = nI so ∧ hI τ 57 d = nI so)
def Lay (τ : Hp) : Prop := (hR τ 0 0 = some 1 ∧ hR τ 0 1 = some 11 ∧ hR τ 0 2 = some 21 ∧ hR τ 0 4 = some 31 ∧ hL τ 31 = 8) ∧ (∀ d, d < 8 → hR τ 31 d = some (32 + 2 * d) ∧ hR τ (32 + 2 * d) 4 = some (33 + 2 * d) ∧ hL τ (33 + 2 * d) = 100) ∧ (RL τ 1 ∧ RL τ 11 ∧ RL τ 21) ∧ MB τ ∧ (∃ t, hR τ 48 15 = some t) ∧ 65 ≤ hN τ ∧ hK τ (hN τ - 1) ≠ 1
def Inv (τ : Hp) (D : Dt) (lno : Nat → Int32) (ot : Option Tk) : Prop := Lay τ ∧ WOs τ 1 49 51 53 D lno ot ∧ hI τ 48 13 = hI τ 0 3 ∧ (hI τ 0 3 = 0 ∨ (hI τ 0 3 = 1 ∧ ∃ D lno ot, WOs τ 21 50 52 55 D lno ot)) ∧ ∀ d, d < 8 → ShE τ d ∧ ShK τ d
/-! what a part needs unchanged -/
theorem WOs.pres {σ τ : Hp} {r s lw tk : Nat} {D : Dt} {lno : Nat → Int32} {ot : Option Tk} (hX : XG σ τ) (hI' : IX σ (hI σ) (hI τ)) (hr : ∀ a, r ≤ a → a ≤ r + 9 → (∀ j, hI τ a j = hI σ a j) ∧ (∀ j, hR τ a j = hR σ a j) ∧ hL τ a = hL σ a) (hs : ∀ j, hI τ s j = hI σ s j) (hw : ∀ j, hI τ lw j = hI σ lw j) (ht : ∀ j, hI τ tk j = hI σ tk j) (a : WOs σ r s lw tk D lno ot) : WOs τ r s lw tk D lno ot := by
  obtain ⟨⟨c1, c2, c3, c4, c5, c6, c7, c8⟩, ⟨m1, m2, m3, m4, m5, m6, m7, m8, m9, m10⟩, d1, e1, f1, w1⟩ := a
  have r0 : ∀ j, hI τ r j = hI σ r j := (hr r (by omega) (by omega)).1
  have ri : ∀ i, i ≤ 9 → ∀ j, hI τ (r + i) j = hI σ (r + i) j := fun i hi => (hr (r + i) (by omega) (by omega)).1
  have rr : ∀ i, i ≤ 9 → ∀ j, hR τ (r + i) j = hR σ (r + i) j := fun i hi => (hr (r + i) (by omega) (by omega)).2.1
  refine ⟨⟨c1.ext (hr r (by omega) (by omega)).2.1 (fun i h1 h2 => (hr (r + i) (by omega) (by omega)).2.2), by rw [r0]; exact c2, by rw [r0]; exact c3, fun t ht => by rw [ri 1 (by omega)]; exact c4 t ht, fun j hj => ?_, by rw [r0]; exact c6, fun l hl => ?_, ?_⟩, ⟨by rw [hs]; exact m1, by rw [hs]; exact m2, by rw [hs]; exact m3, fun t ht => by rw [hs]; exact m4 t ht, by rw [hs]; exact m5, by rw [hs]; exact m6, by rw [hs]; exact m7, by rw [hs]; exact m8, fun j hj => by rw [hs, hs, hs, hs, hs, hs, hs]; exact m9 j hj, fun l hl => ?_⟩, d1, ?_, ?_, w1⟩
  · obtain ⟨T, t1, t2, t3, t4, t5⟩ := c5 j hj
    exact ⟨T, by rw [rr 2 (by omega)]; exact t1, t2.ext hX hI', by rw [t2.cell (τ := τ) hI']; exact t3, by rw [t2.cell (τ := τ) hI']; exact t4, by rw [ri 3 (by omega)]; exact t5⟩
  · obtain ⟨q, q1, q2⟩ := c7 l hl
    exact ⟨q, by rw [rr 4 (by omega)]; exact q1, q2.ext hX hI'⟩
  · unfold RU
    rw [ri 5 (by omega), ri 5 (by omega), ri 5 (by omega), ri 5 (by omega)]
    exact c8
  · obtain ⟨N, x, cs, n1, n2, n3, n4⟩ := m10 l hl
    exact ⟨N, x, cs, by rw [hs]; exact n1, n2, fun i hi => by rw [hw]; exact n3 i hi, n4⟩
  · cases ot with
    | none =>
      obtain ⟨e1, e2, e3, e4, e5, e6, e7⟩ := e1
      exact ⟨by rw [r0]; exact e1, by rw [r0]; exact e2, by rw [r0]; exact e3, by rw [r0]; exact e4, by rw [r0]; exact e5, e6, fun i hi => by rw [ri 6 (by omega), ri 7 (by omega), ri 8 (by omega), ri 9 (by omega)]; exact e7 i hi⟩
    | some T =>
      obtain ⟨e1, e2, e3, e4, e5, e6, ld, e7⟩ := e1
      exact ⟨by rw [r0]; exact e1, by rw [r0]; exact e2, by rw [r0]; exact e3, by rw [r0]; exact e4, by rw [r0]; exact e5, fun i hi => by rw [ri 6 (by omega), ri 7 (by omega), ri 8 (by omega), ri 9 (by omega)]; exact e6 i hi, ld, by rw [r0]; exact e7⟩
  · cases ot with
    | none => show ¬ hI τ tk 6 = 1; rw [ht]; exact f1
    | some T =>
      obtain ⟨f1, f2, f3, f4⟩ := f1
      exact ⟨by rw [ht]; exact f1, f2.fr ht, by rw [ht]; exact f3, fun i hi => by rw [ht]; exact f4 i hi⟩
theorem Sh.pres {σ τ : Hp} {d : Nat} (hX : XG σ τ) (hI' : IX σ (hI σ) (hI τ)) (h0 : (∀ j, hI τ (32 + 2 * d) j = hI σ (32 + 2 * d) j) ∧ hR τ (32 + 2 * d) 0 = hR σ (32 + 2 * d) 0) (h1 : ∀ j, hI τ (33 + 2 * d) j = hI σ (33 + 2 * d) j) (hm : ∀ a, 56 ≤ a → a ≤ 61 → (a = 59 → ∀ i, i < 100 → hI τ a (100 * d + i) = hI σ a (100 * d + i)) ∧ (a ≠ 59 → hI τ a d = hI σ a d)) (a : ShE σ d ∧ ShK σ d) : ShE τ d ∧ ShK τ d := by
  obtain ⟨⟨N, n1, n2, n3, n4⟩, k⟩ := a
  have m56 := (hm 56 (by omega) (by omega)).2 (by omega)
  have m57 := (hm 57 (by omega) (by omega)).2 (by omega)
  have m58 := (hm 58 (by omega) (by omega)).2 (by omega)
  have m60 := (hm 60 (by omega) (by omega)).2 (by omega)
  have m61 := (hm 61 (by omega) (by omega)).2 (by omega)
  have m59 := (hm 59 (by omega) (by omega)).1 rfl
  refine ⟨⟨N, n1, by rw [h0.1]; exact n2, by rw [m58]; exact n3, fun i hi => by rw [h1, m59 i hi]; exact n4 i hi⟩, ?_⟩
  unfold ShK
  rw [m56, m57, m60, m61, h0.2, h0.1, h0.1]
  rcases k with k | ⟨k1, k2, T, kk, he, mn, ln, pt, e, k3, k4, k5, k6, k7, k8⟩ | k
  · exact Or.inl k
  · exact Or.inr (Or.inl ⟨k1, k2, T, kk, he, mn, ln, pt, e, k3, k4.ext hX hI', k5, k6, k7, by rw [k4.cell (τ := τ) hI']; exact k8⟩)
  · exact Or.inr (Or.inr k)
/-- what a call that only asks may touch -/
def VW (σ : Hp) (a j : Nat) : Prop := (11 ≤ a ∧ a ≤ 20) ∨ isStk σ a ∨ (a = 48 ∧ 14 ≤ j ∧ j ≤ 27) ∨ a = 54 ∨ a = 62 ∨ a = 63
def Fq (σ τ : Hp) : Prop := ∃ g R, τ = wA σ g R ∧ (∀ a j, a ≠ 13 → ¬ (a = 48 ∧ j = 15) → R a j = hR σ a j) ∧ (R 48 15 = hR σ 48 15 ∨ ∃ t, R 48 15 = some t) ∧ Fr (VW σ) (hI σ) g
theorem Fq.rf (σ : Hp) : Fq σ σ := ⟨hI σ, hR σ, rfl, fun _ _ _ _ => rfl, Or.inl rfl, Fr.rf _ _⟩
theorem Fq.tr {σ τ υ : Hp} (a : Fq σ τ) (b : Fq τ υ) : Fq σ υ := by
  obtain ⟨g, R, rfl, a1, a2, a3⟩ := a
  obtain ⟨h, S, rfl, b1', b2', b3'⟩ := b
  refine ⟨h, S, rfl, fun p j h1 h2 => (b1' p j h1 h2).trans (a1 p j h1 h2), ?_, a3.tr b3'⟩
  rcases b2' with q | q
  · rcases a2 with p | p
    · exact Or.inl (q.trans p)
    · exact Or.inr (by rw [q]; exact p)
  · exact Or.inr q
theorem Lay.pres {σ τ : Hp} (hX : XG σ τ) (hr : ∀ a j, a < 48 → (a = 13 ∨ hR τ a j = hR σ a j ∨ (32 ≤ a ∧ j = 0) ∨ (a = 3 ∨ a = 5 ∨ a = 23 ∨ a = 25))) (hm : ∀ j, j ≠ 15 → hR τ 48 j = hR σ 48 j) (ht : ∃ t, hR τ 48 15 = some t) (hk : hK τ (hN τ - 1) ≠ 1) (a : Lay σ) : Lay τ := by
  obtain ⟨⟨a1, a2, a3, a4, a5⟩, b, ⟨r1, r2, r3⟩, m, t, n1, n2⟩ := a
  have hl : ∀ q, q < 65 → hL τ q = hL σ q := fun q hq => (hX.2 q (by omega)).2.1
  have h0 : ∀ j, hR τ 0 j = hR σ 0 j := fun j => by rcases hr 0 j (by omega) with q | q | q | q <;> first | exact q | omega
  have rl : ∀ r, r < 32 → r ≠ 13 → r ≠ 3 → r ≠ 5 → r ≠ 23 → r ≠ 25 → ∀ j, hR τ r j = hR σ r j := fun r h1 h2 h3 h4 h5 h6 j => by rcases hr r j (by omega) with q | q | q | q <;> first | exact q | omega
  refine ⟨⟨by rw [h0]; exact a1, by rw [h0]; exact a2, by rw [h0]; exact a3, by rw [h0]; exact a4, by rw [hl _ (by omega)]; exact a5⟩, fun d hd => ?_, ⟨r1.ext (rl 1 (by omega) (by omega) (by omega) (by omega) (by omega) (by omega)) (fun i _ _ => hl _ (by omega)), r2.ext (rl 11 (by omega) (by omega) (by omega) (by omega) (by omega) (by omega)) (fun i _ _ => hl _ (by omega)), r3.ext (rl 21 (by omega) (by omega) (by omega) (by omega) (by omega) (by omega)) (fun i _ _ => hl _ (by omega))⟩, ?_, ht, by have := hX.1; omega, hk⟩
  · obtain ⟨b1', b2', b3'⟩ := b d hd
    refine ⟨by rw [rl 31 (by omega) (by omega) (by omega) (by omega) (by omega) (by omega)]; exact b1', ?_, by rw [hl _ (by omega)]; exact b3'⟩
    rcases hr (32 + 2 * d) 4 (by omega) with q | q | q | q
    · omega
    · rw [q]; exact b2'
    · omega
    · omega
  · obtain ⟨⟨M0, M1, M2, M3, M4, M5, M6, M7, M8, M9, M10, M11, M12, M28, M29⟩, K49, K50, K51, K52, K53, K54, K55, K56, K57, K58, K59, K60, K61, K62, K63⟩ := m
    unfold MB
    rw [hm 0 (by omega), hm 1 (by omega), hm 2 (by omega), hm 3 (by omega), hm 4 (by omega), hm 5 (by omega), hm 6 (by omega), hm 7 (by omega), hm 8 (by omega), hm 9 (by omega), hm 10 (by omega), hm 11 (by omega), hm 12 (by omega), hm 28 (by omega), hm 29 (by omega), hl 49 (by omega), hl 50 (by omega), hl 51 (by omega), hl 52 (by omega), hl 53 (by omega), hl 54 (by omega), hl 55 (by omega), hl 56 (by omega), hl 57 (by omega), hl 58 (by omega), hl 59 (by omega), hl 60 (by omega), hl 61 (by omega), hl 62 (by omega), hl 63 (by omega)]
    exact ⟨⟨M0, M1, M2, M3, M4, M5, M6, M7, M8, M9, M10, M11, M12, M28, M29⟩, K49, K50, K51, K52, K53, K54, K55, K56, K57, K58, K59, K60, K61, K62, K63⟩
theorem Fq.x {σ τ : Hp} (h : Fq σ τ) : XG σ τ ∧ IX σ (hI σ) (hI τ) := by
  obtain ⟨g, R, rfl, a1, a2, a3⟩ := h
  refine ⟨XG.A fun a j h => a1 a j (by omega) (by omega), fun a j h1 h2 h3 => a3 a j (fun w => ?_)⟩
  rcases w with w | w | w | w | w | w
  · omega
  · exact h3 w
  · omega
  · omega
  · omega
  · omega
theorem vw_n {σ : Hp} {a j : Nat} (h1 : a < 65) (h2 : a < 11 ∨ 20 < a) (h3 : a ≠ 48 ∨ j < 14 ∨ 27 < j) (h4 : a ≠ 54 ∧ a ≠ 62 ∧ a ≠ 63) : ¬ VW σ a j := by
  rintro (w | w | w | w | w | w)
  · omega
  · exact stk_lo h1 w
  · omega
  · omega
  · omega
  · omega
theorem Inv.fq {σ τ : Hp} {D : Dt} {lno : Nat → Int32} {ot : Option Tk} (h : Fq σ τ) (a : Inv σ D lno ot) : Inv τ D lno ot := by
  have hx := h.x
  obtain ⟨g, R, rfl, f1, f2, f3⟩ := h
  obtain ⟨l, w, i1, i2, s⟩ := a
  have e : ∀ b j, b < 65 → (b < 11 ∨ 20 < b) → (b ≠ 48 ∨ j < 14 ∨ 27 < j) → (b ≠ 54 ∧ b ≠ 62 ∧ b ≠ 63) → hI (wA σ g R) b j = hI σ b j := fun b j h1 h2 h3 h4 => f3 b j (vw_n h1 h2 h3 h4)
  have room : ∀ r : Nat, r = 1 ∨ r = 21 → ∀ b, r ≤ b → b ≤ r + 9 → (∀ j, hI (wA σ g R) b j = hI σ b j) ∧ (∀ j, hR (wA σ g R) b j = hR σ b j) ∧ hL (wA σ g R) b = hL σ b := fun r hr b h1 h2 => ⟨fun j => e b j (by omega) (by omega) (by omega) (by omega), fun j => f1 b j (by omega) (by omega), rfl⟩
  refine ⟨l.pres hx.1 (fun b j hb => ?_) (fun j hj => f1 48 j (by omega) (by omega)) ?_ l.2.2.2.2.2.2, w.pres hx.1 hx.2 (room 1 (Or.inl rfl)) (fun j => e _ j (by omega) (by omega) (by omega) (by omega)) (fun j => e _ j (by omega) (by omega) (by omega) (by omega)) (fun j => e _ j (by omega) (by omega) (by omega) (by omega)), ?_, ?_, fun d hd => Sh.pres hx.1 hx.2 ⟨fun j => e _ j (by omega) (by omega) (by omega) (by omega), f1 _ _ (by omega) (by omega)⟩ (fun j => e _ j (by omega) (by omega) (by omega) (by omega)) (fun b h1 h2 => ⟨fun _ i _ => e _ _ (by omega) (by omega) (by omega) (by omega), fun _ => e _ _ (by omega) (by omega) (by omega) (by omega)⟩) (s d hd)⟩
  · by_cases h : b = 13
    · exact Or.inl h
    · exact Or.inr (Or.inl (f1 b j h (by omega)))
  · rcases f2 with q | q
    · show ∃ t, R 48 15 = some t
      rw [q]; exact l.2.2.2.2.1
    · exact q
  · rw [e 48 13 (by omega) (by omega) (by omega) (by omega), e 0 3 (by omega) (by omega) (by omega) (by omega)]; exact i1
  · rw [e 0 3 (by omega) (by omega) (by omega) (by omega)]
    rcases i2 with q | ⟨q, D', l', o', w'⟩
    · exact Or.inl q
    · exact Or.inr ⟨q, D', l', o', w'.pres hx.1 hx.2 (room 21 (Or.inr rfl)) (fun j => e _ j (by omega) (by omega) (by omega) (by omega)) (fun j => e _ j (by omega) (by omega) (by omega) (by omega)) (fun j => e _ j (by omega) (by omega) (by omega) (by omega))⟩
