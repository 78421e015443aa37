theorem like_w {τ : Hp} {r o : Nat} {D : Dt} {lno : Nat → Int32} {ot : Option Tk} {g : Nat → Nat → Int32} {R : Nat → Nat → Option Nat} (hr : RL τ r) (c : RWc τ o D lno) (dw : DW D lno) (e' : TKc τ o D ot) (f1 : ∀ a k, a < r ∨ r + 9 < a → g a k = hI τ a k) (f2 : ∀ a k, a ≠ r + 2 → a ≠ r + 4 → R a k = hR τ a k) (f3 : g r 0 = nI (cT (dC D))) (f4 : g r 2 = nI (cJ (dC D))) (f5 : ∀ t, t < 12 → g (r + 1) t = hI τ (o + 1) t) (f6 : ∀ m, m < cJ (dC D) → R (r + 2) m = hR τ (o + 2) m ∧ g (r + 3) m = dH D m) (f7 : ∀ k, k < 4 → g (r + 5) k = hI τ (o + 5) k) (f8 : g r 5 = nI (dL D)) (f9 : ∀ l, l < dL D → R (r + 4) l = hR τ (o + 4) l) (f10 : ∀ k, 8 ≤ k → k ≤ 14 → g r k = hI τ o k) (f11 : ∀ i k, 6 ≤ i → i ≤ 9 → k < 12 → g (r + i) k = hI τ (o + i) k) : RWc (wA τ g R) r D lno ∧ TKc (wA τ g R) r D ot := by
  have r65 := hr.1
  have hJ := dw.1.1
  have hth := dw.1.2.1
  have X : XG τ (wA τ g R) := XG.A fun a j h => f2 a j (by omega) (by omega)
  have ix : IX τ (hI τ) g := fun a j h1 h2 h3 => f1 a j (by omega)
  obtain ⟨c1, c2, c3, c4, c5, c6, c7, c8⟩ := c
  refine ⟨⟨hr.ext (fun j => f2 r j (by omega) (by omega)) (fun _ _ _ => rfl), f3, f4, fun t ht => (f5 t (by omega)).trans (c4 t ht), fun j hj => ?_, f8, fun l hl => ?_, ?_⟩, ?_⟩
  · obtain ⟨T, t1, t2, t3, t4, t5⟩ := c5 j hj
    exact ⟨T, (f6 j hj).1.trans t1, t2.ext X ix, (t2.cell (τ := wA τ g R) ix 0).trans t3, (t2.cell (τ := wA τ g R) ix 6).trans t4, (f6 j hj).2⟩
  · obtain ⟨q, q1, q2⟩ := c7 l hl
    exact ⟨q, (f9 l hl).trans q1, q2.ext X ix⟩
  · show RU g r _ _ _ _
    unfold RU
    rw [f7 0 (by omega), f7 1 (by omega), f7 2 (by omega), f7 3 (by omega)]
    exact c8
  · cases ot with
    | none =>
      obtain ⟨e1, e2, e3, e4, e5, e6, e7⟩ := e'
      refine ⟨(f10 8 (by omega) (by omega)).trans e1, (f10 10 (by omega) (by omega)).trans e2, (f10 11 (by omega) (by omega)).trans e3, (f10 12 (by omega) (by omega)).trans e4, (f10 13 (by omega) (by omega)).trans e5, trivial, fun i hi => ?_⟩
      rw [wA_I, f11 6 i (by omega) (by omega) (by omega), f11 7 i (by omega) (by omega) (by omega), f11 8 i (by omega) (by omega) (by omega), f11 9 i (by omega) (by omega) (by omega)]
      exact e7 i hi
    | some T =>
      obtain ⟨e1, e2, e3, e4, e5, e6, ld, e7⟩ := e'
      refine ⟨(f10 8 (by omega) (by omega)).trans e1, (f10 10 (by omega) (by omega)).trans e2, (f10 11 (by omega) (by omega)).trans e3, ?_, (f10 14 (by omega) (by omega)).trans e5, fun i hi => ?_, ld, (f10 9 (by omega) (by omega)).trans e7.1, e7.2⟩
      · rw [wA_I, f10 12 (by omega) (by omega)]; exact e4
      · rw [wA_I, f11 6 i (by omega) (by omega) (by omega), f11 7 i (by omega) (by omega) (by omega), f11 8 i (by omega) (by omega) (by omega), f11 9 i (by omega) (by omega) (by omega)]
        exact e6 i hi
