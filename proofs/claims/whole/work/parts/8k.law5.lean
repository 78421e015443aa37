/-! LAW: what is told after it -/
def lwD (D : Dt) (e : Ev) : Dt := (dC D, dL D + 1, dH D, upf (dE D) (dL D) e, D.2.2.2.2)
theorem lw_x {τ : Hp} {N : Nat} {g : Nat → Nat → Int32} {R : Nat → Nat → Option Nat} (hg : ∀ b k, 65 ≤ b → b < hN τ → g b k = hI τ b k) (hr : ∀ b k, 65 ≤ b → b < hN τ → R b k = hR τ b k) : XG τ (wA (lawH τ N) g R) ∧ IX τ (hI τ) (hI (wA (lawH τ N) g R)) := by
  obtain ⟨uN, -, -, -, -, uA⟩ := lawH_u τ N
  exact ⟨⟨by show hN τ ≤ hN (lawH τ N); omega, fun a ha => ⟨(uA a ha).1, (uA a ha).2.1, fun h j => hr a j h ha⟩⟩, fun a j h1 h2 _ => hg a j h1 h2⟩
theorem lw_inv {τ : Hp} {D D' : Dt} {lno : Nat → Int32} {ot : Option Tk} {N : Nat} {g : Nat → Nat → Int32} {R : Nat → Nat → Option Nat} (h : Inv τ D lno ot) (hg : ∀ b k, b < hN τ → ¬ (b = 1 ∧ k = 5) → ¬ (b = 48 ∧ 16 ≤ k ∧ k ≤ 20) → ¬ b = 51 → ¬ b = 49 → g b k = hI τ b k) (hr : ∀ b k, b < hN τ → ¬ b = 5 → ¬ (b = 48 ∧ k = 15) → R b k = hR τ b k) (h15 : R 48 15 = some 59) (w : WOs (wA (lawH τ N) g R) 1 49 51 53 D' lno ot) : Inv (wA (lawH τ N) g R) D' lno ot := by
  have n65 := h.1.2.2.2.2.2.1
  obtain ⟨X, ix⟩ := lw_x (τ := τ) (N := N) (g := g) (R := R) (fun b k h1 h2 => hg b k h2 (by omega) (by omega) (by omega) (by omega)) (fun b k h1 h2 => hr b k h2 (by omega) (by omega))
  obtain ⟨uN, ⟨k0, k1, k2, k3⟩, -⟩ := lawH_u τ N
  refine Inv.nw X ix (fun a j h1 h2 => ?_) (fun a j h1 h2 => ?_) ⟨59, h15⟩ ?_ h w
  · unfold NW at h2
    exact hg a j (by omega) (by omega) (by omega) (by omega) (by omega)
  · unfold RWr at h2
    exact hr a j (by omega) (by omega) (by omega)
  · show ¬ hK (lawH τ N) (hN (lawH τ N) - 1) = 1
    rw [uN, show hN τ + 4 - 1 = hN τ + 3 by omega, k3]
    decide
theorem lw_w {τ : Hp} {D : Dt} {lno : Nat → Int32} {ot : Option Tk} {N L : Nat} {g : Nat → Nat → Int32} {R : Nat → Nat → Option Nat} {x : Nat → Int32} {cs : List Int32} {e : Ev} (h : Inv τ D lno ot) (hLL : dL D = L) (hL' : L < 6) (hN' : N ≤ 100) (hg : ∀ b k, b < hN τ → ¬ (b = 1 ∧ k = 5) → ¬ (b = 48 ∧ 16 ≤ k ∧ k ≤ 20) → ¬ (b = 51 ∧ 100 * L ≤ k ∧ k < 100 * L + N) → ¬ (b = 49 ∧ (k = 2 ∨ k = 103 + L)) → g b k = hI τ b k) (hr : ∀ b k, b < hN τ → ¬ (b = 5 ∧ k = L) → ¬ (b = 48 ∧ k = 15) → R b k = hR τ b k) (R5 : R 5 L = some (hN τ)) (g15 : g 1 5 = nI (L + 1)) (g2 : g 49 2 = nI (L + 1)) (gL : g 49 (103 + L) = nI N) (g51 : ∀ i, i < N → g 51 (100 * L + i) = x i) (hs : sumS x N 8 0 0 = (N, some (cs, e))) (lo : LwO (wA (lawH τ N) g R) g (hN τ) e) : WOs (wA (lawH τ N) g R) 1 49 51 53 (lwD D e) lno ot := by
  have n65 := h.1.2.2.2.2.2.1
  obtain ⟨X, ix⟩ := lw_x (τ := τ) (N := N) (g := g) (R := R) (fun b k h1 h2 => hg b k h2 (by omega) (by omega) (by omega) (by omega)) (fun b k h1 h2 => hr b k h2 (by omega) (by omega))
  obtain ⟨⟨c1, c2, c3, c4, c5, c6, c7, c8⟩, ⟨m1, m2, m3, m4, m5, m6, m7, m8, m9, m10⟩, d1, e1, f1, w1⟩ := h.2.1
  have e0 : ∀ b k, b < 48 → ¬ (b = 1 ∧ k = 5) → g b k = hI τ b k := fun b k h1 h2 => hg b k (by omega) h2 (by omega) (by omega) (by omega)
  have e49 : ∀ k, k ≠ 2 → k ≠ 103 + L → g 49 k = hI τ 49 k := fun k h1 h2 => hg 49 k (by omega) (by omega) (by omega) (by omega) (by omega)
  have e53 : ∀ k, g 53 k = hI τ 53 k := fun k => hg 53 k (by omega) (by omega) (by omega) (by omega) (by omega)
  have er : ∀ b k, b < 48 → ¬ (b = 5 ∧ k = L) → R b k = hR τ b k := fun b k h1 h2 => hr b k (by omega) h2 (by omega)
  have eE : ∀ l, l ≠ L → upf (dE D) (dL D) e l = dE D l := fun l hl => upf_n _ _ (by omega)
  have eL : upf (dE D) (dL D) e L = e := by rw [hLL]; exact upf_s _ _ _
  have th := d1.1.2.1
  have cj := d1.1.1
  refine ⟨⟨c1.ext (er 1 · (by omega) (by omega)) (fun i h1 h2 => (X.2 (1 + i) (by omega)).2.1), (e0 1 0 (by omega) (by omega)).trans c2, (e0 1 2 (by omega) (by omega)).trans c3, fun t ht => (e0 2 t (by omega) (by omega)).trans (c4 t ht), fun j hj => ?_, ?_, fun l hl => ?_, ?_⟩, ⟨(e49 0 (by omega) (by omega)).trans m1, (e49 1 (by omega) (by omega)).trans m2, ?_, fun t ht => (e49 _ (by omega) (by have : t < cT (dC D) := ht; omega)).trans (m4 t ht), (e49 3 (by omega) (by omega)).trans m5, (e49 4 (by omega) (by omega)).trans m6, (e49 5 (by omega) (by omega)).trans m7, (e49 6 (by omega) (by omega)).trans m8, fun j hj => ?_, fun l hl => ?_⟩, ⟨d1.1, ?_, fun j hj => ?_⟩, ?_, ?_, ?_⟩
  · obtain ⟨T, t1, t2, t3, t4, t5⟩ := c5 j hj
    exact ⟨T, (er 3 j (by omega) (by omega)).trans t1, t2.ext X ix, (t2.cell (τ := wA (lawH τ N) g R) ix 0).trans t3, (t2.cell (τ := wA (lawH τ N) g R) ix 6).trans t4, (e0 4 j (by omega) (by omega)).trans t5⟩
  · show g 1 5 = nI (dL D + 1)
    rw [hLL]; exact g15
  · have hl' : l < L + 1 := by rw [← hLL]; exact hl
    show ∃ q, R 5 l = some q ∧ LwO (wA (lawH τ N) g R) g q (upf (dE D) (dL D) e l)
    by_cases q : l = L
    · subst q
      rw [eL]
      exact ⟨_, R5, lo⟩
    · obtain ⟨q', q1, q2⟩ := c7 l (by omega)
      rw [eE l q]
      exact ⟨q', (er 5 l (by omega) (by omega)).trans q1, q2.ext X ix⟩
  · show RU g 1 _ _ _ _
    unfold RU
    rw [e0 6 0 (by omega) (by omega), e0 6 1 (by omega) (by omega), e0 6 2 (by omega) (by omega), e0 6 3 (by omega) (by omega)]
    exact c8
  · show g 49 2 = nI (dL D + 1)
    rw [hLL]; exact g2
  · have hj' : j < cJ (dC D) := hj
    show g 49 _ = _ ∧ g 49 _ = _ ∧ g 49 _ = _ ∧ g 49 _ = _ ∧ g 49 _ = _ ∧ g 49 _ = _ ∧ g 49 _ = _
    rw [e49 _ (by omega) (by omega), e49 _ (by omega) (by omega), e49 _ (by omega) (by omega), e49 _ (by omega) (by omega), e49 _ (by omega) (by omega), e49 _ (by omega) (by omega), e49 _ (by omega) (by omega)]
    exact m9 j hj
  · have hl' : l < L + 1 := by rw [← hLL]; exact hl
    show ∃ N' x cs, g 49 (103 + l) = nI N' ∧ N' ≤ 100 ∧ (∀ i, i < N' → g 51 (100 * l + i) = x i) ∧ sumS x N' 8 0 0 = (N', some (cs, upf (dE D) (dL D) e l))
    by_cases q : l = L
    · subst q
      rw [eL]
      exact ⟨N, x, cs, gL, hN', g51, hs⟩
    · obtain ⟨N', y, cs', n1, n2, n3, n4⟩ := m10 l (by omega)
      rw [eE l q]
      exact ⟨N', y, cs', (e49 _ (by omega) (by omega)).trans n1, n2, fun i hi => (hg 51 _ (by omega) (by omega) (by omega) (by omega) (by omega)).trans (n3 i hi), n4⟩
  · show dL D + 1 ≤ 6
    omega
  · show isS (cT (dC D)) (dH D j) ∧ ¬ cH (dC D) j < 0 ∧ ((lno j = -1 ∧ cE (dC D) j = evP) ∨ ∃ l, l < dL D + 1 ∧ lno j = nI l ∧ cE (dC D) j = upf (dE D) (dL D) e l)
    obtain ⟨a1, a2, a3⟩ := d1.2.2 j hj
    refine ⟨a1, a2, ?_⟩
    rcases a3 with a3 | ⟨l, l1, l2, l3⟩
    · exact Or.inl a3
    · exact Or.inr ⟨l, by omega, l2, by rw [eE l (by omega)]; exact l3⟩
  · cases ot with
    | none =>
      obtain ⟨e1, e2, e3, e4, e5, e6, e7⟩ := e1
      exact ⟨(e0 1 8 (by omega) (by omega)).trans e1, (e0 1 10 (by omega) (by omega)).trans e2, (e0 1 11 (by omega) (by omega)).trans e3, (e0 1 12 (by omega) (by omega)).trans e4, (e0 1 13 (by omega) (by omega)).trans e5, e6, fun i hi => ⟨(e0 7 i (by omega) (by omega)).trans (e7 i hi).1, (e0 8 i (by omega) (by omega)).trans (e7 i hi).2.1, (e0 9 i (by omega) (by omega)).trans (e7 i hi).2.2.1, (e0 10 i (by omega) (by omega)).trans (e7 i hi).2.2.2⟩⟩
    | some T =>
      obtain ⟨e1, e2, e3, e4, e5, e6, ld, e7⟩ := e1
      refine ⟨(e0 1 8 (by omega) (by omega)).trans e1, (e0 1 10 (by omega) (by omega)).trans e2, (e0 1 11 (by omega) (by omega)).trans e3, by rw [wA_I, e0 1 12 (by omega) (by omega)]; exact e4, (e0 1 14 (by omega) (by omega)).trans e5, fun i hi => ⟨(e0 7 i (by omega) (by omega)).trans (e6 i hi).1, (e0 8 i (by omega) (by omega)).trans (e6 i hi).2.1, (e0 9 i (by omega) (by omega)).trans (e6 i hi).2.2.1, (e0 10 i (by omega) (by omega)).trans (e6 i hi).2.2.2⟩, ld, (e0 1 9 (by omega) (by omega)).trans e7.1, e7.2⟩
  · cases ot with
    | none =>
      show ¬ g 53 6 = 1
      rw [e53 6]; exact f1
    | some T => exact ⟨(e53 6).trans f1.1, f1.2.1.fr e53, (e53 5).trans f1.2.2.1, fun i hi => (e53 _).trans (f1.2.2.2 i hi)⟩
  · cases ot with
    | none => trivial
    | some T => exact w1
theorem wr_0 {τ : Hp} {d : Nat} (n : Nat) (hB : MB τ) (hd : d < 8) : F_X12_wrongRow n 48 (nI d) 0 τ = some (if hI τ 56 d = 0 then -11 else if hI τ 56 d = 2 then (if hI τ 57 d = 0 then 0 else -12) else -12, τ) := by
  obtain ⟨⟨M0, M1, M2, M3, M4, M5, M6, M7, M8, M9, M10, M11, M12, M28, M29⟩, K49, K50, K51, K52, K53, K54, K55, K56, K57, K58, K59, K60, K61, K62, K63⟩ := hB
  have h0 : ¬ (nI d < 0 ∨ nI 7 < nI d) := by
    rintro (q | q)
    · exact nI_pos (by omega) q
    · exact nI_nlt (a := 7) (b := d) (by omega) (by omega) q
  unfold F_X12_wrongRow F_X12_wrongRow_49
  rw [qk_b2 (ish_m n _ τ), if_neg h0, if_neg (by decide), M7, qk_s1, K56, nI_clamp (by omega), qk_i2 (by omega) (by omega)]
  by_cases c0 : hI τ 56 d = 0
  · rw [if_pos c0, if_pos c0]
  · rw [if_neg c0, if_neg c0, qk_s1, K56, qk_i2 (by omega) (by omega)]
    by_cases c1 : hI τ 56 d = 2
    · rw [if_pos c1, if_pos c1, if_neg (by decide), M8, qk_s1, K57, qk_i2 (by omega) (by omega)]
      by_cases c2 : hI τ 57 d = 0
      · rw [if_pos c2, if_pos c2]
      · rw [if_neg c2, if_neg c2]
    · rw [if_neg c1, if_neg c1]
