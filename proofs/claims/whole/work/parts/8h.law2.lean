/-- what a text is worth: kept as law L, or a fault -/
def lwOk (x : Nat → Int32) (N : Nat) : Prop := (sumS x N 8 0 0).2.isSome = true ∧ (sumS x N 8 0 0).1 = N
def lwNo (x : Nat → Int32) (N : Nat) : Int32 := -100 - nI (sumS x N 8 0 0).1
theorem law_m {τ : Hp} {g : Nat → Nat → Int32} {d N L : Nat} {x : Nat → Int32} (n : Nat) (hn : 200 < n) (hB : MB (wI τ g)) (hd : d < 8) (hN' : N ≤ 100) (hL' : L < 6) (h2 : g 49 2 = nI L) (k56 : g 56 d = 2) (k57 : g 57 d = 0) (k58 : g 58 d = nI N) (hx : ∀ i, i < N → g 59 (100 * d + i) = x i) : (¬ lwOk x N ∧ ∃ g', F_X12_law n 48 (nI d) (wI τ g) = some (lwNo x N, wM τ g' 59) ∧ ∀ b k, ¬ (b = 48 ∧ 16 ≤ k ∧ k ≤ 20) → g' b k = g b k) ∨ (lwOk x N ∧ ∃ g', F_X12_law n 48 (nI d) (wI τ g) = some (nI L, wM τ g' 59) ∧ (∀ b k, ¬ (b = 48 ∧ 16 ≤ k ∧ k ≤ 20) → ¬ (b = 51 ∧ 100 * L ≤ k ∧ k < 100 * L + N) → ¬ (b = 49 ∧ (k = 2 ∨ k = 103 + L)) → g' b k = g b k) ∧ (∀ i, i < N → g' 51 (100 * L + i) = g 59 (100 * d + i)) ∧ g' 49 (103 + L) = nI N ∧ g' 49 2 = nI (L + 1)) := by
  have hB0 : MB τ := hB
  have hB1 : MB (wM τ (hI τ) 59) := by
    unfold MB at hB0 ⊢
    rw [wM_R (by decide), wM_R (by decide), wM_R (by decide), wM_R (by decide), wM_R (by decide), wM_R (by decide), wM_R (by decide), wM_R (by decide), wM_R (by decide), wM_R (by decide), wM_R (by decide), wM_R (by decide), wM_R (by decide), wM_R (by decide), wM_R (by decide)]
    exact hB0
  have hBx := hB0
  obtain ⟨⟨M0, M1, M2, M3, M4, M5, M6, M7, M8, M9, M10, M11, M12, M28, M29⟩, K49, K50, K51, K52, K53, K54, K55, K56, K57, K58, K59, K60, K61, K62, K63⟩ := hBx
  have hds : ¬ (nI d < 0 ∨ nI 7 < nI d) := by
    rintro (q | q)
    · exact nI_pos (by omega) q
    · exact nI_nlt (a := 7) (b := d) (by omega) (by omega) q
  obtain ⟨g0, hg0⟩ : ∃ g0, up2 (up2 (up2 (up2 g 48 17 (nI (100 * d))) 48 18 (nI N)) 48 16 0) 48 19 0 = g0 := ⟨_, rfl⟩
  sorry
