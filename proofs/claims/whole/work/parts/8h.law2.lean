/-- what a text is worth: kept as law L, or a fault -/
def lwOk (x : Nat → Int32) (N : Nat) : Prop := (sumS x N 8 0 0).2.isSome = true ∧ (sumS x N 8 0 0).1 = N
def lwNo (x : Nat → Int32) (N : Nat) : Int32 := -100 - nI (sumS x N 8 0 0).1
theorem law_m {τ : Hp} {g : Nat → Nat → Int32} {d N L : Nat} {x : Nat → Int32} (n : Nat) (hn : 200 < n) (hB : MB (wI τ g)) (hd : d < 8) (hN' : N ≤ 100) (hL' : L < 6) (h2 : g 49 2 = nI L) (k56 : g 56 d = 2) (k57 : g 57 d = 0) (k58 : g 58 d = nI N) (hx : ∀ i, i < N → g 59 (100 * d + i) = x i) : (¬ lwOk x N ∧ ∃ g', F_X12_law n 48 (nI d) (wI τ g) = some (lwNo x N, wM τ g' 59) ∧ ∀ b k, ¬ (b = 48 ∧ 16 ≤ k ∧ k ≤ 20) → g' b k = g b k) ∨ (lwOk x N ∧ ∃ g', F_X12_law n 48 (nI d) (wI τ g) = some (nI L, wM τ g' 59) ∧ (∀ b k, ¬ (b = 48 ∧ 16 ≤ k ∧ k ≤ 20) → ¬ (b = 51 ∧ 100 * L ≤ k ∧ k < 100 * L + N) → ¬ (b = 49 ∧ (k = 2 ∨ k = 103 + L)) → g' b k = g b k) ∧ (∀ i, i < N → g' 51 (100 * L + i) = g 59 (100 * d + i)) ∧ g' 49 (103 + L) = nI N ∧ g' 49 2 = nI (L + 1)) := by
  have hB0 : MB τ := hB
  have hB1 : MB (wM τ (hI τ) 59) := by
    unfold MB at hB0 ⊢
    rw [wM_R (by decide), wM_R (by decide), wM_R (by decide), wM_R (by decide), wM_R (by decide), wM_R (by decide), wM_R (by decide), wM_R (by decide), wM_R (by decide), wM_R (by decide), wM_R (by decide), wM_R (by decide), wM_R (by decide), wM_R (by decide), wM_R (by decide)]
    exact hB0
  have hBx := hB0
  obtain ⟨⟨M0, M1, M2, M3, M4, M5, M6, M7, M8, M9, M10, M11, M12, M28, M29⟩, K49, K50, K51, K52, K53, K54, K55, K56, K57, K58, K59, K60, K61, K62, K63⟩ := hBx
  have hds : ¬ (nI d < 0 ∨ nI 7 < nI d) := by
    rintro (q | q)
    · exact nI_pos (by omega) q
    · exact nI_nlt (a := 7) (b := d) (by omega) (by omega) q
  obtain ⟨g0, hg0⟩ : ∃ g0, up2 (up2 (up2 (up2 g 48 17 (nI (100 * d))) 48 18 (nI N)) 48 16 0) 48 19 0 = g0 := ⟨_, rfl⟩
  have e0 : ∀ b k, ¬ (b = 48 ∧ 16 ≤ k ∧ k ≤ 20) → g0 b k = g b k := fun b k h => by
    rw [← hg0]; unfold up2; rw [if_neg (by omega), if_neg (by omega), if_neg (by omega), if_neg (by omega)]
  have v16 : g0 48 16 = nI 0 := by rw [← hg0, up_j (by omega), up_s]; rfl
  have v17 : g0 48 17 = nI (100 * d) := by rw [← hg0, up_j (by omega), up_j (by omega), up_j (by omega), up_s]
  have v18 : g0 48 18 = nI N := by rw [← hg0, up_j (by omega), up_j (by omega), up_s]
  have v19 : g0 48 19 = nI 0 := by rw [← hg0, up_s]; rfl
  have hS : TxS (wM τ (hI τ) 59) 59 (100 * d) N := ⟨up_s (hR τ) 48 15 (some 59), by omega, by rw [wM_L, K59]; omega, by rw [wM_L, K59]; omega, hN'⟩
  obtain ⟨g1, a1, a2, a3, -⟩ := sum_m (x := x) n hn hS 8 0 (by omega) (by omega) 0 g0 (by omega) ⟨v16, v17, v18, fun i hi => (e0 59 _ (by omega)).trans (hx i hi)⟩ v19
  have e1 : ∀ b k, ¬ (b = 48 ∧ 16 ≤ k ∧ k ≤ 20) → g1 b k = g b k := fun b k h => by
    by_cases q : b = 48
    · subst q
      rw [a2.2 k (by unfold J3; omega)]; exact e0 48 k h
    · rw [a2.1 b q]; exact e0 b k h
  have pre : ∀ R, (if (if (sumS x N 8 0 0).2.isSome then (1 : Int32) else 0) = 0 then F_X12_law_90 n 48 (wM τ g1 59) else if g1 48 16 = g1 48 18 then F_X12_law_100 n n 48 0 (wM τ g1 59) else F_X12_law_90 n 48 (wM τ g1 59)) = R → F_X12_law n 48 (nI d) (wI τ g) = R := fun R hR => by
    have nL : ¬ nI L = 6 := fun q => by
      have := (nI_eq (a := L) (b := 6) (by omega) (by omega)).mp q
      omega
    have wr : F_X12_wrongRow n 48 (nI d) 0 (wI τ g) = some (0, wI τ g) := by
      unfold F_X12_wrongRow F_X12_wrongRow_49
      rw [qk_b2 (ish_m n _ _), if_neg hds, if_neg (by decide), wI_R, M7, qk_s1, wI_L, K56, nI_clamp (by omega), qk_i2 (by omega) (by omega), wI_I, k56, if_neg (by decide), qk_s1, K56, qk_i2 (by omega) (by omega), k56, if_pos rfl, if_neg (by decide), M8, qk_s1, K57, qk_i2 (by omega) (by omega), k57, if_pos rfl]
    have p15 : pR (wI τ g) 48 15 (some 59) = wM τ g 59 := rfl
    have h100 : (100 : Int32) * nI d = nI (100 * d) := nI_mul 100 d
    have a1' : F_X12_readsSum n 8 48 (wM τ g0 59) = some (if (sumS x N 8 0 0).2.isSome then 1 else 0, wM τ g1 59) := a1
    unfold F_X12_law
    rw [qk_b2 (ish_m n _ _), if_neg hds, if_neg (by decide), wI_R, M0, qk_s1, z_2, wI_L, K49, kq_2 (by decide), wI_I, h2, if_neg nL, qk_b2 wr, if_pos rfl, wI_R, M10, qk_s1, p15, qk_lt, wM_p, qk_lt, wM_R (by decide), M9, qk_s1, wM_L, K58, nI_clamp (by omega), qk_i2 (by omega) (by omega), wM_I, up_i (by omega), k58, wM_p, qk_lt, wM_p, qk_lt, wM_p, qk_lt, h100, hg0, qk_b2 a1']
    exact hR
  have n90 : F_X12_law_90 n 48 (wM τ g1 59) = some (lwNo x N, wM τ g1 59) := by
    unfold F_X12_law_90 lwNo
    rw [wM_I, a3.1]
  have rN : (sumS x N 8 0 0).1 ≤ N := (sumS_ok (x := x) (N := N) 8 0 0).2.1 (by omega)
  have i18 : g1 48 18 = nI N := a3.2.2.1
  by_cases ok : lwOk x N
  · obtain ⟨g2, l1, l2, l3, l4, l5⟩ := lw_100 (τ := wM τ (hI τ) 59) (g := g1) (d := d) (L := L) n (by omega) hB1 hd hL' hN' i18 a3.2.1 ((e1 49 2 (by omega)).trans h2)
    refine Or.inr ⟨ok, g2, pre _ ?_, fun b k h1 h2 h3 => (l2 b k h2 h3).trans (e1 b k h1), fun i hi => (l3 i hi).trans (e1 59 _ (by omega)), l4, l5⟩
    rw [ok.1, if_pos rfl, if_neg (by decide), a3.1, i18, ok.2, if_pos rfl]
    exact l1
  · refine Or.inl ⟨ok, g1, pre _ ?_, e1⟩
    by_cases c : (sumS x N 8 0 0).2.isSome = true
    · have c2 : ¬ (sumS x N 8 0 0).1 = N := fun q => ok ⟨c, q⟩
      rw [c, if_pos rfl, if_neg (by decide), a3.1, i18, if_neg (fun q => c2 ((nI_eq (by omega) (by omega)).mp q)), n90]
    · rw [if_neg c, if_pos rfl, n90]
