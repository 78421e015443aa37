/-! LAW: the model keeps a text -/
theorem cp_off {ρ : Type} (F : Nat → Nat → (Nat → Nat → Int32) → Option ρ) (K : (Nat → Nat → Int32) → Option ρ) (P : (Nat → Nat → Int32) → Prop) (a oa b ob m : Nat) (hab : a ≠ b) (hP : ∀ h k v, P h → P (up2 h b (ob + k) v)) (hs : ∀ i f h, P h → i < m → F (f + 1) i h = F f (i + 1) (up2 h b (ob + i) (h a (oa + i)))) (he : ∀ f h, P h → F (f + 1) m h = K h) (n : Nat) (hn : m < n) (g : Nat → Nat → Int32) (hg : P g) : ∃ g', F n 0 g = K g' ∧ P g' ∧ Fr (fun p k => p = b ∧ ob ≤ k ∧ k < ob + m) g g' ∧ ∀ i, i < m → g' b (ob + i) = g a (oa + i) := by
  have key : ∀ q i f (h : Nat → Nat → Int32), q + i = m → q < f → P h → Fr (fun p k => p = b ∧ ob ≤ k ∧ k < ob + m) g h → (∀ j, j < i → h b (ob + j) = g a (oa + j)) → ∃ g', F f i h = K g' ∧ P g' ∧ Fr (fun p k => p = b ∧ ob ≤ k ∧ k < ob + m) g g' ∧ ∀ i, i < m → g' b (ob + i) = g a (oa + i) := by
    intro q
    induction q with
    | zero =>
      intro i f h hi hf p0 p1 p2
      obtain ⟨f, rfl⟩ : ∃ q, f = q + 1 := ⟨f - 1, by omega⟩
      obtain rfl : i = m := by omega
      exact ⟨h, he f h p0, p0, p1, p2⟩
    | succ q ih =>
      intro i f h hi hf p0 p1 p2
      obtain ⟨f, rfl⟩ : ∃ q, f = q + 1 := ⟨f - 1, by omega⟩
      rw [hs i f h p0 (by omega), p1 a (oa + i) (fun y => hab y.1)]
      refine ih (i + 1) f _ (by omega) (by omega) (hP h i _ p0) (p1.up ⟨rfl, by omega, by omega⟩) (fun j hj => ?_)
      by_cases c : j = i
      · rw [c, up_s]
      · rw [up_j (by omega)]; exact p2 j (by omega)
  exact key m 0 n g (by omega) hn hg (Fr.rf _ _) (fun j hj => by omega)
theorem lw_100 {τ : Hp} {g : Nat → Nat → Int32} {d L N : Nat} (n : Nat) (hn : 100 < n) (hB : MB τ) (hd : d < 8) (hL' : L < 6) (hN' : N ≤ 100) (h18 : g 48 18 = nI N) (h17 : g 48 17 = nI (100 * d)) (h2 : g 49 2 = nI L) : ∃ g', F_X12_law_100 n n 48 0 (wI τ g) = some (nI L, wI τ g') ∧ (∀ b k, ¬ (b = 51 ∧ 100 * L ≤ k ∧ k < 100 * L + N) → ¬ (b = 49 ∧ (k = 2 ∨ k = 103 + L)) → g' b k = g b k) ∧ (∀ i, i < N → g' 51 (100 * L + i) = g 59 (100 * d + i)) ∧ g' 49 (103 + L) = nI N ∧ g' 49 2 = nI (L + 1) := by
  obtain ⟨⟨M0, M1, M2, M3, M4, M5, M6, M7, M8, M9, M10, M11, M12, M28, M29⟩, K49, K50, K51, K52, K53, K54, K55, K56, K57, K58, K59, K60, K61, K62, K63⟩ := hB
  obtain ⟨g1, a1, ⟨q18, q17, q2⟩, a2, a3⟩ := cp_off (fun f i h => F_X12_law_100 n f 48 (nI i) (wI τ h)) (fun h => F_X12_law_141 n 48 (wI τ h)) (fun h => h 48 18 = nI N ∧ h 48 17 = nI (100 * d) ∧ h 49 2 = nI L) 59 (100 * d) 51 (100 * L) N (by omega) (fun h k v p => ⟨(up_i (by omega)).trans p.1, (up_i (by omega)).trans p.2.1, (up_i (by omega)).trans p.2.2⟩) (fun i f h p hi => by
    simp only [F_X12_law_100]
    rw [wI_I, p.1, if_neg (nI_ge hi (by omega)), wI_R, M2, qk_s1, M0, qk_s1, z_2, wI_L, K49, kq_2 (by decide), M10, qk_s1, p.2.1, p.2.2, nI_add, a100, K59, K51, qk_in (by omega) (by omega), qk_in (by omega) (by omega), nI_clamp (by omega), nI_clamp (by omega), wI_p, qk_lt, ← nI_succ]) (fun f h p => by
    simp only [F_X12_law_100]
    rw [wI_I, p.1, if_pos (nI_le (Nat.le_refl _) (by omega))]) n (by omega) g ⟨h18, h17, h2⟩
  refine ⟨up2 (up2 g1 49 (103 + L) (nI N)) 49 2 (nI (L + 1)), ?_, fun b k h1 h2 => ?_, fun i hi => ?_, ?_, up_s _ _ _ _⟩
  · have s1 : F_X12_law_100 n n 48 0 (wI τ g) = F_X12_law_141 n 48 (wI τ g1) := a1
    have l103 : (103 : Int32) + nI L = nI (103 + L) := nI_add 103 L
    rw [s1]
    unfold F_X12_law_141
    rw [wI_R, M0, qk_s1, qk_s1, z_2, wI_L, K49, kq_2 (by decide), wI_I, q2, l103, qk_in (by omega) (by omega), nI_clamp (by omega), q18, wI_p, qk_lt, wI_R, M0, qk_s1, wI_L, K49, kq_2 (by decide), kq_2 (by decide), wI_I, up_j (by omega), q2, nI_1, wI_p, qk_lt, wI_R, M0, qk_s1, wI_L, K49, kq_2 (by decide), wI_I, up_s, nI_s1]
  · unfold up2; rw [if_neg (by omega), if_neg (by omega)]; exact a2 b k h1
  · rw [up_i (by omega), up_i (by omega)]; exact a3 i hi
  · rw [up_j (by omega), up_s]
