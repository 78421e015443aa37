/-! becomeLike -/
theorem la_g {τ : Hp} {r l L : Nat} (n : Nat) (hR' : RL τ r) (h5 : hI τ r 5 = nI L) (hl : l < 6) (hL' : L ≤ 6) : F_X3_lawAt n r (nI l) τ = some (if l < L then hR τ (r + 4) l else none, τ) := by
  obtain ⟨r65, ⟨R1, R3, R4, R6, R7, R15, R16, R17, R18⟩, L1, L2, L3, L4, L5, L6, L7, L8, L9⟩ := hR'
  unfold F_X3_lawAt
  rw [if_neg (nI_pos (by omega)), h5]
  by_cases c : l < L
  · rw [if_pos c, if_neg (nI_ge c (by omega)), R6, qk_s1, L4, if_neg (nI_ge (by omega) (by omega)), qk_s1, L4, qk_in (by omega) (by omega), nI_clamp (by omega), qk_lt]
  · rw [if_neg c, if_pos (nI_le (by omega) (by omega))]
theorem bl_53 {τ : Hp} {g : Nat → Nat → Int32} {R : Nat → Nat → Option Nat} {r o : Nat} (n : Nat) (hn : 12 < n) (hr : RL (wA τ g R) r) (ho : RL (wA τ g R) o) (hro : r + 9 < o ∨ o + 9 < r) (h8 : g o 8 = 0 ∨ g o 8 = 1) : ∃ g', F_X3_becomeLike_53 n r o (wA τ g R) = some (wA τ g' R) ∧ (∀ a k, ¬ (a = r ∧ 8 ≤ k ∧ k ≤ 14) → ¬ (r + 6 ≤ a ∧ a ≤ r + 9) → g' a k = g a k) ∧ (∀ k, 8 ≤ k → k ≤ 14 → g' r k = g o k) ∧ (∀ i k, 6 ≤ i → i ≤ 9 → k < 12 → g' (r + i) k = g (o + i) k) := by
  obtain ⟨r65, ⟨R1, R3, R4, R6, R7, R15, R16, R17, R18⟩, L1, L2, L3, L4, L5, L6, L7, L8, L9⟩ := hr
  obtain ⟨o65, ⟨O1, O3, O4, O6, O7, O15, O16, O17, O18⟩, P1, P2, P3, P4, P5, P6, P7, P8, P9⟩ := ho
  rw [wA_R] at R15 R16 R17 R18 O15 O16 O17 O18
  obtain ⟨g7, hg7⟩ : ∃ g7, up2 (up2 (up2 (up2 (up2 (up2 (up2 g r 8 (g o 8)) r 9 (g o 9)) r 10 (g o 10)) r 11 (g o 11)) r 12 (g o 12)) r 13 (g o 13)) r 14 (g o 14) = g7 := ⟨_, rfl⟩
  have e7 : ∀ a k, ¬ (a = r ∧ 8 ≤ k ∧ k ≤ 14) → g7 a k = g a k := fun a k h => by
    rw [← hg7]; unfold up2
    rw [if_neg (by omega), if_neg (by omega), if_neg (by omega), if_neg (by omega), if_neg (by omega), if_neg (by omega), if_neg (by omega)]
  have v7 : ∀ k, 8 ≤ k → k ≤ 14 → g7 r k = g o k := fun k h1 h2 => by
    rw [← hg7]
    obtain rfl | rfl | rfl | rfl | rfl | rfl | rfl : k = 8 ∨ k = 9 ∨ k = 10 ∨ k = 11 ∨ k = 12 ∨ k = 13 ∨ k = 14 := by omega
    · rw [up_j (by omega), up_j (by omega), up_j (by omega), up_j (by omega), up_j (by omega), up_j (by omega), up_s]
    · rw [up_j (by omega), up_j (by omega), up_j (by omega), up_j (by omega), up_j (by omega), up_s]
    · rw [up_j (by omega), up_j (by omega), up_j (by omega), up_j (by omega), up_s]
    · rw [up_j (by omega), up_j (by omega), up_j (by omega), up_s]
    · rw [up_j (by omega), up_j (by omega), up_s]
    · rw [up_j (by omega), up_s]
    · rw [up_s]
  have ne : o ≠ r := by omega
  obtain ⟨g8, a1, a2, a3⟩ := cpy_c (σ := wA τ g R) (g := g7) n hn (by omega) P6 L6 (show o + 6 ≠ r + 6 by omega)
  obtain ⟨g9, b1', b2', b3'⟩ := cpy_c (σ := wA τ g R) (g := g8) n hn (by omega) P7 L7 (show o + 7 ≠ r + 7 by omega)
  obtain ⟨g10, c1, c2, c3⟩ := cpy_c (σ := wA τ g R) (g := g9) n hn (by omega) P8 L8 (show o + 8 ≠ r + 8 by omega)
  obtain ⟨g11, d1, d2, d3⟩ := cpy_c (σ := wA τ g R) (g := g10) n hn (by omega) P9 L9 (show o + 9 ≠ r + 9 by omega)
  rw [wA_w, wA_w] at a1 b1' c1 d1
  refine ⟨g11, ?_, fun a k h1 h2 => ?_, fun k h1 h2 => ?_, fun i k h1 h2 h3 => ?_⟩
  · unfold F_X3_becomeLike_53
    rw [wA_I, qk_ck h8, wA_p, qk_lt, wA_I, up_i ne, wA_p, qk_lt, wA_I, up_i ne, up_i ne, wA_p, qk_lt, wA_I, up_i ne, up_i ne, up_i ne, wA_p, qk_lt, wA_I, up_i ne, up_i ne, up_i ne, up_i ne, wA_p, qk_lt, wA_I, up_i ne, up_i ne, up_i ne, up_i ne, up_i ne, wA_p, qk_lt, wA_I, up_i ne, up_i ne, up_i ne, up_i ne, up_i ne, up_i ne, wA_p, qk_lt, hg7, wA_R, O15, qk_s1, R15, qk_s1, qk_b1 a1, wA_R, O16, qk_s1, R16, qk_s1, qk_b1 b1', wA_R, O17, qk_s1, R17, qk_s1, qk_b1 c1, wA_R, O18, qk_s1, R18, qk_s1, qk_b1 d1]
  · rw [d2 a k (by omega), c2 a k (by omega), b2' a k (by omega), a2 a k (by omega)]; exact e7 a k h1
  · rw [d2 r k (by omega), c2 r k (by omega), b2' r k (by omega), a2 r k (by omega)]; exact v7 k h1 h2
  · obtain rfl | rfl | rfl | rfl : i = 6 ∨ i = 7 ∨ i = 8 ∨ i = 9 := by omega
    · rw [d2 _ k (by omega), c2 _ k (by omega), b2' _ k (by omega), a3 k h3]; exact e7 _ k (by omega)
    · rw [d2 _ k (by omega), c2 _ k (by omega), b3' k h3, a2 _ k (by omega)]; exact e7 _ k (by omega)
    · rw [d2 _ k (by omega), c3 k h3, b2' _ k (by omega), a2 _ k (by omega)]; exact e7 _ k (by omega)
    · rw [d3 k h3, c2 _ k (by omega), b2' _ k (by omega), a2 _ k (by omega)]; exact e7 _ k (by omega)
