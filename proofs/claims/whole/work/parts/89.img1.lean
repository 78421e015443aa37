/-! IMAGE, RESTORE: the model's copying -/
theorem cp_go {ρ : Type} (F : Nat → Nat → (Nat → Nat → Int32) → Option ρ) (K : (Nat → Nat → Int32) → Option ρ) (a b m : Nat) (hab : a ≠ b) (hs : ∀ i f h, i < m → F (f + 1) i h = F f (i + 1) (up2 h b i (h a i))) (he : ∀ f h, F (f + 1) m h = K h) (n : Nat) (hn : m < n) (g : Nat → Nat → Int32) : ∃ g', F n 0 g = K g' ∧ Fr (fun p k => p = b ∧ k < m) g g' ∧ ∀ i, i < m → g' b i = g a i := by
  have key : ∀ q i f (h : Nat → Nat → Int32), q + i = m → q < f → Fr (fun p k => p = b ∧ k < m) g h → (∀ j, j < i → h b j = g a j) → ∃ g', F f i h = K g' ∧ Fr (fun p k => p = b ∧ k < m) g g' ∧ ∀ i, i < m → g' b i = g a i := by
    intro q
    induction q with
    | zero =>
      intro i f h hi hf p1 p2
      obtain ⟨f, rfl⟩ : ∃ q, f = q + 1 := ⟨f - 1, by omega⟩
      obtain rfl : i = m := by omega
      exact ⟨h, he f h, p1, p2⟩
    | succ q ih =>
      intro i f h hi hf p1 p2
      obtain ⟨f, rfl⟩ : ∃ q, f = q + 1 := ⟨f - 1, by omega⟩
      rw [hs i f h (by omega), p1 a i (fun y => hab y.1)]
      refine ih (i + 1) f _ (by omega) (by omega) (p1.up ⟨rfl, by omega⟩) (fun j hj => ?_)
      by_cases c : j = i
      · rw [c, up_s]
      · rw [up_j c]; exact p2 j (by omega)
  exact key m 0 n g (by omega) hn (Fr.rf _ _) (fun j hj => by omega)
theorem img_m {τ : Hp} {g : Nat → Nat → Int32} (n : Nat) (hn : 600 < n) (hB : MB τ) : ∃ g', F_X12_image n 48 (wI τ g) = some (g 49 1, wI τ g') ∧ (∀ b k, b ≠ 50 → b ≠ 55 → b ≠ 52 → ¬ (b = 48 ∧ k = 13) → g' b k = g b k) ∧ (∀ k, k < 109 → g' 50 k = g 49 k) ∧ (∀ k, k < 67 → g' 55 k = g 53 k) ∧ (∀ k, k < 600 → g' 52 k = g 51 k) ∧ g' 48 13 = 1 := by
  obtain ⟨⟨M0, M1, M2, M3, M4, M5, M6, M7, M8, M9, M10, M11, M12, M28, M29⟩, K49, K50, K51, K52, K53, K54, K55, K56, K57, K58, K59, K60, K61, K62, K63⟩ := hB
  obtain ⟨g1, a1, a2, a3⟩ := cp_go (fun f i h => F_X12_image_2 n f 48 (nI i) (wI τ h)) (fun h => F_X12_image_26 n 48 (wI τ h)) 49 50 109 (by omega) (fun i f h hi => by
    simp only [F_X12_image_2]
    rw [if_neg (show ¬ (109 : Int32) ≤ nI i from nI_ge (b := 109) hi (by omega)), wI_R, M1, qk_s1, M0, qk_s1, wI_L, K49, K50, qk_in hi (by omega), qk_in hi (by omega), nI_clamp (by omega), wI_I, wI_p, qk_lt, ← nI_succ]) (fun f h => by
    simp only [F_X12_image_2]
    rw [if_pos (show (109 : Int32) ≤ nI 109 from nI_le (Nat.le_refl _) (by omega))]) n (by omega) g
  obtain ⟨g2, b1', b2', b3'⟩ := cp_go (fun f i h => F_X12_image_28 n f 48 (nI i) (wI τ h)) (fun h => F_X12_image_52 n 48 (wI τ h)) 53 55 67 (by omega) (fun i f h hi => by
    simp only [F_X12_image_28]
    rw [if_neg (show ¬ (67 : Int32) ≤ nI i from nI_ge (b := 67) hi (by omega)), wI_R, M6, qk_s1, M4, qk_s1, wI_L, K53, K55, qk_in hi (by omega), qk_in hi (by omega), nI_clamp (by omega), wI_I, wI_p, qk_lt, ← nI_succ]) (fun f h => by
    simp only [F_X12_image_28]
    rw [if_pos (show (67 : Int32) ≤ nI 67 from nI_le (Nat.le_refl _) (by omega))]) n (by omega) g1
  obtain ⟨g3, c1, c2, c3⟩ := cp_go (fun f i h => F_X12_image_54 n f 48 (nI i) (wI τ h)) (fun h => F_X12_image_79 n 48 (wI τ h)) 51 52 600 (by omega) (fun i f h hi => by
    simp only [F_X12_image_54]
    rw [if_neg (show ¬ (600 : Int32) ≤ nI i from nI_ge (b := 600) hi (by omega)), wI_R, M3, qk_s1, M2, qk_s1, wI_L, K51, K52, qk_in hi (by omega), qk_in hi (by omega), nI_clamp (by omega), wI_I, wI_p, qk_lt, ← nI_succ]) (fun f h => by
    simp only [F_X12_image_54]
    rw [if_pos (show (600 : Int32) ≤ nI 600 from nI_le (Nat.le_refl _) (by omega))]) n (by omega) g2
  have e3 : ∀ b k, b ≠ 50 → b ≠ 55 → b ≠ 52 → g3 b k = g b k := fun b k h1 h2 h3 => ((c2 b k (by omega)).trans (b2' b k (by omega))).trans (a2 b k (by omega))
  refine ⟨up2 g3 48 13 1, ?_, fun b k h1 h2 h3 h4 => ?_, fun k hk => ?_, fun k hk => ?_, fun k hk => ?_, up_s _ _ _ _⟩
  · have s1 : F_X12_image n 48 (wI τ g) = F_X12_image_26 n 48 (wI τ g1) := a1
    have s2 : F_X12_image_26 n 48 (wI τ g1) = F_X12_image_52 n 48 (wI τ g2) := b1'
    have s3 : F_X12_image_52 n 48 (wI τ g2) = F_X12_image_79 n 48 (wI τ g3) := c1
    rw [s1, s2, s3]
    unfold F_X12_image_79
    rw [wI_p, qk_lt, wI_R, M0, qk_s1, z_1, wI_L, K49, kq_1 (by decide), wI_I, up_i (by omega), e3 49 1 (by omega) (by omega) (by omega)]
  · unfold up2; rw [if_neg h4]; exact e3 b k h1 h2 h3
  · rw [up_i (by omega), c2 50 k (by omega), b2' 50 k (by omega)]; exact a3 k hk
  · rw [up_i (by omega), c2 55 k (by omega), b3' k hk]; exact a2 53 k (by omega)
  · rw [up_i (by omega), c3 k hk, b2' 51 k (by omega)]; exact a2 51 k (by omega)
theorem rst_m {τ : Hp} {g : Nat → Nat → Int32} (n : Nat) (hn : 600 < n) (hB : MB τ) (h13 : ¬ g 48 13 = 0) : ∃ g', F_X12_restore n 48 (wI τ g) = some (g 50 1, wI τ g') ∧ (∀ b k, b ≠ 49 → b ≠ 53 → b ≠ 51 → g' b k = g b k) ∧ (∀ k, k < 109 → g' 49 k = g 50 k) ∧ (∀ k, k < 67 → g' 53 k = g 55 k) ∧ (∀ k, k < 600 → g' 51 k = g 52 k) := by
  obtain ⟨⟨M0, M1, M2, M3, M4, M5, M6, M7, M8, M9, M10, M11, M12, M28, M29⟩, K49, K50, K51, K52, K53, K54, K55, K56, K57, K58, K59, K60, K61, K62, K63⟩ := hB
  obtain ⟨g1, a1, a2, a3⟩ := cp_go (fun f i h => F_X12_restore_12 n f 48 (nI i) (wI τ h)) (fun h => F_X12_restore_36 n 48 (wI τ h)) 50 49 109 (by omega) (fun i f h hi => by
    simp only [F_X12_restore_12]
    rw [if_neg (show ¬ (109 : Int32) ≤ nI i from nI_ge (b := 109) hi (by omega)), wI_R, M0, qk_s1, M1, qk_s1, wI_L, K49, K50, qk_in hi (by omega), qk_in hi (by omega), nI_clamp (by omega), wI_I, wI_p, qk_lt, ← nI_succ]) (fun f h => by
    simp only [F_X12_restore_12]
    rw [if_pos (show (109 : Int32) ≤ nI 109 from nI_le (Nat.le_refl _) (by omega))]) n (by omega) g
  obtain ⟨g2, b1', b2', b3'⟩ := cp_go (fun f i h => F_X12_restore_38 n f 48 (nI i) (wI τ h)) (fun h => F_X12_restore_62 n 48 (wI τ h)) 55 53 67 (by omega) (fun i f h hi => by
    simp only [F_X12_restore_38]
    rw [if_neg (show ¬ (67 : Int32) ≤ nI i from nI_ge (b := 67) hi (by omega)), wI_R, M4, qk_s1, M6, qk_s1, wI_L, K53, K55, qk_in hi (by omega), qk_in hi (by omega), nI_clamp (by omega), wI_I, wI_p, qk_lt, ← nI_succ]) (fun f h => by
    simp only [F_X12_restore_38]
    rw [if_pos (show (67 : Int32) ≤ nI 67 from nI_le (Nat.le_refl _) (by omega))]) n (by omega) g1
  obtain ⟨g3, c1, c2, c3⟩ := cp_go (fun f i h => F_X12_restore_64 n f 48 (nI i) (wI τ h)) (fun h => F_X12_restore_89 n 48 (wI τ h)) 52 51 600 (by omega) (fun i f h hi => by
    simp only [F_X12_restore_64]
    rw [if_neg (show ¬ (600 : Int32) ≤ nI i from nI_ge (b := 600) hi (by omega)), wI_R, M2, qk_s1, M3, qk_s1, wI_L, K51, K52, qk_in hi (by omega), qk_in hi (by omega), nI_clamp (by omega), wI_I, wI_p, qk_lt, ← nI_succ]) (fun f h => by
    simp only [F_X12_restore_64]
    rw [if_pos (show (600 : Int32) ≤ nI 600 from nI_le (Nat.le_refl _) (by omega))]) n (by omega) g2
  refine ⟨g3, ?_, fun b k h1 h2 h3 => ((c2 b k (by omega)).trans (b2' b k (by omega))).trans (a2 b k (by omega)), fun k hk => ?_, fun k hk => ?_, fun k hk => ?_⟩
  · have s1 : F_X12_restore_12 n n 48 0 (wI τ g) = F_X12_restore_36 n 48 (wI τ g1) := a1
    have s2 : F_X12_restore_36 n 48 (wI τ g1) = F_X12_restore_62 n 48 (wI τ g2) := b1'
    have s3 : F_X12_restore_62 n 48 (wI τ g2) = F_X12_restore_89 n 48 (wI τ g3) := c1
    unfold F_X12_restore
    rw [wI_I, if_neg h13, s1, s2, s3]
    unfold F_X12_restore_89
    rw [wI_R, M0, qk_s1, z_1, wI_L, K49, kq_1 (by decide), wI_I, c2 49 1 (by omega), b2' 49 1 (by omega), a3 1 (by omega)]
  · rw [c2 49 k (by omega), b2' 49 k (by omega)]; exact a3 k hk
  · rw [c2 53 k (by omega), b3' k hk]; exact a2 55 k (by omega)
  · rw [c3 k hk, b2' 52 k (by omega)]; exact a2 52 k (by omega)
