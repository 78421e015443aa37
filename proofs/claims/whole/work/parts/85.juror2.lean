def jB (L : Nat) (a b c d : Int32) : Prop := ((a < 0 ∨ 7999 < a) ∨ (a - a / 100 * 100 < 1 ∨ 30 < a - a / 100 * 100)) ∨ (b < -99 ∨ 99 < b) ∨ (c < 0 ∨ 999 < c) ∨ (d < -1 ∨ nI L ≤ d)
theorem jc_no {τ : Hp} {L : Nat} {a b c d : Int32} (n : Nat) (h0 : hR τ 0 0 = some 1) (h5 : hI τ 1 5 = nI L) (h : jB L a b c d) : F_X11_juror n 0 a b c d τ = some (-1, τ) := by
  unfold F_X11_juror
  rw [qk_b2 (t1_v n a τ)]
  by_cases c1 : (a < 0 ∨ 7999 < a) ∨ (a - a / 100 * 100 < 1 ∨ 30 < a - a / 100 * 100)
  · rw [if_pos c1, if_pos rfl]
  rw [if_neg c1, if_neg (by decide)]
  by_cases c2 : b < -99
  · rw [if_pos c2]
  rw [if_neg c2]
  by_cases c3 : 99 < b
  · rw [if_pos c3]
  rw [if_neg c3]
  by_cases c4 : c < 0
  · rw [if_pos c4]
  rw [if_neg c4]
  by_cases c5 : c ≤ 999
  · rw [if_pos c5]
    by_cases c6 : d < -1
    · rw [if_pos c6]
    rw [if_neg c6, h0, qk_s1, h5, if_neg (Int32.not_lt.mpr ?_)]
    rcases h with h | (h | h) | (h | h) | h | h
    · exact absurd h c1
    · exact absurd h c2
    · exact absurd h c3
    · exact absurd h c4
    · exact absurd h (Int32.not_lt.mpr c5)
    · exact absurd h c6
    · exact h
  · rw [if_neg c5]
theorem jc_ok {τ : Hp} {L : Nat} {a b c d : Int32} {R : Option (Int32 × Hp)} (n : Nat) (h0 : hR τ 0 0 = some 1) (h5 : hI τ 1 5 = nI L) (h : ¬ jB L a b c d) (hR : (if (hI τ 1 2) < 12 then (b2 (F_X11_newTurn n 0 (hI τ 1 2) a b c d τ) fun r8 σ7 => b1 (F_X3_sit n 1 r8 0 σ7) fun σ10 => b1 (hR σ10 0 0) fun i11 => lt (pI σ10 i11 8 0) fun σ12 => b1 (hR σ12 0 0) fun i13 => b1 (F_X3_standAsTold n i13 σ12) fun σ14 => b1 (hR σ14 0 0) fun i15 => some ((hI σ14 i15 2) - 1, σ14)) else some (-2, τ)) = R) : F_X11_juror n 0 a b c d τ = R := by
  unfold jB at h
  unfold F_X11_juror
  rw [qk_b2 (t1_v n a τ), if_neg (fun q => h (Or.inl q)), if_neg (by decide), if_neg (fun q => h (Or.inr (Or.inl (Or.inl q)))), if_neg (fun q => h (Or.inr (Or.inl (Or.inr q)))), if_neg (fun q => h (Or.inr (Or.inr (Or.inl (Or.inl q))))), if_pos (nle_lt fun q => h (Or.inr (Or.inr (Or.inl (Or.inr q))))), if_neg (fun q => h (Or.inr (Or.inr (Or.inr (Or.inl q))))), h0, qk_s1, h5, if_pos (Int32.not_le.mp fun q => h (Or.inr (Or.inr (Or.inr (Or.inr q))))), qk_s1, qk_s1, qk_s1]
  exact hR
theorem jm_no {τ : Hp} {L : Nat} {a b c d : Int32} (n : Nat) (hB : MB τ) (h2 : hI τ 49 2 = nI L) (hL : L ≤ 6) (h : jB L a b c d) : F_X12_juror n 48 a b c d τ = some (-1, τ) := by
  obtain ⟨⟨M0, M1, M2, M3, M4, M5, M6, M7, M8, M9, M10, M11, M12, M28, M29⟩, K49, K50, K51, K52, K53, K54, K55, K56, K57, K58, K59, K60, K61, K62, K63⟩ := hB
  unfold F_X12_juror
  rw [qk_b2 (isIn_v n (y := 0) (z := 7999) a 0 7999 rfl rfl rfl _)]
  by_cases c1 : a < 0 ∨ 7999 < a
  · rw [if_pos c1, if_pos rfl]
  rw [if_neg c1, if_neg (by decide), qk_b2 (isIn_v n (y := 1) (z := 30) (a - a / 100 * 100) 1 30 rfl rfl rfl _)]
  by_cases c2 : a - a / 100 * 100 < 1 ∨ 30 < a - a / 100 * 100
  · rw [if_pos c2, if_pos rfl]
  rw [if_neg c2, if_neg (by decide), qk_b2 (isIn_v n (y := -99) (z := 99) b (-99) 99 rfl rfl rfl _)]
  by_cases c3 : b < -99 ∨ 99 < b
  · rw [if_pos c3, if_pos rfl]
  rw [if_neg c3, if_neg (by decide), qk_b2 (isIn_v n (y := 0) (z := 999) c 0 999 rfl rfl rfl _)]
  by_cases c4 : c < 0 ∨ 999 < c
  · rw [if_pos c4, if_pos rfl]
  have c5 : d < -1 ∨ nI L - 1 < d := by
    rcases h with (h | h) | h | h | h
    · exact absurd h c1
    · exact absurd h c2
    · exact absurd h c3
    · exact absurd h c4
    · exact h.imp id (nI_p1 (by omega)).mpr
  rw [if_neg c4, if_neg (by decide), M0, qk_s1, z_2, K49, kq_2 (by decide), h2, qk_b2 (isIn_v n (y := -1) d (-1) (nI L - 1) rfl rfl rfl _), if_pos c5, if_pos rfl]
def jG (g : Nat → Nat → Int32) (J : Nat) (a b c d : Int32) : Nat → Nat → Int32 := up2 (up2 (up2 (up2 (up2 (up2 (up2 (up2 (up2 g 49 (19 + 7 * J) (a / 1000)) 49 (19 + 7 * J + 1) ((a / 100) - (a / 100) / 10 * 10)) 49 (19 + 7 * J + 2) (a - a / 100 * 100)) 49 (19 + 7 * J + 3) b) 49 (19 + 7 * J + 4) c) 49 (19 + 7 * J + 5) d) 49 (19 + 7 * J + 6) 0) 49 1 (nI (J + 1))) 53 6 0
theorem jm_ok {τ : Hp} {L J : Nat} {a b c d : Int32} (n : Nat) (hB : MB τ) (h2 : hI τ 49 2 = nI L) (hL : L ≤ 6) (h1 : hI τ 49 1 = nI J) (hJ : J ≤ 12) (h : ¬ jB L a b c d) : F_X12_juror n 48 a b c d τ = if J = 12 then some (-2, τ) else some (nI J, wI τ (jG (hI τ) J a b c d)) := by
  obtain ⟨⟨M0, M1, M2, M3, M4, M5, M6, M7, M8, M9, M10, M11, M12, M28, M29⟩, K49, K50, K51, K52, K53, K54, K55, K56, K57, K58, K59, K60, K61, K62, K63⟩ := hB
  unfold jB at h
  have c1 : ¬ (a < 0 ∨ 7999 < a) := fun q => h (Or.inl (Or.inl q))
  have c2 : ¬ (a - a / 100 * 100 < 1 ∨ 30 < a - a / 100 * 100) := fun q => h (Or.inl (Or.inr q))
  have c3 : ¬ (b < -99 ∨ 99 < b) := fun q => h (Or.inr (Or.inl q))
  have c4 : ¬ (c < 0 ∨ 999 < c) := fun q => h (Or.inr (Or.inr (Or.inl q)))
  have c5 : ¬ (d < -1 ∨ nI L - 1 < d) := fun q => h (Or.inr (Or.inr (Or.inr (q.imp id (nI_p1 (by omega)).mp))))
  unfold F_X12_juror
  rw [qk_b2 (isIn_v n (y := 0) (z := 7999) a 0 7999 rfl rfl rfl _), if_neg c1, if_neg (by decide), qk_b2 (isIn_v n (y := 1) (z := 30) (a - a / 100 * 100) 1 30 rfl rfl rfl _), if_neg c2, if_neg (by decide), qk_b2 (isIn_v n (y := -99) (z := 99) b (-99) 99 rfl rfl rfl _), if_neg c3, if_neg (by decide), qk_b2 (isIn_v n (y := 0) (z := 999) c 0 999 rfl rfl rfl _), if_neg c4, if_neg (by decide), M0, qk_s1, z_2, K49, kq_2 (by decide), h2, qk_b2 (isIn_v n (y := -1) d (-1) (nI L - 1) rfl rfl rfl _), if_neg c5, if_neg (by decide), M0, qk_s1, z_1, K49, kq_1 (by decide), h1]
  by_cases hf : J = 12
  · rw [hf, if_pos (show nI 12 = 12 from rfl), if_pos rfl]
  have hne : ¬ nI J = 12 := fun q => hf ((nI_eq (a := J) (b := 12) (by omega) (by omega)).mp q)
  have x0 : (19 : Int32) + 7 * nI J = nI (19 + 7 * J) := by
    show nI 19 + nI 7 * nI J = _
    rw [nI_mul, nI_add]
  have p1 : nI (19 + 7 * J) + 1 = nI (19 + 7 * J + 1) := nI_add _ 1
  have p2 : nI (19 + 7 * J) + 2 = nI (19 + 7 * J + 2) := nI_add _ 2
  have p3 : nI (19 + 7 * J) + 3 = nI (19 + 7 * J + 3) := nI_add _ 3
  have p4 : nI (19 + 7 * J) + 4 = nI (19 + 7 * J + 4) := nI_add _ 4
  have p5 : nI (19 + 7 * J) + 5 = nI (19 + 7 * J + 5) := nI_add _ 5
  have p6 : nI (19 + 7 * J) + 6 = nI (19 + 7 * J + 6) := nI_add _ 6
  rw [if_neg hne, if_neg hf, qk_s1, K49, kq_1 (by decide), h1, x0, qk_lt, qk_s1, K49, qk_in (by omega) (by omega), nI_clamp (by omega), pI_w, qk_lt]
  rw [wI_R, M0, qk_s1, p1, wI_L, K49, qk_in (by omega) (by omega), nI_clamp (by omega), wI_p, qk_lt]
  rw [wI_R, M0, qk_s1, p2, wI_L, K49, qk_in (by omega) (by omega), nI_clamp (by omega), wI_p, qk_lt]
  rw [wI_R, M0, qk_s1, p3, wI_L, K49, qk_in (by omega) (by omega), nI_clamp (by omega), wI_p, qk_lt]
  rw [wI_R, M0, qk_s1, p4, wI_L, K49, qk_in (by omega) (by omega), nI_clamp (by omega), wI_p, qk_lt]
  rw [wI_R, M0, qk_s1, p5, wI_L, K49, qk_in (by omega) (by omega), nI_clamp (by omega), wI_p, qk_lt]
  rw [wI_R, M0, qk_s1, p6, wI_L, K49, qk_in (by omega) (by omega), nI_clamp (by omega), wI_p, qk_lt]
  have g1 : up2 (up2 (up2 (up2 (up2 (up2 (up2 (hI τ) 49 (19 + 7 * J) (a / 1000)) 49 (19 + 7 * J + 1) ((a / 100) - (a / 100) / 10 * 10)) 49 (19 + 7 * J + 2) (a - a / 100 * 100)) 49 (19 + 7 * J + 3) b) 49 (19 + 7 * J + 4) c) 49 (19 + 7 * J + 5) d) 49 (19 + 7 * J + 6) 0 49 1 = nI J := by
    rw [up_j (by omega), up_j (by omega), up_j (by omega), up_j (by omega), up_j (by omega), up_j (by omega), up_j (by omega)]; exact h1
  rw [wI_R, M0, qk_s1, wI_L, K49, kq_1 (by decide), kq_1 (by decide), wI_I, g1, nI_1, wI_p, qk_lt, wI_R, M4, qk_s1, z_6, wI_L, K53, kq_6 (by decide), wI_p, qk_lt, wI_R, M0, qk_s1, wI_L, K49, kq_1 (by decide), wI_I, up_i (by omega), up_s, nI_s1]
  rfl
