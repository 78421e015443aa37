/-! KEEP -/
theorem at_any {σ : Hp} {a N : Nat} (n : Nat) (hl : hL σ a = N) (hN : N < 2 ^ 31) (v : Int32) : ∃ r, F_X11_at n a v σ = some (r, σ) := by
  by_cases h : v < 0
  · exact ⟨0, by unfold F_X11_at; rw [if_pos h]⟩
  · obtain ⟨j, hj, rfl⟩ := nI_of h
    by_cases h2 : N ≤ j
    · exact ⟨0, by unfold F_X11_at; rw [if_neg h, hl, if_pos ((nI_leI (by omega) hj).mpr h2)]⟩
    · exact ⟨_, q_at n hl (by omega) hN⟩
theorem vo_m {τ : Hp} {g : Nat → Nat → Int32} {t : Nat} {D : Dt} {lno : Nat → Int32} {j : Nat} (n : Nat) (hn : 13 ≤ n) (hB : MB τ) (m : RWm g 49 51 D lno) (d : DW D lno) (hj : j < cJ (dC D)) : F_X12_voiceOf n 48 (nI j) (wM τ g t) = some (voiceS (cK (dC D) j) (cM (dC D) j) (cH (dC D) j) (cP (dC D) j) (dH D j), wM τ g t) := by
  have hJ := d.1.1
  have q := m.2.2.2.2.2.2.2.2.1 j hj
  have k0 := get_m (σ := τ) (g := g) (t := t) (k := j) (x := 0) (x' := 0) n hB rfl (by omega) (by omega)
  have k1 := get_m (σ := τ) (g := g) (t := t) (k := j) (x := 1) (x' := 1) n hB rfl (by omega) (by omega)
  have k2 := get_m (σ := τ) (g := g) (t := t) (k := j) (x := 2) (x' := 2) n hB rfl (by omega) (by omega)
  have k4 := get_m (σ := τ) (g := g) (t := t) (k := j) (x := 4) (x' := 4) n hB rfl (by omega) (by omega)
  have k6 := get_m (σ := τ) (g := g) (t := t) (k := j) (x := 6) (x' := 6) n hB rfl (by omega) (by omega)
  rw [q.1] at k0
  rw [q.2.1] at k1
  rw [q.2.2.1] at k2
  rw [q.2.2.2.2.1] at k4
  rw [q.2.2.2.2.2.2] at k6
  have hS := (d.2.2 j hj).1
  have hth := d.1.2.1
  obtain ⟨x, hx, ex⟩ := isM_n (m := 12) (s := fun i => bi (dH D j) i) (x := dH D j) (fun i hi => by
    by_cases c : i < 12
    · rw [decide_eq_true c]; rfl
    · rw [hS i hi (by omega), decide_eq_false c]; rfl) (by omega)
  have kb : F_X12_bits n (dH D j) (wM τ g t) = some (bcv (dH D j), wM τ g t) := by
    rw [ex, bits_m n hn x hx, bc_pc x hx]
  unfold F_X12_voiceOf
  rw [qk_b2 k2, qk_b2 k6, qk_b2 kb, qk_b2 k1, qk_b2 k0, qk_b2 k4]
  have hk := (d.1.2.2.2 j hj).1
  generalize cK (dC D) j = k at hk
  obtain rfl | rfl | rfl | rfl | rfl | rfl | rfl | rfl : k = 0 ∨ k = 1 ∨ k = 2 ∨ k = 3 ∨ k = 4 ∨ k = 5 ∨ k = 6 ∨ k = 7 := by omega
  all_goals rfl
theorem q_keep {τ : Hp} {D : Dt} {lno : Nat → Int32} {ot : Option Tk} (n : Nat) (hn : 13 ≤ n) (h : Inv τ D lno ot) (a b v : Int32) : SQ τ (F_X11_keep n 0 a b v) (F_X12_keep n 48 a b v) := by
  have hB := h.1.2.2.2.1
  have hB0 := hB
  have L := h.1.1
  obtain ⟨c, m, dw, -⟩ := h.2.1
  have hJ := dw.1.1
  have hc1 := c.1
  obtain ⟨⟨M0, M1, M2, M3, M4, M5, M6, M7, M8, M9, M10, M11, M12, M28, M29⟩, K49, K50, K51, K52, K53, K54, K55, K56, K57, K58, K59, K60, K61, K62, K63⟩ := hB
  obtain ⟨r65, ⟨R1, R3, R4, R6, R7, R15, R16, R17, R18⟩, L1, L2, L3, L4, L5, L6, L7, L8, L9⟩ := hc1
  have tat : ∃ o, F_X3_turnAt n 1 v τ = some (o, τ) := by
    by_cases q : v < 0 ∨ nI (cJ (dC D)) ≤ v
    · exact ⟨none, tat_n n c.2.2.1 q⟩
    · obtain ⟨j, hj, rfl⟩ := seat_j hJ q
      exact ⟨_, tat_t n c.1 c.2.2.1 hj hJ⟩
  by_cases h0 : a < 0 ∨ nI 7 < a
  · refine SQ.no h (-1) ?_ ?_
    · unfold F_X11_keep F_X11_keep_24
      obtain ⟨o, ho⟩ := tat
      by_cases q : b = 1
      · rw [qk_b2 (sat_n n h h0), if_pos q, L.1, qk_s1, qk_b2 ho, qk_on]
      · rw [qk_b2 (sat_n n h h0), if_neg q, qk_on]
    · unfold F_X12_keep
      rw [qk_b2 (ish_m n a τ), if_pos h0, if_pos rfl]
  obtain ⟨d, hd, rfl⟩ := what_j (by omega) h0
  obtain ⟨⟨N, hN, z1, z2, z3⟩, sk⟩ := h.2.2.2.2 d (by omega)
  by_cases h1 : b < 0 ∨ nI 1 < b
  · refine SQ.no h (-1) ?_ ?_
    · have nb : ¬ b = 1 := fun q => by
        rw [q] at h1
        revert h1; decide
      unfold F_X11_keep F_X11_keep_24
      rw [qk_b2 (sat_s n h (by omega)), if_neg nb, qk_om]
      by_cases q : b < 0
      · rw [if_pos q]
      · rw [if_neg q, if_pos (show 1 < b from h1.resolve_left q)]
    · unfold F_X12_keep
      rw [qk_b2 (ish_m n _ τ), if_neg h0, if_neg (by decide), qk_b2 (isIn_v n (y := 0) (z := 1) b 0 1 rfl rfl rfl _), if_pos (show b < 0 ∨ 1 < b from h1), if_pos rfl]
  obtain ⟨w, hw, rfl⟩ := what_j (by omega) h1
  have b0 : ¬ nI w < 0 := fun y => h1 (Or.inl y)
  have b1' : ¬ 1 < nI w := fun y => h1 (Or.inr y)
  obtain ⟨x, hx⟩ := at_any (σ := τ) (a := 4) n L3 (by omega) v
  obtain ⟨t, ht⟩ := h.1.2.2.2.2.1
  obtain rfl | rfl : w = 0 ∨ w = 1 := by omega
  · generalize hR' : up2 (hR τ) (32 + 2 * d) 0 none = R
    have eR : ∀ b k, ¬ (b = 32 + 2 * d ∧ k = 0) → R b k = hR τ b k := fun b k hb => by rw [← hR']; unfold up2; rw [if_neg hb]
    have R0 : R (32 + 2 * d) 0 = none := by rw [← hR', up_s]
    generalize hg : up2 (up2 (hI τ) (32 + 2 * d) 1 x) (32 + 2 * d) 2 (-1) = g1
    refine ⟨0, wA τ g1 R, wA τ (up2 g1 56 d 0) R, D, lno, ot, ?_, ?_, ?_, rfl⟩
    · unfold F_X11_keep F_X11_keep_24 F_X11_keep_52 F_X5_hold
      rw [qk_b2 (sat_s n h (by omega)), if_neg (by decide), qk_om, if_neg b0, if_neg b1', if_neg (by decide), L.1, qk_s1, R4, qk_s1, qk_b2 hx, pR_w, hR', qk_lt, wA_p, qk_lt, wA_p, qk_lt, hg, qk_s1]
    · unfold F_X12_keep F_X12_keep_32
      rw [qk_b2 (ish_m n _ _), if_neg h0, if_neg (by decide), qk_b2 (isIn_v n (y := 0) (z := 1) (nI 0) 0 1 rfl rfl rfl _), if_neg (show ¬ (nI 0 < 0 ∨ 1 < nI 0) from h1), if_neg (by decide), if_neg (by decide), wA_R, eR 48 7 (by omega), M7, qk_s1, wA_L, K56, nI_clamp (by omega), qk_i2 (by omega) (by omega), wA_p, qk_lt, if_pos (show nI 0 = 0 from rfl)]
      rfl
    · have e : ∀ b k, ¬ (b = 32 + 2 * d ∧ (k = 1 ∨ k = 2)) → ¬ (b = 56 ∧ k = d) → up2 g1 56 d 0 b k = hI τ b k := fun b k h1 h2 => by
        rw [← hg]; unfold up2; rw [if_neg h2, if_neg (by omega), if_neg (by omega)]
      refine h.sh (g := up2 g1 56 d 0) (R := R) (d := d) (by omega) (fun b k h1 h2 h3 h4 => e b k (by omega) (by omega)) eR ⟨⟨N, hN, (e _ 3 (by omega) (by omega)).trans z1, (e 58 d (by omega) (by omega)).trans z2, fun k hk => ((e _ k (by omega) (by omega)).trans (z3 k hk)).trans (e 59 _ (by omega) (by omega)).symm⟩, Or.inl ⟨up_s _ _ _ _, R0, ?_⟩⟩
      show up2 g1 56 d 0 (32 + 2 * d) 2 = -1
      rw [up_i (by omega), ← hg, up_s]
  · sorry
