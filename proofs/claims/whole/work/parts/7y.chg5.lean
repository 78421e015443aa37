/-! SHELVES: ROW, PUT -/
theorem Inv.sh {τ : Hp} {g : Nat → Nat → Int32} {R : Nat → Nat → Option Nat} {D : Dt} {lno : Nat → Int32} {ot : Option Tk} {d : Nat} (hd : d < 8) (h : Inv τ D lno ot) (hg : ∀ b k, b ≠ 32 + 2 * d → b ≠ 33 + 2 * d → ¬ (56 ≤ b ∧ b ≤ 61 ∧ b ≠ 59 ∧ k = d) → ¬ (b = 59 ∧ 100 * d ≤ k ∧ k < 100 * d + 100) → g b k = hI τ b k) (hR' : ∀ b k, ¬ (b = 32 + 2 * d ∧ k = 0) → R b k = hR τ b k) (hs : ShE (wA τ g R) d ∧ ShK (wA τ g R) d) : Inv (wA τ g R) D lno ot := by
  obtain ⟨l, w, i1, i2, s⟩ := h
  have hX : XG τ (wA τ g R) := XG.A fun a j ha => hR' a j (by omega)
  have ix : IX τ (hI τ) (hI (wA τ g R)) := fun a j h1 h2 h3 => hg a j (by omega) (by omega) (by omega) (by omega)
  have e : ∀ b k, b < 32 ∨ (48 ≤ b ∧ b < 56) → g b k = hI τ b k := fun b k hb => hg b k (by omega) (by omega) (by omega) (by omega)
  refine ⟨l.pres hX (fun b j hb => ?_) (fun j hj => hR' 48 j (by omega)) ?_ l.2.2.2.2.2.2, w.pres hX ix (fun a h1 h2 => ⟨fun j => e a j (by omega), fun j => hR' a j (by omega), rfl⟩) (fun j => e _ j (by omega)) (fun j => e _ j (by omega)) (fun j => e _ j (by omega)), ?_, ?_, fun c hc => ?_⟩
  · by_cases q : b = 32 + 2 * d ∧ j = 0
    · exact Or.inr (Or.inr (Or.inl ⟨by omega, q.2⟩))
    · exact Or.inr (Or.inl (hR' b j q))
  · obtain ⟨t, ht⟩ := l.2.2.2.2.1
    exact ⟨t, (hR' 48 15 (by omega)).trans ht⟩
  · exact ((e 48 13 (by omega)).trans i1).trans (e 0 3 (by omega)).symm
  · rw [wA_I, e 0 3 (by omega)]
    rcases i2 with q | ⟨q, D', l', o', w'⟩
    · exact Or.inl q
    · exact Or.inr ⟨q, D', l', o', w'.pres hX ix (fun a h1 h2 => ⟨fun j => e a j (by omega), fun j => hR' a j (by omega), rfl⟩) (fun j => e _ j (by omega)) (fun j => e _ j (by omega)) (fun j => e _ j (by omega))⟩
  · by_cases q : c = d
    · rw [q]; exact hs
    · exact Sh.pres hX ix ⟨fun j => hg _ j (by omega) (by omega) (by omega) (by omega), hR' _ _ (by omega)⟩ (fun j => hg _ j (by omega) (by omega) (by omega) (by omega)) (fun b h1 h2 => ⟨fun hb i hi => hg _ _ (by omega) (by omega) (by omega) (by omega), fun hb => hg _ _ (by omega) (by omega) (by omega) (by omega)⟩) (s c hc)
theorem pR_w (σ : Hp) (i j : Nat) (v : Option Nat) : pR σ i j v = wA σ (hI σ) (up2 (hR σ) i j v) := rfl
theorem a100 (d i : Nat) : (100 : Int32) * nI d + nI i = nI (100 * d + i) := by
  show nI 100 * nI d + nI i = _
  rw [nI_mul, nI_add]
theorem zer_c {τ : Hp} {g : Nat → Nat → Int32} {R : Nat → Nat → Option Nat} {s e : Nat} (n : Nat) (hn : 100 < n) (h4 : R s 4 = some e) (hl : hL τ e = 100) : ∃ g', F_X5_holdRow_17 n n s 0 (wA τ g R) = some (wA τ g' R) ∧ Fr (fun a _ => a = e) g g' ∧ ∀ j, j < 100 → g' e j = 0 := by
  obtain ⟨ρ, e1, g', rfl, e2, e3⟩ := q_for (fun f i (h : Nat → Nat → Int32) => F_X5_holdRow_17 n f s (nI i) (wA τ h R)) (fun i h => Fr (fun a _ => a = e) g h ∧ ∀ j, j < i → h e j = 0) (fun ρ => ∃ g', ρ = wA τ g' R ∧ Fr (fun a _ => a = e) g g' ∧ ∀ j, j < 100 → g' e j = 0) 100 (fun i f h hi hp => by
    simp only [F_X5_holdRow_17]
    rw [wA_R, h4, qk_s1, wA_L, hl, if_neg (nI_ge hi (by omega)), qk_s1, hl, qk_in hi (by omega), nI_clamp (by omega), wA_p, qk_lt, ← nI_succ]
    refine ⟨_, rfl, hp.1.up rfl, fun j hj => ?_⟩
    by_cases h1 : j = i
    · subst h1; exact up_s _ _ _ _
    · rw [up_j h1]; exact hp.2 j (by omega)) (fun f h hp => by
    refine ⟨_, ?_, h, rfl, hp⟩
    simp only [F_X5_holdRow_17]
    rw [wA_R, h4, qk_s1, wA_L, hl, if_pos (nI_le (Nat.le_refl _) (by omega))]) n g (by omega) ⟨Fr.rf _ _, fun j hj => by omega⟩
  exact ⟨g', by rw [q_0]; exact e1, e2, e3⟩
theorem zer_m {τ : Hp} {g : Nat → Nat → Int32} {R : Nat → Nat → Option Nat} {d : Nat} (n : Nat) (hn : 100 < n) (hd : d < 8) (h4 : R 48 10 = some 59) (hl : hL τ 59 = 800) : ∃ g', F_X12_row_58 n n 48 (nI d) 0 (wA τ g R) = some (0, wA τ g' R) ∧ Fr (fun a k => a = 59 ∧ 100 * d ≤ k ∧ k < 100 * d + 100) g g' ∧ ∀ j, j < 100 → g' 59 (100 * d + j) = 0 := by
  obtain ⟨ρ, e1, g', rfl, e2, e3⟩ := q_for (fun f i (h : Nat → Nat → Int32) => F_X12_row_58 n f 48 (nI d) (nI i) (wA τ h R)) (fun i h => Fr (fun a k => a = 59 ∧ 100 * d ≤ k ∧ k < 100 * d + 100) g h ∧ ∀ j, j < i → h 59 (100 * d + j) = 0) (fun ρ => ∃ g', ρ = (0, wA τ g' R) ∧ Fr (fun a k => a = 59 ∧ 100 * d ≤ k ∧ k < 100 * d + 100) g g' ∧ ∀ j, j < 100 → g' 59 (100 * d + j) = 0) 100 (fun i f h hi hp => by
    simp only [F_X12_row_58]
    rw [if_neg (show ¬ (100 : Int32) ≤ nI i from nI_ge (b := 100) hi (by omega)), wA_R, h4, qk_s1, a100, wA_L, hl, qk_in (by omega) (by omega), nI_clamp (by omega), wA_p, qk_lt, ← nI_succ]
    refine ⟨_, rfl, hp.1.up (by omega), fun j hj => ?_⟩
    by_cases h1 : j = i
    · subst h1; exact up_s _ _ _ _
    · rw [up_j (by omega)]; exact hp.2 j (by omega)) (fun f h hp => by
    refine ⟨_, ?_, h, rfl, hp⟩
    simp only [F_X12_row_58]
    rw [if_pos (show (100 : Int32) ≤ nI 100 from nI_le (Nat.le_refl _) (by omega))]) n g (by omega) ⟨Fr.rf _ _, fun j hj => by omega⟩
  exact ⟨g', by rw [q_0]; exact e1, e2, e3⟩
theorem q_row {τ : Hp} {D : Dt} {lno : Nat → Int32} {ot : Option Tk} (n : Nat) (hn : 100 < n) (h : Inv τ D lno ot) (a b v : Int32) : SQ τ (F_X11_row n 0 a b v) (F_X12_row n 48 a b v) := by
  have hB := h.1.2.2.2.1
  obtain ⟨⟨M0, M1, M2, M3, M4, M5, M6, M7, M8, M9, M10, M11, M12, M28, M29⟩, K49, K50, K51, K52, K53, K54, K55, K56, K57, K58, K59, K60, K61, K62, K63⟩ := hB
  by_cases h0 : a < 0 ∨ nI 7 < a
  · refine SQ.no h (-1) ?_ ?_
    · unfold F_X11_row
      rw [qk_b2 (sat_n n h h0), qk_on]
    · unfold F_X12_row
      rw [qk_b2 (ish_m n a τ), if_pos h0, if_pos rfl]
  obtain ⟨d, hd, rfl⟩ := what_j (by omega) h0
  by_cases h1 : b < 0 ∨ nI 2 < b
  · refine SQ.no h (-1) ?_ ?_
    · unfold F_X11_row
      rw [qk_b2 (sat_s n h (by omega)), qk_om]
      by_cases q : b < 0
      · rw [if_pos q]
      · rw [if_neg q, if_pos (show 2 < b from h1.resolve_left q)]
    · unfold F_X12_row
      rw [qk_b2 (ish_m n _ τ), if_neg h0, if_neg (by decide), qk_b2 (isIn_v n (y := 0) (z := 2) b 0 2 rfl rfl rfl _), if_pos (show b < 0 ∨ 2 < b from h1), if_pos rfl]
  have b0 : ¬ b < 0 := fun y => h1 (Or.inl y)
  have b2' : ¬ 2 < b := fun y => h1 (Or.inr y)
  obtain ⟨so, hso, rfl⟩ := what_j (by omega) h1
  by_cases h2 : ¬ v ≤ 100
  · refine SQ.no h (-1) ?_ ?_
    · unfold F_X11_row
      rw [qk_b2 (sat_s n h (by omega)), qk_om, if_neg b0, if_neg b2', if_neg h2]
    · unfold F_X12_row
      rw [qk_b2 (ish_m n _ τ), if_neg h0, if_neg (by decide), qk_b2 (isIn_v n (y := 0) (z := 2) (nI so) 0 2 rfl rfl rfl _), if_neg (show ¬ (nI so < 0 ∨ 2 < nI so) from h1), if_neg (by decide), if_neg h2]
  have h2 := Classical.not_not.mp h2
  by_cases h3 : ¬ 0 ≤ v
  · refine SQ.no h (-14) ?_ ?_
    · unfold F_X11_row
      rw [qk_b2 (sat_s n h (by omega)), qk_om, if_neg b0, if_neg b2', if_pos h2, if_neg h3]
    · unfold F_X12_row
      rw [qk_b2 (ish_m n _ τ), if_neg h0, if_neg (by decide), qk_b2 (isIn_v n (y := 0) (z := 2) (nI so) 0 2 rfl rfl rfl _), if_neg (show ¬ (nI so < 0 ∨ 2 < nI so) from h1), if_neg (by decide), if_pos h2, if_neg h3]
  have h3 := Classical.not_not.mp h3
  obtain ⟨N, n1, n2, rfl⟩ := nI_bet (a := 0) (b := 100) (v := v) (by omega) (Int32.not_lt.mpr h3) (Int32.not_lt.mpr h2) (by omega)
  obtain ⟨s1, s2, s3⟩ := h.1.2.1 d (by omega)
  generalize hR' : up2 (hR τ) (32 + 2 * d) 0 none = R
  have eR : ∀ b k, ¬ (b = 32 + 2 * d ∧ k = 0) → R b k = hR τ b k := fun b k hb => by rw [← hR']; unfold up2; rw [if_neg hb]
  have R0 : R (32 + 2 * d) 0 = none := by rw [← hR', up_s]
  obtain ⟨g1, a1, a2, a3⟩ := zer_c (τ := τ) (g := up2 (up2 (hI τ) (32 + 2 * d) 2 (nI so)) (32 + 2 * d) 3 (nI N)) (R := R) (s := 32 + 2 * d) (e := 33 + 2 * d) n hn ((eR _ 4 (by omega)).trans s2) s3
  obtain ⟨g2, c1, c2, c3⟩ := zer_m (τ := τ) (g := up2 (up2 (up2 g1 56 d 2) 57 d (nI so)) 58 d (nI N)) (R := R) (d := d) n hn (by omega) ((eR 48 10 (by omega)).trans M10) K59
  refine ⟨0, wA τ g1 R, wA τ g2 R, D, lno, ot, ?_, ?_, ?_, rfl⟩
  · unfold F_X11_row F_X5_holdRow
    rw [qk_b2 (sat_s n h (by omega)), qk_om, if_neg b0, if_neg b2', if_pos h2, if_pos h3, pR_w, hR', qk_lt, wA_p, qk_lt, wA_p, qk_lt, qk_b1 a1]
  · unfold F_X12_row
    rw [qk_b2 (ish_m n _ _), if_neg h0, if_neg (by decide), qk_b2 (isIn_v n (y := 0) (z := 2) (nI so) 0 2 rfl rfl rfl _), if_neg (show ¬ (nI so < 0 ∨ 2 < nI so) from h1), if_neg (by decide), if_pos h2, if_pos h3, wA_R, eR 48 7 (by omega), M7, qk_s1, wA_L, K56, nI_clamp (by omega), qk_i2 (by omega) (by omega), wA_p, qk_lt, wA_R, eR 48 8 (by omega), M8, qk_s1, wA_L, K57, qk_i2 (by omega) (by omega), wA_p, qk_lt, wA_R, eR 48 9 (by omega), M9, qk_s1, wA_L, K58, qk_i2 (by omega) (by omega), wA_p, qk_lt]
    exact c1
  · have e1 : ∀ b k, b ≠ 33 + 2 * d → ¬ (b = 32 + 2 * d ∧ (k = 2 ∨ k = 3)) → g1 b k = hI τ b k := fun b k h1 h2 => by
      rw [a2 b k h1]; unfold up2; rw [if_neg (by omega), if_neg (by omega)]
    have e2 : ∀ b k, ¬ (b = 59 ∧ 100 * d ≤ k ∧ k < 100 * d + 100) → ¬ (56 ≤ b ∧ b ≤ 58 ∧ k = d) → g2 b k = g1 b k := fun b k h1 h2 => by
      rw [c2 b k h1]; unfold up2; rw [if_neg (by omega), if_neg (by omega), if_neg (by omega)]
    have t56 : g2 56 d = 2 := by rw [c2 56 d (by omega), up_i (by omega), up_i (by omega), up_s]
    have t57 : g2 57 d = nI so := by rw [c2 57 d (by omega), up_i (by omega), up_s]
    have t58 : g2 58 d = nI N := by rw [c2 58 d (by omega), up_s]
    have u2 : g2 (32 + 2 * d) 2 = nI so := by rw [e2 _ _ (by omega) (by omega), a2 _ _ (by omega), up_j (by omega), up_s]
    have u3 : g2 (32 + 2 * d) 3 = nI N := by rw [e2 _ _ (by omega) (by omega), a2 _ _ (by omega), up_s]
    refine h.sh (d := d) (by omega) (fun b k h1 h2 h3 h4 => (e2 b k (by omega) (by omega)).trans (e1 b k h2 (by omega))) eR ⟨⟨N, n2, u3, t58, fun i hi => ?_⟩, Or.inr (Or.inr ⟨t56, R0, so, hso, u2, t57⟩)⟩
    show g2 _ i = g2 59 _
    rw [c3 i hi, e2 _ _ (by omega) (by omega), a3 i hi]
