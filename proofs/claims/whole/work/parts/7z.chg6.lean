/-! PUT, KEEP -/
theorem row_c {τ : Hp} (n d : Nat) (h : ShK τ d) : F_X5_isRow n (32 + 2 * d) τ = some (if hI τ 56 d = 2 then 1 else 0, τ) := by
  unfold F_X5_isRow
  rcases h with ⟨a, b, c⟩ | ⟨a, b, c⟩ | ⟨a, b, so, c, d, -⟩
  · rw [a, c, if_pos rfl, if_neg (by decide)]
  · rw [a, b, if_pos rfl, if_neg (by decide)]
  · rw [a, d, if_neg (by
      obtain rfl | rfl | rfl : so = 0 ∨ so = 1 ∨ so = 2 := by omega
      · decide
      · decide
      · decide), if_pos rfl]
theorem nI_p1' {N : Nat} {a : Int32} (hN : N ≤ 100) : (nI N - 1 < a) ↔ nI N ≤ a := by
  rw [Int32.lt_iff_toInt_lt, Int32.le_iff_toInt_le, nI_toInt (by omega)]
  have e : (nI N - 1).toInt = (N : Int) - 1 := by
    have : ∀ J : Nat, J < 101 → (nI J - 1).toInt = (J : Int) - 1 := by decide +kernel
    exact this N (by omega)
  rw [e]
  omega
theorem hp_1 {τ : Hp} {s N : Nat} {a : Int32} (n : Nat) (h : hI τ s 3 = nI N) (hN : N ≤ 100) : F_X5_hasPlaces n s a 1 τ = some (if a < 0 ∨ nI N ≤ a then 0 else 1, τ) := by
  unfold F_X5_hasPlaces
  rw [h]
  by_cases c1 : a < 0
  · rw [if_pos c1, if_pos (Or.inl c1)]
  · rw [if_neg c1, if_neg (by decide)]
    by_cases c2 : nI N < 1
    · have hN0 : N = 0 := by
        have := (nI_ltI (a := N) (b := 1) (by omega) (by omega)).mp c2
        omega
      subst hN0
      rw [if_pos c2, if_pos (show a < 0 ∨ nI 0 ≤ a from Or.inr (Int32.not_lt.mp c1))]
    · rw [if_neg c2]
      by_cases c3 : nI N ≤ a
      · rw [if_pos ((nI_p1' hN).mpr c3), if_pos (Or.inr c3)]
      · rw [if_neg (fun q => c3 ((nI_p1' hN).mp q)), if_neg (fun q => q.elim c1 c3)]
theorem wr_m {τ : Hp} {D : Dt} {lno : Nat → Int32} {ot : Option Tk} (n : Nat) (h : Inv τ D lno ot) (a : Int32) : F_X12_wrongRow n 48 a (-1) τ = some (if a < 0 ∨ nI 7 < a then -1 else if hI τ 56 a.toNatClampNeg = 0 then -11 else if hI τ 56 a.toNatClampNeg = 2 then 0 else -12, τ) := by
  have hB := h.1.2.2.2.1
  obtain ⟨⟨M0, M1, M2, M3, M4, M5, M6, M7, M8, M9, M10, M11, M12, M28, M29⟩, K49, K50, K51, K52, K53, K54, K55, K56, K57, K58, K59, K60, K61, K62, K63⟩ := hB
  unfold F_X12_wrongRow F_X12_wrongRow_49
  rw [qk_b2 (ish_m n a τ)]
  by_cases h0 : a < 0 ∨ nI 7 < a
  · rw [if_pos h0, if_pos h0, if_pos rfl]
  · rw [if_neg h0, if_neg h0, if_neg (by decide)]
    obtain ⟨d, hd, rfl⟩ := what_j (by omega) h0
    rw [M7, qk_s1, K56, nI_clamp (by omega), qk_i2 (by omega) (by omega)]
    by_cases c0 : hI τ 56 d = 0
    · rw [if_pos c0, if_pos c0]
    · rw [if_neg c0, if_neg c0, qk_s1, K56, qk_i2 (by omega) (by omega)]
      by_cases c1 : hI τ 56 d = 2
      · rw [if_pos c1, if_pos c1, if_pos (by decide)]
      · rw [if_neg c1, if_neg c1]
def lowS (so : Nat) (v : Int32) : Int32 := if so = 0 then v.toInt8.toInt32 else if so = 1 then v.toInt16.toInt32 else v
theorem low_c {τ : Hp} {s so : Nat} (n : Nat) (h : hI τ s 2 = nI so) (hs : so ≤ 2) (v : Int32) : F_X5_lowestBits n s v τ = some (lowS so v, τ) := by
  unfold F_X5_lowestBits
  rw [h]
  obtain rfl | rfl | rfl : so = 0 ∨ so = 1 ∨ so = 2 := by omega
  · rfl
  · rfl
  · rfl
theorem q_put {τ : Hp} {D : Dt} {lno : Nat → Int32} {ot : Option Tk} (n : Nat) (h : Inv τ D lno ot) (a b v : Int32) : SQ τ (F_X11_put n 0 a b v) (F_X12_put n 48 a b v) := by
  have hB := h.1.2.2.2.1
  obtain ⟨⟨M0, M1, M2, M3, M4, M5, M6, M7, M8, M9, M10, M11, M12, M28, M29⟩, K49, K50, K51, K52, K53, K54, K55, K56, K57, K58, K59, K60, K61, K62, K63⟩ := hB
  by_cases h0 : a < 0 ∨ nI 7 < a
  · refine SQ.no h (-1) ?_ ?_
    · unfold F_X11_put
      rw [qk_b2 (sat_n n h h0), qk_on]
    · unfold F_X12_put
      rw [qk_b2 (wr_m n h a), if_pos h0, if_neg (by decide)]
  obtain ⟨d, hd, rfl⟩ := what_j (by omega) h0
  obtain ⟨⟨N, hN, z1, z2, z3⟩, sk⟩ := h.2.2.2.2 d (by omega)
  have em := emp_c n d sk
  have rw' := row_c n d sk
  have wr := wr_m n h (nI d)
  rw [if_neg h0, nI_clamp (by omega)] at wr
  by_cases h1 : hI τ 56 d = 0
  · rw [if_pos h1] at wr em
    refine SQ.no h (-11) ?_ ?_
    · unfold F_X11_put
      rw [qk_b2 (sat_s n h (by omega)), qk_om, qk_b2 em, if_neg (by decide)]
    · unfold F_X12_put
      rw [qk_b2 wr, if_neg (by decide)]
  rw [if_neg h1] at wr em
  by_cases h2 : ¬ hI τ 56 d = 2
  · rw [if_neg h2] at wr rw'
    refine SQ.no h (-12) ?_ ?_
    · unfold F_X11_put
      rw [qk_b2 (sat_s n h (by omega)), qk_om, qk_b2 em, if_pos rfl, qk_b2 rw', if_pos rfl]
    · unfold F_X12_put
      rw [qk_b2 wr, if_neg (by decide)]
  have h2 := Classical.not_not.mp h2
  rw [if_pos h2] at wr rw'
  have hp := hp_1 (τ := τ) (a := b) n z1 hN
  have ii : F_X12_isIn n b.toInt64 0 ((nI N - 1).toInt64) τ = some (if b < 0 ∨ nI N ≤ b then 0 else 1, τ) := by
    rw [isIn_v n (y := 0) b 0 (nI N - 1) rfl rfl rfl]
    by_cases q : b < 0 ∨ nI N ≤ b
    · rw [if_pos q, if_pos (q.imp id (nI_p1' hN).mpr)]
    · rw [if_neg q, if_neg (fun y => q (y.imp id (nI_p1' hN).mp))]
  by_cases h3 : b < 0 ∨ nI N ≤ b
  · rw [if_pos h3] at hp ii
    refine SQ.no h (-13) ?_ ?_
    · unfold F_X11_put
      rw [qk_b2 (sat_s n h (by omega)), qk_om, qk_b2 em, if_pos rfl, qk_b2 rw', if_neg (by decide), qk_b2 hp, if_pos rfl]
    · unfold F_X12_put
      rw [qk_b2 wr, if_pos rfl, M9, qk_s1, K58, nI_clamp (by omega), qk_i2 (by omega) (by omega), z2, qk_b2 ii, if_pos rfl]
  rw [if_neg h3] at hp ii
  obtain ⟨i, hi, rfl⟩ : ∃ i, i < N ∧ b = nI i := by
    obtain ⟨i, hi, rfl⟩ := nI_of (fun q => h3 (Or.inl q))
    have h2 : ¬ N ≤ i := fun q => h3 (Or.inr ((nI_leI (by omega) hi).mpr q))
    exact ⟨i, by omega, rfl⟩
  obtain ⟨s1, s2, s3⟩ := h.1.2.1 d (by omega)
  rcases sk with ⟨c1, -⟩ | ⟨c1, -⟩ | ⟨c1, c2, so, c3, c4, c5⟩
  · exact absurd c1 h1
  · rw [h2] at c1; exact absurd c1 (by decide)
  have st := q_st (σ := τ) (a := 33 + 2 * d) (i := i) (N := 100) n (lowS so v) s3 (by omega) (by omega)
  refine ⟨0, wI τ (up2 (hI τ) (33 + 2 * d) i (lowS so v)), wI τ (up2 (up2 (hI τ) (33 + 2 * d) i (lowS so v)) 59 (100 * d + i) (lowS so v)), D, lno, ot, ?_, ?_, ?_, rfl⟩
  · unfold F_X11_put
    rw [qk_b2 (sat_s n h (by omega)), qk_om, qk_b2 em, if_pos rfl, qk_b2 rw', if_neg (by decide), qk_b2 hp, if_neg (by decide), s2, qk_s1, qk_b2 (low_c n c4 c3 v), qk_b1 st]
    rfl
  · generalize hg : up2 (hI τ) (33 + 2 * d) i (lowS so v) = g
    have e : ∀ b k, b ≠ 33 + 2 * d → g b k = hI τ b k := fun b k hb => by rw [← hg, up_i hb]
    have wr' : F_X12_wrongRow n 48 (nI d) (-1) (wI τ g) = some (0, wI τ g) := by
      unfold F_X12_wrongRow F_X12_wrongRow_49
      rw [qk_b2 (ish_m n _ _), if_neg h0, if_neg (by decide), wI_R, M7, qk_s1, wI_L, K56, nI_clamp (by omega), qk_i2 (by omega) (by omega), wI_I, e 56 d (by omega), if_neg h1, qk_s1, K56, qk_i2 (by omega) (by omega), e 56 d (by omega), if_pos h2, if_pos (by decide)]
    have ii' : F_X12_isIn n (nI i).toInt64 0 ((nI N - 1).toInt64) (wI τ g) = some (1, wI τ g) := by
      rw [isIn_v n (y := 0) (nI i) 0 (nI N - 1) rfl rfl rfl, if_neg (fun y => h3 (y.imp id (nI_p1' hN).mp))]
    unfold F_X12_put F_X12_put_77
    rw [qk_b2 wr', if_pos rfl, wI_R, M9, qk_s1, wI_L, K58, nI_clamp (by omega), qk_i2 (by omega) (by omega), wI_I, e 58 d (by omega), z2, qk_b2 ii', if_neg (by decide), wI_R, M10, qk_s1, M8, qk_s1, wI_L, K57, qk_i2 (by omega) (by omega), wI_I, e 57 d (by omega), c5, a100, qk_s1, K57, qk_i2 (by omega) (by omega), K59, e 57 d (by omega), c5, nI_clamp (by omega), qk_i2 (by omega) (by omega), qk_i2 (by omega) (by omega), qk_i2 (by omega) (by omega)]
    obtain rfl | rfl | rfl : so = 0 ∨ so = 1 ∨ so = 2 := by omega
    · rfl
    · rfl
    · rfl
  · generalize hg : up2 (up2 (hI τ) (33 + 2 * d) i (lowS so v)) 59 (100 * d + i) (lowS so v) = g
    have e : ∀ b k, ¬ (b = 33 + 2 * d ∧ k = i) → ¬ (b = 59 ∧ k = 100 * d + i) → g b k = hI τ b k := fun b k h1 h2 => by
      rw [← hg]; unfold up2; rw [if_neg h2, if_neg h1]
    refine h.sh (g := g) (R := hR τ) (d := d) (by omega) (fun b k h1 h2 h3 h4 => e b k (by omega) (by omega)) (fun _ _ _ => rfl) ⟨⟨N, hN, (e _ 3 (by omega) (by omega)).trans z1, (e 58 d (by omega) (by omega)).trans z2, fun k hk => ?_⟩, Or.inr (Or.inr ⟨(e 56 d (by omega) (by omega)).trans c1, c2, so, c3, (e _ 2 (by omega) (by omega)).trans c4, (e 57 d (by omega) (by omega)).trans c5⟩)⟩
    show g _ k = g 59 _
    by_cases q : k = i
    · rw [q, ← hg, up_s, up_i (by omega), up_s]
    · rw [e _ k (by omega) (by omega), e 59 _ (by omega) (by omega)]; exact z3 k hk
