/-! KEEP -/
theorem at_any {σ : Hp} {a N : Nat} (n : Nat) (hl : hL σ a = N) (hN : N < 2 ^ 31) (v : Int32) : ∃ r, F_X11_at n a v σ = some (r, σ) := by
  by_cases h : v < 0
  · exact ⟨0, by unfold F_X11_at; rw [if_pos h]⟩
  · obtain ⟨j, hj, rfl⟩ := nI_of h
    by_cases h2 : N ≤ j
    · exact ⟨0, by unfold F_X11_at; rw [if_neg h, hl, if_pos ((nI_leI (by omega) hj).mpr h2)]⟩
    · exact ⟨_, q_at n hl (by omega) hN⟩
theorem vo_m {τ : Hp} {g : Nat → Nat → Int32} {t : Nat} {D : Dt} {lno : Nat → Int32} {j : Nat} (n : Nat) (hn : 13 ≤ n) (hB : MB τ) (m : RWm g 49 51 D lno) (d : DW D lno) (hj : j < cJ (dC D)) : F_X12_voiceOf n 48 (nI j) (wM τ g t) = some (voiceS (cK (dC D) j) (cM (dC D) j) (cH (dC D) j) (cP (dC D) j) (dH D j), wM τ g t) := by
  have hJ := d.1.1
  have q := m.2.2.2.2.2.2.2.2.1 j hj
  have k0 := get_m (σ := τ) (g := g) (t := t) (k := j) (x := 0) (x' := 0) n hB rfl (by omega) (by omega)
  have k1 := get_m (σ := τ) (g := g) (t := t) (k := j) (x := 1) (x' := 1) n hB rfl (by omega) (by omega)
  have k2 := get_m (σ := τ) (g := g) (t := t) (k := j) (x := 2) (x' := 2) n hB rfl (by omega) (by omega)
  have k4 := get_m (σ := τ) (g := g) (t := t) (k := j) (x := 4) (x' := 4) n hB rfl (by omega) (by omega)
  have k6 := get_m (σ := τ) (g := g) (t := t) (k := j) (x := 6) (x' := 6) n hB rfl (by omega) (by omega)
  rw [q.1] at k0
  rw [q.2.1] at k1
  rw [q.2.2.1] at k2
  rw [q.2.2.2.2.1] at k4
  rw [q.2.2.2.2.2.2] at k6
  have hS := (d.2.2 j hj).1
  have hth := d.1.2.1
  obtain ⟨x, hx, ex⟩ := isM_n (m := 12) (s := fun i => bi (dH D j) i) (x := dH D j) (fun i hi => by
    by_cases c : i < 12
    · rw [decide_eq_true c]; rfl
    · rw [hS i hi (by omega), decide_eq_false c]; rfl) (by omega)
  have kb : F_X12_bits n (dH D j) (wM τ g t) = some (bcv (dH D j), wM τ g t) := by
    rw [ex, bits_m n hn x hx, bc_pc x hx]
  unfold F_X12_voiceOf
  rw [qk_b2 k2, qk_b2 k6, qk_b2 kb, qk_b2 k1, qk_b2 k0, qk_b2 k4]
  have hk := (d.1.2.2.2 j hj).1
  generalize cK (dC D) j = k at hk
  obtain rfl | rfl | rfl | rfl | rfl | rfl | rfl | rfl : k = 0 ∨ k = 1 ∨ k = 2 ∨ k = 3 ∨ k = 4 ∨ k = 5 ∨ k = 6 ∨ k = 7 := by omega
  all_goals rfl
theorem kp_m {τ : Hp} {g : Nat → Nat → Int32} {t d : Nat} {D : Dt} {lno : Nat → Int32} {j : Nat} (n : Nat) (hn : 13 ≤ n) (hB : MB τ) (m : RWm g 49 51 D lno) (dw : DW D lno) (hj : j < cJ (dC D)) (hd : d < 8) : F_X12_keep_32 n 48 (nI d) 1 (nI j) (wM τ g t) = some (0, wM τ (up2 (up2 (up2 g 56 d 1) 60 d (voiceS (cK (dC D) j) (cM (dC D) j) (cH (dC D) j) (cP (dC D) j) (dH D j))) 61 d (tossS (cK (dC D) j) (cH (dC D) j) (nI j))) t) := by
  have hJ := dw.1.1
  have hB0 := hB
  obtain ⟨⟨M0, M1, M2, M3, M4, M5, M6, M7, M8, M9, M10, M11, M12, M28, M29⟩, K49, K50, K51, K52, K53, K54, K55, K56, K57, K58, K59, K60, K61, K62, K63⟩ := hB
  have m1 : RWm (up2 g 56 d 1) 49 51 D lno := rwm_fr (fun k => up_i (by omega)) (fun k => up_i (by omega)) m
  have q := m1.2.2.2.2.2.2.2.2.1 j hj
  have k0 := get_m (σ := τ) (g := up2 g 56 d 1) (t := t) (k := j) (x := 0) (x' := 0) n hB0 rfl (by omega) (by omega)
  rw [q.1] at k0
  have kv := vo_m (τ := τ) (g := up2 g 56 d 1) (t := t) n hn hB0 m1 dw hj
  generalize hvs : voiceS (cK (dC D) j) (cM (dC D) j) (cH (dC D) j) (cP (dC D) j) (dH D j) = vs at kv
  have k1 := get_m (σ := τ) (g := up2 (up2 g 56 d 1) 60 d vs) (t := t) (k := j) (x := 1) (x' := 1) n hB0 rfl (by omega) (by omega)
  rw [up_i (by omega), q.2.1] at k1
  have fin : ∀ (y : Int32) (g2 : Nat → Nat → Int32), F_X12_keep_130 n y (nI d) 61 (wM τ g2 t) = some (0, wM τ (up2 g2 61 d y) t) := fun y g2 => by
    unfold F_X12_keep_130
    rw [wM_L, K61, nI_clamp (by omega), qk_i2 (by omega) (by omega), wM_p, qk_lt]
  unfold F_X12_keep_32 F_X12_keep_92
  rw [wM_R (by decide), M7, qk_s1, wM_L, K56, nI_clamp (by omega), qk_i2 (by omega) (by omega), wM_p, qk_lt, if_neg (by decide), qk_b2 k0, wM_R (by decide), M11, qk_s1, qk_b2 kv, wM_L, K60, qk_i2 (by omega) (by omega), wM_p, qk_lt, wM_R (by decide), M12, qk_s1, qk_b2 k1]
  have hk := (dw.1.2.2.2 j hj).1
  unfold tossS
  by_cases c6 : cK (dC D) j = 6
  · rw [c6, if_pos (show nI 6 = 6 from rfl), if_pos (Or.inl rfl), fin]
  by_cases c7 : cK (dC D) j = 7
  · rw [c7, if_neg (show ¬ nI 7 = 6 by decide), if_pos (show nI 7 = 7 from rfl), if_pos (Or.inr (Or.inl rfl)), fin]
  have ne : ∀ k : Nat, k ≤ 7 → k ≠ cK (dC D) j → ¬ nI (cK (dC D) j) = nI k := fun k hk h e => h ((nI_eq (by omega) (by omega)).mp e).symm
  rw [if_neg (show ¬ nI (cK (dC D) j) = 6 from ne 6 (by omega) (by omega)), if_neg (show ¬ nI (cK (dC D) j) = 7 from ne 7 (by omega) (by omega))]
  by_cases ch : cH (dC D) j = 0
  · rw [if_pos ch, if_pos (Or.inr (Or.inr ch)), fin]
  rw [if_neg ch, if_neg (show ¬ (cK (dC D) j = 6 ∨ cK (dC D) j = 7 ∨ cH (dC D) j = 0) from fun q => q.elim c6 (fun q => q.elim c7 ch))]
  by_cases c3 : cK (dC D) j = 3
  · rw [c3, if_pos (show nI 3 = 3 from rfl), if_pos rfl, fin, Int32.add_comm]
  rw [if_neg (show ¬ nI (cK (dC D) j) = 3 from ne 3 (by omega) (by omega)), if_neg c3]
  by_cases c4 : cK (dC D) j = 4
  · rw [c4, if_pos (show nI 4 = 4 from rfl), if_pos rfl, qk_b2 k1, fin, Int32.add_comm]
  rw [if_neg (show ¬ nI (cK (dC D) j) = 4 from ne 4 (by omega) (by omega)), if_neg c4, fin]
theorem MB.wa {τ : Hp} {g : Nat → Nat → Int32} {R : Nat → Nat → Option Nat} (h : ∀ j, R 48 j = hR τ 48 j) (hB : MB τ) : MB (wA τ g R) := by
  unfold MB at hB ⊢
  rw [wA_R, show R 48 = hR τ 48 from funext h]
  exact hB
theorem q_keep {τ : Hp} {D : Dt} {lno : Nat → Int32} {ot : Option Tk} (n : Nat) (hn : 13 ≤ n) (h : Inv τ D lno ot) (a b v : Int32) : SQ τ (F_X11_keep n 0 a b v) (F_X12_keep n 48 a b v) := by
  have hB := h.1.2.2.2.1
  have hB0 := hB
  have L := h.1.1
  obtain ⟨c, m, dw, -⟩ := h.2.1
  have hJ := dw.1.1
  have hc1 := c.1
  obtain ⟨⟨M0, M1, M2, M3, M4, M5, M6, M7, M8, M9, M10, M11, M12, M28, M29⟩, K49, K50, K51, K52, K53, K54, K55, K56, K57, K58, K59, K60, K61, K62, K63⟩ := hB
  obtain ⟨r65, ⟨R1, R3, R4, R6, R7, R15, R16, R17, R18⟩, L1, L2, L3, L4, L5, L6, L7, L8, L9⟩ := hc1
  have tat : ∃ o, F_X3_turnAt n 1 v τ = some (o, τ) := by
    by_cases q : v < 0 ∨ nI (cJ (dC D)) ≤ v
    · exact ⟨none, tat_n n c.2.2.1 q⟩
    · obtain ⟨j, hj, rfl⟩ := seat_j hJ q
      exact ⟨_, tat_t n c.1 c.2.2.1 hj hJ⟩
  by_cases h0 : a < 0 ∨ nI 7 < a
  · refine SQ.no h (-1) ?_ ?_
    · unfold F_X11_keep F_X11_keep_24
      obtain ⟨o, ho⟩ := tat
      by_cases q : b = 1
      · rw [qk_b2 (sat_n n h h0), if_pos q, L.1, qk_s1, qk_b2 ho, qk_on]
      · rw [qk_b2 (sat_n n h h0), if_neg q, qk_on]
    · unfold F_X12_keep
      rw [qk_b2 (ish_m n a τ), if_pos h0, if_pos rfl]
  obtain ⟨d, hd, rfl⟩ := what_j (by omega) h0
  obtain ⟨⟨N, hN, z1, z2, z3⟩, sk⟩ := h.2.2.2.2 d (by omega)
  by_cases h1 : b < 0 ∨ nI 1 < b
  · refine SQ.no h (-1) ?_ ?_
    · have nb : ¬ b = 1 := fun q => by
        rw [q] at h1
        revert h1; decide
      unfold F_X11_keep F_X11_keep_24
      rw [qk_b2 (sat_s n h (by omega)), if_neg nb, qk_om]
      by_cases q : b < 0
      · rw [if_pos q]
      · rw [if_neg q, if_pos (show 1 < b from h1.resolve_left q)]
    · unfold F_X12_keep
      rw [qk_b2 (ish_m n _ τ), if_neg h0, if_neg (by decide), qk_b2 (isIn_v n (y := 0) (z := 1) b 0 1 rfl rfl rfl _), if_pos (show b < 0 ∨ 1 < b from h1), if_pos rfl]
  obtain ⟨w, hw, rfl⟩ := what_j (by omega) h1
  have b0 : ¬ nI w < 0 := fun y => h1 (Or.inl y)
  have b1' : ¬ 1 < nI w := fun y => h1 (Or.inr y)
  obtain ⟨x, hx⟩ := at_any (σ := τ) (a := 4) n L3 (by omega) v
  obtain ⟨t, ht⟩ := h.1.2.2.2.2.1
  obtain rfl | rfl : w = 0 ∨ w = 1 := by omega
  · generalize hR' : up2 (hR τ) (32 + 2 * d) 0 none = R
    have eR : ∀ b k, ¬ (b = 32 + 2 * d ∧ k = 0) → R b k = hR τ b k := fun b k hb => by rw [← hR']; unfold up2; rw [if_neg hb]
    have R0 : R (32 + 2 * d) 0 = none := by rw [← hR', up_s]
    generalize hg : up2 (up2 (hI τ) (32 + 2 * d) 1 x) (32 + 2 * d) 2 (-1) = g1
    refine ⟨0, wA τ g1 R, wA τ (up2 g1 56 d 0) R, D, lno, ot, ?_, ?_, ?_, rfl⟩
    · unfold F_X11_keep F_X11_keep_24 F_X11_keep_52 F_X5_hold
      rw [qk_b2 (sat_s n h (by omega)), if_neg (by decide), qk_om, if_neg b0, if_neg b1', if_neg (by decide), L.1, qk_s1, R4, qk_s1, qk_b2 hx, pR_w, hR', qk_lt, wA_p, qk_lt, wA_p, qk_lt, hg, qk_s1]
    · unfold F_X12_keep F_X12_keep_32
      rw [qk_b2 (ish_m n _ _), if_neg h0, if_neg (by decide), qk_b2 (isIn_v n (y := 0) (z := 1) (nI 0) 0 1 rfl rfl rfl _), if_neg (show ¬ (nI 0 < 0 ∨ 1 < nI 0) from h1), if_neg (by decide), if_neg (by decide), wA_R, eR 48 7 (by omega), M7, qk_s1, wA_L, K56, nI_clamp (by omega), qk_i2 (by omega) (by omega), wA_p, qk_lt, if_pos (show nI 0 = 0 from rfl)]
      rfl
    · have e : ∀ b k, ¬ (b = 32 + 2 * d ∧ (k = 1 ∨ k = 2)) → ¬ (b = 56 ∧ k = d) → up2 g1 56 d 0 b k = hI τ b k := fun b k h1 h2 => by
        rw [← hg]; unfold up2; rw [if_neg h2, if_neg (by omega), if_neg (by omega)]
      refine h.sh (g := up2 g1 56 d 0) (R := R) (d := d) (by omega) (fun b k h1 h2 h3 h4 => e b k (by omega) (by omega)) eR ⟨⟨N, hN, (e _ 3 (by omega) (by omega)).trans z1, (e 58 d (by omega) (by omega)).trans z2, fun k hk => ((e _ k (by omega) (by omega)).trans (z3 k hk)).trans (e 59 _ (by omega) (by omega)).symm⟩, Or.inl ⟨up_s _ _ _ _, R0, ?_⟩⟩
      show up2 g1 56 d 0 (32 + 2 * d) 2 = -1
      rw [up_i (by omega), ← hg, up_s]
  · by_cases hv : v < 0 ∨ nI (cJ (dC D)) ≤ v
    · refine SQ.no h (-1) ?_ ?_
      · unfold F_X11_keep F_X11_keep_24
        rw [qk_b2 (sat_s n h (by omega)), if_pos (show nI 1 = 1 from rfl), L.1, qk_s1, qk_b2 (tat_n n c.2.2.1 hv), qk_om, if_neg b0, if_neg b1', if_pos (show nI 1 = 1 from rfl), qk_on]
      · unfold F_X12_keep
        rw [qk_b2 (ish_m n _ τ), if_neg h0, if_neg (by decide), qk_b2 (isIn_v n (y := 0) (z := 1) (nI 1) 0 1 rfl rfl rfl _), if_neg (show ¬ (nI 1 < 0 ∨ 1 < nI 1) from h1), if_neg (by decide), if_pos (show nI 1 = 1 from rfl), qk_b2 (jur_t n h v), if_pos hv, if_pos rfl]
    obtain ⟨j, hj, rfl⟩ := seat_j hJ hv
    obtain ⟨T, t1, t2, t3, t4, t5⟩ := c.2.2.2.2.1 j hj
    obtain rfl : x = dH D j := by
      have := q_at (σ := τ) (a := 4) (i := j) (N := 12) n L3 (by omega) (by omega)
      rw [hx] at this
      injection this with q
      injection q with q1 q2
      rw [q1]; exact t5
    generalize hR' : up2 (hR τ) (32 + 2 * d) 0 (some T) = R
    have eR : ∀ b k, ¬ (b = 32 + 2 * d ∧ k = 0) → R b k = hR τ b k := fun b k hb => by rw [← hR']; unfold up2; rw [if_neg hb]
    have R0 : R (32 + 2 * d) 0 = some T := by rw [← hR', up_s]
    generalize hg : up2 (up2 (hI τ) (32 + 2 * d) 1 (dH D j)) (32 + 2 * d) 2 (-1) = g1
    have e1 : ∀ b k, ¬ (b = 32 + 2 * d ∧ (k = 1 ∨ k = 2)) → g1 b k = hI τ b k := fun b k h1 => by
      rw [← hg]; unfold up2; rw [if_neg (by omega), if_neg (by omega)]
    have m1 : RWm g1 49 51 D lno := rwm_fr (fun k => e1 _ _ (by omega)) (fun k => e1 _ _ (by omega)) m
    have hB1 : MB (wA τ g1 R) := MB.wa (fun k => eR 48 k (by omega)) hB0
    have eM : ∀ g, wM (wA τ g1 R) g t = wA τ g R := fun g => by
      have := wM_o (σ := wA τ g R) (t := t) ((eR 48 15 (by omega)).trans ht)
      exact this
    have kp := kp_m (τ := wA τ g1 R) (g := g1) (t := t) (d := d) n hn hB1 m1 dw hj (by omega)
    rw [eM, eM] at kp
    have kj := jur_m (σ := wA τ g1 R) (g := g1) (t := t) (a := nI j) n hB1 m1.2.1 hJ
    rw [eM, if_neg hv] at kj
    generalize hvs : voiceS (cK (dC D) j) (cM (dC D) j) (cH (dC D) j) (cP (dC D) j) (dH D j) = vs at kp
    generalize hts : tossS (cK (dC D) j) (cH (dC D) j) (nI j) = ts at kp
    generalize hg2 : up2 (up2 (up2 g1 56 d 1) 60 d vs) 61 d ts = g2 at kp
    refine ⟨0, wA τ g1 R, wA τ g2 R, D, lno, ot, ?_, ?_, ?_, rfl⟩
    · unfold F_X11_keep F_X11_keep_24 F_X11_keep_52 F_X5_hold
      rw [qk_b2 (sat_s n h (by omega)), if_pos (show nI 1 = 1 from rfl), L.1, qk_s1, qk_b2 (tat_t n c.1 c.2.2.1 hj hJ), t1, qk_om, if_neg b0, if_neg b1', if_pos (show nI 1 = 1 from rfl), qk_om, L.1, qk_s1, R4, qk_s1, qk_b2 hx, pR_w, hR', qk_lt, wA_p, qk_lt, wA_p, qk_lt, hg, qk_s1]
    · unfold F_X12_keep
      rw [qk_b2 (ish_m n _ _), if_neg h0, if_neg (by decide), qk_b2 (isIn_v n (y := 0) (z := 1) (nI 1) 0 1 rfl rfl rfl _), if_neg (show ¬ (nI 1 < 0 ∨ 1 < nI 1) from h1), if_neg (by decide), if_pos (show nI 1 = 1 from rfl), qk_b2 kj, if_neg (by decide)]
      exact kp
    · have e : ∀ b k, ¬ (b = 32 + 2 * d ∧ (k = 1 ∨ k = 2)) → ¬ ((b = 56 ∨ b = 60 ∨ b = 61) ∧ k = d) → g2 b k = hI τ b k := fun b k h1 h2 => by
        rw [← hg2]; unfold up2; rw [if_neg (by omega), if_neg (by omega), if_neg (by omega)]; exact e1 b k h1
      have s2 : g2 (32 + 2 * d) 2 = -1 := by rw [← hg2, up_i (by omega), up_i (by omega), up_i (by omega), ← hg, up_s]
      have s1 : g2 (32 + 2 * d) 1 = dH D j := by rw [← hg2, up_i (by omega), up_i (by omega), up_i (by omega), ← hg, up_j (by omega), up_s]
      have i56 : g2 56 d = 1 := by rw [← hg2, up_i (by omega), up_i (by omega), up_s]
      have i60 : g2 60 d = vs := by rw [← hg2, up_i (by omega), up_s]
      have i61 : g2 61 d = ts := by rw [← hg2, up_s]
      have ix : IX τ (hI τ) g2 := fun b k h1 h2 h3 => e b k (by omega) (by omega)
      have t2' : TR (wA τ g2 R) g2 T (cK (dC D) j) (cH (dC D) j) (cM (dC D) j) (cL (dC D) j) (cP (dC D) j) (cE (dC D) j) := t2.ext (XG.A fun a k ha => eR a k (by omega)) ix
      refine h.sh (g := g2) (R := R) (d := d) (by omega) (fun b k h1 h2 h3 h4 => e b k (by omega) (by omega)) eR ⟨⟨N, hN, (e _ 3 (by omega) (by omega)).trans z1, (e 58 d (by omega) (by omega)).trans z2, fun k hk => ((e _ k (by omega) (by omega)).trans (z3 k hk)).trans (e 59 _ (by omega) (by omega)).symm⟩, Or.inr (Or.inl ⟨i56, s2, T, cK (dC D) j, cH (dC D) j, cM (dC D) j, cL (dC D) j, cP (dC D) j, cE (dC D) j, R0, t2', (dw.1.2.2.2 j hj).1, (dw.2.2 j hj).2.1, ?_, ?_⟩)⟩
      · rw [wA_I, i60, s1, ← hvs]
      · rw [wA_I, i61, e T 0 (by have := t2.1; omega) (by have := t2.1; omega), t3, ← hts]
