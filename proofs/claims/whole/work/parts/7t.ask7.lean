/-! of, talk, voice, toss -/
theorem tat_n {τ : Hp} {r J : Nat} {a : Int32} (n : Nat) (h2 : hI τ r 2 = nI J) (h : a < 0 ∨ nI J ≤ a) : F_X3_turnAt n r a τ = some (none, τ) := by
  unfold F_X3_turnAt
  rw [qk_b2 (seat_r n h2), if_pos h, if_pos rfl]
theorem tat_t {τ : Hp} {r J i : Nat} (n : Nat) (hr : RL τ r) (h2 : hI τ r 2 = nI J) (hi : i < J) (hJ : J ≤ 12) : F_X3_turnAt n r (nI i) τ = some (hR τ (r + 2) i, τ) := by
  obtain ⟨r65, ⟨R1, R3, R4, R6, R7, R15, R16, R17, R18⟩, L1, L2, L3, L4, L5, L6, L7, L8, L9⟩ := hr
  have := tat_c (σ := τ) (g := hI τ) n R3 L2 h2 hi hJ
  rw [wI_S] at this
  exact this
theorem beg_m {τ : Hp} {D : Dt} {lno : Nat → Int32} {ot : Option Tk} (n : Nat) (h : Inv τ D lno ot) : F_X12_hasBegun n 48 τ = some (match ot with
  | none => 0
  | some _ => 1, τ) := by
  have hB := h.1.2.2.2.1
  have f := h.2.1.2.2.2.2.1
  obtain ⟨⟨M0, M1, M2, M3, M4, M5, M6, M7, M8, M9, M10, M11, M12, M28, M29⟩, K49, K50, K51, K52, K53, K54, K55, K56, K57, K58, K59, K60, K61, K62, K63⟩ := hB
  unfold F_X12_hasBegun
  rw [M4, qk_s1, K53, z_6, kq_6 (by decide)]
  cases ot with
  | none =>
    have f6 : ¬ hI τ 53 6 = 1 := f
    rw [if_neg f6]
  | some T =>
    have f6 : hI τ 53 6 = 1 := f.1
    rw [if_pos f6]
theorem jur_t {τ : Hp} {D : Dt} {lno : Nat → Int32} {ot : Option Tk} (n : Nat) (h : Inv τ D lno ot) (a : Int32) : F_X12_isJuror n 48 a τ = some (if a < 0 ∨ nI (cJ (dC D)) ≤ a then 0 else 1, τ) := by
  obtain ⟨t, ht⟩ := at_m h
  have := jur_m (σ := τ) (g := hI τ) (t := t) (a := a) n h.1.2.2.2.1 h.2.1.2.1.2.1 h.2.1.2.2.1.1.1
  rw [← ht] at this
  exact this
theorem get_t {τ : Hp} {D : Dt} {lno : Nat → Int32} {ot : Option Tk} (n : Nat) (h : Inv τ D lno ot) {k x' : Nat} {x : Int32} (hx : x = nI x') (hk : k < 12) (hx' : x' < 7) : F_X12_get n 48 (nI k) x τ = some (hI τ 49 (19 + 7 * k + x'), τ) := by
  obtain ⟨t, ht⟩ := at_m h
  have := get_m (σ := τ) (g := hI τ) (t := t) n h.1.2.2.2.1 hx hk hx'
  rw [← ht] at this
  exact this
/-- what `of` answers -/
def ofS (D : Dt) (lno : Nat → Int32) (ot : Option Tk) (j : Nat) : Nat → Int32
  | 0 => nI (cK (dC D) j)
  | 1 => cH (dC D) j
  | 2 => nI (cM (dC D) j)
  | 3 => cL (dC D) j
  | 4 => cP (dC D) j
  | 5 => lno j
  | 6 => match ot with
    | none => dH D j
    | some T => tH T j
  | 7 => match ot with
    | none => 0
    | some T => tP T j
  | 8 => match ot with
    | none => 0
    | some T => if tS T j then 1 else 0
  | _ => match ot with
    | none => 0
    | some T => if tG T j = 0 then 0 else 1
theorem q_of {τ : Hp} {D : Dt} {lno : Nat → Int32} {ot : Option Tk} (n : Nat) (h : Inv τ D lno ot) (a w : Int32) : BQ τ D lno ot (F_X11_of n 0 a w) (F_X12_of n 48 a w) := by
  have hJ := h.2.1.2.2.1.1.1
  have L := h.1.1
  have hc := h.2.1.1
  by_cases h0 : a < 0 ∨ nI (cJ (dC D)) ≤ a
  · refine BQ.of (-1000000001) ?_ (fun τ1 h1 => ?_)
    · unfold F_X11_of
      rw [L.1, qk_s1, qk_b2 (tat_n n hc.2.2.1 h0), qk_on]
    · unfold F_X12_of
      rw [qk_b2 (jur_t n h1 a), if_pos h0, if_pos rfl]
  obtain ⟨j, hj, rfl⟩ := seat_j hJ h0
  obtain ⟨T, t1, t2, t3, t4, t5⟩ := hc.2.2.2.2.1 j hj
  obtain ⟨t65, tk, x1, x2, x3, x4, x5, -⟩ := t2
  by_cases hw : w < 0 ∨ nI 9 < w
  · refine BQ.of (-1000000001) ?_ (fun τ1 h1 => ?_)
    · unfold F_X11_of
      rw [L.1, qk_s1, qk_b2 (tat_t n hc.1 hc.2.2.1 hj hJ), t1, qk_om]
      have ne : ∀ k : Nat, k ≤ 9 → ¬ w = nI k := fun k hk q => by
        subst q
        rcases hw with q | q
        · exact nI_pos (by omega) q
        · exact nI_nlt (a := 9) (by omega) (by omega) q
      rw [if_neg (show ¬ w = 0 from ne 0 (by omega)), if_neg (show ¬ w = 1 from ne 1 (by omega)), if_neg (show ¬ w = 2 from ne 2 (by omega)), if_neg (show ¬ w = 3 from ne 3 (by omega)), if_neg (show ¬ w = 4 from ne 4 (by omega)), if_neg (show ¬ w = 5 from ne 5 (by omega)), if_neg (show ¬ w = 6 from ne 6 (by omega)), if_neg (show ¬ w = 7 from ne 7 (by omega)), if_neg (show ¬ w = 8 from ne 8 (by omega)), if_neg (show ¬ w = 9 from ne 9 (by omega))]
    · unfold F_X12_of
      rw [qk_b2 (jur_t n h1 _), if_neg h0, if_neg (by decide), qk_b2 (isIn_v n (y := 0) (z := 9) w 0 9 rfl rfl rfl _), if_pos (show w < 0 ∨ 9 < w from hw), if_pos rfl]
  obtain ⟨q, hq, rfl⟩ := what_j (by omega) hw
  have ne : ∀ k : Nat, k ≤ 9 → k ≠ q → ¬ nI q = nI k := fun k hk h e => h ((nI_eq (by omega) (by omega)).mp e).symm
  have hc1 := hc.1
  obtain ⟨r65, ⟨R1, R3, R4, R6, R7, R15, R16, R17, R18⟩, L1, L2, L3, L4, L5, L6, L7, L8, L9⟩ := hc1
  refine BQ.of (ofS D lno ot j q) ?_ (fun τ1 h1 => ?_)
  · have e := h.2.1.2.2.2.1
    have at' : ∀ row, row = 7 ∨ row = 9 ∨ row = 10 → F_X11_at n row (nI j) τ = some (hI τ row j, τ) := fun row hr => q_at n (σ := τ) (N := 12) (by rcases hr with rfl | rfl | rfl <;> assumption) (by omega) (by omega)
    unfold F_X11_of
    rw [L.1, qk_s1, qk_b2 (tat_t n hc.1 hc.2.2.1 hj hJ), t1, qk_om]
    by_cases c0 : q = 0
    · subst c0; rw [if_pos (show nI 0 = 0 from rfl), x1]; rfl
    rw [if_neg (show ¬ nI q = 0 from ne 0 (by omega) (by omega))]
    by_cases c1 : q = 1
    · subst c1; rw [if_pos (show nI 1 = 1 from rfl), x2]; rfl
    rw [if_neg (show ¬ nI q = 1 from ne 1 (by omega) (by omega))]
    by_cases c2 : q = 2
    · subst c2; rw [if_pos (show nI 2 = 2 from rfl), x3]; rfl
    rw [if_neg (show ¬ nI q = 2 from ne 2 (by omega) (by omega))]
    by_cases c3 : q = 3
    · subst c3; rw [if_pos (show nI 3 = 3 from rfl), x4]; rfl
    rw [if_neg (show ¬ nI q = 3 from ne 3 (by omega) (by omega))]
    by_cases c4 : q = 4
    · subst c4; rw [if_pos (show nI 4 = 4 from rfl), x5]; rfl
    rw [if_neg (show ¬ nI q = 4 from ne 4 (by omega) (by omega))]
    by_cases c5 : q = 5
    · subst c5; rw [if_pos (show nI 5 = 5 from rfl), t4]; rfl
    rw [if_neg (show ¬ nI q = 5 from ne 5 (by omega) (by omega))]
    cases ot with
    | none =>
      obtain ⟨e8, e10, e11, e12, e13, e14, e6⟩ := e
      have e6j := e6 j hj
      by_cases c6 : q = 6
      · subst c6; rw [if_pos (show nI 6 = 6 from rfl), L.1, qk_s1, R15, qk_s1, qk_b2 (at' 7 (Or.inl rfl)), e6j.1]; rfl
      rw [if_neg (show ¬ nI q = 6 from ne 6 (by omega) (by omega))]
      by_cases c7 : q = 7
      · subst c7; rw [if_pos (show nI 7 = 7 from rfl), L.1, qk_s1, R17, qk_s1, qk_b2 (at' 9 (Or.inr (Or.inl rfl))), e6j.2.2.1]; rfl
      rw [if_neg (show ¬ nI q = 7 from ne 7 (by omega) (by omega))]
      by_cases c8 : q = 8
      · subst c8
        rw [if_pos (show nI 8 = 8 from rfl), L.1, qk_s1, e12, bi_v, bi_0 j (by omega)]; rfl
      · obtain rfl : q = 9 := by omega
        have gi := gin_c (σ := τ) (g := hI τ) (k := 0) n R18 L9 (show j < 12 by omega) e6j.2.2.2 (by omega)
        rw [wI_S, if_pos rfl] at gi
        rw [if_neg (show ¬ nI 9 = 8 by decide), if_pos (show nI 9 = 9 from rfl), L.1, qk_s1, qk_b2 gi, if_pos rfl]; rfl
    | some TT =>
      obtain ⟨e8, e10, e11, e12, e14, e6, -⟩ := e
      have e6j := e6 j hj
      have hg2 := h.2.1.2.2.2.2.2.2.1.2.2.2 j hj
      by_cases c6 : q = 6
      · subst c6; rw [if_pos (show nI 6 = 6 from rfl), L.1, qk_s1, R15, qk_s1, qk_b2 (at' 7 (Or.inl rfl)), e6j.1]; rfl
      rw [if_neg (show ¬ nI q = 6 from ne 6 (by omega) (by omega))]
      by_cases c7 : q = 7
      · subst c7; rw [if_pos (show nI 7 = 7 from rfl), L.1, qk_s1, R17, qk_s1, qk_b2 (at' 9 (Or.inr (Or.inl rfl))), e6j.2.2.1]; rfl
      rw [if_neg (show ¬ nI q = 7 from ne 7 (by omega) (by omega))]
      by_cases c8 : q = 8
      · subst c8
        rw [if_pos (show nI 8 = 8 from rfl), L.1, qk_s1, bi_v, isM_bi e12 hj hJ]; rfl
      · obtain rfl : q = 9 := by omega
        have gi := gin_c (σ := τ) (g := hI τ) n R18 L9 (show j < 12 by omega) e6j.2.2.2 hg2
        rw [wI_S] at gi
        rw [if_neg (show ¬ nI 9 = 8 by decide), if_pos (show nI 9 = 9 from rfl), L.1, qk_s1, qk_b2 gi]
        show _ = some ((if tG TT j = 0 then 0 else 1), τ)
        by_cases z : tG TT j = 0
        · rw [if_pos z, if_pos rfl]
        · rw [if_neg z, if_neg (by decide)]
  · have hB := h1.1.2.2.2.1
    have m := h1.2.1.2.1
    have f := h1.2.1.2.2.2.2.1
    have mj := m.2.2.2.2.2.2.2.2.1 j hj
    obtain ⟨⟨M0, M1, M2, M3, M4, M5, M6, M7, M8, M9, M10, M11, M12, M28, M29⟩, K49, K50, K51, K52, K53, K54, K55, K56, K57, K58, K59, K60, K61, K62, K63⟩ := hB
    unfold F_X12_of
    rw [qk_b2 (jur_t n h1 _), if_neg h0, if_neg (by decide), qk_b2 (isIn_v n (y := 0) (z := 9) (nI q) 0 9 rfl rfl rfl _), if_neg (show ¬ (nI q < 0 ∨ 9 < nI q) from hw), if_neg (by decide)]
    by_cases c6 : q < 6
    · rw [if_neg (show ¬ (6 : Int32) ≤ nI q from nI_ge (b := 6) c6 (by omega)), qk_b2 (get_t n h1 (x' := q) rfl (by omega) (by omega))]
      obtain rfl | rfl | rfl | rfl | rfl | rfl : q = 0 ∨ q = 1 ∨ q = 2 ∨ q = 3 ∨ q = 4 ∨ q = 5 := by omega
      · rw [mj.1]; rfl
      · rw [mj.2.1]; rfl
      · rw [mj.2.2.1]; rfl
      · rw [mj.2.2.2.1]; rfl
      · rw [mj.2.2.2.2.1]; rfl
      · rw [mj.2.2.2.2.2.1]; rfl
    · rw [if_pos (show (6 : Int32) ≤ nI q from nI_le (a := 6) (by omega) (by omega)), qk_b2 (beg_m n h1)]
      cases ot with
      | none =>
        simp only
        rw [if_pos trivial]
        by_cases c : q = 6
        · subst c; rw [if_pos (show nI 6 = 6 from rfl), qk_b2 (get_t n h1 (x := 6) (x' := 6) rfl (by omega) (by omega)), mj.2.2.2.2.2.2]; rfl
        · rw [if_neg (show ¬ nI q = 6 from ne 6 (by omega) (by omega))]
          obtain rfl | rfl | rfl : q = 7 ∨ q = 8 ∨ q = 9 := by omega
          · rfl
          · rfl
          · rfl
      | some TT =>
        obtain ⟨f6, ⟨-, -, -, -, -, fi⟩, -⟩ := f
        have fij := fi j hj
        have hg2 := h1.2.1.2.2.2.2.2.2.1.2.2.2 j hj
        simp only
        rw [if_neg (by decide), M4, qk_s1, qk_s1, qk_s1, qk_s1, l_19, l_31, l_43, l_55, K53, qk_in (by omega) (by omega), qk_in (by omega) (by omega), qk_in (by omega) (by omega), qk_in (by omega) (by omega), nI_clamp (by omega), nI_clamp (by omega), nI_clamp (by omega), nI_clamp (by omega), fij.1, fij.2.1, fij.2.2.1, fij.2.2.2]
        obtain rfl | rfl | rfl | rfl : q = 6 ∨ q = 7 ∨ q = 8 ∨ q = 9 := by omega
        · rw [if_pos (show nI 6 = 6 from rfl)]; rfl
        · rw [if_neg (show ¬ nI 7 = 6 by decide), if_pos (show nI 7 = 7 from rfl)]; rfl
        · rw [if_neg (show ¬ nI 8 = 6 by decide), if_neg (show ¬ nI 8 = 7 by decide), if_pos (show nI 8 = 8 from rfl)]; rfl
        · rw [if_neg (show ¬ nI 9 = 6 by decide), if_neg (show ¬ nI 9 = 7 by decide), if_neg (show ¬ nI 9 = 8 by decide)]
          show _ = some ((if tG TT j = 0 then 0 else 1), τ1)
          by_cases z : tG TT j = 0
          · rw [z, if_pos (by decide), if_pos rfl]
          · rw [if_neg (nI_nle (by omega) (by omega)), if_neg z]
theorem bg_c {τ : Hp} {D : Dt} {lno : Nat → Int32} {ot : Option Tk} (h : Inv τ D lno ot) (x y : Option (Int32 × Hp)) : (if hI τ 1 8 = 0 then x else y) = match ot with
  | none => x
  | some _ => y := by
  have e := h.2.1.2.2.2.1
  cases ot with
  | none =>
    have e8 : hI τ 1 8 = 0 := e.1
    rw [if_pos e8]
  | some T =>
    have e8 : hI τ 1 8 = 1 := e.1
    rw [if_neg (by rw [e8]; decide)]
theorem end_t {τ : Hp} {D : Dt} {lno : Nat → Int32} {T : Tk} (n : Nat) (h : Inv τ D lno (some T)) : F_X3_ends n 1 τ = some (endS (dC D) (ndN D (dk D)) (di D) T, τ) := by
  obtain ⟨l, ⟨c, m, d, e, f, w⟩, -⟩ := h
  have hU := c.2.2.2.2.2.2.2
  have := end_c (σ := τ) (g := hI τ) n (cc_now c d w.1) e.2 hU.1 hU.2.2.1 hU.2.2.2.2.2.2.1 hU.2.2.2.2.2.2.2 (by have := w.2.2; omega)
  rw [wI_S] at this
  exact this
theorem end_t2 {τ : Hp} {D : Dt} {lno : Nat → Int32} {T : Tk} (n : Nat) (h : Inv τ D lno (some T)) (f : Int32 → Hp → Option (Int32 × Hp)) : (b2 (F_X12_neededNow n 48 τ) fun r3 σ2 => b2 (F_X12_endOf n 48 53 r3 σ2) f) = f (endS (dC D) (ndN D (dk D)) (di D) T) τ := by
  obtain ⟨t, ht⟩ := at_m h
  obtain ⟨l, ⟨c, m, d, e, f', w⟩, -⟩ := h
  have hU := c.2.2.2.2.2.2.2
  have hJ := d.1.1
  have k1 := nn_m (σ := τ) (g := hI τ) (t := t) n l.2.2.2.1 m.2.2.2.2.1 m.2.1 hU.2.2.1 hJ
  have k2 := end_m2 (σ := τ) (g := hI τ) (t := t) (nd := min (dk D) (cJ (dC D))) n l.2.2.2.1 (Or.inl rfl) hJ f'.2.1 (by have := hU.2.2.1; omega) m.2.2.2.2.2.2.2.1 hU.2.2.2.2.2.2.2 (by have := w.2.2; omega)
  rw [← ht] at k1 k2
  rw [qk_b2 k1, qk_b2 k2]
  rfl
theorem q_talk {τ : Hp} {D : Dt} {lno : Nat → Int32} {ot : Option Tk} (n : Nat) (hn : 12 < n) (h : Inv τ D lno ot) (w : Int32) : BQ τ D lno ot (F_X11_talk n 0 w) (F_X12_talk n 48 w) := by
  have hJ := h.2.1.2.2.1.1.1
  have L := h.1.1
  by_cases hw : w < 0 ∨ nI 5 < w
  · refine BQ.of (-1) ?_ (fun τ1 h1 => ?_)
    · unfold F_X11_talk
      by_cases h2 : w < 0
      · rw [if_pos h2]
      · rw [if_neg h2, if_neg (show ¬ w ≤ 5 from fun q => (Int32.not_le.mpr (hw.resolve_left h2)) q)]
    · unfold F_X12_talk
      rw [qk_b2 (isIn_v n (y := 0) (z := 5) w 0 5 rfl rfl rfl _), if_pos (show w < 0 ∨ 5 < w from hw), if_pos rfl]
  obtain ⟨q, hq, rfl⟩ := what_j (by omega) hw
  have w1 : ¬ nI q < 0 := fun y => hw (Or.inl y)
  have w2 : nI q ≤ 5 := nle_lt (fun y => hw (Or.inr y))
  have ne : ∀ k : Nat, k ≤ 5 → k ≠ q → ¬ nI q = nI k := fun k hk h e => h ((nI_eq (by omega) (by omega)).mp e).symm
  cases ot with
  | none =>
    refine BQ.of (-3) ?_ (fun τ1 h1 => ?_)
    · unfold F_X11_talk
      rw [if_neg w1, if_pos w2, L.1, qk_s1, bg_c h]
    · unfold F_X12_talk
      rw [qk_b2 (isIn_v n (y := 0) (z := 5) (nI q) 0 5 rfl rfl rfl _), if_neg (show ¬ (nI q < 0 ∨ 5 < nI q) from hw), if_neg (by decide), qk_b2 (beg_m n h1)]
      rfl
  | some T =>
    refine BQ.of (match q with
      | 0 => nI (tM T)
      | 1 => nI (yesS (dC D) T)
      | 2 => nI (noS (dC D) T)
      | 3 => nI (tU T)
      | 4 => allH (cT (dC D)) (tH T) (cJ (dC D))
      | _ => endS (dC D) (ndN D (dk D)) (di D) T) ?_ (fun τ1 h1 => ?_)
    · have e := h.2.1.2.2.2.1.2
      have ky := yes_c (σ := τ) (g := hI τ) n e.2.2.1 hJ
      have kn := no_c (σ := τ) (g := hI τ) n e.2.2.1 hJ h.2.1.1.2.2.1
      rw [wI_S] at ky kn
      unfold F_X11_talk
      rw [if_neg w1, if_pos w2, L.1, qk_s1, bg_c h]
      simp only
      obtain rfl | rfl | rfl | rfl | rfl | rfl : q = 0 ∨ q = 1 ∨ q = 2 ∨ q = 3 ∨ q = 4 ∨ q = 5 := by omega
      · rw [if_pos (show nI 0 = 0 from rfl), qk_s1, e.1]; rfl
      · rw [if_neg (show ¬ nI 1 = 0 by decide), if_pos (show nI 1 = 1 from rfl), qk_s1, qk_b2 ky]; rfl
      · rw [if_neg (show ¬ nI 2 = 0 by decide), if_neg (show ¬ nI 2 = 1 by decide), if_pos (show nI 2 = 2 from rfl), qk_s1, qk_b2 kn]; rfl
      · rw [if_neg (show ¬ nI 3 = 0 by decide), if_neg (show ¬ nI 3 = 1 by decide), if_neg (show ¬ nI 3 = 2 by decide), if_pos (show nI 3 = 3 from rfl), qk_s1, e.2.1]; rfl
      · rw [if_neg (show ¬ nI 4 = 0 by decide), if_neg (show ¬ nI 4 = 1 by decide), if_neg (show ¬ nI 4 = 2 by decide), if_neg (show ¬ nI 4 = 3 by decide), if_pos (show nI 4 = 4 from rfl), qk_s1, e.2.2.2.1]; rfl
      · rw [if_neg (show ¬ nI 5 = 0 by decide), if_neg (show ¬ nI 5 = 1 by decide), if_neg (show ¬ nI 5 = 2 by decide), if_neg (show ¬ nI 5 = 3 by decide), if_neg (show ¬ nI 5 = 4 by decide), qk_s1, qk_b2 (end_t n h)]; rfl
    · have hB := h1.1.2.2.2.1
      have hB0 := hB
      have m := h1.2.1.2.1
      obtain ⟨f6, f, f5, f7⟩ := h1.2.1.2.2.2.2.1
      obtain ⟨t, ht⟩ := at_m h1
      obtain ⟨⟨M0, M1, M2, M3, M4, M5, M6, M7, M8, M9, M10, M11, M12, M28, M29⟩, K49, K50, K51, K52, K53, K54, K55, K56, K57, K58, K59, K60, K61, K62, K63⟩ := hB
      unfold F_X12_talk
      rw [qk_b2 (isIn_v n (y := 0) (z := 5) (nI q) 0 5 rfl rfl rfl _), if_neg (show ¬ (nI q < 0 ∨ 5 < nI q) from hw), if_neg (by decide), qk_b2 (beg_m n h1)]
      simp only
      rw [if_neg (by decide)]
      by_cases c4 : q < 4
      · rw [if_neg (show ¬ (4 : Int32) ≤ nI q from nI_ge (b := 4) c4 (by omega)), M4, qk_s1, K53, qk_in (by omega) (by omega), nI_clamp (by omega)]
        obtain rfl | rfl | rfl | rfl : q = 0 ∨ q = 1 ∨ q = 2 ∨ q = 3 := by omega
        · rw [f.1]; rfl
        · rw [f.2.1]; rfl
        · rw [f.2.2.1]; rfl
        · rw [f.2.2.2.1]; rfl
      · rw [if_pos (show (4 : Int32) ≤ nI q from nI_le (a := 4) (by omega) (by omega))]
        obtain rfl | rfl : q = 4 ∨ q = 5 := by omega
        · have al := allh_m (σ := τ1) (g := hI τ1) (t := t) (th := cT (dC D)) (hd := tH T) n hn hB0 (Or.inl rfl) f5 hJ m.1 (fun i hi => (f.2.2.2.2.2 i hi).1)
          rw [← ht] at al
          rw [if_pos (show nI 4 = 4 from rfl), M4, qk_s1, qk_b2 al]; rfl
        · rw [if_neg (show ¬ nI 5 = 4 by decide), M4, qk_s1, end_t2 n h1]; rfl
/-! shelves -/
theorem sat_n {τ : Hp} {D : Dt} {lno : Nat → Int32} {ot : Option Tk} (n : Nat) (h : Inv τ D lno ot) {a : Int32} (h0 : a < 0 ∨ nI 7 < a) : F_X11_shelfAt n 0 a τ = some (none, τ) := by
  have L := h.1.1
  unfold F_X11_shelfAt
  by_cases h2 : a < 0
  · rw [if_pos h2]
  · have h3 : nI 7 < a := h0.resolve_left h2
    obtain ⟨j, hj, rfl⟩ := nI_of h2
    rw [nI_ltI (by omega) hj] at h3
    rw [if_neg h2, L.2.2.2.1, qk_s1, L.2.2.2.2, if_pos (nI_le (by omega) hj)]
theorem sat_s {τ : Hp} {D : Dt} {lno : Nat → Int32} {ot : Option Tk} (n : Nat) (h : Inv τ D lno ot) {d : Nat} (hd : d < 8) : F_X11_shelfAt n 0 (nI d) τ = some (some (32 + 2 * d), τ) := by
  have L := h.1.1
  unfold F_X11_shelfAt
  rw [if_neg (nI_pos (by omega)), L.2.2.2.1, qk_s1, L.2.2.2.2, if_neg (nI_ge hd (by omega)), qk_s1, L.2.2.2.2, qk_in hd (by omega), nI_clamp (by omega), (h.1.2.1 d hd).1, qk_lt]
theorem ish_m (n : Nat) (a : Int32) (τ : Hp) : F_X12_isShelf n a τ = some (if a < 0 ∨ nI 7 < a then 0 else 1, τ) := by
  unfold F_X12_isShelf
  rw [qk_b2 (isIn_v n (y := 0) (z := 7) a 0 7 rfl rfl rfl _)]
  by_cases h : a < 0 ∨ nI 7 < a
  · rw [if_pos h, if_pos (show a < 0 ∨ 7 < a from h), qk_ck (Or.inl rfl)]
  · rw [if_neg h, if_neg (show ¬ (a < 0 ∨ 7 < a) from h), qk_ck (Or.inr rfl)]
theorem emp_c {τ : Hp} (n d : Nat) (h : ShK τ d) : F_X5_isEmpty n (32 + 2 * d) τ = some (if hI τ 56 d = 0 then 1 else 0, τ) := by
  unfold F_X5_isEmpty F_X5_isRow
  rcases h with ⟨a, b, c⟩ | ⟨a, b, T, k, he, mn, ln, pt, e, c, -⟩ | ⟨a, b, so, c, d, -⟩
  · rw [a, b, qk_lt, qk_on, c, if_pos rfl, qk_s2, if_pos rfl]; rfl
  · rw [a, c, qk_lt, qk_om]; rfl
  · rw [a, b, qk_lt, qk_on, d, if_neg (by
      obtain rfl | rfl | rfl : so = 0 ∨ so = 1 ∨ so = 2 := by omega
      · decide
      · decide
      · decide), qk_s2, if_neg (by decide)]; rfl
theorem wk_m {τ : Hp} {D : Dt} {lno : Nat → Int32} {ot : Option Tk} (n : Nat) (h : Inv τ D lno ot) (a : Int32) : F_X12_wrongKept n 48 a τ = some (if a < 0 ∨ nI 7 < a then -1 else if hI τ 56 a.toNatClampNeg = 0 then -11 else if hI τ 56 a.toNatClampNeg = 1 then 0 else -12, τ) := by
  have hB := h.1.2.2.2.1
  obtain ⟨⟨M0, M1, M2, M3, M4, M5, M6, M7, M8, M9, M10, M11, M12, M28, M29⟩, K49, K50, K51, K52, K53, K54, K55, K56, K57, K58, K59, K60, K61, K62, K63⟩ := hB
  unfold F_X12_wrongKept
  rw [qk_b2 (ish_m n a τ)]
  by_cases h0 : a < 0 ∨ nI 7 < a
  · rw [if_pos h0, if_pos h0, if_pos rfl]
  · rw [if_neg h0, if_neg h0, if_neg (by decide)]
    obtain ⟨d, hd, rfl⟩ := what_j (by omega) h0
    rw [M7, qk_s1, K56, qk_in (by omega) (by omega), nI_clamp (by omega)]
    by_cases c0 : hI τ 56 d = 0
    · rw [if_pos c0, if_pos c0]
    · rw [if_neg c0, if_neg c0, qk_s1, K56, qk_i2 (by omega) (by omega)]
      by_cases c1 : hI τ 56 d = 1
      · rw [if_pos c1, if_pos c1]
      · rw [if_neg c1, if_neg c1]
theorem loud_c {τ : Hp} {T k mn : Nat} {he ln pt x : Int32} {e : Ev} (n : Nat) (t : TR τ (hI τ) T k he mn ln pt e) (hk : k ≤ 7) : F_D_loudness n T x τ = some (voiceS k mn he pt x, τ) := by
  obtain ⟨t65, tk, x1, x2, x3, x4, x5, -⟩ := t
  unfold F_D_loudness
  rw [tk]
  obtain rfl | rfl | rfl | rfl | rfl | rfl | rfl | rfl : k = 0 ∨ k = 1 ∨ k = 2 ∨ k = 3 ∨ k = 4 ∨ k = 5 ∨ k = 6 ∨ k = 7 := by omega
  · show some (hI τ T 3, τ) = _
    rw [x3]; rfl
  · show F_X9_loudness n T x τ = _
    unfold F_X9_loudness F_X10_loudness
    rw [qk_s2, bc_v, qk_s2, x3]; rfl
  · show F_X0_loudness n T x τ = _
    unfold F_X0_loudness F_X10_loudness
    rw [qk_s2, x3, x2]; rfl
  · show F_X2_loudness n T x τ = _
    unfold F_X2_loudness F_X0_loudness F_X10_loudness
    rw [qk_s2, qk_s2, x3, x2]; rfl
  · show F_X8_loudness n T x τ = _
    unfold F_X8_loudness F_X9_loudness F_X10_loudness
    rw [qk_s2, bc_v, qk_s2, qk_s2, x3]; rfl
  · show F_X4_loudness n T x τ = _
    unfold F_X4_loudness F_X10_loudness
    rw [qk_s2, x3]; rfl
  · show F_X6_loudness n T x τ = _
    unfold F_X6_loudness F_X10_loudness
    rw [qk_s2, x3]; rfl
  · show F_X7_loudness n T x τ = _
    unfold F_X7_loudness F_X6_loudness F_X10_loudness
    rw [qk_s2, qk_s2, x3, x5]; rfl
theorem toss_c {τ : Hp} {T k mn : Nat} {he ln pt : Int32} {e : Ev} (t : TR τ (hI τ) T k he mn ln pt e) (hk : k ≤ 7) (hh : ¬ he < 0) : tossV τ T = tossS k he (hI τ T 0) := by
  obtain ⟨t65, tk, x1, x2, -⟩ := t
  unfold tossV tossS
  rw [tk, x2]
  have hz : (he ≤ 0) ↔ he = 0 := ⟨fun q => Int32.le_antisymm q (nle_lt hh), fun q => by rw [q]; decide⟩
  by_cases k6 : k = 6
  · subst k6; rw [if_pos (Or.inl rfl : kc 6 = 6 ∨ kc 6 = 7), if_pos (Or.inl rfl)]
  by_cases k7 : k = 7
  · subst k7; rw [if_pos (Or.inr rfl : kc 7 = 6 ∨ kc 7 = 7), if_pos (Or.inr (Or.inl rfl))]
  have nk : ¬ (kc k = 6 ∨ kc k = 7) := by
    obtain rfl | rfl | rfl | rfl | rfl | rfl : k = 0 ∨ k = 1 ∨ k = 2 ∨ k = 3 ∨ k = 4 ∨ k = 5 := by omega
    all_goals decide
  rw [if_neg nk]
  by_cases c : he = 0
  · rw [if_pos (hz.mpr c), if_pos (Or.inr (Or.inr c))]
  · rw [if_neg (fun q => c (hz.mp q)), if_neg (show ¬ (k = 6 ∨ k = 7 ∨ he = 0) from fun q => q.elim k6 (fun q => q.elim k7 c))]
    obtain rfl | rfl | rfl | rfl | rfl | rfl : k = 0 ∨ k = 1 ∨ k = 2 ∨ k = 3 ∨ k = 4 ∨ k = 5 := by omega
    all_goals rfl
theorem q_voice {τ : Hp} {D : Dt} {lno : Nat → Int32} {ot : Option Tk} (n : Nat) (h : Inv τ D lno ot) (a : Int32) : ∃ r, F_X11_voice n 0 a τ = some (r, τ) ∧ F_X12_voice n 48 a τ = some (r, τ) := by
  have hB := h.1.2.2.2.1
  obtain ⟨⟨M0, M1, M2, M3, M4, M5, M6, M7, M8, M9, M10, M11, M12, M28, M29⟩, K49, K50, K51, K52, K53, K54, K55, K56, K57, K58, K59, K60, K61, K62, K63⟩ := hB
  unfold F_X11_voice F_X12_voice
  rw [qk_b2 (wk_m n h a)]
  by_cases h0 : a < 0 ∨ nI 7 < a
  · rw [qk_b2 (sat_n n h h0), qk_on, if_pos h0, if_neg (by decide)]; exact ⟨_, rfl, rfl⟩
  · obtain ⟨d, hd, rfl⟩ := what_j (by omega) h0
    have sh := (h.2.2.2.2 d (by omega)).2
    rw [qk_b2 (sat_s n h (by omega)), qk_om, qk_b2 (emp_c n d sh), if_neg h0, nI_clamp (by omega)]
    rcases sh with ⟨c1, c2, c3⟩ | ⟨c1, c2, T, k, he, mn, ln, pt, e, c3, c4, c5, c6, c7, c8⟩ | ⟨c1, c2, so, c3, c4, c5⟩
    · rw [if_pos c1, if_neg (by decide), if_pos c1, if_neg (by decide)]; exact ⟨_, rfl, rfl⟩
    · have n0 : ¬ hI τ 56 d = 0 := by rw [c1]; decide
      rw [if_neg n0, if_pos rfl, c3, qk_lt, qk_om, qk_b2 (loud_c n c4 c5), if_neg n0, if_pos c1, if_pos rfl, M11, qk_s1, K60, qk_i2 (by omega) (by omega), c7]
      exact ⟨_, rfl, rfl⟩
    · have n0 : ¬ hI τ 56 d = 0 := by rw [c1]; decide
      have n1 : ¬ hI τ 56 d = 1 := by rw [c1]; decide
      rw [if_neg n0, if_pos rfl, c2, qk_lt, qk_on, if_neg n0, if_neg n1, if_neg (by decide)]; exact ⟨_, rfl, rfl⟩
theorem q_toss {τ : Hp} {D : Dt} {lno : Nat → Int32} {ot : Option Tk} (n : Nat) (h : Inv τ D lno ot) (a : Int32) : ∃ r, F_X11_toss n 0 a τ = some (r, τ) ∧ F_X12_toss n 48 a τ = some (r, τ) := by
  have hB := h.1.2.2.2.1
  obtain ⟨⟨M0, M1, M2, M3, M4, M5, M6, M7, M8, M9, M10, M11, M12, M28, M29⟩, K49, K50, K51, K52, K53, K54, K55, K56, K57, K58, K59, K60, K61, K62, K63⟩ := hB
  unfold F_X11_toss F_X12_toss
  rw [qk_b2 (wk_m n h a)]
  by_cases h0 : a < 0 ∨ nI 7 < a
  · rw [qk_b2 (sat_n n h h0), qk_on, if_pos h0, if_neg (by decide)]; exact ⟨_, rfl, rfl⟩
  · obtain ⟨d, hd, rfl⟩ := what_j (by omega) h0
    have sh := (h.2.2.2.2 d (by omega)).2
    rw [qk_b2 (sat_s n h (by omega)), qk_om, qk_b2 (emp_c n d sh), if_neg h0, nI_clamp (by omega)]
    rcases sh with ⟨c1, c2, c3⟩ | ⟨c1, c2, T, k, he, mn, ln, pt, e, c3, c4, c5, c6, c7, c8⟩ | ⟨c1, c2, so, c3, c4, c5⟩
    · rw [if_pos c1, if_neg (by decide), if_pos c1, if_neg (by decide)]; exact ⟨_, rfl, rfl⟩
    · have n0 : ¬ hI τ 56 d = 0 := by rw [c1]; decide
      rw [if_neg n0, if_pos rfl, c3, qk_lt, qk_om, toss_c c4 c5 c6, if_neg n0, if_pos c1, if_pos rfl, M12, qk_s1, K61, qk_i2 (by omega) (by omega), c8]
      exact ⟨_, rfl, rfl⟩
    · have n0 : ¬ hI τ 56 d = 0 := by rw [c1]; decide
      have n1 : ¬ hI τ 56 d = 1 := by rw [c1]; decide
      rw [if_neg n0, if_pos rfl, c2, qk_lt, qk_on, if_neg n0, if_neg n1, if_neg (by decide)]; exact ⟨_, rfl, rfl⟩
