/-! HOLDS -/
theorem a7_6 (j x : Nat) {v : Int32} (hv : v = nI x) : (19 : Int32) + 7 * nI j + v = nI (19 + 7 * j + x) := by
  subst hv
  show nI 19 + nI 7 * nI j + nI x = _
  rw [nI_mul, nI_add, nI_add]
def hoD (D : Dt) (j : Nat) (v : Int32) : Dt := (dC D, dL D, upf (dH D) j v, D.2.2.2)
theorem nI_m1 {b : Nat} (h : 1 ≤ b) : nI b - 1 = nI (b - 1) := nI_sub (b := 1) h
theorem w_ho {D : Dt} {j : Nat} {v : Int32} {ot : Option Tk} (w : TKw D ot) : TKw (hoD D j v) ot := by
  cases ot with
  | none => trivial
  | some T => exact w
theorem f_ho {g : Nat → Nat → Int32} {tk : Nat} {D : Dt} {j : Nat} {v : Int32} {ot : Option Tk} (w : TKm g tk D ot) : TKm g tk (hoD D j v) ot := by
  cases ot with
  | none => exact w
  | some T => exact w
theorem q_holds {τ : Hp} {D : Dt} {lno : Nat → Int32} {ot : Option Tk} (n : Nat) (hn : 12 < n) (h : Inv τ D lno ot) (a v : Int32) : SQ τ (F_X11_holds n 0 a v) (F_X12_holds n 48 a v) := by
  have L := h.1.1
  obtain ⟨c, m, d, e', f, w⟩ := h.2.1
  have hB := h.1.2.2.2.1
  have hB0 := hB
  have hJ := d.1.1
  have hth := d.1.2.1
  have hc1 := c.1
  obtain ⟨⟨M0, M1, M2, M3, M4, M5, M6, M7, M8, M9, M10, M11, M12, M28, M29⟩, K49, K50, K51, K52, K53, K54, K55, K56, K57, K58, K59, K60, K61, K62, K63⟩ := hB
  obtain ⟨r65, ⟨R1, R3, R4, R6, R7, R15, R16, R17, R18⟩, L1, L2, L3, L4, L5, L6, L7, L8, L9⟩ := hc1
  by_cases h0 : a < 0 ∨ nI (cJ (dC D)) ≤ a
  · refine SQ.no h (-1) ?_ ?_
    · unfold F_X11_holds
      rw [L.1, qk_s1, qk_b2 (seat_r n c.2.2.1), if_pos h0, if_pos rfl]
    · unfold F_X12_holds
      rw [qk_b2 (jur_t n h a), if_pos h0, if_pos rfl]
  obtain ⟨j, hj, rfl⟩ := seat_j hJ h0
  have sh : (1 : Int32) <<< (nI (cT (dC D)) &&& 31) = nI (2 ^ cT (dC D)) := pow_sh _ (by omega)
  have p12 : 2 ^ cT (dC D) ≤ 4096 := (Nat.pow_le_pow_right (by decide) hth : 2 ^ cT (dC D) ≤ 2 ^ 12)
  have p1 : 1 ≤ 2 ^ cT (dC D) := Nat.one_le_two_pow
  have isS_m : ∀ τ' : Hp, hR τ' 48 0 = some 49 → hL τ' 49 = 109 → hI τ' 49 0 = nI (cT (dC D)) → F_X12_isSet n 48 v τ' = some (if v < 0 ∨ nI (2 ^ cT (dC D) - 1) < v then 0 else 1, τ') := fun τ' r1 r2 r3 => by
    unfold F_X12_isSet
    rw [r1, qk_s1, z_0, r2, kq_0 (by decide), r3, sh, nI_m1 p1, qk_b2 (isIn_v n (y := 0) v 0 (nI (2 ^ cT (dC D) - 1)) rfl rfl rfl _)]
    by_cases q : v < 0 ∨ nI (2 ^ cT (dC D) - 1) < v
    · rw [if_pos q, qk_ck (Or.inl rfl)]
    · rw [if_neg q, qk_ck (Or.inr rfl)]
  have vlt : v < nI (2 ^ cT (dC D)) ↔ ¬ nI (2 ^ cT (dC D) - 1) < v := by
    rw [Int32.lt_iff_toInt_lt, Int32.lt_iff_toInt_lt, nI_toInt (by omega), nI_toInt (by omega)]
    omega
  by_cases h1 : v < 0 ∨ nI (2 ^ cT (dC D) - 1) < v
  · refine SQ.no h (-1) ?_ ?_
    · unfold F_X11_holds
      rw [L.1, qk_s1, qk_b2 (seat_r n c.2.2.1), if_neg h0, if_neg (by decide)]
      by_cases q : v < 0
      · rw [if_pos q]
      · rw [if_neg q, L.1, qk_s1, c.2.1, sh, if_neg (fun y => vlt.mp y (h1.resolve_left q))]
    · unfold F_X12_holds
      rw [qk_b2 (jur_t n h _), if_neg h0, if_neg (by decide), qk_b2 (isS_m τ M0 K49 m.1), if_pos h1, if_pos rfl]
  have v0 : ¬ v < 0 := fun y => h1 (Or.inl y)
  have v1 : ¬ nI (2 ^ cT (dC D) - 1) < v := fun y => h1 (Or.inr y)
  obtain ⟨x, x1, x2, rfl⟩ := nI_bet (a := 0) (b := 2 ^ cT (dC D) - 1) (by omega) v0 v1 (by omega)
  have xS : isS (cT (dC D)) (nI x) := fun i i1 i2 => bi_ge (by omega) hth i2 i1
  have hsi : ∀ i, i < cJ (dC D) → isS (cT (dC D)) (upf (dH D) j (nI x) i) := fun i hi => by
    by_cases q : i = j
    · rw [q, upf_s]; exact xS
    · rw [upf_n _ _ q]; exact (d.2.2 i hi).1
  have hh : ∀ t, t < cJ (dC D) → up2 (hI τ) 4 j (nI x) (1 + 3) t = upf (dH D) j (nI x) t := fun t ht => by
    by_cases q : t = j
    · rw [q, upf_s]; exact up_s _ _ _ _
    · rw [upf_n _ _ q]
      obtain ⟨T, t1, t2, t3, t4, t5⟩ := c.2.2.2.2.1 t ht
      exact (up_j q).trans t5
  have old : hI τ 4 j = dH D j := by
    obtain ⟨T, t1, t2, t3, t4, t5⟩ := c.2.2.2.2.1 j hj
    exact t5
  obtain ⟨t, ht⟩ := h.1.2.2.2.2.1
  have at' := q_at (σ := τ) (a := 4) (i := j) (N := 12) n L3 (by omega) (by omega)
  have st := q_st (σ := τ) (a := 4) (i := j) (N := 12) n (nI x) L3 (by omega) (by omega)
  -- after the class's call
  have key : ∃ g1, F_X11_holds n 0 (nI j) (nI x) τ = some (dH D j, wI τ g1) ∧ (∀ b k, ¬ (b = 4 ∧ k = j) → ((b ≠ 1 ∨ k < 10) ∧ (b < 7 ∨ 10 < b)) → g1 b k = hI τ b k) ∧ (∀ t, t < cJ (dC D) → g1 4 t = upf (dH D) j (nI x) t) ∧ TKc (wI τ g1) 1 (hoD D j (nI x)) ot := by
    have pre : ∀ R, (if hI (wI τ (up2 (hI τ) 4 j (nI x))) 1 8 = 0 then (b1 (F_X3_standAsTold n 1 (wI τ (up2 (hI τ) 4 j (nI x)))) fun σ14 => some (dH D j, σ14)) else some (dH D j, wI τ (up2 (hI τ) 4 j (nI x)))) = R → F_X11_holds n 0 (nI j) (nI x) τ = R := fun R hR => by
      unfold F_X11_holds
      rw [L.1, qk_s1, qk_b2 (seat_r n c.2.2.1), if_neg h0, if_neg (by decide), if_neg v0, L.1, qk_s1, c.2.1, sh, if_pos (vlt.mpr v1), qk_s1, R4, qk_s1, qk_b2 at', L.1, qk_s1, R4, qk_s1, qk_b1 st, pI_w, wI_R, L.1, qk_s1, qk_s1, old]
      exact hR
    cases ot with
    | none =>
      have e8 : hI (wI τ (up2 (hI τ) 4 j (nI x))) 1 8 = 0 := e'.1
      obtain ⟨g1, a1, a2, a3⟩ := sat_c (σ := τ) (g := up2 (hI τ) 4 j (nI x)) (sp := cS (dC D)) n hn c.1 c.2.1 hth c.2.2.1 hJ c.2.2.2.1 hh
      have e : ∀ b k, ¬ (b = 4 ∧ k = j) → ((b ≠ 1 ∨ k < 10 ∨ 14 < k) ∧ (b < 7 ∨ 10 < b)) → g1 b k = hI τ b k := fun b k h1 h2 => by
        rw [a2 b k (by omega)]
        unfold up2
        rw [if_neg h1]
      refine ⟨g1, pre _ ?_, fun b k h1 h2 => e b k h1 (by omega), fun t ht => (a2 4 t (by omega)).trans (hh t ht), ?_⟩
      · rw [if_pos e8, qk_b1 a1]
      · exact ⟨(e 1 8 (by omega) (by omega)).trans e'.1, a3.1, a3.2.1, a3.2.2.1, a3.2.2.2.1, trivial, a3.2.2.2.2.2⟩
    | some T =>
      have e8 : ¬ hI (wI τ (up2 (hI τ) 4 j (nI x))) 1 8 = 0 := by
        show ¬ up2 (hI τ) 4 j (nI x) 1 8 = 0
        rw [up_i (by omega), e'.1]; decide
      refine ⟨up2 (hI τ) 4 j (nI x), pre _ ?_, fun b k h1 h2 => ?_, hh, ?_⟩
      · rw [if_neg e8]
      · unfold up2; rw [if_neg h1]
      · exact TKc.fr (D := D) (ot := some T) (fun b j' h1 h2 h3 h4 => up_i (by omega)) e'
  obtain ⟨g1, k1, k2, k3, k4⟩ := key
  have e1 : ∀ b k, b ≠ 4 → (b ≠ 1 ∨ k < 10) → (b < 7 ∨ 10 < b) → g1 b k = hI τ b k := fun b k h1 h2 h3 => k2 b k (by omega) ⟨h2, h3⟩
  have mm : ∀ b, g1 49 b = hI τ 49 b := fun b => e1 49 b (by omega) (by omega) (by omega)
  have mj := m.2.2.2.2.2.2.2.2.1 j hj
  have kset := isS_m (wI τ g1) M0 K49 ((mm 0).trans m.1)
  rw [if_neg h1] at kset
  have kjur := jur_m (σ := τ) (g := g1) (t := t) (a := nI j) n hB0 ((mm 1).trans m.2.1) hJ
  rw [if_neg h0, ← wIM ht] at kjur
  refine ⟨dH D j, wI τ g1, wI τ (up2 g1 49 (19 + 7 * j + 6) (nI x)), hoD D j (nI x), lno, ot, k1, ?_, ?_, rfl⟩
  · unfold F_X12_holds F_X12_becomes
    rw [qk_b2 kjur, if_neg (by decide), qk_b2 kset, if_neg (by decide), a7_6 (v := 6) j 6 rfl, wI_R, M0, qk_s1, wI_L, K49, qk_in (by omega) (by omega), qk_s1, K49, qk_in (by omega) (by omega), nI_clamp (by omega), wI_p, qk_lt, qk_s2, wI_I, mm, mj.2.2.2.2.2.2]
  · generalize hg : up2 g1 49 (19 + 7 * j + 6) (nI x) = g2
    have e2 : ∀ b k, ¬ (b = 49 ∧ k = 19 + 7 * j + 6) → g2 b k = g1 b k := fun b k hb => by rw [← hg]; unfold up2; rw [if_neg hb]
    have g26 : g2 49 (19 + 7 * j + 6) = nI x := by rw [← hg, up_s]
    have fr : Fr (fun a j => NW a j ∨ isStk τ a) (hI τ) g2 := fun b k hb => by
      have q : ¬ NW b k := fun y => hb (Or.inl y)
      unfold NW at q
      rw [e2 b k (by omega), e1 b k (by omega) (by omega) (by omega)]
    have e : ∀ b k, b ≠ 4 → (b ≠ 49 ∨ k ≠ 19 + 7 * j + 6) → (b ≠ 1 ∨ k < 10) → (b < 7 ∨ 10 < b) → g2 b k = hI τ b k := fun b k h1 h2 h3 h4 => (e2 b k (by omega)).trans (e1 b k h1 h3 h4)
    have ix : IX τ (hI τ) g2 := fun b k h1 h2 h3 => e b k (by omega) (by omega) (by omega) (by omega)
    refine h.ni fr ⟨⟨c.1, (e 1 0 (by omega) (by omega) (by omega) (by omega)).trans c.2.1, (e 1 2 (by omega) (by omega) (by omega) (by omega)).trans c.2.2.1, fun t ht => (e 2 t (by omega) (by omega) (by omega) (by omega)).trans (c.2.2.2.1 t ht), fun i hi => ?_, (e 1 5 (by omega) (by omega) (by omega) (by omega)).trans c.2.2.2.2.2.1, fun l hl => ?_, ?_⟩, ⟨(e 49 0 (by omega) (by omega) (by omega) (by omega)).trans m.1, (e 49 1 (by omega) (by omega) (by omega) (by omega)).trans m.2.1, (e 49 2 (by omega) (by omega) (by omega) (by omega)).trans m.2.2.1, fun t ht => (e 49 _ (by omega) (by have := d.1.2.1; have : t < cT (dC D) := ht; omega) (by omega) (by omega)).trans (m.2.2.2.1 t ht), (e 49 3 (by omega) (by omega) (by omega) (by omega)).trans m.2.2.2.2.1, (e 49 4 (by omega) (by omega) (by omega) (by omega)).trans m.2.2.2.2.2.1, (e 49 5 (by omega) (by omega) (by omega) (by omega)).trans m.2.2.2.2.2.2.1, (e 49 6 (by omega) (by omega) (by omega) (by omega)).trans m.2.2.2.2.2.2.2.1, fun i hi => ?_, fun l hl => ?_⟩, ⟨d.1, d.2.1, fun i hi => ⟨hsi i hi, (d.2.2 i hi).2⟩⟩, ?_, ?_, w_ho w⟩
    · obtain ⟨T, t1, t2, t3, t4, t5⟩ := c.2.2.2.2.1 i hi
      exact ⟨T, t1, t2.ext (XG.I τ g2) ix, (t2.cell (τ := τ) ix 0).trans t3, (t2.cell (τ := τ) ix 6).trans t4, (e2 4 i (by omega)).trans (k3 i hi)⟩
    · obtain ⟨q, q1, q2⟩ := c.2.2.2.2.2.2.1 l hl
      exact ⟨q, q1, q2.ext (XG.I τ g2) ix⟩
    · show RU g2 1 _ _ _ _
      unfold RU
      rw [e 6 0 (by omega) (by omega) (by omega) (by omega), e 6 1 (by omega) (by omega) (by omega) (by omega), e 6 2 (by omega) (by omega) (by omega) (by omega), e 6 3 (by omega) (by omega) (by omega) (by omega)]
      exact c.2.2.2.2.2.2.2
    · have q := m.2.2.2.2.2.2.2.2.1 i hi
      have hi' : i < cJ (dC D) := hi
      rw [wI_I, e 49 (19 + 7 * i + 0) (by omega) (by omega) (by omega) (by omega), e 49 (19 + 7 * i + 1) (by omega) (by omega) (by omega) (by omega), e 49 (19 + 7 * i + 2) (by omega) (by omega) (by omega) (by omega), e 49 (19 + 7 * i + 3) (by omega) (by omega) (by omega) (by omega), e 49 (19 + 7 * i + 4) (by omega) (by omega) (by omega) (by omega), e 49 (19 + 7 * i + 5) (by omega) (by omega) (by omega) (by omega)]
      refine ⟨q.1, q.2.1, q.2.2.1, q.2.2.2.1, q.2.2.2.2.1, q.2.2.2.2.2.1, ?_⟩
      show _ = upf (dH D) j (nI x) i
      by_cases y : i = j
      · rw [y, upf_s]; exact g26
      · rw [upf_n _ _ y, e 49 _ (by omega) (by omega) (by omega) (by omega)]; exact q.2.2.2.2.2.2
    · obtain ⟨N, y, cs, n1, n2, n3, n4⟩ := m.2.2.2.2.2.2.2.2.2 l hl
      exact ⟨N, y, cs, (e _ _ (by omega) (by omega) (by omega) (by omega)).trans n1, n2, fun i hi => (e _ _ (by omega) (by omega) (by omega) (by omega)).trans (n3 i hi), n4⟩
    · exact TKc.fr (τ := wI τ g1) (g := g2) (fun b k h1 h2 h3 h4 => e2 b k (by omega)) k4
    · exact TKm.fr (D := hoD D j (nI x)) (g := hI τ) (fun k => e 53 k (by omega) (by omega) (by omega) (by omega)) (f_ho f)
