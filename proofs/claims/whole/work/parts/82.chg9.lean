theorem sat_o {τ : Hp} {D : Dt} {lno : Nat → Int32} {ot : Option Tk} (n : Nat) (h : Inv τ D lno ot) (a : Int32) : ∃ o, F_X11_shelfAt n 0 a τ = some (o, τ) := by
  by_cases q : a < 0 ∨ nI 7 < a
  · exact ⟨_, sat_n n h q⟩
  · obtain ⟨d, hd, rfl⟩ := what_j (by omega) q
    exact ⟨_, sat_s n h (by omega)⟩
theorem q_copy {τ : Hp} {D : Dt} {lno : Nat → Int32} {ot : Option Tk} (n : Nat) (hn : 100 < n) (h : Inv τ D lno ot) (a b p q v : Int32) : SQ τ (F_X11_copy n 0 a b p q v) (F_X12_copy n 48 a b p q v) := by
  have hB := h.1.2.2.2.1
  obtain ⟨⟨M0, M1, M2, M3, M4, M5, M6, M7, M8, M9, M10, M11, M12, M28, M29⟩, K49, K50, K51, K52, K53, K54, K55, K56, K57, K58, K59, K60, K61, K62, K63⟩ := hB
  by_cases h0 : a < 0 ∨ nI 7 < a
  · refine SQ.no h (-1) ?_ ?_
    · obtain ⟨o, ho⟩ := sat_o n h p
      unfold F_X11_copy
      rw [qk_b2 (sat_n n h h0), qk_b2 ho, qk_on]
    · unfold F_X12_copy
      rw [qk_b2 (ish_m n a τ), if_pos h0, if_pos rfl]
  obtain ⟨d, hd, rfl⟩ := what_j (by omega) h0
  by_cases h1 : p < 0 ∨ nI 7 < p
  · refine SQ.no h (-1) ?_ ?_
    · unfold F_X11_copy
      rw [qk_b2 (sat_s n h (by omega)), qk_b2 (sat_n n h h1), qk_om, qk_on]
    · unfold F_X12_copy
      rw [qk_b2 (ish_m n _ τ), if_neg h0, if_neg (by decide), qk_b2 (ish_m n p τ), if_pos h1, if_pos rfl]
  obtain ⟨e, he, rfl⟩ := what_j (by omega) h1
  obtain ⟨⟨N, hN, z1, z2, z3⟩, sk⟩ := h.2.2.2.2 d (by omega)
  obtain ⟨⟨P, hP, y1, y2, y3⟩, ek⟩ := h.2.2.2.2 e (by omega)
  have em := emp_c n d sk
  have em2 := emp_c n e ek
  have rd := row_c n d sk
  have cls : ∀ R, (b2 (F_X5_isEmpty n (32 + 2 * d) τ) fun r13 σ12 => if r13 = 0 then (b2 (F_X5_isEmpty n (32 + 2 * e) σ12) fun r15 σ14 => if r15 = 0 then (b2 (F_X5_isRow n (32 + 2 * d) σ14) fun r17 σ16 => if r17 = 0 then (some ((-12), σ16)) else (if (hI σ16 (32 + 2 * d) 2) = (hI σ16 (32 + 2 * e) 2) then (b2 (F_X5_hasPlaces n (32 + 2 * d) b v σ16) fun r19 σ18 => if r19 = 0 then (some ((-13), σ18)) else (b2 (F_X5_hasPlaces n (32 + 2 * e) q v σ18) fun r21 σ20 => if r21 = 0 then (some ((-13), σ20)) else (F_X11_copy_98 n n b q v (32 + 2 * d) (32 + 2 * e) 0 σ20))) else (some ((-12), σ16)))) else (some ((-11), σ14))) else (some ((-11), σ12))) = R → F_X11_copy n 0 (nI d) b (nI e) q v τ = R := fun R hR => by
    unfold F_X11_copy
    rw [qk_b2 (sat_s n h (by omega)), qk_b2 (sat_s n h (by omega)), qk_om, qk_om]
    exact hR
  by_cases d0 : hI τ 56 d = 0
  · rw [if_pos d0] at em
    refine SQ.no h (-11) (cls _ ?_) ?_
    · rw [qk_b2 em, if_neg (by decide)]
    · unfold F_X12_copy
      rw [qk_b2 (ish_m n _ τ), if_neg h0, if_neg (by decide), qk_b2 (ish_m n _ τ), if_neg h1, if_neg (by decide), M7, qk_s1, K56, nI_clamp (by omega), qk_i2 (by omega) (by omega), if_pos d0]
  rw [if_neg d0] at em
  by_cases e0 : hI τ 56 e = 0
  · rw [if_pos e0] at em2
    refine SQ.no h (-11) (cls _ ?_) ?_
    · rw [qk_b2 em, if_pos rfl, qk_b2 em2, if_neg (by decide)]
    · unfold F_X12_copy
      rw [qk_b2 (ish_m n _ τ), if_neg h0, if_neg (by decide), qk_b2 (ish_m n _ τ), if_neg h1, if_neg (by decide), M7, qk_s1, K56, nI_clamp (by omega), qk_i2 (by omega) (by omega), if_neg d0, qk_s1, K56, nI_clamp (by omega), qk_i2 (by omega) (by omega), if_pos e0]
  rw [if_neg e0] at em2
  by_cases d2 : ¬ hI τ 56 d = 2
  · rw [if_neg d2] at rd
    refine SQ.no h (-12) (cls _ ?_) ?_
    · rw [qk_b2 em, if_pos rfl, qk_b2 em2, if_pos rfl, qk_b2 rd, if_pos rfl]
    · unfold F_X12_copy
      rw [qk_b2 (ish_m n _ τ), if_neg h0, if_neg (by decide), qk_b2 (ish_m n _ τ), if_neg h1, if_neg (by decide), M7, qk_s1, K56, nI_clamp (by omega), qk_i2 (by omega) (by omega), if_neg d0, qk_s1, K56, nI_clamp (by omega), qk_i2 (by omega) (by omega), if_neg e0, qk_s1, K56, qk_i2 (by omega) (by omega), if_neg d2]
  have d2 := Classical.not_not.mp d2
  rw [if_pos d2] at rd
  rcases sk with ⟨c1, -⟩ | ⟨c1, -⟩ | ⟨c1, c2, so, c3, c4, c5⟩
  · exact absurd c1 d0
  · rw [d2] at c1; exact absurd c1 (by decide)
  rcases ek with ⟨f1, -⟩ | ⟨f1, f2, -⟩ | ⟨f1, f2, so2, f3, f4, f5⟩
  · exact absurd f1 e0
  · refine SQ.no h (-12) (cls _ ?_) ?_
    · rw [qk_b2 em, if_pos rfl, qk_b2 em2, if_pos rfl, qk_b2 rd, if_neg (by decide), c4, f2, if_neg (by
        obtain rfl | rfl | rfl : so = 0 ∨ so = 1 ∨ so = 2 := by omega
        · decide
        · decide
        · decide)]
    · unfold F_X12_copy
      rw [qk_b2 (ish_m n _ τ), if_neg h0, if_neg (by decide), qk_b2 (ish_m n _ τ), if_neg h1, if_neg (by decide), M7, qk_s1, K56, nI_clamp (by omega), qk_i2 (by omega) (by omega), if_neg d0, qk_s1, K56, nI_clamp (by omega), qk_i2 (by omega) (by omega), if_neg e0, qk_s1, K56, qk_i2 (by omega) (by omega), if_pos d2, qk_s1, K56, qk_i2 (by omega) (by omega), if_neg (by rw [f1]; decide)]
  have mdl : ∀ (g : Nat → Nat → Int32) R, (∀ b k, 56 ≤ b → b ≤ 58 → g b k = hI τ b k) → (if nI so = nI so2 then (if v < 0 then some (-13, wI τ g) else if b < 0 then some (-13, wI τ g) else if q < 0 then some (-13, wI τ g) else if nI N - b < v then some (-13, wI τ g) else if v ≤ nI P - q then F_X12_copy_122 n n 48 (nI d) b (nI e) q v 0 (wI τ g) else some (-13, wI τ g)) else some (-12, wI τ g)) = R → F_X12_copy n 48 (nI d) b (nI e) q v (wI τ g) = R := fun g R hg hR => by
    unfold F_X12_copy
    rw [qk_b2 (ish_m n _ _), if_neg h0, if_neg (by decide), qk_b2 (ish_m n _ _), if_neg h1, if_neg (by decide), wI_R, M7, qk_s1, wI_L, K56, nI_clamp (by omega), qk_i2 (by omega) (by omega), wI_I, hg 56 d (by omega) (by omega), if_neg d0, qk_s1, K56, nI_clamp (by omega), qk_i2 (by omega) (by omega), hg 56 e (by omega) (by omega), if_neg e0, qk_s1, K56, qk_i2 (by omega) (by omega), hg 56 d (by omega) (by omega), if_pos d2, qk_s1, K56, qk_i2 (by omega) (by omega), hg 56 e (by omega) (by omega), if_pos f1, M8, qk_s1, K57, qk_i2 (by omega) (by omega), qk_s1, K57, qk_i2 (by omega) (by omega), hg 57 d (by omega) (by omega), hg 57 e (by omega) (by omega), c5, f5, M9, qk_s1, K58, qk_i2 (by omega) (by omega), hg 58 d (by omega) (by omega), z2, qk_s1, K58, qk_i2 (by omega) (by omega), hg 58 e (by omega) (by omega), y2]
    exact hR
  have cl2 : ∀ R, (if nI so = nI so2 then (b2 (F_X5_hasPlaces n (32 + 2 * d) b v τ) fun r19 σ18 => if r19 = 0 then (some ((-13), σ18)) else (b2 (F_X5_hasPlaces n (32 + 2 * e) q v σ18) fun r21 σ20 => if r21 = 0 then (some ((-13), σ20)) else (F_X11_copy_98 n n b q v (32 + 2 * d) (32 + 2 * e) 0 σ20))) else (some ((-12), τ))) = R → F_X11_copy n 0 (nI d) b (nI e) q v τ = R := fun R hR => cls R (by
    rw [qk_b2 em, if_pos rfl, qk_b2 em2, if_pos rfl, qk_b2 rd, if_neg (by decide), c4, f4]
    exact hR)
  have mdn : ∀ R, _ = R → F_X12_copy n 48 (nI d) b (nI e) q v τ = R := fun R hR => mdl (hI τ) R (fun _ _ _ _ => rfl) hR
  by_cases so' : ¬ so = so2
  · have ns : ¬ nI so = nI so2 := fun y => so' ((nI_eq (by omega) (by omega)).mp y)
    exact SQ.no h (-12) (cl2 _ (if_neg ns)) (mdn _ (if_neg ns))
  have so' := Classical.not_not.mp so'
  subst so'
  by_cases v0 : v < 0
  · exact SQ.no h (-13) (cl2 _ (by rw [if_pos rfl, qk_b2 (hp_x n (Or.inr v0)), if_pos rfl])) (mdn _ (by rw [if_pos rfl, if_pos v0]; rfl))
  by_cases b0 : b < 0
  · exact SQ.no h (-13) (cl2 _ (by rw [if_pos rfl, qk_b2 (hp_x n (Or.inl b0)), if_pos rfl])) (mdn _ (by rw [if_pos rfl, if_neg v0, if_pos b0]; rfl))
  obtain ⟨m, hm, rfl⟩ := nI_of v0
  obtain ⟨i, hi, rfl⟩ := nI_of b0
  have h1' := hp_n (τ := τ) n z1 hN hi hm
  by_cases q0 : q < 0
  · refine SQ.no h (-13) (cl2 _ ?_) (mdn _ (by rw [if_pos rfl, if_neg v0, if_neg b0, if_pos q0]; rfl))
    rw [if_pos rfl, qk_b2 h1']
    by_cases c : i + m ≤ N
    · rw [if_pos c, if_neg (by decide), qk_b2 (hp_x n (Or.inl q0)), if_pos rfl]
    · rw [if_neg c, if_pos rfl]
  obtain ⟨j, hj, rfl⟩ := nI_of q0
  have h2' := hp_n (τ := τ) n y1 hP hj hm
  have l1 : (nI N - nI i < nI m) ↔ ¬ i + m ≤ N := by
    rw [Int32.lt_iff_toInt_lt, nI_sbI hN hi, nI_toInt hm]; omega
  have l2 : (nI m ≤ nI P - nI j) ↔ j + m ≤ P := by
    rw [Int32.le_iff_toInt_le, nI_sbI hP hj, nI_toInt hm]; omega
  by_cases w1 : ¬ i + m ≤ N
  · exact SQ.no h (-13) (cl2 _ (by rw [if_pos rfl, qk_b2 h1', if_neg w1, if_pos rfl])) (mdn _ (by rw [if_pos rfl, if_neg v0, if_neg b0, if_neg q0, if_pos (l1.mpr w1)]; rfl))
  by_cases w2 : ¬ j + m ≤ P
  · exact SQ.no h (-13) (cl2 _ (by rw [if_pos rfl, qk_b2 h1', if_pos (Classical.not_not.mp w1), if_neg (by decide), qk_b2 h2', if_neg w2, if_pos rfl])) (mdn _ (by rw [if_pos rfl, if_neg v0, if_neg b0, if_neg q0, if_neg (fun y => w1 (l1.mp y)), if_neg (fun y => w2 (l2.mp y))]; rfl))
  have w1' := Classical.not_not.mp w1
  have w2' := Classical.not_not.mp w2
  obtain ⟨s1, s2, s3⟩ := h.1.2.1 d (by omega)
  obtain ⟨u1, u2, u3⟩ := h.1.2.1 e (by omega)
  obtain ⟨g1, k1, k2, k3⟩ := cy_c (τ := τ) (g := hI τ) (i := i) (j := j) (m := m) n hn s2 s3 u2 u3 (by omega) (by omega)
  rw [wI_S] at k1
  obtain ⟨g2, m1, m2, m3⟩ := cy_m (τ := τ) (g := g1) (d := d) (e := e) (i := i) (j := j) (m := m) n hn (by omega) (by omega) M10 K59 (by omega) (by omega)
  have e1 : ∀ b k, b ≠ 33 + 2 * e → g1 b k = hI τ b k := fun b k hb => k3 b k fun x _ y => hb y.1
  have e2 : ∀ b k, b ≠ 59 → g2 b k = g1 b k := fun b k hb => m3 b k fun x _ y => hb y.1
  refine ⟨nI m, wI τ g1, wI τ g2, D, lno, ot, cl2 _ ?_, mdl g1 _ (fun b k h1 h2 => e1 b k (by omega)) ?_, ?_, rfl⟩
  · rw [if_pos rfl, qk_b2 h1', if_pos w1', if_neg (by decide), qk_b2 h2', if_pos w2', if_neg (by decide)]
    exact k1
  · rw [if_pos rfl, if_neg v0, if_neg b0, if_neg q0, if_neg (fun y => w1 (l1.mp y)), if_pos (l2.mpr w2')]
    exact m1
  · have ee : ∀ b k, b ≠ 33 + 2 * e → b ≠ 59 → g2 b k = hI τ b k := fun b k h1 h2 => (e2 b k h2).trans (e1 b k h1)
    refine h.sh (g := g2) (R := hR τ) (d := e) (by omega) (fun b k h1 h2 h3 h4 => ?_) (fun _ _ _ => rfl) ⟨⟨P, hP, (ee _ 3 (by omega) (by omega)).trans y1, (ee 58 e (by omega) (by omega)).trans y2, fun k hk => ?_⟩, Or.inr (Or.inr ⟨(ee 56 e (by omega) (by omega)).trans f1, f2, so, f3, (ee _ 2 (by omega) (by omega)).trans f4, (ee 57 e (by omega) (by omega)).trans f5⟩)⟩
    · by_cases c : b = 59
      · rw [m3 b k (fun x hx y => by omega), e1 b k h2]
      · exact ee b k h2 c
    · show g2 (33 + 2 * e) k = g2 59 (100 * e + k)
      rw [e2 _ _ (by omega)]
      by_cases c : j ≤ k ∧ k < j + m
      · obtain ⟨x, hx, rfl⟩ : ∃ x, x < m ∧ k = j + x := ⟨k - j, by omega, by omega⟩
        rw [k2 x hx, m2 x hx, e1 59 _ (by omega)]
        exact z3 (i + x) (by omega)
      · rw [k3 _ _ (fun x hx y => by omega), m3 _ _ (fun x hx y => by omega), e1 59 _ (by omega)]
        exact y3 k hk
