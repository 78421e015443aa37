theorem jG_o {g : Nat → Nat → Int32} {J : Nat} {a b c d : Int32} {p k : Nat} (h1 : ¬ (p = 49 ∧ (k = 1 ∨ (19 + 7 * J ≤ k ∧ k ≤ 19 + 7 * J + 6)))) (h2 : ¬ (p = 53 ∧ k = 6)) : jG g J a b c d p k = g p k := by
  unfold jG up2
  rw [if_neg h2, if_neg (by omega), if_neg (by omega), if_neg (by omega), if_neg (by omega), if_neg (by omega), if_neg (by omega), if_neg (by omega), if_neg (by omega)]
theorem jG_v {g : Nat → Nat → Int32} {J : Nat} {a b c d : Int32} : jG g J a b c d 49 (19 + 7 * J + 0) = a / 1000 ∧ jG g J a b c d 49 (19 + 7 * J + 1) = (a / 100) - (a / 100) / 10 * 10 ∧ jG g J a b c d 49 (19 + 7 * J + 2) = a - a / 100 * 100 ∧ jG g J a b c d 49 (19 + 7 * J + 3) = b ∧ jG g J a b c d 49 (19 + 7 * J + 4) = c ∧ jG g J a b c d 49 (19 + 7 * J + 5) = d ∧ jG g J a b c d 49 (19 + 7 * J + 6) = 0 ∧ jG g J a b c d 49 1 = nI (J + 1) ∧ jG g J a b c d 53 6 = 0 := by
  unfold jG
  refine ⟨?_, ?_, ?_, ?_, ?_, ?_, ?_, ?_, up_s _ _ _ _⟩
  · rw [up_i (by omega), up_j (by omega), up_j (by omega), up_j (by omega), up_j (by omega), up_j (by omega), up_j (by omega), up_j (by omega)]; exact up_s _ _ _ _
  · rw [up_i (by omega), up_j (by omega), up_j (by omega), up_j (by omega), up_j (by omega), up_j (by omega), up_j (by omega), up_s]
  · rw [up_i (by omega), up_j (by omega), up_j (by omega), up_j (by omega), up_j (by omega), up_j (by omega), up_s]
  · rw [up_i (by omega), up_j (by omega), up_j (by omega), up_j (by omega), up_j (by omega), up_s]
  · rw [up_i (by omega), up_j (by omega), up_j (by omega), up_j (by omega), up_s]
  · rw [up_i (by omega), up_j (by omega), up_j (by omega), up_s]
  · rw [up_i (by omega), up_j (by omega), up_s]
  · rw [up_i (by omega), up_s]
def joD (D : Dt) (x : Nat) (he : Int32) (mn : Nat) (ln pt : Int32) (e : Ev) : Dt := ((cJ (dC D) + 1, cT (dC D), cS (dC D), upf (cK (dC D)) (cJ (dC D)) x, upf (cH (dC D)) (cJ (dC D)) he, upf (cM (dC D)) (cJ (dC D)) mn, upf (cL (dC D)) (cJ (dC D)) ln, upf (cP (dC D)) (cJ (dC D)) pt, upf (cE (dC D)) (cJ (dC D)) e), dL D, upf (dH D) (cJ (dC D)) 0, D.2.2.2)
theorem law_o {τ : Hp} {D : Dt} {lno : Nat → Int32} (n : Nat) (c : RWc τ 1 D lno) (hL : dL D ≤ 6) {d : Int32} (h : ¬ (d < -1 ∨ nI (dL D) ≤ d)) : ∃ o e, F_X3_lawAt n 1 d τ = some (o, τ) ∧ LwC τ (hI τ) o e ∧ ((d = -1 ∧ e = evP) ∨ ∃ l, l < dL D ∧ d = nI l ∧ e = dE D l) := by
  by_cases h0 : d < 0
  · have : d = -1 := by
      apply Int32.toInt_inj.mp
      have h1 : ¬ d < -1 := fun q => h (Or.inl q)
      rw [Int32.lt_iff_toInt_lt] at h0 h1
      have e1 : (-1 : Int32).toInt = -1 := by decide
      have e0 : (0 : Int32).toInt = 0 := by decide
      omega
    exact ⟨none, evP, la_n n h0, Or.inl ⟨rfl, rfl⟩, Or.inl ⟨this, rfl⟩⟩
  · obtain ⟨l, hl, rfl⟩ := nI_of h0
    have h2 : ¬ dL D ≤ l := fun q => h (Or.inr ((nI_leI (by omega) hl).mpr q))
    obtain ⟨q, q1, q2⟩ := c.2.2.2.2.2.2.1 l (by omega)
    exact ⟨_, dE D l, la_s n c.1 c.2.2.2.2.2.1 (by omega) hL, by rw [show hR τ 5 l = _ from q1]; exact Or.inr ⟨q, rfl, q2⟩, Or.inr ⟨l, by omega, rfl, rfl⟩⟩
theorem q_juror {τ : Hp} {D : Dt} {lno : Nat → Int32} {ot : Option Tk} (n : Nat) (hn : 12 < n) (h : Inv τ D lno ot) (a b c d : Int32) : SQ τ (F_X11_juror n 0 a b c d) (F_X12_juror n 48 a b c d) := by
  have L := h.1.1
  obtain ⟨cc, m, dw, -⟩ := h.2.1
  have hB := h.1.2.2.2.1
  have hJ := dw.1.1
  have hth := dw.1.2.1
  have hL := dw.2.1
  have hn65 := h.1.2.2.2.2.2.1
  by_cases bad : jB (dL D) a b c d
  · exact SQ.no h (-1) (jc_no n L.1 cc.2.2.2.2.2.1 bad) (jm_no n hB m.2.2.1 hL bad)
  by_cases hf : cJ (dC D) = 12
  · refine SQ.no h (-2) (jc_ok n L.1 cc.2.2.2.2.2.1 bad ?_) ?_
    · rw [cc.2.2.1, hf, if_neg (show ¬ nI 12 < 12 by decide)]
    · rw [jm_ok n hB m.2.2.1 hL m.2.1 hJ bad, if_pos hf]
  have hJ' : cJ (dC D) < 12 := by omega
  have bad' := bad
  unfold jB at bad'
  obtain ⟨o, e, lo, lc, lw⟩ := law_o n cc hL (fun q => bad' (Or.inr (Or.inr (Or.inr q))))
  obtain ⟨w, -, w2, rfl⟩ := nI_bet (v := a) (a := 0) (b := 7999) (by omega) (fun q => bad' (Or.inl (Or.inl (Or.inl q)))) (fun q => bad' (Or.inl (Or.inl (Or.inr q)))) (by omega)
  have x1 : nI w / 1000 = nI (w / 1000) := nI_div (b := 1000) (by omega) (by omega)
  have x2 : nI w / 100 - nI w / 100 / 10 * 10 = nI (w / 100 % 10) := by
    rw [show nI w / 100 = nI (w / 100) from nI_div (b := 100) (by omega) (by omega)]
    exact nI_mod (b := 10) (by omega) (by omega)
  have x3 : nI w - nI w / 100 * 100 = nI (w % 100) := nI_mod (b := 100) (by omega) (by omega)
  have m1 : 1 ≤ w % 100 := Nat.le_of_not_lt fun q => bad' (Or.inl (Or.inr (Or.inl (by rw [x3]; exact nI_lt (b := 1) (by omega) (by omega)))))
  have m30 : w % 100 ≤ 30 := Nat.le_of_not_lt fun q => bad' (Or.inl (Or.inr (Or.inr (by rw [x3]; exact (nI_ltI (a := 30) (by omega) (by omega)).mpr q))))
  have nt := nt_c (no := nI (cJ (dC D))) (ln := b) (pt := c) n L.1 lo x1 (by omega)
  have U := tuH_u τ (kc (w / 1000)) (nI (cJ (dC D))) (nI w) b c d o
  generalize tuH τ (kc (w / 1000)) (nI (cJ (dC D))) (nI w) b c d o = υ at nt U
  rw [x1, x2, x3] at U
  obtain ⟨u1, uK, uA, ⟨v0, v1, v2, v3, v4, v5, v6⟩, u7⟩ := U
  generalize hT : hN τ = T at *
  have T65 : 65 ≤ T := hn65
  sorry
