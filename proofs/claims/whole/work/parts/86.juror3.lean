theorem jG_o {g : Nat → Nat → Int32} {J : Nat} {a b c d : Int32} {p k : Nat} (h1 : ¬ (p = 49 ∧ (k = 1 ∨ (19 + 7 * J ≤ k ∧ k ≤ 19 + 7 * J + 6)))) (h2 : ¬ (p = 53 ∧ k = 6)) : jG g J a b c d p k = g p k := by
  unfold jG up2
  rw [if_neg h2, if_neg (by omega), if_neg (by omega), if_neg (by omega), if_neg (by omega), if_neg (by omega), if_neg (by omega), if_neg (by omega), if_neg (by omega)]
theorem jG_v {g : Nat → Nat → Int32} {J : Nat} {a b c d : Int32} : jG g J a b c d 49 (19 + 7 * J + 0) = a / 1000 ∧ jG g J a b c d 49 (19 + 7 * J + 1) = (a / 100) - (a / 100) / 10 * 10 ∧ jG g J a b c d 49 (19 + 7 * J + 2) = a - a / 100 * 100 ∧ jG g J a b c d 49 (19 + 7 * J + 3) = b ∧ jG g J a b c d 49 (19 + 7 * J + 4) = c ∧ jG g J a b c d 49 (19 + 7 * J + 5) = d ∧ jG g J a b c d 49 (19 + 7 * J + 6) = 0 ∧ jG g J a b c d 49 1 = nI (J + 1) ∧ jG g J a b c d 53 6 = 0 := by
  unfold jG
  refine ⟨?_, ?_, ?_, ?_, ?_, ?_, ?_, ?_, up_s _ _ _ _⟩
  · rw [up_i (by omega), up_j (by omega), up_j (by omega), up_j (by omega), up_j (by omega), up_j (by omega), up_j (by omega), up_j (by omega)]; exact up_s _ _ _ _
  · rw [up_i (by omega), up_j (by omega), up_j (by omega), up_j (by omega), up_j (by omega), up_j (by omega), up_j (by omega), up_s]
  · rw [up_i (by omega), up_j (by omega), up_j (by omega), up_j (by omega), up_j (by omega), up_j (by omega), up_s]
  · rw [up_i (by omega), up_j (by omega), up_j (by omega), up_j (by omega), up_j (by omega), up_s]
  · rw [up_i (by omega), up_j (by omega), up_j (by omega), up_j (by omega), up_s]
  · rw [up_i (by omega), up_j (by omega), up_j (by omega), up_s]
  · rw [up_i (by omega), up_j (by omega), up_s]
  · rw [up_i (by omega), up_s]
def joD (D : Dt) (x : Nat) (he : Int32) (mn : Nat) (ln pt : Int32) (e : Ev) : Dt := ((cJ (dC D) + 1, cT (dC D), cS (dC D), upf (cK (dC D)) (cJ (dC D)) x, upf (cH (dC D)) (cJ (dC D)) he, upf (cM (dC D)) (cJ (dC D)) mn, upf (cL (dC D)) (cJ (dC D)) ln, upf (cP (dC D)) (cJ (dC D)) pt, upf (cE (dC D)) (cJ (dC D)) e), dL D, upf (dH D) (cJ (dC D)) 0, D.2.2.2)
theorem law_o {τ : Hp} {D : Dt} {lno : Nat → Int32} (n : Nat) (c : RWc τ 1 D lno) (hL : dL D ≤ 6) {d : Int32} (h : ¬ (d < -1 ∨ nI (dL D) ≤ d)) : ∃ o e, F_X3_lawAt n 1 d τ = some (o, τ) ∧ LwC τ (hI τ) o e ∧ ((d = -1 ∧ e = evP) ∨ ∃ l, l < dL D ∧ d = nI l ∧ e = dE D l) := by
  by_cases h0 : d < 0
  · have : d = -1 := by
      apply Int32.toInt_inj.mp
      have h1 : ¬ d < -1 := fun q => h (Or.inl q)
      rw [Int32.lt_iff_toInt_lt] at h0 h1
      have e1 : (-1 : Int32).toInt = -1 := by decide
      have e0 : (0 : Int32).toInt = 0 := by decide
      omega
    exact ⟨none, evP, la_n n h0, Or.inl ⟨rfl, rfl⟩, Or.inl ⟨this, rfl⟩⟩
  · obtain ⟨l, hl, rfl⟩ := nI_of h0
    have h2 : ¬ dL D ≤ l := fun q => h (Or.inr ((nI_leI (by omega) hl).mpr q))
    obtain ⟨q, q1, q2⟩ := c.2.2.2.2.2.2.1 l (by omega)
    exact ⟨_, dE D l, la_s n c.1 c.2.2.2.2.2.1 (by omega) hL, by rw [show hR τ 5 l = _ from q1]; exact Or.inr ⟨q, rfl, q2⟩, Or.inr ⟨l, by omega, rfl, rfl⟩⟩
theorem jr_c {τ υ : Hp} {T J th L : Nat} {sp hd : Nat → Int32} {a b c d : Int32} (n : Nat) (hn : 12 < n) (h0 : hR τ 0 0 = some 1) (rl : RL τ 1) (h5 : hI τ 1 5 = nI L) (c0 : hI τ 1 0 = nI th) (hth : th ≤ 12) (c2 : hI τ 1 2 = nI J) (hJ : J < 12) (cs : ∀ t, t < th → hI τ 2 t = sp t) (ch : ∀ t, t < J → hI τ 4 t = hd t) (bad : ¬ jB L a b c d) (nt : F_X11_newTurn n 0 (nI J) a b c d τ = some (some T, υ)) (uA : ∀ x, x < 65 → hL υ x = hL τ x ∧ (∀ j, hI υ x j = hI τ x j) ∧ ∀ j, hR υ x j = hR τ x j) : ∃ g1 R1, F_X11_juror n 0 a b c d τ = some (nI J, wA υ g1 R1) ∧ (∀ b k, ¬ (b = 3 ∧ k = J) → R1 b k = hR υ b k) ∧ R1 3 J = some T ∧ (∀ b k, ¬ (b = 4 ∧ k = J) → ¬ (b = 1 ∧ (k = 2 ∨ k = 8 ∨ (10 ≤ k ∧ k ≤ 14))) → ¬ (7 ≤ b ∧ b ≤ 10) → g1 b k = hI υ b k) ∧ g1 1 2 = nI (J + 1) ∧ g1 1 8 = 0 ∧ (∀ t, t < J + 1 → g1 4 t = upf hd J 0 t) ∧ CU g1 1 (J + 1) th sp (upf hd J 0) := by
  have r0 := (uA 0 (by omega)).2.2 0
  have rl1 : RL (wA υ (hI υ) (hR υ)) 1 := rl.ext (fun j => (uA 1 (by omega)).2.2 j) (fun i h1 h2 => (uA (1 + i) (by omega)).1)
  have si := sit_c (σ := υ) (g := hI υ) (R := hR υ) (r := 1) (m := J) (o := some T) (x := 0) n rl1 (((uA 1 (by omega)).2.1 2).trans c2) hJ
  have si' : F_X3_sit n 1 (some T) 0 υ = some (wA υ (up2 (up2 (hI υ) 4 J 0) 1 2 (nI (J + 1))) (up2 (hR υ) 3 J (some T))) := si
  obtain ⟨R1, hR1⟩ : ∃ R1, up2 (hR υ) 3 J (some T) = R1 := ⟨_, rfl⟩
  obtain ⟨g0, hg0⟩ : ∃ g0, up2 (up2 (up2 (hI υ) 4 J 0) 1 2 (nI (J + 1))) 1 8 0 = g0 := ⟨_, rfl⟩
  rw [hR1] at si'
  have eR : ∀ b k, ¬ (b = 3 ∧ k = J) → R1 b k = hR υ b k := fun b k hb => by rw [← hR1]; unfold up2; rw [if_neg hb]
  have R1J : R1 3 J = some T := by rw [← hR1, up_s]
  have e0 : ∀ b k, ¬ (b = 4 ∧ k = J) → ¬ (b = 1 ∧ (k = 2 ∨ k = 8)) → g0 b k = hI υ b k := fun b k h1 h2 => by
    rw [← hg0]; unfold up2; rw [if_neg (by omega), if_neg (by omega), if_neg (by omega)]
  have g04 : g0 4 J = 0 := by rw [← hg0, up_i (by omega), up_i (by omega)]; exact up_s _ _ _ _
  have g02 : g0 1 2 = nI (J + 1) := by rw [← hg0, up_j (by omega), up_s]
  have g08 : g0 1 8 = 0 := by rw [← hg0, up_s]
  have rl2 : RL (wA υ g0 R1) 1 := rl.ext (fun j => (eR 1 j (by omega)).trans ((uA 1 (by omega)).2.2 j)) (fun i h1 h2 => (uA (1 + i) (by omega)).1)
  have hh : ∀ t, t < J + 1 → g0 (1 + 3) t = upf hd J 0 t := fun t ht => by
    by_cases q : t = J
    · rw [q, upf_s]; exact g04
    · rw [upf_n _ _ q, e0 _ _ (by omega) (by omega), (uA _ (by omega)).2.1]
      exact ch t (by omega)
  obtain ⟨g1, s1, s2, s3⟩ := sat_c (σ := wA υ g0 R1) (g := g0) (J := J + 1) (sp := sp) (hd := upf hd J 0) n hn rl2 (((e0 1 0 (by omega) (by omega)).trans ((uA 1 (by omega)).2.1 0)).trans c0) hth g02 (by omega) (fun t ht => ((e0 2 t (by omega) (by omega)).trans ((uA 2 (by omega)).2.1 t)).trans (cs t ht)) hh
  rw [wA_w, wA_w] at s1
  refine ⟨g1, R1, jc_ok n h0 h5 bad ?_, eR, R1J, fun b k h1 h2 h3 => (s2 b k (by omega)).trans (e0 b k h1 (by omega)), (s2 1 2 (by omega)).trans g02, (s2 1 8 (by omega)).trans g08, fun t ht => (s2 4 t (by omega)).trans (hh t ht), s3⟩
  rw [c2, if_pos (show nI J < 12 from nI_lt (b := 12) (by omega) (by omega)), qk_b2 nt, qk_b1 si', wA_R, eR 0 0 (by omega), r0, h0, qk_s1, wA_p, hg0, qk_lt, wA_R, eR 0 0 (by omega), r0, h0, qk_s1, qk_b1 s1, wA_R, eR 0 0 (by omega), r0, h0, qk_s1, wA_I, s2 1 2 (by omega), g02, nI_s1]
