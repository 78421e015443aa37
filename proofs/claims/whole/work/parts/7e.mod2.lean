/-! the model's turns -/
def WPm (kk a j : Nat) : Prop := (a = kk ∧ 31 ≤ j ∧ j < 43) ∨ WL a j
theorem WPm.k {kk : Nat} {g h : Nat → Nat → Int32} (a : Fr (WPm kk) g h) : Fr (WK kk) g h := a.mo fun i j w => w.elim (fun q => Or.inr ⟨q.1, Or.inr (by have := q.2.1; omega)⟩) (fun q => Or.inl ⟨q.1, q.2.1, by have := q.2.2; omega⟩)
theorem MT.push {g h : Nat → Nat → Int32} {kk : Nat} {C : Ct} {T : Tk} {pu : Nat → Int32} (hJ : cJ C ≤ 12) (hk : isT2 kk) (hf : Fr (WPm kk) g h) (hp : ∀ i, i < cJ C → h kk (31 + i) = pu i) (a : MT g kk C T) : MT h kk C (tH T, pu, T.2.2) := by
  have hk2 : kk = 53 ∨ kk = 54 := hk
  have e : ∀ j, j < 31 ∨ 43 ≤ j → h kk j = g kk j := fun j hj => hf kk j (by unfold WPm WL; omega)
  obtain ⟨a1, a2, a3, a4, a5, a6⟩ := a
  exact ⟨by rw [e _ (by omega)]; exact a1, by rw [e _ (by omega)]; exact a2, by rw [e _ (by omega)]; exact a3, by rw [e _ (by omega)]; exact a4, by rw [e _ (by omega)]; exact a5, fun i hi => by rw [e (19 + i) (by omega), e (43 + i) (by omega), e (55 + i) (by omega), hp i hi]; exact ⟨(a6 i hi).1, rfl, (a6 i hi).2.2.1, (a6 i hi).2.2.2⟩⟩
def PLm (kk J : Nat) (g : Nat → Nat → Int32) (p q : Nat → Int32) (i : Nat) (h : Nat → Nat → Int32) : Prop := Fr (WPm kk) g h ∧ ∀ j, j < J → h kk (31 + j) = if j < i then q j else p j
theorem PLm.z {kk J : Nat} {g : Nat → Nat → Int32} {p q : Nat → Int32} (h : ∀ j, j < J → g kk (31 + j) = p j) : PLm kk J g p q 0 g := ⟨Fr.rf _ _, fun j hj => by rw [if_neg (by omega)]; exact h j hj⟩
theorem PLm.up {kk J i : Nat} {g h : Nat → Nat → Int32} {p q : Nat → Int32} {v : Int32} (hi : i < 12) (a : PLm kk J g p q i h) (hv : v = q i) : PLm kk J g p q (i + 1) (up2 h kk (31 + i) v) := by
  refine ⟨a.1.up (Or.inl ⟨rfl, by omega, by omega⟩), fun j hj => ?_⟩
  by_cases h1 : j = i
  · subst h1; rw [up_s, if_pos (by omega), hv]
  · rw [up_j (by omega), a.2 j hj]
    by_cases h2 : j < i
    · rw [if_pos h2, if_pos (by omega)]
    · rw [if_neg h2, if_neg (by omega)]
theorem PLm.no {kk J i : Nat} {g h : Nat → Nat → Int32} {p q : Nat → Int32} (a : PLm kk J g p q i h) (hv : p i = q i) : PLm kk J g p q (i + 1) h := by
  refine ⟨a.1, fun j hj => ?_⟩
  rw [a.2 j hj]
  by_cases h2 : j < i
  · rw [if_pos h2, if_pos (by omega)]
  · by_cases h1 : j = i
    · subst h1; rw [if_neg h2, if_pos (by omega), hv]
    · rw [if_neg h2, if_neg (by omega)]
theorem PLm.st {kk J i : Nat} {g h k : Nat → Nat → Int32} {p q : Nat → Int32} (hk : isT2 kk) (a : PLm kk J g p q i h) (b : Fr WL h k) : PLm kk J g p q i k := ⟨a.1.tr (b.mo fun _ _ w => Or.inr w), fun j hj => by
  have hk2 : kk = 53 ∨ kk = 54 := hk
  rw [b kk _ (by unfold WL; omega)]; exact a.2 j hj⟩
theorem PLm.at {kk J i : Nat} {g h : Nat → Nat → Int32} {p q : Nat → Int32} (a : PLm kk J g p q i h) (hi : i < J) : h kk (31 + i) = p i := by rw [a.2 i hi, if_neg (by omega)]
theorem PLm.ot {kk J i j : Nat} {g h : Nat → Nat → Int32} {p q : Nat → Int32} (hk : isT2 kk) (a : PLm kk J g p q i h) (hj : j < 31 ∨ 43 ≤ j) : h kk j = g kk j := a.1 kk j (by have hk2 : kk = 53 ∨ kk = 54 := hk; unfold WPm WL; omega)
theorem MC.k {g h : Nat → Nat → Int32} {kk : Nat} {C : Ct} (hk : isT2 kk) (hf : Fr (WK kk) g h) (a : MC g kk C) : MC h kk C := a.fr hk (WK.r hf)
/-- what a stage of a turn owes -/
def StM (σ : Hp) (g : Nat → Nat → Int32) (kk : Nat) (C : Ct) (T : Tk) (x : Option Hp) : Prop := ∃ g' t', x = some (wM σ g' t') ∧ Fr (WK kk) g g' ∧ MT g' kk C T
theorem sleep_m {σ : Hp} {g : Nat → Nat → Int32} {t kk i k : Nat} {C : Ct} {T : Tk} (n : Nat) (hB : MB σ) (hk : isT2 kk) (hC : MC g kk C) (hT : MT g kk C T) (hi : i < cJ C) (hg : tG T i ≤ 2) (hk8 : k < 8) : StM σ g kk C (if k = 7 then sleepS C T i else T) (F_X12_acts_141 n 48 kk (nI i) (nI k) (wM σ g t)) := by
  have hK := hB.k hk
  obtain ⟨a0, a1, a2, a3, a4⟩ := hC
  have hJ := a0.2.1
  obtain ⟨w, b0, b1', b2', b3, b4, b5, b6, b7⟩ := a4 i hi
  have hy := yes_le C T
  have hno : noS C T ≤ 12 := by unfold noS; omega
  unfold F_X12_acts_141 F_X12_acts_192
  by_cases h7 : k = 7
  · subst h7
    rw [if_pos (show (7 : Nat) = 7 from rfl), if_pos (show nI 7 = 7 from rfl), l_55, l_7, wM_L, hK, z_0, z_1, z_2, qk_in (by omega) (by omega), nI_clamp (by omega), wM_I, (hT.2.2.2.2.2 i hi).2.2.2]
    unfold sleepS
    by_cases c0 : tG T i = 0
    · rw [if_pos (show nI (tG T i) = 0 by rw [c0]; rfl), if_pos c0, kq_0 (by decide), qk_in (by omega) (by omega), nI_clamp (by omega), b1', qk_b2 (get_m (x := 4) (x' := 4) n hB rfl b0 (by omega)), b6, hT.1]
      by_cases c1 : nI (tM T) < cP C i
      · rw [if_pos c1, if_pos c1]; exact ⟨g, t, rfl, Fr.rf _ _, hT⟩
      · rw [if_neg c1, if_neg c1, wM_L, hK, kq_1 (by decide), kq_2 (by decide), wM_I, hT.2.1, hT.2.2.1]
        have fin : ∀ v : Nat, StM σ g kk C (tH T, tP T, tS T, upb (tG T) i v, T.2.2.2.2) (some (wM σ (up2 g kk (55 + i) (nI v)) t)) := by
          intro v
          obtain ⟨t1, t2, t3, t4, t5, t6⟩ := hT
          refine ⟨_, t, rfl, (Fr.rf _ _).up (Or.inr ⟨rfl, Or.inr (by omega)⟩), by rw [up_j (by omega)]; exact t1, by rw [up_j (by omega)]; exact t2, by rw [up_j (by omega)]; exact t3, by rw [up_j (by omega)]; exact t4, by rw [up_j (by omega)]; exact t5, fun j hj => ?_⟩
          rw [up_j (show 19 + j ≠ 55 + i by omega), up_j (show 31 + j ≠ 55 + i by omega), up_j (show 43 + j ≠ 55 + i by omega)]
          refine ⟨(t6 j hj).1, (t6 j hj).2.1, (t6 j hj).2.2.1, ?_⟩
          show _ = nI (upb (tG T) i v j)
          unfold upb
          by_cases h4 : j = i
          · subst h4; rw [up_s, if_pos rfl]
          · rw [up_j (by omega), if_neg h4]; exact (t6 j hj).2.2.2
        by_cases c3 : noS C T ≤ yesS C T
        · rw [if_neg (nI_nlt c3 (by omega)), if_pos c3, qk_i2 (by omega) (by omega), qk_lt, wM_p]
          exact fin 2
        · rw [if_pos (nI_lt (by omega) (by omega)), if_neg c3, qk_i2 (by omega) (by omega), qk_lt, wM_p]
          exact fin 1
    · rw [if_neg (nI_ne0 (by omega) (by omega)), if_neg c0]
      have e : (if nI (tM T) < cP C i then T else T) = T := by split <;> rfl
      rw [e]
      exact ⟨g, t, rfl, Fr.rf _ _, hT⟩
  · rw [if_neg h7, if_neg (show ¬ nI k = 7 by rw [show (7 : Int32) = nI 7 from rfl, nI_eq (by omega) (by omega)]; exact h7)]
    exact ⟨g, t, rfl, Fr.rf _ _, hT⟩
theorem rule_m {σ : Hp} {g : Nat → Nat → Int32} {t kk i k : Nat} {C : Ct} {T : Tk} (n : Nat) (hn : 12 < n) (hB : MB σ) (hk : isT2 kk) (hC : MC g kk C) (hT : MT g kk C T) (hi : i < cJ C) (hg : tG T i ≤ 2) (hk8 : k < 8) : StM σ g kk C (if k = 7 then sleepS C T i else if k = 5 then ruleS C T else T) (F_X12_acts_108 n 48 kk (nI i) (nI k) (wM σ g t)) := by
  have hK := hB.k hk
  have hJ := hC.1.2.1
  unfold F_X12_acts_108
  by_cases h5 : k = 5
  · subst h5
    rw [if_neg (show ¬ (5 : Nat) = 7 by decide), if_pos (show (5 : Nat) = 5 from rfl), if_pos (show nI 5 = 5 from rfl)]
    obtain ⟨ρ, e1, g', e2, e3⟩ := q_for (fun f j (h : Nat → Nat → Int32) => F_X12_acts_116 n f 48 kk (nI i) (nI 5) (nI j) (wM σ h t)) (PLm kk (cJ C) g (tP T) (fun j => tP T j / 2)) (fun ρ => ∃ g', ρ = wM σ g' t ∧ PLm kk (cJ C) g (tP T) (fun j => tP T j / 2) (cJ C) g') (cJ C) (fun j f h hj hp => by
      have c5 : h kk 5 = nI (cJ C) := by rw [hp.ot hk (by omega)]; exact hC.2.1
      refine ⟨up2 h kk (31 + j) (h kk (31 + j) / 2), ?_, hp.up (by omega) (by rw [hp.at hj])⟩
      simp only [F_X12_acts_116]
      rw [wM_L, hK, z_5, kq_5 (by decide), wM_I, c5, if_neg (nI_ge hj (by omega)), l_31, qk_in (by omega) (by omega), qk_in (by omega) (by omega), nI_clamp (by omega), qk_lt, wM_p, ← nI_succ]) (fun f h hp => by
      have c5 : h kk 5 = nI (cJ C) := by rw [hp.ot hk (by omega)]; exact hC.2.1
      obtain ⟨g', t', q1, q2, q3⟩ := sleep_m (t := t) (k := 5) n hB hk (hC.k hk (WPm.k hp.1)) (hT.push hJ hk hp.1 (fun i hi => (hp.2 i hi).trans (if_pos hi))) hi hg (by omega)
      refine ⟨wM σ h t, ?_, h, rfl, hp⟩
      simp only [F_X12_acts_116]
      rw [wM_L, hK, z_5, kq_5 (by decide), wM_I, c5, if_pos (nI_le (Nat.le_refl _) (by omega))]
      unfold F_X12_acts_141
      rw [if_neg (by decide)]) n g (by omega) (PLm.z fun j hj => (hT.2.2.2.2.2 j hj).2.1)
    subst e2
    exact ⟨g', t, by rw [q_0]; exact e1, WPm.k e3.1, hT.push hJ hk e3.1 (fun i hi => (e3.2 i hi).trans (if_pos hi))⟩
  · rw [if_neg (show ¬ nI k = 5 by rw [show (5 : Int32) = nI 5 from rfl, nI_eq (by omega) (by omega)]; exact h5), if_neg h5]
    exact sleep_m n hB hk hC hT hi hg hk8
theorem press_m {σ : Hp} {g : Nat → Nat → Int32} {t kk : Nat} {C : Ct} {T : Tk} (n : Nat) (hn : 12 < n) (hB : MB σ) (hk : isT2 kk) (hC : MC g kk C) (hT : MT g kk C T) : StM σ g kk C (pressS C T) (F_X12_presses n 48 kk (wM σ g t)) := by
  have hK := hB.k hk
  have hJ := hC.1.2.1
  unfold F_X12_presses
  rw [wM_L, hK, z_1, z_2, kq_1 (by decide), kq_2 (by decide), wM_I, hT.2.1, hT.2.2.1, qk_lt]
  obtain ⟨ρ, e1, g', e2, e3⟩ := q_for (fun f j (h : Nat → Nat → Int32) => F_X12_presses_10 n f 48 kk (moreS C T) (nI j) (wM σ h t)) (PLm kk (cJ C) g (tP T) (tP (pressS C T))) (fun ρ => ∃ g', ρ = wM σ g' t ∧ PLm kk (cJ C) g (tP T) (tP (pressS C T)) (cJ C) g') (cJ C) (fun j f h hj hp => by
    have hCh := hC.k hk (WPm.k hp.1)
    obtain ⟨w, b0, b1', b2', b3, b4, b5, b6, b7⟩ := hCh.2.2.2.2 j hj
    have c43 : h kk (43 + j) = if tS T j then 1 else 0 := by rw [hp.ot hk (by omega)]; exact (hT.2.2.2.2.2 j hj).2.2.1
    have es : tP (pressS C T) j = if moreS C T ≤ 0 then (if 0 ≤ moreS C T then tP T j else if tS T j then tP T j + (-2) * cH C j else tP T j) else if tS T j then tP T j else tP T j + 2 * cH C j := rfl
    have hget := get_m (σ := σ) (g := h) (t := t) (x := 1) (x' := 1) n hB rfl b0 (by omega)
    rw [b3] at hget
    have m1 : tP T j + 2 * cH C j * (-1) = tP T j + (-2) * cH C j := by grind
    have m2 : tP T j + 2 * cH C j * 1 = tP T j + 2 * cH C j := by grind
    simp only [F_X12_presses_10, F_X12_presses_93, F_X12_presses_96, F_X12_presses_56, F_X12_presses_57, if_true]
    rw [wM_L, hK, z_5, kq_5 (by decide), wM_I, hCh.2.1, if_neg (nI_ge hj (by omega)), l_43, l_31, l_7, qk_in (by omega) (by omega), nI_clamp (by omega), c43, ← nI_succ]
    by_cases c1 : moreS C T ≤ 0
    · rw [if_pos c1] at es ⊢
      by_cases c2 : 0 ≤ moreS C T
      · rw [if_pos c2] at es ⊢
        exact ⟨h, rfl, hp.no es.symm⟩
      · rw [if_neg c2] at es ⊢
        cases hs : tS T j
        · rw [if_neg (by decide)]
          rw [hs, if_neg (by decide)] at es
          exact ⟨h, rfl, hp.no es.symm⟩
        · rw [hs, if_pos rfl] at es
          rw [if_pos (by decide), if_neg (by decide), qk_in (by omega) (by omega), qk_in (by omega) (by omega), nI_clamp (by omega), nI_clamp (by omega), b1', qk_b2 hget, if_pos c1, wM_L, hK, qk_i2 (by omega) (by omega), qk_lt, wM_p, hp.at hj, m1]
          exact ⟨_, rfl, hp.up (by omega) es.symm⟩
    · rw [if_neg c1] at es ⊢
      rw [qk_i2 (by omega) (by omega)]
      cases hs : tS T j
      · rw [hs, if_neg (by decide)] at es
        rw [if_pos (by decide), if_neg (by decide), qk_in (by omega) (by omega), qk_in (by omega) (by omega), nI_clamp (by omega), nI_clamp (by omega), b1', qk_b2 hget, if_neg c1, wM_L, hK, qk_i2 (by omega) (by omega), qk_lt, wM_p, hp.at hj, m2]
        exact ⟨_, rfl, hp.up (by omega) es.symm⟩
      · rw [if_neg (by decide)]
        rw [hs, if_pos rfl] at es
        exact ⟨h, rfl, hp.no es.symm⟩) (fun f h hp => by
    have c5 : h kk 5 = nI (cJ C) := by rw [hp.ot hk (by omega)]; exact hC.2.1
    refine ⟨_, ?_, h, rfl, hp⟩
    simp only [F_X12_presses_10]
    rw [wM_L, hK, z_5, kq_5 (by decide), wM_I, c5, if_pos (nI_le (Nat.le_refl _) (by omega))]) n g (by omega) (PLm.z fun j hj => (hT.2.2.2.2.2 j hj).2.1)
  subst e2
  exact ⟨g', t, e1, WPm.k e3.1, hT.push hJ hk e3.1 (fun i hi => (e3.2 i hi).trans (if_pos hi))⟩
theorem st98_m {σ : Hp} {g : Nat → Nat → Int32} {t kk i k : Nat} {C : Ct} {T : Tk} (n : Nat) (hn : 12 < n) (hB : MB σ) (hk : isT2 kk) (hC : MC g kk C) (hT : MT g kk C T) (hi : i < cJ C) (hg : tG T i ≤ 2) (hk8 : k < 8) : StM σ g kk C (if k = 7 then sleepS C T i else if k = 5 then ruleS C T else if k = 3 then pressS C T else T) (F_X12_acts_98 n 48 kk (nI i) (nI k) (wM σ g t)) := by
  unfold F_X12_acts_98
  by_cases h3 : k = 3
  · subst h3
    rw [if_neg (show ¬ (3 : Nat) = 7 by decide), if_neg (show ¬ (3 : Nat) = 5 by decide), if_pos (show (3 : Nat) = 3 from rfl), if_pos (show nI 3 = 3 from rfl)]
    obtain ⟨g1, t1, q1, q2, q3⟩ := press_m (t := t) n hn hB hk hC hT
    rw [qk_b1 q1]
    obtain ⟨g2, t2, r1, r2, r3⟩ := rule_m (t := t1) (i := i) (k := 3) n hn hB hk (hC.k hk q2) q3 hi hg (by omega)
    exact ⟨g2, t2, r1, q2.tr r2, r3⟩
  · rw [if_neg (show ¬ nI k = 3 by rw [show (3 : Int32) = nI 3 from rfl, nI_eq (by omega) (by omega)]; exact h3), if_neg h3]
    exact rule_m n hn hB hk hC hT hi hg hk8
theorem count_m {σ : Hp} {g : Nat → Nat → Int32} {t kk i k : Nat} {C : Ct} {T : Tk} (n : Nat) (hn : 12 < n) (hB : MB σ) (hk : isT2 kk) (hC : MC g kk C) (hT : MT g kk C T) (hi : i < cJ C) (hg : tG T i ≤ 2) (hk8 : k < 8) : StM σ g kk C (if k = 7 then sleepS C T i else if k = 5 then ruleS C T else if k = 3 then pressS C (countS C T) else if k = 2 then countS C T else T) (F_X12_acts_39 n 48 kk (nI i) (nI k) (wM σ g t)) := by
  have hK := hB.k hk
  have hJ := hC.1.2.1
  have key : k = 2 ∨ k = 3 → StM σ g kk C (if k = 3 then pressS C (countS C T) else countS C T) (F_X12_acts_52 n n 48 kk (nI i) (nI k) 0 (wM σ g t)) := by
    intro hk23
    obtain ⟨ρ, e1, e2⟩ := q_for (fun f j (h : Nat → Nat → Int32) => F_X12_acts_52 n f 48 kk (nI i) (nI k) (nI j) (wM σ h t)) (PLm kk (cJ C) g (tP T) (fun j => tP T j + cH C j * moreS C T / 4)) (fun ρ => ∃ g' t', ρ = wM σ g' t' ∧ Fr (WK kk) g g' ∧ MT g' kk C (if k = 3 then pressS C (countS C T) else countS C T)) (cJ C) (fun j f h hj hp => by
      have hCh := hC.k hk (WPm.k hp.1)
      obtain ⟨w, b0, b1', b2', b3, b4, b5, b6, b7⟩ := hCh.2.2.2.2 j hj
      have c1 : h kk 1 = nI (yesS C T) := by rw [hp.ot hk (by omega)]; exact hT.2.1
      have c2 : h kk 2 = nI (noS C T) := by rw [hp.ot hk (by omega)]; exact hT.2.2.1
      have hget := get_m (σ := σ) (g := h) (t := t) (x := 1) (x' := 1) n hB rfl b0 (by omega)
      rw [b3] at hget
      refine ⟨up2 h kk (31 + j) (h kk (31 + j) + cH C j * moreS C T / 4), ?_, hp.up (by omega) (by rw [hp.at hj])⟩
      simp only [F_X12_acts_52]
      rw [wM_L, hK, z_5, kq_5 (by decide), wM_I, hCh.2.1, if_neg (nI_ge hj (by omega)), l_31, l_7, qk_in (by omega) (by omega), qk_in (by omega) (by omega), nI_clamp (by omega), nI_clamp (by omega), b1', qk_b2 hget, z_1, z_2, wM_L, hK, kq_1 (by decide), kq_2 (by decide), qk_i2 (by omega) (by omega), wM_I, c1, c2, qk_lt, wM_p, ← nI_succ]
      rfl) (fun f h hp => by
      have c5 : h kk 5 = nI (cJ C) := by rw [hp.ot hk (by omega)]; exact hC.2.1
      have hT2 : MT h kk C (countS C T) := hT.push hJ hk hp.1 (fun i hi => (hp.2 i hi).trans (if_pos hi))
      obtain ⟨g2, t2, r1, r2, r3⟩ := st98_m (t := t) (i := i) (k := k) n hn hB hk (hC.k hk (WPm.k hp.1)) hT2 hi hg hk8
      refine ⟨wM σ g2 t2, ?_, g2, t2, rfl, (WPm.k hp.1).tr r2, ?_⟩
      · simp only [F_X12_acts_52]
        rw [wM_L, hK, z_5, kq_5 (by decide), wM_I, c5, if_pos (nI_le (Nat.le_refl _) (by omega))]
        exact r1
      · rcases hk23 with rfl | rfl
        · exact r3
        · exact r3) n g (by omega) (PLm.z fun j hj => (hT.2.2.2.2.2 j hj).2.1)
    obtain ⟨g', t', e2, e3, e4⟩ := e2
    subst e2
    exact ⟨g', t', by rw [q_0]; exact e1, e3, e4⟩
  unfold F_X12_acts_39 F_X12_acts_49
  by_cases h2 : k = 2
  · subst h2
    have := key (Or.inl rfl)
    rw [if_neg (show ¬ (2 : Nat) = 3 by decide)] at this
    rw [if_neg (show ¬ (2 : Nat) = 7 by decide), if_neg (show ¬ (2 : Nat) = 5 by decide), if_neg (show ¬ (2 : Nat) = 3 by decide), if_pos (show (2 : Nat) = 2 from rfl), if_pos (show nI 2 = 2 from rfl)]
    exact this
  · rw [if_neg (show ¬ nI k = 2 by rw [show (2 : Int32) = nI 2 from rfl, nI_eq (by omega) (by omega)]; exact h2)]
    by_cases h3 : k = 3
    · subst h3
      have := key (Or.inr rfl)
      rw [if_pos (show (3 : Nat) = 3 from rfl)] at this
      rw [if_neg (show ¬ (3 : Nat) = 7 by decide), if_neg (show ¬ (3 : Nat) = 5 by decide), if_pos (show (3 : Nat) = 3 from rfl), if_pos (show nI 3 = 3 from rfl)]
      exact this
    · rw [if_neg (show ¬ nI k = 3 by rw [show (3 : Int32) = nI 3 from rfl, nI_eq (by omega) (by omega)]; exact h3), if_neg h3, if_neg h2]
      have := st98_m (t := t) n hn hB hk hC hT hi hg hk8
      rw [if_neg h3] at this
      exact this
theorem story_m {σ : Hp} {g : Nat → Nat → Int32} {t kk i : Nat} {C : Ct} {T : Tk} (n : Nat) (hn : 200 < n) (hB : MB σ) (hk : isT2 kk) (hC : MC g kk C) (hT : MT g kk C T) (hi : i < cJ C) : StM σ g kk C (storyS C T i) (F_X12_tellsStory n 48 kk (nI i) (wM σ g t)) := by
  have hK := hB.k hk
  have hJ := hC.1.2.1
  have hk2 : kk = 53 ∨ kk = 54 := hk
  unfold F_X12_tellsStory F_X12_sees
  rw [wM_L, hK, z_0, z_1, z_2, kq_1 (by decide), kq_2 (by decide), kq_0 (by decide), wM_I, hT.1, hT.2.1, hT.2.2.1, qk_lt, wM_p, qk_lt, wM_p, qk_lt, wM_p, qk_s1]
  generalize hg3 : up2 (up2 (up2 g 48 23 (nI (yesS C T))) 48 24 (nI (noS C T))) 48 25 (nI (tM T)) = g3
  have f3 : Fr (WK kk) g g3 := by rw [← hg3]; exact (((Fr.rf _ _).up (Or.inl ⟨rfl, by omega, by omega⟩)).up (Or.inl ⟨rfl, by omega, by omega⟩)).up (Or.inl ⟨rfl, by omega, by omega⟩)
  have d23 : g3 48 23 = nI (yesS C T) := by rw [← hg3, up_j (by omega), up_j (by omega), up_s]
  have d24 : g3 48 24 = nI (noS C T) := by rw [← hg3, up_j (by omega), up_s]
  have d25 : g3 48 25 = nI (tM T) := by rw [← hg3, up_s]
  have dk : ∀ j, g3 kk j = g kk j := fun j => by rw [← hg3, up_i (by omega), up_i (by omega), up_i (by omega)]
  have hC3 := hC.k hk f3
  have hT3 := hT.fr dk
  obtain ⟨ρ, e1, e2⟩ := q_for (fun f j (a : (Nat → Nat → Int32) × Nat) => F_X12_tellsStory_15 n f 48 kk (nI i) (nI j) (wM σ a.1 a.2)) (fun j a => PLm kk (cJ C) g3 (tP T) (tP (storyS C T i)) j a.1) (fun ρ => ∃ g' t', ρ = wM σ g' t' ∧ PLm kk (cJ C) g3 (tP T) (tP (storyS C T i)) (cJ C) g') (cJ C) (fun j f a hj hp => by
    obtain ⟨h, t⟩ := a
    change PLm kk (cJ C) g3 (tP T) (tP (storyS C T i)) j h at hp
    have hCh := hC3.k hk (WPm.k hp.1)
    obtain ⟨w, b0, b1', b2', b3, b4, b5, b6, b7⟩ := hCh.2.2.2.2 j hj
    have e23 : ∀ q, 22 < q → h 48 q = g3 48 q := fun q hq => hp.1 48 q (by unfold WPm WL; omega)
    obtain ⟨h', t', v1, v2⟩ := lin_m (t := t) (hd := tH T) (pu := tP T) n hn hB hk hCh hj (by rw [hp.ot hk (by omega)]; exact (hT3.2.2.2.2.2 j hj).1) (hp.at hj) ((e23 23 (by omega)).trans d23) ((e23 24 (by omega)).trans d24) ((e23 25 (by omega)).trans d25)
    have hp2 := hp.st hk v2
    have vk : ∀ q, h' kk q = h kk q := fun q => v2 kk q (by unfold WL; omega)
    have hget := get_m (σ := σ) (g := h') (t := t') (x := 3) (x' := 3) n hB rfl b0 (by omega)
    rw [v2 49 _ (by unfold WL; omega), b5] at hget
    have c43 : h' kk (43 + i) = if tS T i then 1 else 0 := by rw [hp2.ot hk (by omega)]; exact (hT3.2.2.2.2.2 i hi).2.2.1
    have es : tP (storyS C T i) j = if nearS (leanS C (tH T) (tP T) (nI (yesS C T)) (nI (noS C T)) (nI (tM T)) j) (cL C j) then tP T j + (if tS T i then 2 else -2) else tP T j := rfl
    unfold nearS at es
    simp only [F_X12_tellsStory_15, F_X12_tellsStory_85, F_X12_tellsStory_87]
    rw [wM_L, hK, z_5, kq_5 (by decide), wM_I, hCh.2.1, if_neg (nI_ge hj (by omega)), qk_b2 v1, l_7, l_31, l_43, wM_L, hK, qk_in (by omega) (by omega), nI_clamp (by omega), wM_I, vk, b1', qk_b2 hget, ← nI_succ]
    by_cases c1 : lg_cmp ((leanS C (tH T) (tP T) (nI (yesS C T)) (nI (noS C T)) (nI (tM T)) j).toInt64 - (cL C j).toInt64) (-5) ≤ 0
    · rw [if_pos c1] at es ⊢
      exact ⟨(h', t'), rfl, hp2.no es.symm⟩
    · rw [if_neg c1] at es ⊢
      by_cases c2 : 0 ≤ lg_cmp ((leanS C (tH T) (tP T) (nI (yesS C T)) (nI (noS C T)) (nI (tM T)) j).toInt64 - (cL C j).toInt64) 5
      · rw [if_pos c2] at es ⊢
        exact ⟨(h', t'), rfl, hp2.no es.symm⟩
      · rw [if_neg c2] at es ⊢
        rw [wM_L, hK, qk_in (by omega) (by omega), qk_in (by omega) (by omega), nI_clamp (by omega), nI_clamp (by omega), wM_I, c43, hp2.at hj]
        cases hs : tS T i
        · rw [hs] at es
          rw [if_neg (by decide), qk_i2 (by omega) (by omega), qk_lt, wM_p]
          exact ⟨(_, t'), rfl, hp2.up (by omega) es.symm⟩
        · rw [hs] at es
          rw [if_pos (by decide), qk_i2 (by omega) (by omega), qk_lt, wM_p]
          exact ⟨(_, t'), rfl, hp2.up (by omega) es.symm⟩) (fun f a hp => by
    obtain ⟨h, t⟩ := a
    change PLm kk (cJ C) g3 (tP T) (tP (storyS C T i)) (cJ C) h at hp
    have c5 : h kk 5 = nI (cJ C) := by rw [hp.ot hk (by omega)]; exact hC3.2.1
    refine ⟨_, ?_, h, t, rfl, hp⟩
    simp only [F_X12_tellsStory_15]
    rw [wM_L, hK, z_5, kq_5 (by decide), wM_I, c5, if_pos (nI_le (Nat.le_refl _) (by omega))]) n (g3, t) (by omega) (PLm.z fun j hj => (hT3.2.2.2.2.2 j hj).2.1)
  obtain ⟨g', t', e2, e3⟩ := e2
  subst e2
  exact ⟨g', t', by rw [q_0]; exact e1, f3.tr (WPm.k e3.1), hT3.push hJ hk e3.1 (fun i hi => (e3.2 i hi).trans (if_pos hi))⟩
