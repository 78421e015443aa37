/-! the model's turns, on: things; a turn; the beginning -/
theorem thing_m {σ : Hp} {g : Nat → Nat → Int32} {t kk i : Nat} {C : Ct} {T : Tk} (n : Nat) (hn : 12 < n) (hB : MB σ) (hk : isT2 kk) (hC : MC g kk C) (hT : MT g kk C T) (hi : i < cJ C) : StM σ g kk C (thingS C T i) (F_X12_tellsThing n 48 kk (nI i) (wM σ g t)) := by
  have hK := hB.k hk
  have hB0 := hB
  obtain ⟨⟨M0, M1, M2, M3, M4, M5, M6, M7, M8, M9, M10, M11, M12, M28, M29⟩, K49, K50, K51, K52, K53, K54, K55, K56, K57, K58, K59, K60, K61, K62, K63⟩ := hB
  obtain ⟨a0, a1, a2, a3, a4⟩ := hC
  have hJ := a0.2.1
  have hTh := a0.2.2.1
  unfold F_X12_tellsThing
  rw [l_19, wM_L, hK, qk_in (by omega) (by omega), nI_clamp (by omega), qk_b2 (allh_m (hd := tH T) n hn hB0 hk a1 hJ a2 (fun i hi => (hT.2.2.2.2.2 i hi).1)), wM_I, (hT.2.2.2.2.2 i hi).1, qk_lt]
  have key : ∀ b : Option Nat, b = bestS (cS C) (openS C T i) (cT C) → StM σ g kk C (thingS C T i) (F_X12_tellsThing_90 n n kk (match b with
    | none => -4
    | some b => nI b) 0 (wM σ g t)) := by
    intro b hb
    cases b with
    | none =>
      have e : thingS C T i = T := by unfold thingS; rw [← hb]
      rw [e]
      obtain ⟨f, rfl⟩ : ∃ q, n = q + 1 := ⟨n - 1, by omega⟩
      refine ⟨g, t, ?_, Fr.rf _ _, hT⟩
      simp only [F_X12_tellsThing_90]
      rw [wM_L, hK, z_5, kq_5 (by decide), wM_I, a1]
      split
      · rfl
      · rw [if_pos (by decide)]
    | some b =>
      have hbt := (best_lt hb.symm).1
      have e : thingS C T i = (fun j => tH T j ||| b1s b, T.2) := by unfold thingS; rw [← hb]
      rw [e]
      obtain ⟨ρ, e1, g', e2, e3, e4⟩ := q_for (fun f j (h : Nat → Nat → Int32) => F_X12_tellsThing_90 n f kk (nI b) (nI j) (wM σ h t)) (fun j h => Fr (fun a q => a = kk ∧ 19 ≤ q ∧ q < 31) g h ∧ ∀ q, q < cJ C → h kk (19 + q) = if q < j then tH T q ||| b1s b else tH T q) (fun ρ => ∃ g', ρ = wM σ g' t ∧ Fr (fun a q => a = kk ∧ 19 ≤ q ∧ q < 31) g g' ∧ ∀ q, q < cJ C → g' kk (19 + q) = (tH T q ||| b1s b)) (cJ C) (fun j f h hj hp => by
        have c5 : h kk 5 = nI (cJ C) := by rw [hp.1 kk 5 (by omega)]; exact a1
        have cj := hp.2 j hj
        rw [if_neg (by omega)] at cj
        simp only [F_X12_tellsThing_90]
        rw [wM_L, hK, z_5, kq_5 (by decide), wM_I, c5, if_neg (nI_ge hj (by omega)), if_neg (nI_pos (by omega)), l_19, qk_in (by omega) (by omega), qk_in (by omega) (by omega), nI_clamp (by omega), cj, qk_lt, wM_p, ← nI_succ]
        refine ⟨_, rfl, hp.1.up ⟨rfl, by omega, by omega⟩, fun q hq => ?_⟩
        by_cases h1 : q = j
        · subst h1; rw [up_s, if_pos (by omega)]; rfl
        · rw [up_j (by omega), hp.2 q hq]
          by_cases h2 : q < j
          · rw [if_pos h2, if_pos (by omega)]
          · rw [if_neg h2, if_neg (by omega)]) (fun f h hp => by
        have c5 : h kk 5 = nI (cJ C) := by rw [hp.1 kk 5 (by omega)]; exact a1
        refine ⟨_, ?_, h, rfl, hp.1, fun q hq => by rw [hp.2 q hq, if_pos hq]⟩
        simp only [F_X12_tellsThing_90]
        rw [wM_L, hK, z_5, kq_5 (by decide), wM_I, c5, if_pos (nI_le (Nat.le_refl _) (by omega))]) n g (by omega) ⟨Fr.rf _ _, fun q hq => by rw [if_neg (by omega)]; exact (hT.2.2.2.2.2 q hq).1⟩
      subst e2
      have e5 : ∀ q, q < 19 ∨ 31 ≤ q → g' kk q = g kk q := fun q hq => e3 kk q (by omega)
      obtain ⟨t1, t2, t3, t4, t5, t6⟩ := hT
      exact ⟨g', t, by rw [q_0]; exact e1, e3.mo (fun a q w => Or.inr ⟨w.1, Or.inr w.2.1⟩), by rw [e5 _ (by omega)]; exact t1, by rw [e5 _ (by omega)]; exact t2, by rw [e5 _ (by omega)]; exact t3, by rw [e5 _ (by omega)]; exact t4, by rw [e5 _ (by omega)]; exact t5, fun q hq => by
        rw [e5 (31 + q) (by omega), e5 (43 + q) (by omega), e5 (55 + q) (by omega)]
        exact ⟨e4 q hq, (t6 q hq).2⟩⟩
  have loop : ∀ d j f, d + j = cT C → d < f → F_X12_tellsThing_22 n f 48 kk (openS C T i) (match bestS (cS C) (openS C T i) j with
    | none => -4
    | some b => nI b) (nI j) (wM σ g t) = F_X12_tellsThing_90 n n kk (match bestS (cS C) (openS C T i) (cT C) with
    | none => -4
    | some b => nI b) 0 (wM σ g t) := by
    intro d
    induction d with
    | zero =>
      intro j f hj hf
      obtain ⟨f, rfl⟩ : ∃ q, f = q + 1 := ⟨f - 1, by omega⟩
      obtain rfl : j = cT C := by omega
      simp only [F_X12_tellsThing_22, F_X12_tellsThing_87]
      rw [wM_R (by decide), M0, qk_s1, wM_L, K49, z_0, kq_0 (by decide), wM_I, a2, if_pos (nI_le (Nat.le_refl _) (by omega))]
    | succ d ih =>
      intro j f hj hf
      obtain ⟨f, rfl⟩ : ∃ q, f = q + 1 := ⟨f - 1, by omega⟩
      have hb : bestS (cS C) (openS C T i) (j + 1) = if bi (openS C T i) j then (match bestS (cS C) (openS C T i) j with
        | none => some j
        | some b => if abS (cS C j) ≤ abS (cS C b) then some b else some j) else bestS (cS C) (openS C T i) j := rfl
      have am : ∀ (x : Int32) (τ : Hp), F_X12_amount n x τ = some (abS x, τ) := fun x τ => by
        unfold F_X12_amount abS
        split <;> rfl
      have ih2 := ih (j + 1) f (by omega) (by omega)
      rw [hb] at ih2
      simp only [F_X12_tellsThing_22, F_X12_tellsThing_81, F_X12_tellsThing_77]
      rw [wM_R (by decide), M0, qk_s1, wM_L, K49, z_0, kq_0 (by decide), wM_I, a2, if_neg (nI_ge (by omega) (by omega)), bi_v, ← nI_succ]
      cases h1 : bi (openS C T i) j
      · rw [h1, if_neg (by decide)] at ih2
        rw [if_neg (by decide)]
        exact ih2
      · rw [h1, if_pos rfl] at ih2
        rw [if_pos (by decide)]
        cases h3 : bestS (cS C) (openS C T i) j with
        | none =>
          rw [h3] at ih2
          simp only at ih2 ⊢
          rw [if_pos (by decide)]
          exact ih2
        | some b =>
          have hbj := (best_lt h3).1
          rw [h3] at ih2
          simp only at ih2 ⊢
          rw [if_neg (nI_pos (by omega)), qk_s1, l_7, K49, qk_in (by omega) (by omega), nI_clamp (by omega), a3 j (by omega), qk_b2 (am _ _), wM_R (by decide), M0, qk_s1, l_7, wM_L, K49, qk_in (by omega) (by omega), nI_clamp (by omega), wM_I, a3 b (by omega), qk_b2 (am _ _)]
          by_cases h4 : abS (cS C j) ≤ abS (cS C b)
          · rw [if_pos h4] at ih2 ⊢
            exact ih2
          · rw [if_neg h4] at ih2 ⊢
            exact ih2
  have l0 := loop (cT C) 0 n (by omega) (by omega)
  have k0 := key _ rfl
  rw [← l0] at k0
  exact k0
theorem acts_m {σ : Hp} {g : Nat → Nat → Int32} {t kk i : Nat} {C : Ct} {T : Tk} (n : Nat) (hn : 200 < n) (hB : MB σ) (hk : isT2 kk) (hC : MC g kk C) (hT : MT g kk C T) (hi : i < cJ C) (hw : TW C T) : StM σ g kk C (actS C T i) (F_X12_acts n 48 kk (nI i) (wM σ g t)) := by
  have hK := hB.k hk
  have hC0 := hC
  obtain ⟨a0, a1, a2, a3, a4⟩ := hC
  have hJ := a0.2.1
  obtain ⟨w, b0, b1', b2', b3, b4, b5, b6, b7⟩ := a4 i hi
  have hg := hw.2.2.2 i hi
  have hk7 := (a0.2.2.2.2 i hi).1
  unfold F_X12_acts
  rw [l_7, wM_L, hK, qk_in (by omega) (by omega), nI_clamp (by omega), wM_I, b1', qk_b2 (get_m (x := 0) (x' := 0) n hB rfl b0 (by omega)), b2']
  have c28 : ∀ (k : Nat) (g1 : Nat → Nat → Int32) (t1 : Nat) (U : Tk), k < 8 → k ≠ 4 → MC g1 kk C → MT g1 kk C U → tG U i ≤ 2 → StM σ g1 kk C (if k = 7 then sleepS C U i else if k = 5 then ruleS C U else if k = 3 then pressS C (countS C U) else if k = 2 then countS C U else U) (F_X12_acts_28 n 48 kk (nI i) (nI k) (wM σ g1 t1)) := by
    intro k g1 t1 U h1 h2 h3 h4 h5
    unfold F_X12_acts_28
    rw [if_neg (show ¬ nI k = 4 by rw [show (4 : Int32) = nI 4 from rfl, nI_eq (by omega) (by omega)]; exact h2)]
    exact count_m n (by omega) hB hk h3 h4 hi h5 h1
  unfold actS
  obtain h | h | h | h | h | h | h | h : cK C i = 0 ∨ cK C i = 1 ∨ cK C i = 2 ∨ cK C i = 3 ∨ cK C i = 4 ∨ cK C i = 5 ∨ cK C i = 6 ∨ cK C i = 7 := by omega
  all_goals rw [h]
  · rw [if_neg (show ¬ nI 0 = 1 by decide), if_neg (show ¬ nI 0 = 4 by decide)]; exact c28 0 g t T (by omega) (by omega) hC0 hT hg
  · rw [if_pos (show nI 1 = 1 from rfl)]
    unfold F_X12_acts_22
    obtain ⟨g1, t1, q1, q2, q3⟩ := thing_m (t := t) n (by omega) hB hk hC0 hT hi
    rw [qk_b1 q1]
    obtain ⟨g2, t2, r1, r2, r3⟩ := c28 1 g1 t1 _ (by omega) (by omega) (hC0.k hk q2) q3 ((thing_w a0 hw i).2.2.2 i hi)
    exact ⟨g2, t2, r1, q2.tr r2, r3⟩
  · rw [if_neg (show ¬ nI 2 = 1 by decide), if_neg (show ¬ nI 2 = 4 by decide)]; exact c28 2 g t T (by omega) (by omega) hC0 hT hg
  · rw [if_neg (show ¬ nI 3 = 1 by decide), if_neg (show ¬ nI 3 = 4 by decide)]; exact c28 3 g t T (by omega) (by omega) hC0 hT hg
  · rw [if_neg (show ¬ nI 4 = 1 by decide), if_pos (show nI 4 = 4 from rfl)]
    unfold F_X12_acts_22 F_X12_acts_28
    obtain ⟨g1, t1, q1, q2, q3⟩ := thing_m (t := t) n (by omega) hB hk hC0 hT hi
    rw [qk_b1 q1, if_pos (show nI 4 = 4 from rfl)]
    obtain ⟨g2, t2, r1, r2, r3⟩ := story_m (t := t1) n hn hB hk (hC0.k hk q2) q3 hi
    rw [qk_b1 r1]
    obtain ⟨g3, t3, s1, s2, s3⟩ := count_m (t := t2) (i := i) (k := 4) n (by omega) hB hk ((hC0.k hk q2).k hk r2) r3 hi ((thing_w a0 hw i).2.2.2 i hi) (by omega)
    exact ⟨g3, t3, s1, (q2.tr r2).tr s2, s3⟩
  · rw [if_neg (show ¬ nI 5 = 1 by decide), if_neg (show ¬ nI 5 = 4 by decide)]; exact c28 5 g t T (by omega) (by omega) hC0 hT hg
  · rw [if_neg (show ¬ nI 6 = 1 by decide), if_neg (show ¬ nI 6 = 4 by decide)]; exact c28 6 g t T (by omega) (by omega) hC0 hT hg
  · rw [if_neg (show ¬ nI 7 = 1 by decide), if_neg (show ¬ nI 7 = 4 by decide)]; exact c28 7 g t T (by omega) (by omega) hC0 hT hg
theorem turn_m2 {σ : Hp} {g : Nat → Nat → Int32} {t kk : Nat} {C : Ct} {T : Tk} (n : Nat) (hn : 200 < n) (hB : MB σ) (hk : isT2 kk) (hC : MC g kk C) (hT : MT g kk C T) (hw : TW C T) : StM σ g kk C (turnS C T) (F_X12_turn n 48 kk (wM σ g t)) := by
  have hK := hB.k hk
  have hk2 : kk = 53 ∨ kk = 54 := hk
  have hC0 := hC
  have hJ := hC.1.2.1
  have hx := hw.2.1
  obtain ⟨w, b0, b1', b2', b3, b4, b5, b6, b7⟩ := hC.2.2.2.2 _ hx
  unfold F_X12_turn
  rw [wM_L, hK, z_0, z_1, z_2, z_3, z_4, z_5, kq_4 (by decide), wM_I, hT.2.2.2.2.1]
  obtain ⟨g1, t1, q1, q2, q3⟩ := acts_m (t := t) n hn hB hk hC hT hx hw
  have as := act_s C T (tX T)
  have aw := act_w hC.1 hw (tX T)
  rw [qk_b1 q1]
  have e4 : turnS C T = takeS C (tH (actS C T (tX T)), tP (actS C T (tX T)), tS (actS C T (tX T)), tG (actS C T (tX T)), tM (actS C T (tX T)) + cM C (tX T), tU (actS C T (tX T)) + 1, (tX T + 1) % cJ C) := rfl
  rw [e4]
  generalize hA : actS C T (tX T) = A at q3 as aw ⊢
  have d1 : ∀ j, g1 49 j = g 49 j := fun j => q2 49 j (by unfold WK; omega)
  have d2 : ∀ j, 5 ≤ j → j < 19 → g1 kk j = g kk j := fun j h1 h2 => q2 kk j (by unfold WK; omega)
  have c5 : g1 kk 5 = nI (cJ C) := by rw [d2 5 (by omega) (by omega)]; exact hC.2.1
  rw [l_7, wM_L, hK, kq_0 (by decide), qk_in (by omega) (by omega), nI_clamp (by omega), wM_I, q3.1, d2 _ (by omega) (by omega), b1', qk_b2 (get_m (x := 2) (x' := 2) n hB rfl b0 (by omega)), d1, b4, wM_L, hK, kq_0 (by decide), nI_add, qk_lt, wM_p, wM_L, hK, kq_3 (by decide), kq_3 (by decide), wM_I, up_j (show (3 : Nat) ≠ 0 by omega), q3.2.2.2.1, nI_1, qk_lt, wM_p, wM_L, hK, kq_5 (by decide), wM_I, up_j (show (5 : Nat) ≠ 3 by omega), up_j (show (5 : Nat) ≠ 0 by omega), c5, qk_ck (nI_ne0 hC.1.1 (by omega)), kq_4 (by decide), nI_1, nI_mod (by omega) (by omega), qk_lt, wM_p, wM_L, hK, kq_1 (by decide), kq_2 (by decide), kq_0 (by decide), wM_I]
  generalize hg2 : up2 (up2 (up2 g1 kk 0 (nI (tM A + cM C (tX T)))) kk 3 (nI (tU A + 1))) kk 4 (nI ((tX T + 1) % cJ C)) = g2
  have e1 : g2 kk 1 = nI (yesS C A) := by rw [← hg2, up_j (by omega), up_j (by omega), up_j (by omega)]; exact q3.2.1
  have e2 : g2 kk 2 = nI (noS C A) := by rw [← hg2, up_j (by omega), up_j (by omega), up_j (by omega)]; exact q3.2.2.1
  have e0 : g2 kk 0 = nI (tM A + cM C (tX T)) := by rw [← hg2, up_j (by omega), up_j (by omega), up_s]
  have e3 : g2 kk 3 = nI (tU A + 1) := by rw [← hg2, up_j (by omega), up_s]
  have e5 : g2 kk 4 = nI ((tX T + 1) % cJ C) := by rw [← hg2, up_s]
  have e6 : ∀ j, 19 ≤ j → g2 kk j = g1 kk j := fun j hj => by rw [← hg2, up_j (by omega), up_j (by omega), up_j (by omega)]
  have f2 : Fr (WK kk) g g2 := by rw [← hg2]; exact ((q2.up (Or.inr ⟨rfl, Or.inl (by omega)⟩)).up (Or.inr ⟨rfl, Or.inl (by omega)⟩)).up (Or.inr ⟨rfl, Or.inl (by omega)⟩)
  unfold F_X12_sees
  rw [e0, e1, e2, qk_lt, wM_p, qk_lt, wM_p, qk_lt, wM_p, qk_s1]
  generalize hg3 : up2 (up2 (up2 g2 48 23 (nI (yesS C A))) 48 24 (nI (noS C A))) 48 25 (nI (tM A + cM C (tX T))) = g3
  have f3 : Fr (WK kk) g g3 := by rw [← hg3]; exact ((f2.up (Or.inl ⟨rfl, by omega, by omega⟩)).up (Or.inl ⟨rfl, by omega, by omega⟩)).up (Or.inl ⟨rfl, by omega, by omega⟩)
  have y23 : g3 48 23 = nI (yesS C A) := by rw [← hg3, up_j (by omega), up_j (by omega), up_s]
  have y24 : g3 48 24 = nI (noS C A) := by rw [← hg3, up_j (by omega), up_s]
  have y25 : g3 48 25 = nI (tM A + cM C (tX T)) := by rw [← hg3, up_s]
  have yk : ∀ j, g3 kk j = g2 kk j := fun j => by rw [← hg3, up_i (by omega), up_i (by omega), up_i (by omega)]
  have hC3 := hC0.k hk f3
  have k6 : ∀ i, i < cJ C → g3 kk (19 + i) = tH A i ∧ g3 kk (31 + i) = tP A i ∧ g3 kk (55 + i) = nI (tG A i) := fun i hi => by
    rw [yk, yk, yk, e6 _ (by omega), e6 _ (by omega), e6 _ (by omega)]
    exact ⟨(q3.2.2.2.2.2 i hi).1, (q3.2.2.2.2.2 i hi).2.1, (q3.2.2.2.2.2 i hi).2.2.2⟩
  generalize hV : (tH A, tP A, tS A, tG A, tM A + cM C (tX T), tU A + 1, (tX T + 1) % cJ C) = V
  have hsy : ∀ j, tS (takeS C V) j = saysS C (tH A) (tP A) (tG A) (nI (yesS C A)) (nI (noS C A)) (nI (tM A + cM C (tX T))) j := fun j => by rw [← hV]; rfl
  have loop : ∃ ρ, F_X12_turn_59 n n 48 kk (nI 0) (wM σ g3 t1) = some ρ ∧ ∃ g' t', ρ = wM σ g' t' ∧ Fr (WK kk) g g' ∧ MT g' kk C (takeS C V) := by
    refine q_for (fun f j (a : (Nat → Nat → Int32) × Nat) => F_X12_turn_59 n f 48 kk (nI j) (wM σ a.1 a.2)) (fun j a => Fr (fun p q => WL p q ∨ (p = kk ∧ 43 ≤ q ∧ q < 55)) g3 a.1 ∧ ∀ q, q < j → a.1 kk (43 + q) = if tS (takeS C V) q then 1 else 0) _ (cJ C) (fun j f a hj hp => ?_) (fun f a hp => ?_) n (g3, t1) (by omega) ⟨Fr.rf _ _, fun q hq => by omega⟩
    · obtain ⟨h, u⟩ := a
      obtain ⟨p1, p2⟩ := hp
      simp only at p1 p2
      have pk : ∀ q, q < 43 ∨ 55 ≤ q → h kk q = g3 kk q := fun q hq => p1 kk q (by unfold WL; omega)
      have p48 : ∀ q, 22 < q → h 48 q = g3 48 q := fun q hq => p1 48 q (by unfold WL; omega)
      have fh : Fr (WK kk) g3 h := p1.mo (fun a b w => w.elim (fun z => Or.inl ⟨z.1, z.2.1, by have := z.2.2; omega⟩) (fun z => Or.inr ⟨z.1, Or.inr (by omega)⟩))
      have hCh := hC3.k hk fh
      obtain ⟨h', u', v1, v2⟩ := says_m (t := u) (hd := tH A) (pu := tP A) (gv := tG A) n hn hB hk hCh hj (by rw [pk _ (by omega)]; exact (k6 j hj).1) (by rw [pk _ (by omega)]; exact (k6 j hj).2.1) (by rw [pk _ (by omega)]; exact (k6 j hj).2.2) (aw.2.2.2 j hj) ((p48 23 (by omega)).trans y23) ((p48 24 (by omega)).trans y24) ((p48 25 (by omega)).trans y25)
      have vk : ∀ q, h' kk q = h kk q := fun q => v2 kk q (by unfold WL; omega)
      rw [← hsy] at v1
      simp only [F_X12_turn_59, F_X12_turn_85]
      rw [wM_L, hK, z_5, kq_5 (by decide), wM_I, hCh.2.1, if_neg (nI_ge hj (by omega)), qk_b2 v1, l_43, wM_L, hK, qk_in (by omega) (by omega), nI_clamp (by omega), ← nI_succ]
      have f9 : ∀ v, Fr (fun p q => WL p q ∨ (p = kk ∧ 43 ≤ q ∧ q < 55)) g3 (up2 h' kk (43 + j) v) := fun v => (p1.tr (v2.mo fun _ _ w => Or.inl w)).up (Or.inr ⟨rfl, by omega, by omega⟩)
      have s9 : ∀ v, (v = if tS (takeS C V) j then 1 else 0) → ∀ q, q < j + 1 → up2 h' kk (43 + j) v kk (43 + q) = if tS (takeS C V) q then 1 else 0 := fun v hv q hq => by
        by_cases h1 : q = j
        · subst h1; rw [up_s]; exact hv
        · rw [up_j (by omega), vk]; exact p2 q (by omega)
      cases hs : tS (takeS C V) j
      · rw [if_pos (by decide), qk_lt, wM_p]
        exact ⟨(up2 h' kk (43 + j) 0, u'), rfl, f9 0, s9 0 (by rw [hs]; rfl)⟩
      · rw [if_neg (by decide), qk_i2 (by omega) (by omega), qk_lt, wM_p]
        exact ⟨(up2 h' kk (43 + j) 1, u'), rfl, f9 1, s9 1 (by rw [hs]; rfl)⟩
    · obtain ⟨h, u⟩ := a
      obtain ⟨p1, p2⟩ := hp
      simp only at p1 p2
      have pk : ∀ q, q < 43 ∨ 55 ≤ q → h kk q = g3 kk q := fun q hq => p1 kk q (by unfold WL; omega)
      have c5h : h kk 5 = nI (cJ C) := by rw [pk 5 (by omega)]; exact hC3.2.1
      obtain ⟨h', v1, v2, v3, v4⟩ := cnts_m (t := u) (sl := tS (takeS C V)) n (by omega) hB hk c5h hJ p2
      simp only [F_X12_turn_59, F_X12_turn_92]
      rw [wM_L, hK, z_5, kq_5 (by decide), wM_I, c5h, if_pos (nI_le (Nat.le_refl _) (by omega)), qk_b1 v1]
      have vk : ∀ q, q ≠ 1 → q ≠ 2 → h' kk q = h kk q := fun q h1 h2 => v2 kk q (by omega)
      have fh : Fr (WK kk) g3 h := p1.mo (fun a b w => w.elim (fun z => Or.inl ⟨z.1, z.2.1, by have := z.2.2; omega⟩) (fun z => Or.inr ⟨z.1, Or.inr (by omega)⟩))
      refine ⟨_, rfl, h', u, rfl, (f3.tr fh).tr (v2.mo fun a b w => Or.inr ⟨w.1, Or.inl (by omega)⟩), ?_, v3, v4, ?_, ?_, fun i hi => ?_⟩
      · rw [vk 0 (by omega) (by omega), pk 0 (by omega), yk, e0, ← hV]; rfl
      · rw [vk 3 (by omega) (by omega), pk 3 (by omega), yk, e3, ← hV]; rfl
      · rw [vk 4 (by omega) (by omega), pk 4 (by omega), yk, e5, ← hV]; rfl
      · rw [vk (19 + i) (by omega) (by omega), vk (31 + i) (by omega) (by omega), vk (43 + i) (by omega) (by omega), vk (55 + i) (by omega) (by omega), pk (19 + i) (by omega), pk (31 + i) (by omega), pk (55 + i) (by omega), p2 i hi, (k6 i hi).1, (k6 i hi).2.1, (k6 i hi).2.2, ← hV]
        exact ⟨rfl, rfl, rfl, rfl⟩
  obtain ⟨ρ, l1, g', t', rfl, l2, l3⟩ := loop
  exact ⟨g', t', by rw [q_0]; exact l1, l2, l3⟩
