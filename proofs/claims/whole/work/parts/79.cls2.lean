/-! the class's turns -/
theorem nI_div {a b : Nat} (ha : a < 2 ^ 31) (hb : b < 2 ^ 31) : nI a / nI b = nI (a / b) := by
  apply Int32.toInt_inj.1
  rw [Int32.toInt_div, nI_toInt ha, nI_toInt hb, nI_toInt (Nat.lt_of_le_of_lt (Nat.div_le_self _ _) ha)]
  have h1 : (a / b : Nat) ≤ a := Nat.div_le_self _ _
  show (((a / b : Nat) : Int)).bmod (2 ^ 32) = _
  generalize a / b = q at *
  rw [Int.bmod_def]
  split <;> omega
theorem nI_mul (a b : Nat) : nI a * nI b = nI (a * b) := (Int32.ofNat_mul a b).symm
theorem nI_mod {a b : Nat} (ha : a < 2 ^ 31) (hb : b < 2 ^ 31) : nI a - nI a / nI b * nI b = nI (a % b) := by
  rw [nI_div ha hb, nI_mul, nI_sub (Nat.div_mul_le_self a b)]
  congr 1
  have := Nat.div_add_mod' a b
  omega
def WP (σ : Hp) (r a _j : Nat) : Prop := a = r + 8 ∨ isStk σ a
theorem WP.c {σ : Hp} {r : Nat} {g h : Nat → Nat → Int32} (a : Fr (WP σ r) g h) : Fr (WC σ r) g h := a.mo fun i j w => by
  rcases w with w | w
  · exact Or.inr (Or.inl (by omega))
  · exact Or.inr (Or.inr w)
theorem CT.push {σ : Hp} {g h : Nat → Nat → Int32} {r : Nat} {C : Ct} {T : Tk} {pu : Nat → Int32} (hr : r + 9 < 65) (hf : Fr (WP σ r) g h) (hp : ∀ i, i < cJ C → h (r + 8) i = pu i) (a : CT σ g r C T) : CT σ h r C (tH T, pu, T.2.2) := by
  have e : ∀ b j, b < 65 → b ≠ r + 8 → h b j = g b j := fun b j hb h8 => hf b j (fun w => by
    rcases w with w | w
    · exact h8 w
    · exact stk_lo hb w)
  obtain ⟨h1, h2, h3, h4, h5, ld, h6⟩ := a
  exact ⟨by rw [e _ _ (by omega) (by omega)]; exact h1, by rw [e _ _ (by omega) (by omega)]; exact h2, by rw [e _ _ (by omega) (by omega)]; exact h3, by rw [e _ _ (by omega) (by omega)]; exact h4, fun i hi => by rw [e (r + 6) _ (by omega) (by omega), e (r + 7) _ (by omega) (by omega), e (r + 9) _ (by omega) (by omega), hp i hi]; exact ⟨(h5 i hi).1, (h5 i hi).2.1, rfl, (h5 i hi).2.2.2⟩, ld, by rw [e _ _ (by omega) (by omega)]; exact h6⟩
/-- what a loop of pushes leaves -/
def PL (σ : Hp) (r J : Nat) (g : Nat → Nat → Int32) (p q : Nat → Int32) (i : Nat) (h : Nat → Nat → Int32) : Prop := Fr (WP σ r) g h ∧ ∀ j, j < J → h (r + 8) j = if j < i then q j else p j
theorem PL.z {σ : Hp} {r J : Nat} {g : Nat → Nat → Int32} {p q : Nat → Int32} (h : ∀ j, j < J → g (r + 8) j = p j) : PL σ r J g p q 0 g := ⟨Fr.rf _ _, fun j hj => by rw [if_neg (by omega)]; exact h j hj⟩
theorem PL.up {σ : Hp} {r J i : Nat} {g h : Nat → Nat → Int32} {p q : Nat → Int32} {v : Int32} (a : PL σ r J g p q i h) (hv : v = q i) : PL σ r J g p q (i + 1) (up2 h (r + 8) i v) := by
  refine ⟨a.1.up (Or.inl rfl), fun j hj => ?_⟩
  by_cases h1 : j = i
  · subst h1; rw [up_s, if_pos (by omega), hv]
  · rw [up_j h1, a.2 j hj]
    by_cases h2 : j < i
    · rw [if_pos h2, if_pos (by omega)]
    · rw [if_neg h2, if_neg (by omega)]
theorem PL.no {σ : Hp} {r J i : Nat} {g h : Nat → Nat → Int32} {p q : Nat → Int32} (a : PL σ r J g p q i h) (hv : p i = q i) : PL σ r J g p q (i + 1) h := by
  refine ⟨a.1, fun j hj => ?_⟩
  rw [a.2 j hj]
  by_cases h2 : j < i
  · rw [if_pos h2, if_pos (by omega)]
  · by_cases h1 : j = i
    · subst h1; rw [if_neg h2, if_pos (by omega), hv]
    · rw [if_neg h2, if_neg (by omega)]
theorem PL.st {σ : Hp} {r J i : Nat} {g h k : Nat → Nat → Int32} {p q : Nat → Int32} (hr : r + 9 < 65) (a : PL σ r J g p q i h) (b : Fr (WS σ) h k) : PL σ r J g p q i k := ⟨a.1.tr (b.mo fun _ _ w => Or.inr w), fun j hj => by rw [b (r + 8) j (stk_lo (by omega))]; exact a.2 j hj⟩
theorem PL.at {σ : Hp} {r J i : Nat} {g h : Nat → Nat → Int32} {p q : Nat → Int32} (a : PL σ r J g p q i h) (hi : i < J) : h (r + 8) i = p i := by rw [a.2 i hi, if_neg (by omega)]
theorem PL.en {σ : Hp} {r : Nat} {C : Ct} {T : Tk} {g h : Nat → Nat → Int32} {p q : Nat → Int32} (hr : r + 9 < 65) (hT : CT σ g r C T) (a : PL σ r (cJ C) g p q (cJ C) h) : Fr (WC σ r) g h ∧ CT σ h r C (tH T, q, T.2.2) := ⟨WP.c a.1, hT.push hr a.1 (fun i hi => by rw [a.2 i hi, if_pos hi])⟩
theorem count_c {σ : Hp} {g : Nat → Nat → Int32} {r s t : Nat} {C : Ct} {T : Tk} (n : Nat) (hn : 12 < n) (hC : CC σ g r C) (hT : CT σ g r C T) (i0 : Int32) : ∃ g', F_X0_act n t r i0 (wI σ g) = some (wI σ g') ∧ Fr (WC σ r) g g' ∧ CT σ g' r C (countS C T) := by
  have hC0 := hC
  obtain ⟨hR, hW, h0, h2, hsp, ht⟩ := hC0
  obtain ⟨r65, ⟨R1, R3, R4, R6, R7, R15, R16, R17, R18⟩, L1, L2, L3, L4, L5, L6, L7, L8, L9⟩ := hR
  have hJ := hW.2.1
  unfold F_X0_act
  rw [qk_b2 (yln_c n hT.2.2.1 hJ h2)]
  obtain ⟨ρ, e1, g', rfl, e2⟩ := q_for (fun f i (h : Nat → Nat → Int32) => F_X0_act_8 n f r (moreS C T) (nI i) (wI σ h)) (PL σ r (cJ C) g (tP T) (fun j => tP T j + cH C j * moreS C T / 4)) (fun ρ => ∃ g', ρ = wI σ g' ∧ PL σ r (cJ C) g (tP T) (fun j => tP T j + cH C j * moreS C T / 4) (cJ C) g') (cJ C) (fun i f h hi hp => by
    have hC2 := hC.fr (WP.c hp.1)
    obtain ⟨T', t1, t65, tk, t1k, the, tmn, tln, tpt, tlw⟩ := hC2.2.2.2.2.2 i hi
    refine ⟨up2 h (r + 8) i (h (r + 8) i + h T' 2 * moreS C T / 4), ?_, hp.up (by rw [hp.at hi, the])⟩
    simp only [F_X0_act_8, F_X0_act_45]
    rw [wI_I, hC2.2.2.2.1, if_neg (nI_ge hi (by omega)), qk_b2 (hC2.tat n hi), t1, qk_om, wI_I, qk_b1 (push_c n R17 L8 (by omega)), ← nI_succ]) (fun f h hp => by
    refine ⟨_, ?_, h, rfl, hp⟩
    simp only [F_X0_act_8]
    rw [wI_I, (hC.fr (WP.c hp.1)).2.2.2.1, if_pos (nI_le (Nat.le_refl _) (by omega))]) n g (by omega) (PL.z fun j hj => (hT.2.2.2.2.1 j hj).2.2.1)
  have e3 := e2.en r65 hT
  exact ⟨g', by rw [q_0]; exact e1, e3.1, e3.2⟩
theorem rule_c {σ : Hp} {g : Nat → Nat → Int32} {r t : Nat} {C : Ct} {T : Tk} (n : Nat) (hn : 12 < n) (hC : CC σ g r C) (hT : CT σ g r C T) (i0 : Int32) : ∃ g', F_X4_act n t r i0 (wI σ g) = some (wI σ g') ∧ Fr (WC σ r) g g' ∧ CT σ g' r C (ruleS C T) := by
  have hC0 := hC
  obtain ⟨hR, hW, h0, h2, hsp, ht⟩ := hC0
  obtain ⟨r65, ⟨R1, R3, R4, R6, R7, R15, R16, R17, R18⟩, L1, L2, L3, L4, L5, L6, L7, L8, L9⟩ := hR
  have hJ := hW.2.1
  unfold F_X4_act
  obtain ⟨ρ, e1, g', rfl, e2⟩ := q_for (fun f i (h : Nat → Nat → Int32) => F_X4_act_2 n f r (nI i) (wI σ h)) (PL σ r (cJ C) g (tP T) (fun j => tP T j / 2)) (fun ρ => ∃ g', ρ = wI σ g' ∧ PL σ r (cJ C) g (tP T) (fun j => tP T j / 2) (cJ C) g') (cJ C) (fun i f h hi hp => by
    have hC2 := hC.fr (WP.c hp.1)
    refine ⟨up2 h (r + 8) i (h (r + 8) i / 2), ?_, hp.up (by rw [hp.at hi])⟩
    simp only [F_X4_act_2]
    rw [wI_I, hC2.2.2.2.1, if_neg (nI_ge hi (by omega)), wI_R, R17, qk_s1, qk_s1, q_atw (by omega) (by omega), qk_s2, q_stw (by omega) (by omega), qk_s1, ← nI_succ]) (fun f h hp => by
    refine ⟨_, ?_, h, rfl, hp⟩
    simp only [F_X4_act_2]
    rw [wI_I, (hC.fr (WP.c hp.1)).2.2.2.1, if_pos (nI_le (Nat.le_refl _) (by omega))]) n g (by omega) (PL.z fun j hj => (hT.2.2.2.2.1 j hj).2.2.1)
  have e3 := e2.en r65 hT
  exact ⟨g', by rw [q_0]; exact e1, e3.1, e3.2⟩
theorem isM_bi {m : Nat} {s : Nat → Bool} {x : Int32} (h : isM m s x) {i : Nat} (hi : i < m) (hm : m ≤ 12) : bi x i = s i := by rw [h i (by omega)]; simp [hi]
theorem press_c {σ : Hp} {g : Nat → Nat → Int32} {r t : Nat} {C : Ct} {T : Tk} (n : Nat) (hn : 12 < n) (hC : CC σ g r C) (hT : CT σ g r C T) (i0 : Int32) : ∃ g', F_X2_act n t r i0 (wI σ g) = some (wI σ g') ∧ Fr (WC σ r) g g' ∧ CT σ g' r C (pressS C (countS C T)) := by
  unfold F_X2_act
  obtain ⟨g1, k1, k2, k3⟩ := count_c (s := 0) (t := t) n hn hC hT i0
  rw [qk_b1 k1]
  have hC1 := hC.fr k2
  generalize hU : countS C T = U at k3 ⊢
  have hC0 := hC1
  obtain ⟨hR, hW, h0, h2, hsp, ht⟩ := hC0
  obtain ⟨r65, ⟨R1, R3, R4, R6, R7, R15, R16, R17, R18⟩, L1, L2, L3, L4, L5, L6, L7, L8, L9⟩ := hR
  have hJ := hW.2.1
  rw [qk_b2 (yln_c n k3.2.2.1 hJ h2)]
  have key : ∀ (fw : Bool), (fw = decide (moreS C U ≤ 0)) → ¬ moreS C U = 0 → ∃ g', F_X2_act_30 n n r (moreS C U) (if fw then 1 else 0) 0 (wI σ g1) = some (wI σ g') ∧ Fr (WC σ r) g1 g' ∧ CT σ g' r C (pressS C U) := by
    intro fw hfw hne
    obtain ⟨ρ, e1, g', rfl, e2⟩ := q_for (fun f i (h : Nat → Nat → Int32) => F_X2_act_30 n f r (moreS C U) (if fw then 1 else 0) (nI i) (wI σ h)) (PL σ r (cJ C) g1 (tP U) (tP (pressS C U))) (fun ρ => ∃ g', ρ = wI σ g' ∧ PL σ r (cJ C) g1 (tP U) (tP (pressS C U)) (cJ C) g') (cJ C) (fun i f h hi hp => by
      have hC2 := hC1.fr (WP.c hp.1)
      obtain ⟨T', t1, t65, tk, t1k, the, tmn, tln, tpt, tlw⟩ := hC2.2.2.2.2.2 i hi
      have h12 : h r 12 = g1 r 12 := hp.1 r 12 (fun w => by
        rcases w with w | w
        · omega
        · exact stk_lo (by omega) w)
      have hb := isM_bi k3.2.2.1 hi hJ
      have hv := bi_v (g1 r 12) i
      rw [hb] at hv
      simp only [F_X2_act_30, F_X2_act_91, F_X2_act_94]
      rw [wI_I, hC2.2.2.2.1, if_neg (nI_ge hi (by omega)), qk_b2 (hC2.tat n hi), t1, qk_om, wI_I, h12, hv, the]
      by_cases c1 : moreS C U ≤ 0
      · have e0 : ¬ 0 ≤ moreS C U := fun q => hne (Int32.le_antisymm c1 q)
        obtain rfl : fw = true := by rw [hfw]; exact decide_eq_true c1
        cases hs : tS U i
        · rw [if_neg (by decide)]
          exact ⟨h, by rw [← nI_succ], hp.no (by show _ = (if _ then _ else _); rw [if_pos c1, if_neg e0, hs]; rfl)⟩
        · rw [if_pos (by decide), if_pos c1]
          refine ⟨_, by rw [qk_b1 (push_c n R17 L8 (by omega)), ← nI_succ], hp.up ?_⟩
          rw [hp.at hi]
          show _ = (if _ then _ else _)
          rw [if_pos c1, if_neg e0, hs]; rfl
      · obtain rfl : fw = false := by rw [hfw]; exact decide_eq_false c1
        cases hs : tS U i
        · rw [if_pos (by decide), if_neg c1]
          refine ⟨_, by rw [qk_b1 (push_c n R17 L8 (by omega)), ← nI_succ], hp.up ?_⟩
          rw [hp.at hi]
          show _ = (if _ then _ else _)
          rw [if_neg c1, hs]; rfl
        · rw [if_neg (by decide)]
          exact ⟨h, by rw [← nI_succ], hp.no (by show _ = (if _ then _ else _); rw [if_neg c1, hs]; rfl)⟩) (fun f h hp => by
      refine ⟨_, ?_, h, rfl, hp⟩
      simp only [F_X2_act_30]
      rw [wI_I, (hC1.fr (WP.c hp.1)).2.2.2.1, if_pos (nI_le (Nat.le_refl _) (by omega))]) n g1 (by omega) (PL.z fun j hj => (k3.2.2.2.2.1 j hj).2.2.1)
    have e3 := e2.en r65 k3
    exact ⟨g', by rw [q_0]; exact e1, e3.1, e3.2⟩
  show ∃ g', (if moreS C U = 0 then _ else _) = _ ∧ _
  by_cases c0 : moreS C U = 0
  · rw [if_pos c0]
    refine ⟨g1, rfl, k2, ?_⟩
    have e4 : pressS C U = U := by
      unfold pressS
      rw [c0]
      rfl
    rw [e4]; exact k3
  · rw [if_neg c0]
    unfold F_X2_act_25
    show ∃ g', (if moreS C U ≤ 0 then F_X2_act_30 n n r (moreS C U) 1 0 (wI σ g1) else F_X2_act_30 n n r (moreS C U) 0 0 (wI σ g1)) = _ ∧ _
    by_cases c1 : moreS C U ≤ 0
    · obtain ⟨g', a1, a2, a3⟩ := key true (decide_eq_true c1).symm c0
      rw [if_pos c1]
      exact ⟨g', a1, k2.tr a2, a3⟩
    · obtain ⟨g', a1, a2, a3⟩ := key false (decide_eq_false c1).symm c0
      rw [if_neg c1]
      exact ⟨g', a1, k2.tr a2, a3⟩
