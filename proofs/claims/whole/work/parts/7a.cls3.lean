/-! the class's turns, on: stories, things, those who sleep -/
theorem best_c {σ : Hp} {g : Nat → Nat → Int32} {r : Nat} {C : Ct} {op : Int32} (n : Nat) (hn : 12 < n) (hC : CC σ g r C) : F_X3_loudestNotShared_25 n n r op (-4) (-1) 0 (wI σ g) = some (match bestS (cS C) op (cT C) with
  | none => -4
  | some b => nI b, wI σ g) := by
  obtain ⟨hR, hW, h0, h2, hsp, ht⟩ := hC
  obtain ⟨r65, ⟨R1, R3, R4, R6, R7, R15, R16, R17, R18⟩, L1, L2, L3, L4, L5, L6, L7, L8, L9⟩ := hR
  have hT := hW.2.2.1
  obtain ⟨ρ, e1, e2⟩ := q_for (fun f i (a : Int32 × Int32) => F_X3_loudestNotShared_25 n f r op a.1 a.2 (nI i) (wI σ g)) (fun i a => a = match bestS (cS C) op i with
    | none => (-4, -1)
    | some b => (nI b, abS (cS C b))) (fun ρ => ρ = (match bestS (cS C) op (cT C) with
    | none => -4
    | some b => nI b, wI σ g)) (cT C) (fun i f a hi hp => by
    have hb : bestS (cS C) op (i + 1) = if bi op i then (match bestS (cS C) op i with
      | none => some i
      | some b => if abS (cS C i) ≤ abS (cS C b) then some b else some i) else bestS (cS C) op i := rfl
    have hx : (if (0 : Int32) ≤ cS C i then cS C i else 0 - cS C i) = abS (cS C i) := by
      unfold abS
      split
      · rfl
      · grind
    subst hp
    rw [hb]
    refine ⟨_, ?_, rfl⟩
    simp only [F_X3_loudestNotShared_25, F_X3_loudestNotShared_72]
    rw [wI_I, h0, if_neg (nI_ge hi (by omega)), wI_R, R1, qk_s1, q_atw (by omega) (by omega), qk_s2, hsp i hi, hx, qk_lt, bi_v, ← nI_succ]
    cases h1 : bi op i
    · rw [if_neg (by decide), if_neg (by decide)]
    · rw [if_pos (by decide), if_pos rfl]
      cases h3 : bestS (cS C) op i with
      | none =>
        simp only
        rw [if_neg (hW.2.2.2.1 i hi)]
      | some b =>
        simp only
        by_cases h4 : abS (cS C i) ≤ abS (cS C b)
        · rw [if_pos h4, if_pos h4]
        · rw [if_neg h4, if_neg h4]) (fun f a hp => by
    refine ⟨_, ?_, rfl⟩
    subst hp
    simp only [F_X3_loudestNotShared_25]
    rw [wI_I, h0, if_pos (nI_le (Nat.le_refl _) (by omega))]
    cases h3 : bestS (cS C) op (cT C) <;> rfl) n (-4, -1) (by omega) rfl
  subst e2
  rw [q_0]
  exact e1
theorem allH_or {th b J : Nat} {hd : Nat → Int32} (ht : th ≤ 12) (hb : b < th) : allH th (fun j => hd j ||| b1s b) J = allH th hd J ||| b1s b := by
  apply bi_ext
  intro i hi
  rw [bi_or hi, allH_b ht hi, allH_b ht hi, bi_1 b (by omega) i hi]
  by_cases h : i = b
  · subst h
    have e : ∀ j, j < J → bi (hd j ||| b1s i) i = true := fun j _ => by rw [bi_or hi, bi_1 i hi i hi]; simp
    simp only [decide_eq_true e, hb, decide_true, Bool.and_true, Bool.or_true]
  · have e : ∀ j, bi (hd j ||| b1s b) i = bi (hd j) i := fun j => by rw [bi_or hi, bi_1 b (by omega) i hi]; simp [h]
    simp only [e, h, decide_false, Bool.or_false]
def WG (σ : Hp) (r a _j : Nat) : Prop := a = r + 6 ∨ a = r + 7 ∨ isStk σ a
theorem give_c {σ : Hp} {g : Nat → Nat → Int32} {r b : Nat} {C : Ct} {T : Tk} (n : Nat) (hn : 12 < n) (hC : CC σ g r C) (hT : CT σ g r C T) (hb : b < cT C) : ∃ g', F_X3_giveToAll n r (nI b) (wI σ g) = some (wI σ g') ∧ Fr (WC σ r) g g' ∧ CT σ g' r C (fun j => tH T j ||| b1s b, T.2) := by
  have hC0 := hC
  obtain ⟨hR, hW, h0, h2, hsp, ht⟩ := hC0
  obtain ⟨r65, ⟨R1, R3, R4, R6, R7, R15, R16, R17, R18⟩, L1, L2, L3, L4, L5, L6, L7, L8, L9⟩ := hR
  have hJ := hW.2.1
  have hT12 := hW.2.2.1
  have wc : ∀ {h k}, Fr (WG σ r) h k → Fr (WC σ r) h k := fun a => a.mo fun i j w => by
    rcases w with w | w | w
    · exact Or.inr (Or.inl (by omega))
    · exact Or.inr (Or.inl (by omega))
    · exact Or.inr (Or.inr w)
  obtain ⟨ρ, e1, g', rfl, e2, e3⟩ := q_for (fun f i (h : Nat → Nat → Int32) => F_X3_giveToAll_2 n f r (nI b) (nI i) (wI σ h)) (fun i h => Fr (WG σ r) g h ∧ ∀ j, j < cJ C → (h (r + 6) j = if j < i then tH T j ||| b1s b else tH T j) ∧ h (r + 7) j = wgh (cS C) (h (r + 6) j) (cT C)) (fun ρ => ∃ h, ρ = wI σ (up2 h r 14 (h r 14 ||| b1s b)) ∧ Fr (WG σ r) g h ∧ ∀ j, j < cJ C → h (r + 6) j = (tH T j ||| b1s b) ∧ h (r + 7) j = wgh (cS C) (h (r + 6) j) (cT C)) (cJ C) (fun i f h hi hp => by
    have hC2 := hC.fr (wc hp.1)
    have hi6 := (hp.2 i hi).1
    rw [if_neg (Nat.lt_irrefl _)] at hi6
    simp only [F_X3_giveToAll_2, F_X3_giveToAll_65]
    rw [wI_I, hC2.2.2.2.1, if_neg (nI_ge hi (by omega)), wI_R, R15, qk_s1, q_atw (by omega) (by omega), qk_s2, bi_v, ← nI_succ]
    cases hx : bi (h (r + 6) i) b
    · rw [if_pos (by decide), wI_R, R15, qk_s1, q_stw (by omega) (by omega), qk_s1, wI_R, R16, qk_s1, qk_s1, q_atw (by omega) (by omega), qk_s2, wI_R, R1, qk_s1, q_atw (by omega) (by omega), qk_s2, q_stw (by omega) (by omega), qk_s1]
      refine ⟨_, rfl, (hp.1.up (Or.inl rfl)).up (Or.inr (Or.inl rfl)), fun j hj => ?_⟩
      by_cases hji : j = i
      · subst hji
        rw [up_i (show r + 6 ≠ r + 7 by omega), up_s, up_s, if_pos (by omega), up_i (show r + 7 ≠ r + 6 by omega), up_i (show r + 1 ≠ r + 6 by omega), (hp.2 j hj).2, hC2.2.2.2.2.1 b hb]
        refine ⟨by rw [hi6]; rfl, ?_⟩
        show _ = wgh (cS C) (h (r + 6) j ||| b1s b) (cT C)
        rw [wgh_or hx (by omega) (by omega), if_pos hb]
      · rw [up_j hji, up_i (show r + 7 ≠ r + 6 by omega), up_i (show r + 6 ≠ r + 7 by omega), up_j hji]
        have h3 := hp.2 j hj
        refine ⟨?_, by first | exact h3.2 | (rw [up_i (show r + 7 ≠ r + 6 by omega)]; exact h3.2)⟩
        rw [h3.1]
        by_cases h4 : j < i
        · rw [if_pos h4, if_pos (by omega)]
        · rw [if_neg h4, if_neg (by omega)]
    · rw [if_neg (by decide)]
      refine ⟨h, rfl, hp.1, fun j hj => ⟨?_, (hp.2 j hj).2⟩⟩
      rw [(hp.2 j hj).1]
      by_cases h4 : j < i
      · rw [if_pos h4, if_pos (by omega)]
      · by_cases h5 : j = i
        · subst h5
          rw [if_neg h4, if_pos (by omega)]
          apply bi_ext
          intro k hk
          rw [bi_or hk, bi_1 b (by omega) k hk]
          by_cases h6 : k = b
          · subst h6; rw [← hi6, hx]; rfl
          · simp [h6]
        · rw [if_neg h4, if_neg (by omega)]) (fun f h hp => by
    refine ⟨_, ?_, h, rfl, hp.1, fun j hj => ⟨by rw [(hp.2 j hj).1, if_pos hj], (hp.2 j hj).2⟩⟩
    simp only [F_X3_giveToAll_2, F_X3_giveToAll_71]
    rw [wI_I, (hC.fr (wc hp.1)).2.2.2.1, if_pos (nI_le (Nat.le_refl _) (by omega)), qk_lt, wI_p]
    rfl) n g (by omega) ⟨Fr.rf _ _, fun j hj => ⟨by rw [if_neg (by omega)]; exact (hT.2.2.2.2.1 j hj).1, by rw [(hT.2.2.2.2.1 j hj).1]; exact (hT.2.2.2.2.1 j hj).2.1⟩⟩
  have e0 : ∀ a j, a < 65 → a ≠ r + 6 → a ≠ r + 7 → g' a j = g a j := fun a j h1 h2 h3 => e2 a j (fun w => by
    rcases w with w | w | w
    · exact h2 w
    · exact h3 w
    · exact stk_lo h1 w)
  obtain ⟨t1, t2, t3, t4, t5, ld, t6, t7⟩ := hT
  refine ⟨_, by unfold F_X3_giveToAll; rw [q_0]; exact e1, (wc e2).up (Or.inl ⟨rfl, by omega, by omega⟩), ?_, ?_, ?_, ?_, fun i hi => ?_, ld, ?_, t7⟩
  · rw [up_j (by omega), e0 _ _ (by omega) (by omega) (by omega)]; exact t1
  · rw [up_j (by omega), e0 _ _ (by omega) (by omega) (by omega)]; exact t2
  · rw [up_j (by omega), e0 _ _ (by omega) (by omega) (by omega)]; exact t3
  · rw [up_s, e0 _ _ (by omega) (by omega) (by omega), t4]; exact (allH_or hT12 hb).symm
  · rw [up_i (by omega), up_i (by omega), up_i (by omega), up_i (by omega), (e3 i hi).2, (e3 i hi).1, e0 (r + 8) _ (by omega) (by omega) (by omega), e0 (r + 9) _ (by omega) (by omega) (by omega)]
    exact ⟨rfl, rfl, (t5 i hi).2.2.1, (t5 i hi).2.2.2⟩
  · rw [up_j (by omega), e0 _ _ (by omega) (by omega) (by omega)]; exact t6
theorem thing_c {σ : Hp} {g : Nat → Nat → Int32} {r t i : Nat} {C : Ct} {T : Tk} (n : Nat) (hn : 12 < n) (hC : CC σ g r C) (hT : CT σ g r C T) (hi : i < cJ C) : ∃ g', F_X9_act n t r (nI i) (wI σ g) = some (wI σ g') ∧ Fr (WC σ r) g g' ∧ CT σ g' r C (thingS C T i) := by
  have hC0 := hC
  obtain ⟨hR, hW, h0, h2, hsp, ht⟩ := hC0
  obtain ⟨r65, ⟨R1, R3, R4, R6, R7, R15, R16, R17, R18⟩, L1, L2, L3, L4, L5, L6, L7, L8, L9⟩ := hR
  have hJ := hW.2.1
  have hT12 := hW.2.2.1
  unfold F_X9_act F_X3_loudestNotShared
  rw [wI_R, R15, qk_s1, q_atw (by omega) (by omega), qk_s2, wI_I, (hT.2.2.2.2.1 i hi).1, hT.2.2.2.1]
  have hb := best_c (op := openS C T i) n hn hC
  unfold openS at hb
  rw [qk_b2 hb]
  unfold thingS openS
  cases h3 : bestS (cS C) (tH T i &&& (allH (cT C) (tH T) (cJ C) ^^^ -1)) (cT C) with
  | none => 
    simp only
    exact ⟨g, by rw [if_pos (by decide)], Fr.rf _ _, hT⟩
  | some b =>
    simp only
    have hbt := (best_lt h3).1
    obtain ⟨g', k1, k2, k3⟩ := give_c n hn hC hT hbt
    exact ⟨g', by rw [if_neg (nI_pos (by omega)), qk_b1 k1], k2, k3⟩
theorem story_c {σ : Hp} {g : Nat → Nat → Int32} {r t i : Nat} {C : Ct} {T : Tk} (n : Nat) (hn : 200 < n) (hC : CC σ g r C) (hT : CT σ g r C T) (hi : i < cJ C) : ∃ g', F_X8_act n t r (nI i) (wI σ g) = some (wI σ g') ∧ Fr (WC σ r) g g' ∧ CT σ g' r C (storyS C (thingS C T i) i) := by
  unfold F_X8_act
  obtain ⟨g1, k1, k2, k3⟩ := thing_c (t := t) n (by omega) hC hT hi
  rw [qk_b1 k1]
  have hC1 := hC.fr k2
  generalize hU : thingS C T i = U at k3 ⊢
  have hC0 := hC1
  obtain ⟨hR, hW, h0, h2, hsp, ht⟩ := hC0
  obtain ⟨r65, ⟨R1, R3, R4, R6, R7, R15, R16, R17, R18⟩, L1, L2, L3, L4, L5, L6, L7, L8, L9⟩ := hR
  have hJ := hW.2.1
  rw [qk_b2 (yes_c n k3.2.2.1 hJ), qk_b2 (no_c n k3.2.2.1 hJ h2), wI_I, bi_v, isM_bi k3.2.2.1 hi hJ]
  unfold F_X8_act_35
  have e9 : (if (if tS U i = true then (1 : Int32) else 0) = 1 then F_X8_act_40 n n r (nI (cnt (cJ C) (tS U))) (nI (cJ C - cnt (cJ C) (tS U))) 2 0 (wI σ g1) else F_X8_act_40 n n r (nI (cnt (cJ C) (tS U))) (nI (cJ C - cnt (cJ C) (tS U))) (-2) 0 (wI σ g1)) = F_X8_act_40 n n r (nI (cnt (cJ C) (tS U))) (nI (cJ C - cnt (cJ C) (tS U))) (if tS U i then 2 else -2) 0 (wI σ g1) := by
    cases tS U i <;> rfl
  rw [e9]
  obtain ⟨ρ, e1, g', rfl, e2⟩ := q_for (fun f j (h : Nat → Nat → Int32) => F_X8_act_40 n f r (nI (cnt (cJ C) (tS U))) (nI (cJ C - cnt (cJ C) (tS U))) (if tS U i then 2 else -2) (nI j) (wI σ h)) (PL σ r (cJ C) g1 (tP U) (tP (storyS C U i))) (fun ρ => ∃ g', ρ = wI σ g' ∧ PL σ r (cJ C) g1 (tP U) (tP (storyS C U i)) (cJ C) g') (cJ C) (fun j f h hj hp => by
    have hC2 := hC1.fr (WP.c hp.1)
    obtain ⟨T', t1, t65, tk, t1k, the, tmn, tln, tpt, tlw⟩ := hC2.2.2.2.2.2 j hj
    have e0 : ∀ a b, a < 65 → a ≠ r + 8 → h a b = g1 a b := fun a b q1 q2 => hp.1 a b (fun w => by
      rcases w with w | w
      · exact q2 w
      · exact stk_lo q1 w)
    have hlw : h (r + 7) j = wgh (cS C) (tH U j) (cT C) := by rw [e0 _ _ (by omega) (by omega)]; exact (k3.2.2.2.2.1 j hj).2.1
    have hm : h r 10 = nI (tM U) := by rw [e0 _ _ (by omega) (by omega)]; exact k3.1
    obtain ⟨h', v1, v2⟩ := lean_c (y := nI (cnt (cJ C) (tS U))) (no := nI (cJ C - cnt (cJ C) (tS U))) n hn hC2 hj hlw (hp.at hj) hm
    have hp2 := hp.st r65 v2
    have hT4 : h' T' 4 = cL C j := by
      rw [v2 T' 4 (fun w => kc_ne (cK C j) (by rw [← tk]; exact w.1))]; exact tln
    simp only [F_X8_act_40, F_X8_act_85, F_X8_act_113]
    rw [wI_I, hC2.2.2.2.1, if_neg (nI_ge hj (by omega)), qk_b2 (hC2.tat n hj), t1, qk_om, qk_b2 v1, wI_I, hT4, ← nI_succ]
    have es : tP (storyS C U i) j = if nearS (leanS C (tH U) (tP U) (nI (cnt (cJ C) (tS U))) (nI (cJ C - cnt (cJ C) (tS U))) (nI (tM U)) j) (cL C j) then tP U j + (if tS U i then 2 else -2) else tP U j := rfl
    unfold nearS at es
    by_cases c1 : lg_cmp ((leanS C (tH U) (tP U) (nI (cnt (cJ C) (tS U))) (nI (cJ C - cnt (cJ C) (tS U))) (nI (tM U)) j).toInt64 - (cL C j).toInt64) (-5) ≤ 0
    · rw [if_pos c1] at es ⊢
      exact ⟨h', rfl, hp2.no es.symm⟩
    · rw [if_neg c1] at es ⊢
      by_cases c2 : 0 ≤ lg_cmp ((leanS C (tH U) (tP U) (nI (cnt (cJ C) (tS U))) (nI (cJ C - cnt (cJ C) (tS U))) (nI (tM U)) j).toInt64 - (cL C j).toInt64) 5
      · rw [if_pos c2] at es ⊢
        exact ⟨h', rfl, hp2.no es.symm⟩
      · rw [if_neg c2] at es ⊢
        rw [qk_b1 (push_c n R17 L8 (by omega))]
        exact ⟨_, rfl, hp2.up (by rw [hp2.at hj, es]; rfl)⟩) (fun f h hp => by
    refine ⟨_, ?_, h, rfl, hp⟩
    simp only [F_X8_act_40]
    rw [wI_I, (hC1.fr (WP.c hp.1)).2.2.2.1, if_pos (nI_le (Nat.le_refl _) (by omega))]) n g1 (by omega) (PL.z fun j hj => (k3.2.2.2.2.1 j hj).2.2.1)
  have e3 := e2.en r65 k3
  exact ⟨g', by rw [q_0]; exact e1, k2.tr e3.1, e3.2⟩
theorem gv_i (k : Nat) (hk : k ≤ 2) (hk0 : k ≠ 0) : (nI k - 1 = (1 : Int32)) ↔ k = 2 := by
  obtain rfl | rfl : k = 1 ∨ k = 2 := by omega
  · decide
  · decide
theorem sleep_c {σ : Hp} {g : Nat → Nat → Int32} {r t i : Nat} {C : Ct} {T : Tk} (n : Nat) (hC : CC σ g r C) (hT : CT σ g r C T) (hi : i < cJ C) (hg : tG T i ≤ 2) (hp : g t 5 = cP C i) : ∃ g', F_X7_act n t r (nI i) (wI σ g) = some (wI σ g') ∧ Fr (WC σ r) g g' ∧ CT σ g' r C (sleepS C T i) := by
  have hC0 := hC
  obtain ⟨hR, hW, h0, h2, hsp, ht⟩ := hC0
  obtain ⟨r65, ⟨R1, R3, R4, R6, R7, R15, R16, R17, R18⟩, L1, L2, L3, L4, L5, L6, L7, L8, L9⟩ := hR
  have hJ := hW.2.1
  unfold F_X7_act F_X7_act_40 sleepS
  rw [wI_I, hT.1, hp]
  by_cases c1 : nI (tM T) < cP C i
  · rw [if_pos c1, if_pos c1]
    exact ⟨g, rfl, Fr.rf _ _, hT⟩
  · rw [if_neg c1, if_neg c1, qk_b2 (gin_c n R18 L9 (by omega) (hT.2.2.2.2.1 i hi).2.2.2 hg)]
    by_cases c2 : tG T i = 0
    · have hy := cnt_le (tS T) (cJ C)
      rw [if_pos c2, if_pos c2, if_pos rfl, wI_R, R18, qk_s1, qk_b2 (yes_c n hT.2.2.1 hJ), qk_b2 (no_c n hT.2.2.1 hJ h2), q_stw (by omega) (by omega), qk_s1, q_stw (by omega) (by omega), qk_s1]
      have fin : ∀ k : Nat, CT σ (up2 g (r + 9) i (nI k - 1)) r C (tH T, tP T, tS T, upb (tG T) i k, T.2.2.2.2) := by
        intro k
        obtain ⟨t1, t2, t3, t4, t5, ld, t6, t7⟩ := hT
        refine ⟨by rw [up_i (by omega)]; exact t1, by rw [up_i (by omega)]; exact t2, by rw [up_i (by omega)]; exact t3, by rw [up_i (by omega)]; exact t4, fun j hj => ?_, ld, by rw [up_i (by omega)]; exact t6, t7⟩
        rw [up_i (by omega), up_i (by omega), up_i (by omega)]
        refine ⟨(t5 j hj).1, (t5 j hj).2.1, (t5 j hj).2.2.1, ?_⟩
        show _ = nI (upb (tG T) i k j) - 1
        unfold upb
        by_cases h4 : j = i
        · subst h4; rw [up_s, if_pos rfl]
        · rw [up_j h4, if_neg h4]; exact (t5 j hj).2.2.2
      have hf : ∀ v, Fr (WC σ r) g (up2 g (r + 9) i v) := fun v => (Fr.rf _ _).up (Or.inr (Or.inl (by omega)))
      by_cases c3 : noS C T ≤ yesS C T
      · have c3' : cJ C - cnt (cJ C) (tS T) ≤ cnt (cJ C) (tS T) := c3
        rw [if_neg (nI_nlt c3' (by omega)), if_pos c3]
        exact ⟨_, rfl, hf _, fin 2⟩
      · have c3' : ¬ cJ C - cnt (cJ C) (tS T) ≤ cnt (cJ C) (tS T) := c3
        rw [if_pos (nI_lt (by omega) (by omega)), if_neg c3]
        exact ⟨_, rfl, hf _, fin 1⟩
    · rw [if_neg c2, if_neg c2, if_neg (by decide)]
      exact ⟨g, rfl, Fr.rf _ _, hT⟩
theorem act_c {σ : Hp} {g : Nat → Nat → Int32} {r i t : Nat} {C : Ct} {T : Tk} (n : Nat) (hn : 200 < n) (hC : CC σ g r C) (hT : CT σ g r C T) (hw : TW C T) (hi : i < cJ C) (ht : hR σ (r + 2) i = some t) : ∃ g', F_D_act n t r (nI i) (wI σ g) = some (wI σ g') ∧ Fr (WC σ r) g g' ∧ CT σ g' r C (actS C T i) := by
  have hC0 := hC
  obtain ⟨hR, hW, h0, h2, hsp, htt⟩ := hC0
  obtain ⟨t', t1, t65, tk, t1k, the, tmn, tln, tpt, tlw⟩ := htt i hi
  obtain rfl : t = t' := Option.some.inj (ht.symm.trans t1)
  have hk := (hW.2.2.2.2 i hi).1
  unfold F_D_act actS
  rw [wI_K, tk]
  have nop : F_X10_act n t r (nI i) (wI σ g) = some (wI σ g) := rfl
  obtain h | h | h | h | h | h | h | h : cK C i = 0 ∨ cK C i = 1 ∨ cK C i = 2 ∨ cK C i = 3 ∨ cK C i = 4 ∨ cK C i = 5 ∨ cK C i = 6 ∨ cK C i = 7 := by omega
  all_goals rw [h]
  · exact ⟨g, nop, Fr.rf _ _, hT⟩
  · exact thing_c (t := t) n (by omega) hC hT hi
  · exact count_c (s := 0) (t := t) n (by omega) hC hT (nI i)
  · exact press_c (t := t) n (by omega) hC hT (nI i)
  · exact story_c (t := t) n hn hC hT hi
  · exact rule_c (t := t) n (by omega) hC hT (nI i)
  · exact ⟨g, nop, Fr.rf _ _, hT⟩
  · exact sleep_c n hC hT hi (hw.2.2.2 i hi) tpt
