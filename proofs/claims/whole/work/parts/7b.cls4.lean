/-! the class's talks: slips, a step, the beginning, a run -/
theorem isM_st {m i : Nat} {s : Nat → Bool} {x : Int32} (h : isM m (fun j => decide (j < i) && s j) x) (hi : i < m) (hm : m ≤ 12) : isM m (fun j => decide (j < i + 1) && s j) (if s i then x ||| b1s i else x) := by
  intro j hj
  cases hs : s i
  · rw [if_neg (by decide), h j hj]
    by_cases h1 : j = i
    · subst h1; simp [hs]
    · by_cases h2 : j < i
      · simp [h2, show j < i + 1 by omega]
      · simp [h2, show ¬ j < i + 1 by omega]
  · rw [if_pos rfl, bi_or hj, h j hj, bi_1 i (by omega) j hj]
    by_cases h1 : j = i
    · subst h1; simp [hs, hi]
    · by_cases h2 : j < i
      · simp [h1, h2, show j < i + 1 by omega]
      · simp [h1, h2, show ¬ j < i + 1 by omega]
theorem isM_0 {m : Nat} {s : Nat → Bool} : isM m (fun j => decide (j < 0) && s j) 0 := fun i hi => by rw [bi_0 i hi]; simp
theorem isM_fin {m : Nat} {s : Nat → Bool} {x : Int32} (h : isM m (fun j => decide (j < m) && s j) x) : isM m s x := isM_cg h fun i hi => by simp [hi]
theorem take_c {σ : Hp} {g : Nat → Nat → Int32} {r : Nat} {C : Ct} {T : Tk} (n : Nat) (hn : 200 < n) (hC : CC σ g r C) (hT : CT σ g r C T) (hg : ∀ i, i < cJ C → tG T i ≤ 2) : ∃ g', F_X3_takeSlips n r (wI σ g) = some (wI σ g') ∧ Fr (WC σ r) g g' ∧ CT σ g' r C (takeS C T) := by
  have hC0 := hC
  obtain ⟨hR, hW, h0, h2, hsp, ht⟩ := hC0
  obtain ⟨r65, ⟨R1, R3, R4, R6, R7, R15, R16, R17, R18⟩, L1, L2, L3, L4, L5, L6, L7, L8, L9⟩ := hR
  have hJ := hW.2.1
  unfold F_X3_takeSlips
  rw [qk_b2 (yes_c n hT.2.2.1 hJ), qk_b2 (no_c n hT.2.2.1 hJ h2)]
  obtain ⟨ρ, e1, x, h, rfl, e2, e3⟩ := q_for (fun f i (a : Int32 × (Nat → Nat → Int32)) => F_X3_takeSlips_15 n f r (nI (yesS C T)) (nI (noS C T)) a.1 (nI i) (wI σ a.2)) (fun i a => Fr (WS σ) g a.2 ∧ isM (cJ C) (fun j => decide (j < i) && tS (takeS C T) j) a.1) (fun ρ => ∃ x h, ρ = wI σ (up2 h r 12 x) ∧ Fr (WS σ) g h ∧ isM (cJ C) (tS (takeS C T)) x) (cJ C) (fun i f a hi hp => by
    obtain ⟨x, h⟩ := a
    change Fr (WS σ) g h ∧ isM (cJ C) (fun j => decide (j < i) && tS (takeS C T) j) x at hp
    have hC2 := hC.fr (WS.c hp.1)
    have hT2 := hT.fr r65 hp.1
    obtain ⟨T', t1, t65, tk, t1k, the, tmn, tln, tpt, tlw⟩ := hC2.2.2.2.2.2 i hi
    obtain ⟨h', v1, v2⟩ := lean_c (y := nI (yesS C T)) (no := nI (noS C T)) n hn hC2 hi (hT2.2.2.2.2.1 i hi).2.1 (hT2.2.2.2.2.1 i hi).2.2.1 hT2.1
    have hT3 := hT2.fr r65 v2
    have hT4 : h' T' 4 = cL C i := by
      rw [v2 T' 4 (fun w => kc_ne (cK C i) (by rw [← tk]; exact w.1))]; exact tln
    refine ⟨(if tS (takeS C T) i then x ||| b1s i else x, h'), ?_, hp.1.tr v2, isM_st hp.2 hi hJ⟩
    have hs : tS (takeS C T) i = saysS C (tH T) (tP T) (tG T) (nI (yesS C T)) (nI (noS C T)) (nI (tM T)) i := rfl
    unfold saysS at hs
    have g9 := (hT3.2.2.2.2.1 i hi).2.2.2
    simp only [F_X3_takeSlips_15, F_X3_takeSlips_57, F_X3_takeSlips_58, F_X3_takeSlips_87, F_X3_takeSlips_89, F_X3_takeSlips_101, if_true]
    rw [wI_I, hC2.2.2.2.1, if_neg (nI_ge hi (by omega)), qk_b2 (hC2.tat n hi), t1, qk_om, qk_b2 v1, wI_I, hT4, ← nI_succ]
    have gi := gin_c n R18 L9 (show i < 12 by omega) g9 (hg i hi)
    by_cases c0 : tG T i = 0
    · rw [if_pos c0] at gi hs
      rw [qk_b2 gi, qk_b2 gi, if_pos rfl, if_pos rfl]
      by_cases c1 : leanS C (tH T) (tP T) (nI (yesS C T)) (nI (noS C T)) (nI (tM T)) i < cL C i
      · rw [if_pos c1, hs, decide_eq_true c1]; rfl
      · rw [if_neg c1, if_neg (by decide), hs, decide_eq_false c1]; rfl
    · rw [if_neg c0] at gi hs
      have ea : ∀ z : Option Hp, (if leanS C (tH T) (tP T) (nI (yesS C T)) (nI (noS C T)) (nI (tM T)) i < cL C i then z else z) = z := fun z => by split <;> rfl
      rw [qk_b2 gi, qk_b2 gi]
      simp only [if_neg (show ¬ (1 : Int32) = 0 by decide)]
      rw [ea, wI_R, R18, qk_s1, q_atw (by omega) (by omega), qk_s2, g9]
      by_cases c2 : tG T i = 2
      · rw [if_pos ((gv_i _ (hg i hi) c0).mpr c2), hs, decide_eq_true c2]; rfl
      · rw [if_neg (fun q => c2 ((gv_i _ (hg i hi) c0).mp q)), hs, decide_eq_false c2]; rfl) (fun f a hp => by
    obtain ⟨x, h⟩ := a
    change Fr (WS σ) g h ∧ isM (cJ C) (fun j => decide (j < cJ C) && tS (takeS C T) j) x at hp
    refine ⟨_, ?_, x, h, rfl, hp.1, isM_fin hp.2⟩
    simp only [F_X3_takeSlips_15, F_X3_takeSlips_107]
    rw [wI_I, (hC.fr (WS.c hp.1)).2.2.2.1, if_pos (nI_le (Nat.le_refl _) (by omega)), qk_lt, wI_p]) n (0, g) (by omega) ⟨Fr.rf _ _, isM_0⟩
  obtain ⟨t1, t2, t3, t4, t5, ld, t6, t7⟩ := hT.fr r65 e2
  refine ⟨_, by rw [q_0]; exact e1, (WS.c e2).up (Or.inl ⟨rfl, by omega, by omega⟩), by rw [up_j (by omega)]; exact t1, by rw [up_j (by omega)]; exact t2, by rw [up_s]; exact e3, by rw [up_j (by omega)]; exact t4, fun i hi => ?_, ld, by rw [up_j (by omega)]; exact t6, t7⟩
  rw [up_i (by omega), up_i (by omega), up_i (by omega), up_i (by omega)]
  exact t5 i hi
theorem sfl_c {σ : Hp} {g : Nat → Nat → Int32} {r J ld u : Nat} (n : Nat) (h2 : g r 2 = nI J) (hJ : 0 < J ∧ J ≤ 12) (h9 : g r 9 = nI ld) (hb : ld + u < 2 ^ 31) : F_X3_seatFromLeader n r (nI u) (wI σ g) = some (nI ((ld + u) % J), wI σ g) := by
  unfold F_X3_seatFromLeader
  rw [wI_I, h2, if_neg (nI_nle hJ.1 (by omega)), qk_ck (nI_ne0 hJ.1 (by omega)), h9, nI_add, nI_mod hb (by omega)]
theorem step_c {σ : Hp} {g : Nat → Nat → Int32} {r : Nat} {C : Ct} {T : Tk} (n : Nat) (hn : 200 < n) (hC : CC σ g r C) (hT : CT σ g r C T) (hw : TW C T) (hm : tM T < 2 ^ 30) : ∃ g', F_X3_step n r (wI σ g) = some (wI σ g') ∧ Fr (WC σ r) g g' ∧ CT σ g' r C (turnS C T) := by
  have hC0 := hC
  obtain ⟨hR, hW, h0, h2, hsp, ht⟩ := hC0
  obtain ⟨r65, ⟨R1, R3, R4, R6, R7, R15, R16, R17, R18⟩, L1, L2, L3, L4, L5, L6, L7, L8, L9⟩ := hR
  have hJ := hW.2.1
  obtain ⟨T', t1, t65, tk, t1k, the, tmn, tln, tpt, tlw⟩ := ht (tX T) hw.2.1
  obtain ⟨ld, l1, l2, l3⟩ := hT.2.2.2.2.2
  have hu := hw.2.2.1
  unfold F_X3_step F_X3_step_38
  rw [wI_I, hT.2.1, qk_b2 (sfl_c n h2 ⟨hW.1, hJ⟩ l1 (by omega)), l3, qk_b2 (hC.tat n hw.2.1), t1, qk_om]
  obtain ⟨g1, a1, a2, a3⟩ := act_c n hn hC hT hw hw.2.1 t1
  have hC1 := hC.fr a2
  have as := act_s C T (tX T)
  have aw := act_w hW hw (tX T)
  rw [qk_b1 a1]
  generalize hA : actS C T (tX T) = A at a3 as aw
  have hT3 : g1 T' 3 = nI (cM C (tX T)) := by
    rw [a2 T' 3 (fun w => by
      rcases w with w | w | w
      · omega
      · omega
      · exact kc_ne (cK C (tX T)) (by rw [← tk]; exact w.1))]; exact tmn
  simp only [qk_lt, wI_I, wI_p]
  rw [up_j (show (11 : Nat) ≠ 10 by omega), a3.1, hT3, a3.2.1, nI_add, nI_1]
  have hC2 : CC σ (up2 (up2 g1 r 10 (nI (tM A + cM C (tX T)))) r 11 (nI (tU A + 1))) r C := hC1.fr (((Fr.rf _ _).up (Or.inl ⟨rfl, by omega, by omega⟩)).up (Or.inl ⟨rfl, by omega, by omega⟩))
  have hT2 : CT σ (up2 (up2 g1 r 10 (nI (tM A + cM C (tX T)))) r 11 (nI (tU A + 1))) r C (tH A, tP A, tS A, tG A, tM A + cM C (tX T), tU A + 1, (tX T + 1) % cJ C) := by
    obtain ⟨b1, b2, b3, b4, b5, ld', b6, b7, b8⟩ := a3
    refine ⟨?_, ?_, ?_, ?_, fun i hi => ?_, ld', ?_, b7, ?_⟩
    · rw [up_j (by omega), up_s]; rfl
    · rw [up_s]; rfl
    · rw [up_j (by omega), up_j (by omega)]; exact b3
    · rw [up_j (by omega), up_j (by omega)]; exact b4
    · rw [up_i (by omega), up_i (by omega), up_i (by omega), up_i (by omega), up_i (by omega), up_i (by omega), up_i (by omega), up_i (by omega)]; exact b5 i hi
    · rw [up_j (by omega), up_j (by omega)]; exact b6
    · show (ld' + (tU A + 1)) % cJ C = (tX T + 1) % cJ C
      rw [← Nat.add_assoc, ← Nat.mod_add_mod, b8, as.2.2.2]
  obtain ⟨g2, c1, c2, c3⟩ := take_c n hn hC2 hT2 aw.2.2.2
  rw [qk_b1 c1]
  refine ⟨g2, rfl, (a2.tr (((Fr.rf _ _).up (Or.inl ⟨rfl, by omega, by omega⟩)).up (Or.inl ⟨rfl, by omega, by omega⟩))).tr c2, ?_⟩
  unfold turnS
  rw [hA]
  exact c3
theorem wgh_c {σ : Hp} {g : Nat → Nat → Int32} {r th : Nat} {sp : Nat → Int32} {x : Int32} (n : Nat) (hn : 12 < n) (R1 : hR σ r 1 = some (r + 1)) (L1 : hL σ (r + 1) = 12) (h0 : g r 0 = nI th) (ht : th ≤ 12) (hs : ∀ t, t < th → g (r + 1) t = sp t) : F_X3_weigh n r x (wI σ g) = some (wgh sp x th, wI σ g) := by
  obtain ⟨ρ, e1, e2⟩ := q_for (fun f i (a : Int32) => F_X3_weigh_4 n f r x a (nI i) (wI σ g)) (fun i a => a = wgh sp x i) (fun ρ => ρ = (wgh sp x th, wI σ g)) th (fun i f a hi hp => by
    refine ⟨wgh sp x (i + 1), ?_, rfl⟩
    subst hp
    simp only [F_X3_weigh_4, F_X3_weigh_32, wgh]
    rw [wI_I, h0, if_neg (nI_ge hi (by omega)), bi_v, wI_R, R1, qk_s1, q_atw (by omega) (by omega), qk_s2, hs i hi, ← nI_succ]
    cases bi x i <;> rfl) (fun f a hp => by
    refine ⟨_, ?_, rfl⟩
    subst hp
    simp only [F_X3_weigh_4]
    rw [wI_I, h0, if_pos (nI_le (Nat.le_refl _) (by omega))]) n 0 (by omega) rfl
  subst e2
  exact e1
theorem tta_c {σ : Hp} {g : Nat → Nat → Int32} {r th J : Nat} {hd : Nat → Int32} (n : Nat) (hn : 12 < n) (R4 : hR σ r 4 = some (r + 3)) (L3 : hL σ (r + 3) = 12) (h0 : g r 0 = nI th) (h2 : g r 2 = nI J) (hJ : J ≤ 12) (hs : ∀ t, t < J → g (r + 3) t = hd t) : F_X3_toldToAll n r (wI σ g) = some (allH th hd J, wI σ g) := by
  obtain ⟨ρ, e1, e2⟩ := q_for (fun f i (a : Int32) => F_X3_toldToAll_11 n f r a (nI i) (wI σ g)) (fun i a => a = allH th hd i) (fun ρ => ρ = (allH th hd J, wI σ g)) J (fun i f a hi hp => by
    refine ⟨allH th hd (i + 1), ?_, rfl⟩
    subst hp
    simp only [F_X3_toldToAll_11, allH]
    rw [wI_I, h2, if_neg (nI_ge hi (by omega)), wI_R, R4, qk_s1, q_atw (by omega) (by omega), qk_s2, hs i hi, ← nI_succ]) (fun f a hp => by
    refine ⟨_, ?_, rfl⟩
    subst hp
    simp only [F_X3_toldToAll_11]
    rw [wI_I, h2, if_pos (nI_le (Nat.le_refl _) (by omega))]) n (allH th hd 0) (by omega) rfl
  subst e2
  unfold F_X3_toldToAll
  rw [wI_I, h0]
  exact e1
/-- a room without a talk: as told -/
def CU (g : Nat → Nat → Int32) (r J th : Nat) (sp hd : Nat → Int32) : Prop := g r 10 = 0 ∧ g r 11 = 0 ∧ g r 12 = 0 ∧ g r 13 = 0 ∧ g r 14 = allH th hd J ∧ ∀ i, i < J → g (r + 6) i = hd i ∧ g (r + 7) i = wgh sp (hd i) th ∧ g (r + 8) i = 0 ∧ g (r + 9) i = -1
theorem sat_c {σ : Hp} {g : Nat → Nat → Int32} {r th J : Nat} {sp hd : Nat → Int32} (n : Nat) (hn : 12 < n) (hR : RL σ r) (h0 : g r 0 = nI th) (hth : th ≤ 12) (h2 : g r 2 = nI J) (hJ : J ≤ 12) (hs : ∀ t, t < th → g (r + 1) t = sp t) (hh : ∀ t, t < J → g (r + 3) t = hd t) : ∃ g', F_X3_standAsTold n r (wI σ g) = some (wI σ g') ∧ Fr (fun a j => (a = r ∧ 10 ≤ j ∧ j ≤ 14) ∨ (r + 6 ≤ a ∧ a ≤ r + 9)) g g' ∧ CU g' r J th sp hd := by
  obtain ⟨r65, ⟨R1, R3, R4, R6, R7, R15, R16, R17, R18⟩, L1, L2, L3, L4, L5, L6, L7, L8, L9⟩ := hR
  unfold F_X3_standAsTold
  simp only [qk_lt, wI_p]
  generalize hg4 : up2 (up2 (up2 (up2 g r 10 0) r 11 0) r 12 0) r 13 0 = g4
  have e4 : Fr (fun a j => a = r ∧ 10 ≤ j ∧ j ≤ 13) g g4 := by
    rw [← hg4]
    exact ((((Fr.rf _ _).up ⟨rfl, by omega, by omega⟩).up ⟨rfl, by omega, by omega⟩).up ⟨rfl, by omega, by omega⟩).up ⟨rfl, by omega, by omega⟩
  have q0 : g4 r 0 = nI th := by rw [e4 r 0 (by omega)]; exact h0
  have q2 : g4 r 2 = nI J := by rw [e4 r 2 (by omega)]; exact h2
  rw [qk_b2 (tta_c (hd := hd) n hn R4 L3 q0 q2 hJ (fun t ht => by rw [e4 (r + 3) t (by omega)]; exact hh t ht)), wI_p]
  generalize hg5 : up2 g4 r 14 (allH th hd J) = g5
  have e5 : Fr (fun a j => a = r ∧ 10 ≤ j ∧ j ≤ 14) g g5 := by
    rw [← hg5]
    exact (e4.mo (fun i j w => ⟨w.1, w.2.1, by omega⟩)).up ⟨rfl, by omega, by omega⟩
  obtain ⟨ρ, e1, g', rfl, e2, e3⟩ := q_for (fun f i (h : Nat → Nat → Int32) => F_X3_standAsTold_30 n f r (nI i) (wI σ h)) (fun i h => Fr (fun a _ => r + 6 ≤ a ∧ a ≤ r + 9) g5 h ∧ ∀ j, j < i → h (r + 6) j = hd j ∧ h (r + 7) j = wgh sp (hd j) th ∧ h (r + 8) j = 0 ∧ h (r + 9) j = -1) (fun ρ => ∃ g', ρ = wI σ g' ∧ Fr (fun a _ => r + 6 ≤ a ∧ a ≤ r + 9) g5 g' ∧ ∀ j, j < J → g' (r + 6) j = hd j ∧ g' (r + 7) j = wgh sp (hd j) th ∧ g' (r + 8) j = 0 ∧ g' (r + 9) j = -1) J (fun i f h hi hp => by
    have k2 : h r 2 = nI J := by rw [hp.1 r 2 (by omega), e5 r 2 (by omega)]; exact h2
    have k0 : ∀ v, up2 h (r + 6) i v r 0 = nI th := fun v => by rw [up_i (by omega), hp.1 r 0 (by omega), e5 r 0 (by omega)]; exact h0
    have k3 : h (r + 3) i = hd i := by rw [hp.1 (r + 3) i (by omega), e5 (r + 3) i (by omega)]; exact hh i hi
    simp only [F_X3_standAsTold_30]
    rw [wI_I, k2, if_neg (nI_ge hi (by omega)), wI_R, R15, qk_s1, R4, qk_s1, q_atw (by omega) (by omega), qk_s2, q_stw (by omega) (by omega), qk_s1, wI_R, R16, qk_s1, R4, qk_s1, q_atw (by omega) (by omega), qk_s2, up_i (show r + 3 ≠ r + 6 by omega), k3, qk_b2 (wgh_c (sp := sp) n hn R1 L1 (k0 _) hth (fun t ht => by rw [up_i (by omega), hp.1 (r + 1) t (by omega), e5 (r + 1) t (by omega)]; exact hs t ht)), q_stw (by omega) (by omega), qk_s1, wI_R, R17, qk_s1, q_stw (by omega) (by omega), qk_s1, wI_R, R18, qk_s1, q_stw (by omega) (by omega), qk_s1, ← nI_succ]
    refine ⟨_, rfl, (((hp.1.up ⟨by omega, by omega⟩).up ⟨by omega, by omega⟩).up ⟨by omega, by omega⟩).up ⟨by omega, by omega⟩, fun j hj => ?_⟩
    rw [up_i (show r + 6 ≠ r + 9 by omega), up_i (show r + 6 ≠ r + 8 by omega), up_i (show r + 6 ≠ r + 7 by omega), up_i (show r + 7 ≠ r + 9 by omega), up_i (show r + 7 ≠ r + 8 by omega), up_i (show r + 8 ≠ r + 9 by omega)]
    by_cases h4 : j = i
    · subst h4; exact ⟨up_s _ _ _ _, up_s _ _ _ _, up_s _ _ _ _, up_s _ _ _ _⟩
    · rw [up_j h4, up_j h4, up_j h4, up_j h4, up_i (show r + 7 ≠ r + 6 by omega), up_i (show r + 8 ≠ r + 7 by omega), up_i (show r + 8 ≠ r + 6 by omega), up_i (show r + 9 ≠ r + 8 by omega), up_i (show r + 9 ≠ r + 7 by omega), up_i (show r + 9 ≠ r + 6 by omega)]
      exact hp.2 j (by omega)) (fun f h hp => by
    refine ⟨_, ?_, h, rfl, hp.1, hp.2⟩
    simp only [F_X3_standAsTold_30]
    rw [wI_I, show h r 2 = nI J by rw [hp.1 r 2 (by omega), e5 r 2 (by omega)]; exact h2, if_pos (nI_le (Nat.le_refl _) (by omega))]) n g5 (by omega) ⟨Fr.rf _ _, fun j hj => by omega⟩
  refine ⟨g', by rw [q_0]; exact e1, (e5.mo (fun i j w => Or.inl w)).tr (e2.mo (fun i j w => Or.inr w)), ?_, ?_, ?_, ?_, ?_, e3⟩
  · rw [e2 r 10 (by omega), ← hg5, ← hg4, up_j (by omega), up_j (by omega), up_j (by omega), up_j (by omega), up_s]
  · rw [e2 r 11 (by omega), ← hg5, ← hg4, up_j (by omega), up_j (by omega), up_j (by omega), up_s]
  · rw [e2 r 12 (by omega), ← hg5, ← hg4, up_j (by omega), up_j (by omega), up_s]
  · rw [e2 r 13 (by omega), ← hg5, ← hg4, up_j (by omega), up_s]
  · rw [e2 r 14 (by omega), ← hg5, up_s]
