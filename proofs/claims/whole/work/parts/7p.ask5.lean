/-! leads, hands -/
theorem rgo_m {τ : Hp} {D : Dt} {lno : Nat → Int32} {ot : Option Tk} (n : Nat) (hn : 4000 < n) (h : Inv τ D lno ot) (hp : 0 < cJ (dC D)) (ld : Nat) (hl : ld < cJ (dC D)) (ha : Bool) : ∃ t g1 g' t', F_X12_takesAll n 48 54 τ = some (wM τ g1 t) ∧ RWm g1 49 51 D lno ∧ F_X12_runs n 48 (nI ld) (nI (ndN D (dk D))) (if ha then 1 else 0) (wM τ g1 t) = some (rE D exN (rH D exN) (ndN D (dk D)) ld ha, wM τ g' t') ∧ Fq τ (wM τ g' t') := by
  obtain ⟨t, ht⟩ := at_m h
  obtain ⟨g1, a1, a2, a3, a4, a5, a6, a7⟩ := tka_m (t := t) n (by omega) h hp
  have hU := h.2.1.1.2.2.2.2.2.2.2
  obtain ⟨g', t', b1', b2'⟩ := run_m (t := t) (nd := ndN D (dk D)) (ld := ld) (ha := ha) n hn h.1.2.2.2.1 a5 a3 a4 (hs_r h.2.1.2.2.1) (by rw [exN_J]; exact hl) rfl (by have := h.2.1.2.2.1.1.1; unfold ndN; omega) hU.2.2.2.2.2.2.2
  rw [← ht] at a1
  exact ⟨t, g1, g', t', a1, a5, b1', fq_m (fun a j h1 h2 h3 h4 => by rw [b2'.1 a j (by omega) h2 h3 h4]; exact a2 a j h2)⟩
theorem isE_c (n : Nat) (a : Int32) (τ : Hp) : F_X11_isEnd n a τ = some (if a < 0 ∨ nI 2 < a then 0 else 1, τ) := by
  unfold F_X11_isEnd F_X11_isEnd_14
  by_cases h : a < 0 ∨ nI 2 < a
  · rw [if_pos h]
    have h0 : ¬ a = 0 := fun q => by subst q; revert h; decide
    have h1 : ¬ a = 1 := fun q => by subst q; revert h; decide
    have h2 : ¬ a = 2 := fun q => by subst q; revert h; decide
    rw [if_neg h0, if_neg h1, if_neg h2]
  · rw [if_neg h]
    obtain ⟨j, hj, rfl⟩ := what_j (by omega) h
    obtain rfl | rfl | rfl : j = 0 ∨ j = 1 ∨ j = 2 := by omega
    · rfl
    · rfl
    · rfl
def leadS (D : Dt) (e : Int32) : Nat → Int32
  | 0 => 0
  | i + 1 => if rE D exN (rH D exN) (ndN D (dk D)) i (da D) = e then leadS D e i ||| b1s i else leadS D e i
theorem or_z (x : Int32) : x ||| 0 = x := by
  apply bi_ext
  intro i hi
  rw [bi_or hi, bi_0 i hi, Bool.or_false]
theorem q_leads {τ : Hp} {D : Dt} {lno : Nat → Int32} {ot : Option Tk} (n : Nat) (hn : 4000 < n) (h : Inv τ D lno ot) (a : Int32) : BQ τ D lno ot (F_X11_leads n 0 a) (F_X12_leads n 48 a) := by
  have hJ := h.2.1.2.2.1.1.1
  by_cases h0 : a < 0 ∨ nI 2 < a
  · refine BQ.of (-1) ?_ (fun τ1 h1 => ?_)
    · unfold F_X11_leads
      rw [qk_b2 (isE_c n a τ), if_pos h0, if_pos rfl]
    · unfold F_X12_leads
      rw [qk_b2 (isIn_v n (y := 0) (z := 2) a 0 2 rfl rfl rfl _), if_pos (show a < 0 ∨ 2 < a from h0), if_pos rfl]
  · by_cases hz : cJ (dC D) = 0
    · refine BQ.of (-3) ?_ (fun τ1 h1 => ?_)
      · unfold F_X11_leads
        rw [qk_b2 (isE_c n a τ), if_neg h0, if_neg (by decide), j0_c h, if_pos hz]
      · unfold F_X12_leads
        rw [qk_b2 (isIn_v n (y := 0) (z := 2) a 0 2 rfl rfl rfl _), if_neg (show ¬ (a < 0 ∨ 2 < a) from h0), if_neg (by decide), j0_m h1, if_pos hz]
    · have hp : 0 < cJ (dC D) := by omega
      refine ⟨leadS D a (cJ (dC D)), ?_, fun τ1 h1 => ?_⟩
      · obtain ⟨ρ, e1, τ', rfl, e2⟩ := q_for (fun f i (s : Int32 × Hp) => F_X11_leads_26 n f 0 a s.1 (nI i) s.2) (fun i s => s.1 = leadS D a i ∧ Fq τ s.2) (fun ρ => ∃ τ', ρ = (leadS D a (cJ (dC D)), τ') ∧ Fq τ τ') (cJ (dC D)) (fun i f s hi hs => by
          obtain ⟨x, τ2⟩ := s
          obtain ⟨s1, s2⟩ := hs
          simp only at s1 s2
          subst s1
          have h2 := h.fq s2
          obtain ⟨g, R, r1, r2, r3⟩ := ewr_c n hn h2 hp 1 (by omega) i ⟨fun q => by omega, fun _ => hi, fun q => by omega⟩
          rw [if_neg (show ¬ (1 : Nat) = 0 by omega), if_pos rfl, if_neg (show ¬ (1 : Nat) = 2 by omega)] at r1
          have r1' : F_X11_endWithRule n 0 1 (nI i) τ2 = _ := r1
          refine ⟨(leadS D a (i + 1), wA τ2 g R), ?_, rfl, s2.tr r2⟩
          simp only [F_X11_leads_26, F_X11_leads_53, leadS]
          rw [h2.1.1.1, qk_s1, h2.2.1.1.2.2.1, if_neg (nI_ge hi (by omega)), qk_b2 r1', ← nI_succ]
          by_cases c : rE D exN (rH D exN) (ndN D (dk D)) i (da D) = a
          · rw [if_pos c, if_pos c]; rfl
          · rw [if_neg c, if_neg c]) (fun f s hs => by
          obtain ⟨x, τ2⟩ := s
          obtain ⟨s1, s2⟩ := hs
          simp only at s1 s2
          subst s1
          have h2 := h.fq s2
          refine ⟨_, ?_, τ2, rfl, s2⟩
          simp only [F_X11_leads_26]
          rw [h2.1.1.1, qk_s1, h2.2.1.1.2.2.1, if_pos (nI_le (Nat.le_refl _) (by omega))]) n (0, τ) (by omega) ⟨rfl, Fq.rf τ⟩
        refine ⟨τ', ?_, e2⟩
        unfold F_X11_leads
        rw [qk_b2 (isE_c n a τ), if_neg h0, if_neg (by decide), j0_c h, if_neg hz]
        exact e1
      · obtain ⟨ρ, e1, τ', rfl, e2⟩ := q_for (fun f i (s : Int32 × Hp) => F_X12_leads_30 n f 48 a s.1 (nI i) s.2) (fun i s => s.1 = leadS D a i ∧ Fq τ1 s.2) (fun ρ => ∃ τ', ρ = (leadS D a (cJ (dC D)), τ') ∧ Fq τ1 τ') (cJ (dC D)) (fun i f s hi hs => by
          obtain ⟨x, τ2⟩ := s
          obtain ⟨s1, s2⟩ := hs
          simp only at s1 s2
          subst s1
          have h2 := h1.fq s2
          obtain ⟨t, g1, g', t', r1, r2, r3, r4⟩ := rgo_m n hn h2 hp i hi (da D)
          have hB := h2.1.2.2.2.1
          have hB0 := hB
          obtain ⟨⟨M0, M1, M2, M3, M4, M5, M6, M7, M8, M9, M10, M11, M12, M28, M29⟩, K49, K50, K51, K52, K53, K54, K55, K56, K57, K58, K59, K60, K61, K62, K63⟩ := hB
          refine ⟨(leadS D a (i + 1), wM τ2 g' t'), ?_, rfl, s2.tr r4⟩
          simp only [F_X12_leads_30, F_X12_leads_70, F_X12_leads_84, leadS]
          rw [M0, qk_s1, K49, z_1, kq_1 (by decide), h2.2.1.2.1.2.1, if_neg (nI_ge hi (by omega)), M5, qk_s1, qk_b1 r1, qk_b2 (nn_m n hB0 r2.2.2.2.2.1 r2.2.1 (h2.2.1.1.2.2.2.2.2.2.2.2.2.1) hJ), wM_R (by decide), M0, qk_s1, z_5, wM_L, K49, kq_5 (by decide), wM_I, v3_m r2]
          have r3' : F_X12_runs n 48 (nI i) (nI (min (dk D) (cJ (dC D)))) (if da D then 1 else 0) (wM τ2 g1 t) = _ := r3
          by_cases hda : da D = true
          · rw [if_pos hda] at r3' ⊢
            rw [qk_b2 r3', ← nI_succ]
            by_cases c : rE D exN (rH D exN) (ndN D (dk D)) i (da D) = a
            · rw [if_pos c, if_pos c]; rfl
            · rw [if_neg c, if_neg c, or_z]
          · rw [if_neg hda] at r3' ⊢
            rw [qk_b2 r3', ← nI_succ]
            by_cases c : rE D exN (rH D exN) (ndN D (dk D)) i (da D) = a
            · rw [if_pos c, if_pos c]; rfl
            · rw [if_neg c, if_neg c, or_z]) (fun f s hs => by
          obtain ⟨x, τ2⟩ := s
          obtain ⟨s1, s2⟩ := hs
          simp only at s1 s2
          subst s1
          have h2 := h1.fq s2
          have hB := h2.1.2.2.2.1
          obtain ⟨⟨M0, M1, M2, M3, M4, M5, M6, M7, M8, M9, M10, M11, M12, M28, M29⟩, K49, K50, K51, K52, K53, K54, K55, K56, K57, K58, K59, K60, K61, K62, K63⟩ := hB
          refine ⟨_, ?_, τ2, rfl, s2⟩
          simp only [F_X12_leads_30]
          rw [M0, qk_s1, K49, z_1, kq_1 (by decide), h2.2.1.2.1.2.1, if_pos (nI_le (Nat.le_refl _) (by omega))]) n (0, τ1) (by omega) ⟨rfl, Fq.rf τ1⟩
        refine ⟨τ', ?_, e2⟩
        unfold F_X12_leads
        rw [qk_b2 (isIn_v n (y := 0) (z := 2) a 0 2 rfl rfl rfl _), if_neg (show ¬ (a < 0 ∨ 2 < a) from h0), if_neg (by decide), j0_m h1, if_neg hz]
        exact e1
theorem q_hands {τ : Hp} {D : Dt} {lno : Nat → Int32} {ot : Option Tk} (n : Nat) (hn : 4000 < n) (h : Inv τ D lno ot) : BQ τ D lno ot (F_X11_hands n 0) (F_X12_hands n 48) := by
  have hJ := h.2.1.2.2.1.1.1
  by_cases hz : cJ (dC D) = 0
  · refine BQ.of (-3) ?_ (fun τ1 h1 => ?_)
    · unfold F_X11_hands
      rw [j0_c h, if_pos hz]
    · unfold F_X12_hands
      rw [j0_m h1, if_pos hz]
  · have hp : 0 < cJ (dC D) := by omega
    obtain ⟨g1, R1, a1, a2, a3⟩ := ewr_c n hn h hp 2 (by omega) 1 ⟨fun q => by omega, fun q => by omega, fun _ => by omega⟩
    have h1 := h.fq a2
    obtain ⟨g2, R2, b1', b2', b3'⟩ := ewr_c n hn h1 hp 2 (by omega) 0 ⟨fun q => by omega, fun q => by omega, fun _ => by omega⟩
    rw [if_neg (show ¬ (2 : Nat) = 0 by omega), if_neg (show ¬ (2 : Nat) = 1 by omega), if_pos rfl] at a1 b1'
    have a1' : F_X11_endWithRule n 0 2 1 τ = some (rE D exN (rH D exN) (ndN D (dk D)) (ldN D) true, wA τ g1 R1) := a1
    have b1'' : F_X11_endWithRule n 0 2 0 (wA τ g1 R1) = some (rE D exN (rH D exN) (ndN D (dk D)) (ldN D) false, wA (wA τ g1 R1) g2 R2) := b1'
    refine ⟨10 * rE D exN (rH D exN) (ndN D (dk D)) (ldN D) true + rE D exN (rH D exN) (ndN D (dk D)) (ldN D) false, ⟨_, ?_, a2.tr b2'⟩, fun τ1 h1' => ?_⟩
    · unfold F_X11_hands
      rw [j0_c h, if_neg hz, qk_b2 a1', qk_b2 b1'']
    · obtain ⟨t, u1, u2, t2, r1, r2, r3, r4⟩ := rgo_m n hn h1' hp (ldN D) (ldS_lt hp) true
      have h2 := h1'.fq r4
      obtain ⟨t3, u3, u4, t4, s1, s2, s3, s4⟩ := rgo_m n hn h2 hp (ldN D) (ldS_lt hp) false
      have hB := h1'.1.2.2.2.1
      have hB0 := hB
      have hB2 := h2.1.2.2.2.1
      have hU := h1'.2.1.1.2.2.2.2.2.2.2
      obtain ⟨⟨M0, M1, M2, M3, M4, M5, M6, M7, M8, M9, M10, M11, M12, M28, M29⟩, K49, K50, K51, K52, K53, K54, K55, K56, K57, K58, K59, K60, K61, K62, K63⟩ := hB
      have r3' : F_X12_runs n 48 (nI (ldS (dl D) (cJ (dC D)))) (nI (min (dk D) (cJ (dC D)))) 1 (wM τ1 u1 t) = some (rE D exN (rH D exN) (ndN D (dk D)) (ldN D) true, wM τ1 u2 t2) := r3
      have s3' : F_X12_runs n 48 (nI (ldS (dl D) (cJ (dC D)))) (nI (min (dk D) (cJ (dC D)))) 0 (wM (wM τ1 u2 t2) u3 t3) = some (rE D exN (rH D exN) (ndN D (dk D)) (ldN D) false, wM (wM τ1 u2 t2) u4 t4) := s3
      refine ⟨wM (wM τ1 u2 t2) u4 t4, ?_, r4.tr s4⟩
      unfold F_X12_hands
      rw [j0_m h1', if_neg hz, M5, qk_s1, qk_b1 r1, wM_R (by decide), M0, qk_s1, z_1, wM_L, K49, kq_1 (by decide), wM_I, r2.2.1, qk_b2 (ldo_m n hB0 r2.2.2.2.2.2.1 hU.2.2.2.2.1 hJ), qk_b2 (nn_m n hB0 r2.2.2.2.2.1 r2.2.1 hU.2.2.1 hJ), qk_b2 r3', wM_R (by decide), M5, qk_s1, qk_b1 s1, wM_R (by decide), wM_R (by decide), M0, qk_s1, wM_L, wM_L, K49, kq_1 (by decide), wM_I, s2.2.1, qk_b2 (ldo_m n hB2 s2.2.2.2.2.2.1 hU.2.2.2.2.1 hJ), qk_b2 (nn_m n hB2 s2.2.2.2.2.1 s2.2.1 hU.2.2.1 hJ), qk_b2 s3']
