/-! the model's run, with what came out when -/
def markS (C : Ct) (o : Nat → Int32) (T : Tk) (m : Int32) : Nat → Int32 := fun t => if bi (allH (cT C) (tH T) (cJ C)) t then (if 0 ≤ o t then o t else m) else o t
def runO (C : Ct) (nd li : Nat) : Nat → Tk → (Nat → Int32) → Nat → Int32
  | 0, _, o => o
  | f + 1, T, o => if endS C nd li T = -4 then runO C nd li f (turnS C T) (markS C o (turnS C T) (nI (tM T))) else o
theorem isT54 : isT2 54 := Or.inr rfl
theorem marks_m {σ : Hp} {g : Nat → Nat → Int32} {t : Nat} {C : Ct} {T : Tk} {o : Nat → Int32} {m : Int32} (n : Nat) (hn : 12 < n) (hB : MB σ) (hC : MC g 54 C) (hT : MT g 54 C T) (ho : ∀ q, q < cT C → g 63 q = o q) : ∃ g', F_X12_marks n 48 m (wM σ g t) = some (wM σ g' t) ∧ Fr (fun a _ => a = 63) g g' ∧ ∀ q, q < cT C → g' 63 q = markS C o T m q := by
  have hB0 := hB
  obtain ⟨⟨M0, M1, M2, M3, M4, M5, M6, M7, M8, M9, M10, M11, M12, M28, M29⟩, K49, K50, K51, K52, K53, K54, K55, K56, K57, K58, K59, K60, K61, K62, K63⟩ := hB
  have hth := hC.1.2.2.1
  unfold F_X12_marks
  rw [wM_R (by decide), M5, qk_s1, qk_b2 (allh_m (hd := tH T) n hn hB0 isT54 hC.2.1 hC.1.2.1 hC.2.2.1 (fun i hi => (hT.2.2.2.2.2 i hi).1))]
  obtain ⟨ρ, e1, g', rfl, e2, e3⟩ := q_for (fun f i (h : Nat → Nat → Int32) => F_X12_marks_11 n f 48 m (allH (cT C) (tH T) (cJ C)) (nI i) (wM σ h t)) (fun i h => Fr (fun a _ => a = 63) g h ∧ ∀ q, q < cT C → h 63 q = if q < i then markS C o T m q else o q) (fun ρ => ∃ g', ρ = wM σ g' t ∧ Fr (fun a _ => a = 63) g g' ∧ ∀ q, q < cT C → g' 63 q = markS C o T m q) (cT C) (fun i f h hi hp => by
    have h0 : h 49 0 = nI (cT C) := by rw [hp.1 49 0 (by omega)]; exact hC.2.2.1
    have hq := hp.2 i hi
    rw [if_neg (by omega)] at hq
    have keep : markS C o T m i = o i → ∀ q, q < cT C → h 63 q = if q < i + 1 then markS C o T m q else o q := fun hs q hq2 => by
      rw [hp.2 q hq2]
      by_cases h1 : q < i
      · rw [if_pos h1, if_pos (by omega)]
      · by_cases h2 : q = i
        · subst h2; rw [if_neg h1, if_pos (by omega), hs]
        · rw [if_neg h1, if_neg (by omega)]
    simp only [F_X12_marks_11, F_X12_marks_46]
    rw [wM_R (by decide), M0, qk_s1, wM_L, K49, z_0, kq_0 (by decide), wM_I, h0, if_neg (nI_ge hi (by omega)), bi_v, ← nI_succ]
    cases hb : bi (allH (cT C) (tH T) (cJ C)) i
    · rw [if_neg (by decide)]
      exact ⟨h, rfl, hp.1, keep (by unfold markS; rw [hb]; rfl)⟩
    · rw [if_pos (by decide), wM_R (by decide), M29, qk_s1, K63, qk_in (by omega) (by omega), nI_clamp (by omega), hq]
      by_cases h3 : 0 ≤ o i
      · rw [if_pos h3]
        exact ⟨h, rfl, hp.1, keep (by unfold markS; rw [hb, if_pos rfl, if_pos h3])⟩
      · rw [if_neg h3, qk_s1, K63, qk_i2 (by omega) (by omega), qk_lt, wM_p]
        refine ⟨_, rfl, hp.1.up rfl, fun q hq2 => ?_⟩
        by_cases h2 : q = i
        · subst h2; rw [up_s, if_pos (by omega)]; unfold markS; rw [hb, if_pos rfl, if_neg h3]
        · rw [up_j h2, hp.2 q hq2]
          by_cases h1 : q < i
          · rw [if_pos h1, if_pos (by omega)]
          · rw [if_neg h1, if_neg (by omega)]) (fun f h hp => by
    have h0 : h 49 0 = nI (cT C) := by rw [hp.1 49 0 (by omega)]; exact hC.2.2.1
    refine ⟨_, ?_, h, rfl, hp.1, fun q hq => by rw [hp.2 q hq, if_pos hq]⟩
    simp only [F_X12_marks_11]
    rw [wM_R (by decide), M0, qk_s1, wM_L, K49, z_0, kq_0 (by decide), wM_I, h0, if_pos (nI_le (Nat.le_refl _) (by omega))]) n g (by omega) ⟨Fr.rf _ _, fun q hq => by rw [if_neg (by omega)]; exact ho q hq⟩
  exact ⟨g', by rw [q_0]; exact e1, e2, e3⟩
theorem mk_r {g h : Nat → Nat → Int32} (a : Fr (fun a _ => a = 63) g h) : Fr (WR 54) g h := a.mo fun _ _ w => Or.inr (Or.inr (Or.inr w))
theorem runs_m {σ : Hp} {g : Nat → Nat → Int32} {t ld nd li : Nat} {ha : Bool} {C : Ct} {hd : Nat → Int32} {v3 : Int32} (n : Nat) (hn : 4000 < n) (hB : MB σ) (hC : MC g 54 C) (hh : MH g 54 (cJ C) hd) (hs : ∀ i, i < cJ C → isS (cT C) (hd i)) (hl : ld < cJ C) (hv : v3 = if ha then 1 else 0) (hnd : nd ≤ 12) (h6 : g 49 6 = nI li) (hli : li ≤ 3000) : ∃ g' t', F_X12_runs n 48 (nI ld) (nI nd) v3 (wM σ g t) = some (endS C nd li (runS C nd li 3000 (beginS C hd ld ha)), wM σ g' t') ∧ Fr (WR 54) g g' ∧ MT g' 54 C (runS C nd li 3000 (beginS C hd ld ha)) ∧ g' 48 26 = nI (yesS C (beginS C hd ld ha)) ∧ isM (cJ C) (tS (beginS C hd ld ha)) (g' 48 27) ∧ (∀ i, i < cJ C → g' 62 i = tP (beginS C hd ld ha) i) ∧ ∀ q, q < cT C → g' 63 q = runO C nd li 3000 (beginS C hd ld ha) (markS C (fun _ => -4) (beginS C hd ld ha) 0) q := by
  have hB0 := hB
  have hJ := hC.1.2.1
  have hth := hC.1.2.2.1
  obtain ⟨g1, t1, a1, a2, a3, a4⟩ := begins_m (t := t) n (by omega) hB isT54 hC hh hl hv
  obtain ⟨⟨M0, M1, M2, M3, M4, M5, M6, M7, M8, M9, M10, M11, M12, M28, M29⟩, K49, K50, K51, K52, K53, K54, K55, K56, K57, K58, K59, K60, K61, K62, K63⟩ := hB
  unfold F_X12_runs
  rw [wM_R (by decide), M5, qk_s1, qk_b1 a1, wM_R (by decide), M5, qk_s1, wM_L, K54, z_1, kq_1 (by decide), wM_I, a3.2.1, qk_lt, wM_p, wM_R (by decide), M5, qk_s1]
  have hw0 := begin_w (C := C) (hd := hd) (ha := ha) hl hs
  generalize hT0 : beginS C hd ld ha = T0 at a3 hw0 ⊢
  have f2 : Fr (WR 54) g (up2 g1 48 26 (nI (yesS C T0))) := (WKb.r a2).up (Or.inl ⟨rfl, by omega, by omega⟩)
  have hC2 := hC.fr isT54 f2
  obtain ⟨x, b1', b2'⟩ := slof_m (σ := σ) (g := up2 g1 48 26 (nI (yesS C T0))) (t := t1) (sl := tS T0) n (by omega) hB0 isT54 hC2.2.1 hJ (fun i hi => by rw [up_i (by omega)]; exact (a3.2.2.2.2.2 i hi).2.2.1)
  rw [qk_b2 b1', qk_lt, wM_p]
  generalize hg3 : up2 (up2 g1 48 26 (nI (yesS C T0))) 48 27 x = g3
  have f3 : Fr (WR 54) g g3 := by rw [← hg3]; exact f2.up (Or.inl ⟨rfl, by omega, by omega⟩)
  have c26 : g3 48 26 = nI (yesS C T0) := by rw [← hg3, up_j (by omega), up_s]
  have c27 : g3 48 27 = x := by rw [← hg3, up_s]
  have hT3 : MT g3 54 C T0 := a3.fr (fun j => by rw [← hg3, up_i (by omega), up_i (by omega)])
  have hC3 := hC.fr isT54 f3
  have run : ∀ f m (T : Tk) (h : Nat → Nat → Int32) (u : Nat) (o : Nat → Int32), 3000 ≤ tM T + f → f < m → tM T < 2 ^ 30 → tM T + 31 * f < 2 ^ 30 → TW C T → MC h 54 C → MT h 54 C T → h 49 6 = nI li → (∀ q, q < cT C → h 63 q = o q) → ∃ g' t', F_X12_runs_90 n m 48 (nI nd) (endS C nd li T) (wM σ h u) = some (endS C nd li (runS C nd li f T), wM σ g' t') ∧ Fr (fun a j => WK 54 a j ∨ a = 63) h g' ∧ MT g' 54 C (runS C nd li f T) ∧ ∀ q, q < cT C → g' 63 q = runO C nd li f T o q := by
    intro f
    induction f with
    | zero =>
      intro m T h u o h1 h2 h3 h3b h4 h5 h6' h7 h8
      obtain ⟨m, rfl⟩ : ∃ q, m = q + 1 := ⟨m - 1, by omega⟩
      have hne : endS C nd li T ≠ -4 := fun q => by have := end_m q; omega
      simp only [F_X12_runs_90, runS, runO]
      rw [if_neg hne]
      exact ⟨h, u, rfl, Fr.rf _ _, h6', h8⟩
    | succ f ih =>
      intro m T h u o h1 h2 h3 h3b h4 h5 h6' h7 h8
      obtain ⟨m, rfl⟩ : ∃ q, m = q + 1 := ⟨m - 1, by omega⟩
      simp only [F_X12_runs_90, runS, runO]
      by_cases c1 : endS C nd li T = -4
      · rw [if_pos c1, if_pos c1, if_pos c1, wM_R (by decide), M5, qk_s1, wM_L, K54, z_0, kq_0 (by decide), wM_I, h6'.1, qk_s1]
        obtain ⟨h', u', q1, q2, q3⟩ := turn_m2 (t := u) n (by omega) hB0 isT54 h5 h6' h4
        have hC' := h5.k isT54 q2
        obtain ⟨h'', r1, r2, r3⟩ := marks_m (t := u') (o := o) (m := nI (tM T)) n (by omega) hB0 hC' q3 (fun q hq => by rw [q2 63 q (by unfold WK; omega)]; exact h8 q hq)
        have hC'' := hC'.fr isT54 (mk_r r2)
        have hT'' := q3.fr (fun j => r2 54 j (by omega))
        have h6'' : h'' 49 6 = nI li := by rw [r2 49 6 (by omega), q2 49 6 (by unfold WK; omega)]; exact h7
        have htm := turn_m (C := C) (T := T)
        have hmm := (hC.1.2.2.2.2 _ h4.2.1).2
        rw [qk_b1 q1, qk_b1 r1, wM_R (by decide), M5, qk_s1, qk_b2 (end_m2 n hB0 isT54 hJ hT'' hnd h6'' hli (by omega))]
        obtain ⟨g', t', s1, s2, s3, s4⟩ := ih m (turnS C T) h'' u' _ (by omega) (by omega) (by omega) (by omega) (turn_w hC.1 h4) hC'' hT'' h6'' r3
        exact ⟨g', t', s1, ((q2.mo fun _ _ w => Or.inl w).tr (r2.mo fun _ _ w => Or.inr w)).tr s2, s3, s4⟩
      · rw [if_neg c1, if_neg c1, if_neg c1]
        exact ⟨h, u, rfl, Fr.rf _ _, h6', h8⟩
  have last : ∃ ρ, F_X12_runs_35 n n 48 (nI nd) (nI 0) (wM σ g3 t1) = some ρ ∧ ∃ g' t', ρ = (endS C nd li (runS C nd li 3000 T0), wM σ g' t') ∧ Fr (WR 54) g g' ∧ MT g' 54 C (runS C nd li 3000 T0) ∧ g' 48 26 = nI (yesS C T0) ∧ isM (cJ C) (tS T0) (g' 48 27) ∧ (∀ i, i < cJ C → g' 62 i = tP T0 i) ∧ ∀ q, q < cT C → g' 63 q = runO C nd li 3000 T0 (markS C (fun _ => -4) T0 0) q := by
    refine q_for (fun f i (h : Nat → Nat → Int32) => F_X12_runs_35 n f 48 (nI nd) (nI i) (wM σ h t1)) (fun i h => Fr (fun a _ => a = 62 ∨ a = 63) g3 h ∧ ∀ q, q < i → h 62 q = g3 54 (31 + q) ∧ h 63 q = -4) _ 12 (fun i f h hi hp => ?_) (fun f h hp => ?_) n g3 (by omega) ⟨Fr.rf _ _, fun q hq => by omega⟩
    · simp only [F_X12_runs_35]
      rw [if_neg (show ¬ (12 : Int32) ≤ nI i from nI_ge (b := 12) hi (by omega)), wM_R (by decide), M28, qk_s1, wM_R (by decide), M5, qk_s1, l_31, wM_L, K54, qk_in (by omega) (by omega), K62, qk_in (by omega) (by omega), nI_clamp (by omega), nI_clamp (by omega), wM_I, qk_lt, wM_p, wM_R (by decide), M29, qk_s1, wM_L, K63, qk_i2 (by omega) (by omega), qk_lt, wM_p, ← nI_succ]
      refine ⟨_, rfl, (hp.1.up (Or.inl rfl)).up (Or.inr rfl), fun q hq => ?_⟩
      by_cases h1 : q = i
      · subst h1; exact ⟨by rw [up_i (by omega), up_s, hp.1 54 _ (by omega)], up_s _ _ _ _⟩
      · rw [up_i (show (62 : Nat) ≠ 63 by omega), up_j h1, up_j h1, up_i (show (63 : Nat) ≠ 62 by omega)]
        exact hp.2 q (by omega)
    · obtain ⟨p1, p2⟩ := hp
      simp only [F_X12_runs_35, F_X12_runs_74]
      rw [if_pos (show (12 : Int32) ≤ nI 12 by decide)]
      have fh : Fr (WR 54) g3 h := p1.mo (fun _ _ w => Or.inr (Or.inr w))
      have hCh := hC3.fr isT54 fh
      have hTh := hT3.fr (fun j => p1 54 j (by omega))
      obtain ⟨h', r1, r2, r3⟩ := marks_m (t := t1) (o := fun _ => -4) (m := 0) n (by omega) hB0 hCh hTh (fun q hq => (p2 q (by omega)).2)
      have hCh' := hCh.fr isT54 (mk_r r2)
      have hTh' := hTh.fr (fun j => r2 54 j (by omega))
      have h6' : h' 49 6 = nI li := by rw [r2 49 6 (by omega), p1 49 6 (by omega), f3 49 6 (by unfold WR; omega)]; exact h6
      rw [qk_b1 r1, wM_R (by decide), M5, qk_s1, qk_b2 (end_m2 n hB0 isT54 hJ hTh' hnd h6' hli (by rw [← hT0]; show 0 < 2 ^ 31; omega))]
      obtain ⟨g', t', s1, s2, s3, s4⟩ := run 3000 n T0 h' t1 _ (by omega) (by omega) (by rw [← hT0]; show 0 < 2 ^ 30; omega) (by rw [← hT0]; show 0 + 31 * 3000 < 2 ^ 30; omega) hw0 hCh' hTh' h6' r3
      refine ⟨_, s1, g', t', rfl, ((f3.tr fh).tr (mk_r r2)).tr (s2.mo fun a b w => w.elim (fun z => z.elim (fun y => Or.inl ⟨y.1, y.2.1, by omega⟩) (fun y => Or.inr (Or.inl ⟨y.1, by omega⟩))) (fun z => Or.inr (Or.inr (Or.inr z)))), s3, ?_, ?_, fun i hi => ?_, s4⟩
      · rw [s2 48 26 (by unfold WK; omega), r2 48 26 (by omega), p1 48 26 (by omega)]; exact c26
      · rw [s2 48 27 (by unfold WK; omega), r2 48 27 (by omega), p1 48 27 (by omega), c27]; exact b2'
      · rw [s2 62 i (by unfold WK; omega), r2 62 i (by omega), (p2 i (by omega)).1]; exact (hT3.2.2.2.2.2 i hi).2.1
  obtain ⟨ρ, l1, g', t', rfl, l2⟩ := last
  exact ⟨g', t', by rw [q_0]; exact l1, l2⟩
