/-! BEGIN, GO -/
theorem mcd_m {g : Nat → Nat → Int32} {kk : Nat} {D : Dt} {lno : Nat → Int32} (m : RWm g 49 51 D lno) (d : DW D lno) (hp : 0 < cJ (dC D)) (h5 : g kk 5 = nI (cJ (dC D))) (h7 : ∀ i, i < cJ (dC D) → g kk (7 + i) = nI i) : MC g kk (dC D) := by
  refine ⟨⟨hp, d.1⟩, h5, m.1, m.2.2.2.1, fun i hi => ⟨i, by have := d.1.1; omega, h7 i hi, ?_⟩⟩
  have q := m.2.2.2.2.2.2.2.2.1 i hi
  exact ⟨q.1, q.2.1, q.2.2.1, q.2.2.2.1, q.2.2.2.2.1, lwm_of m d hi⟩
theorem wIM {τ : Hp} {t : Nat} (h : hR τ 48 15 = some t) (g : Nat → Nat → Int32) : wI τ g = wM τ g t := (wM_o (σ := wI τ g) h).symm
theorem Inv.nm {σ : Hp} {g : Nat → Nat → Int32} {t : Nat} {D D' : Dt} {lno lno' : Nat → Int32} {ot ot' : Option Tk} (hf : Fr (fun a j => NW a j ∨ isStk σ a) (hI σ) g) (h : Inv σ D lno ot) (w : WOs (wI σ g) 1 49 51 53 D' lno' ot') : Inv (wM σ g t) D' lno' ot' := by
  have hr : ∀ a j, ¬ (a = 48 ∧ j = 15) → hR (wM σ g t) a j = hR σ a j := fun a j hj => by
    show up2 (hR σ) 48 15 (some t) a j = _
    unfold up2
    rw [if_neg hj]
  have hX : XG σ (wM σ g t) := XG.A (g := g) (R := up2 (hR σ) 48 15 (some t)) fun a j h => hr a j (by omega)
  refine Inv.nw hX (fun a j h1 h2 h3 => hf a j (fun w => ?_)) (fun a j h1 h2 => hf a j (fun w => w.elim h2 (stk_lo h1))) (fun a j h1 h2 => hr a j (fun q => h2 (Or.inr (Or.inr (Or.inr q))))) ⟨t, up_s (hR σ) 48 15 (some t)⟩ h.1.2.2.2.2.2.2 h ?_
  · rcases w with w | w
    · unfold NW at w; omega
    · exact h3 w
  · exact w.pres (σ := wI σ g) (τ := wM σ g t) hX (fun _ _ _ _ _ => rfl) (fun a h1 h2 => ⟨fun _ => rfl, fun j => hr a j (by omega), rfl⟩) (fun _ => rfl) (fun _ => rfl) (fun _ => rfl)
theorem mod_fr {τ : Hp} {g : Nat → Nat → Int32} {D : Dt} {lno : Nat → Int32} (hf : ∀ b j, b = 49 ∨ b = 51 → g b j = hI τ b j) (m : RWm (hI τ) 49 51 D lno) : RWm g 49 51 D lno := rwm_fr (fun j => hf 49 j (Or.inl rfl)) (fun j => hf 51 j (Or.inr rfl)) m
theorem q_begin {τ : Hp} {D : Dt} {lno : Nat → Int32} {ot : Option Tk} (n : Nat) (hn : 200 < n) (h : Inv τ D lno ot) : SQ τ (F_X11_begin n 0) (F_X12_begin n 48) := by
  have L := h.1.1
  obtain ⟨c, m, d, e', f, w⟩ := h.2.1
  have hB := h.1.2.2.2.1
  have hB0 := hB
  have hJ := d.1.1
  obtain ⟨⟨M0, M1, M2, M3, M4, M5, M6, M7, M8, M9, M10, M11, M12, M28, M29⟩, K49, K50, K51, K52, K53, K54, K55, K56, K57, K58, K59, K60, K61, K62, K63⟩ := hB
  by_cases hp : cJ (dC D) = 0
  · refine SQ.no h (-3) ?_ ?_
    · unfold F_X11_begin
      rw [L.1, qk_s1, c.2.2.1, hp, if_pos (show nI 0 = 0 from rfl)]
    · unfold F_X12_begin
      rw [M0, qk_s1, z_1, K49, kq_1 (by decide), m.2.1, hp, if_pos (show nI 0 = 0 from rfl)]
  have hp' : 0 < cJ (dC D) := by omega
  have hne : ¬ nI (cJ (dC D)) = 0 := fun q => hp ((nI_eq (a := cJ (dC D)) (b := 0) (by omega) (by omega)).mp q)
  have hU := c.2.2.2.2.2.2.2
  have hsi : ∀ i, i < cJ (dC D) → isS (cT (dC D)) (dH D i) := fun i hi => (d.2.2 i hi).1
  have hh : ∀ t, t < cJ (dC D) → hI τ (1 + 3) t = dH D t := fun t ht => by
    obtain ⟨T, t1, t2, t3, t4, t5⟩ := c.2.2.2.2.1 t ht
    exact t5
  obtain ⟨g1, a1, a2, a3, a4, a5⟩ := begin_c (σ := τ) (g := hI τ) n hn (cc_now c d hp') hU hh
  rw [wI_S] at a1
  have y1 := yes_c (σ := τ) (g := g1) n a3.2.2.1 hJ
  obtain ⟨t, ht⟩ := h.1.2.2.2.2.1
  have e1 : ∀ b j, b < 65 → b ≠ 1 ∨ j < 8 → b < 7 ∨ 10 < b → g1 b j = hI τ b j := fun b j h1 h2 h3 => a2 b j (by
    rintro (q | q | q)
    · omega
    · omega
    · exact stk_lo h1 q)
  have m1 := mod_fr (g := g1) (fun b j hb => e1 b j (by omega) (by omega) (by omega)) m
  obtain ⟨g2, b1', b2', b3', b4'⟩ := takes_m (σ := τ) (g := g1) (t := t) (kk := 53) (hd := dH D) n (by omega) hB0 (Or.inl rfl) m1.2.1 hJ (fun j hj => (m1.2.2.2.2.2.2.2.2.1 j hj).2.2.2.2.2.2)
  have e2 : ∀ b j, b ≠ 53 → g2 b j = g1 b j := fun b j h1 => b2' b j (fun q => h1 q.1)
  have m2 : RWm g2 49 51 D lno := rwm_fr (fun j => e2 49 j (by omega)) (fun j => e2 51 j (by omega)) m1
  have ld := ldo_m (σ := τ) (g := g2) (t := t) (l := dl D) (J := cJ (dC D)) n hB0 m2.2.2.2.2.2.1 hU.2.2.2.2.1 hJ
  obtain ⟨g3, t3, c1', c2', c3', c4'⟩ := begins_m (σ := τ) (g := g2) (t := t) (kk := 53) (ld := ldS (dl D) (cJ (dC D))) (ha := da D) (C := dC D) (hd := dH D) (v3 := if da D then 1 else 0) n hn hB0 (Or.inl rfl) (mcd_m m2 d hp' b3' (fun i hi => (b4' i hi).1)) (fun i hi => (b4' i hi).2) (ldS_lt hp') rfl
  refine ⟨nI (yesS (dC D) (beginS (dC D) (dH D) (ldS (dl D) (cJ (dC D))) (da D))), wI τ g1, wM τ g3 t3, D, lno, some (beginS (dC D) (dH D) (ldS (dl D) (cJ (dC D))) (da D)), ?_, ?_, ?_, rfl⟩
  · unfold F_X11_begin
    rw [L.1, qk_s1, c.2.2.1, if_neg hne, qk_s1, qk_b1 a1, wI_R, L.1, qk_s1, qk_b2 y1]
    rfl
  · rw [wIM ht g1]
    unfold F_X12_begin F_X12_begin_50
    rw [wM_R (by decide), M0, qk_s1, z_1, wM_L, K49, kq_1 (by decide), wM_I, m1.2.1, if_neg hne, wM_R (by decide), M4, qk_s1, qk_b1 b1', wM_R (by decide), M4, qk_s1, wM_R (by decide), M0, qk_s1, wM_L, K49, kq_1 (by decide), wM_I, m2.2.1, qk_b2 ld, wM_R (by decide), M0, qk_s1, z_5, wM_L, K49, kq_5 (by decide), wM_I, v3_m m2]
    have fin : ∀ v : Int32, v = (if da D then 1 else 0) → (b1 (F_X12_begins n 48 53 (nI (ldS (dl D) (cJ (dC D)))) v (wM τ g2 t)) fun σ1 => b1 (hR σ1 48 4) fun i2 => ck (¬((1 : Int32) < 0 ∨ hL σ1 i2 ≤ 1)) (some (hI σ1 i2 1, σ1))) = some (nI (yesS (dC D) (beginS (dC D) (dH D) (ldS (dl D) (cJ (dC D))) (da D))), wM τ g3 t3) := fun v hv => by
      rw [hv, qk_b1 c1', wM_R (by decide), M4, qk_s1, wM_L, K53, kq_1 (by decide), wM_I, c3'.2.1]
    by_cases q : da D = true
    · rw [if_pos q]; exact fin 1 (by rw [if_pos q])
    · rw [if_neg q]; exact fin 0 (by rw [if_neg q])
  · have e3 : ∀ b j, b ≠ 48 → b ≠ 53 → g3 b j = g1 b j := fun b j h1 h2 => (c2' b j (by unfold WKb; omega)).trans (e2 b j h2)
    have fr : Fr (fun a j => NW a j ∨ isStk τ a) (hI τ) g3 := fun b j hb => by
      have q : ¬ NW b j := fun y => hb (Or.inl y)
      have s : ¬ isStk τ b := fun y => hb (Or.inr y)
      unfold NW at q
      rw [c2' b j (by unfold WKb; omega), e2 b j (by omega)]
      refine a2 b j ?_
      rintro (y | y | y)
      · omega
      · omega
      · exact s y
    refine h.nm fr ⟨c.fr (fun b j h1 h2 h3 => (e3 b j (by omega) (by omega)).trans (e1 b j (by omega) (by omega) (by omega))) ?_, mod_fr (fun b j hb => (e3 b j (by omega) (by omega)).trans (e1 b j (by omega) (by omega) (by omega))) m, d, ?_, ⟨c4', c3', (c2' 53 5 (by unfold WKb; omega)).trans b3', fun i hi => (c2' 53 _ (by unfold WKb; omega)).trans (b4' i hi).1⟩, hp', begin_w (ldS_lt hp') hsi, by show 0 ≤ 3030; omega⟩
    · exact fun b j h1 h2 h3 => fr b j (fun y => y.elim (fun y => by unfold NW at y; omega) h3)
    · exact TKc.fr (τ := wI τ g1) (g := g3) (fun b j h1 h2 h3 h4 => e3 b j (by omega) (by omega)) ⟨a5, a3⟩
theorem end_lt {C : Ct} {nd li : Nat} {T : Tk} (h : endS C nd li T = -4) : tM T < li := by
  unfold endS at h
  split at h
  · exact absurd h (by decide)
  · split at h
    · exact absurd h (by decide)
    · split at h
      · exact absurd h (by decide)
      · omega
theorem turn_30 {C : Ct} {nd li : Nat} {T : Tk} (hW : CW C) (hw : TW C T) (hl : li ≤ 3000) (h : endS C nd li T = -4) : tM (turnS C T) ≤ 3030 := by
  have h1 := turn_m (C := C) (T := T)
  have h2 := (hW.2.2.2.2 _ hw.2.1).2
  have h3 := end_lt h
  omega
theorem run_30 {C : Ct} {nd li : Nat} (hW : CW C) (hl : li ≤ 3000) : ∀ f T, TW C T → tM T ≤ 3030 → tM (runS C nd li f T) ≤ 3030 := by
  intro f
  induction f with
  | zero => exact fun T _ h => h
  | succ f ih =>
    intro T w h
    simp only [runS]
    by_cases c : endS C nd li T = -4
    · rw [if_pos c]; exact ih _ (turn_w hW w) (turn_30 hW w hl c)
    · rw [if_neg c]; exact h
theorem go_c {τ : Hp} {k lr li N : Nat} {ha : Bool} {C : Ct} (n : Nat) (hn : 200 < n) (h0 : hR τ 0 0 = some 1) (hN : N ≤ 60) : ∀ f i m (T : Tk) (h : Nat → Nat → Int32), f + i = N → f < m → tM T ≤ 3030 → TW C T → CT τ h 1 C T → CC τ h 1 C → RU h 1 k lr ha li → ∃ h', F_X11_go_28 n m 0 (nI N) (nI i) (wI τ h) = some (endS C (min k (cJ C)) li (runS C (min k (cJ C)) li f T), wI τ h') ∧ Fr (WC τ 1) h h' ∧ CT τ h' 1 C (runS C (min k (cJ C)) li f T) := by
  intro f
  induction f with
  | zero =>
    intro i m T h hi hm hT w1 w2 w3 w4
    obtain ⟨m, rfl⟩ : ∃ q, m = q + 1 := ⟨m - 1, by omega⟩
    simp only [F_X11_go_28, F_X11_go_58, runS]
    rw [if_pos (nI_le (by omega) (by omega)), wI_R, h0, qk_s1, qk_b2 (end_c n w3 w2 w4.1 w4.2.2.1 w4.2.2.2.2.2.2.1 w4.2.2.2.2.2.2.2 (by omega))]
    exact ⟨h, rfl, Fr.rf _ _, w2⟩
  | succ f ih =>
    intro i m T h hi hm hT w1 w2 w3 w4
    obtain ⟨m, rfl⟩ : ∃ q, m = q + 1 := ⟨m - 1, by omega⟩
    have hW := w3.2.1
    simp only [F_X11_go_28, F_X11_go_58, runS]
    have he := end_c n w3 w2 w4.1 w4.2.2.1 w4.2.2.2.2.2.2.1 w4.2.2.2.2.2.2.2 (by omega)
    rw [if_neg (nI_ge (by omega) (by omega)), wI_R, h0, qk_s1, qk_b2 he]
    by_cases c1 : endS C (min k (cJ C)) li T = -4
    · rw [if_pos c1, if_pos c1, wI_R, h0, qk_s1]
      obtain ⟨h', b1, b2, b3⟩ := step_c n (by omega) w3 w2 w1 (by omega)
      rw [qk_b1 b1, ← nI_succ]
      obtain ⟨h2, d1, d2, d3⟩ := ih (i + 1) m (turnS C T) h' (by omega) (by omega) (turn_30 hW w1 w4.2.2.2.2.2.2.2 c1) (turn_w hW w1) b3 (w3.fr b2) (w4.fr (by omega) (WC.t b2))
      exact ⟨h2, d1, b2.tr d2, d3⟩
    · rw [if_neg c1, if_neg c1, wI_R, h0, qk_s1, qk_b2 he]
      exact ⟨h, rfl, Fr.rf _ _, w2⟩
theorem go_m {τ : Hp} {k li N : Nat} {C : Ct} (n : Nat) (hn : 200 < n) (hB : MB τ) (hN : N ≤ 60) (hk : k ≤ 12) (hli : li ≤ 3000) : ∀ f i m (T : Tk) (h : Nat → Nat → Int32) (t : Nat), f + i = N → f < m → tM T ≤ 3030 → TW C T → MT h 53 C T → MC h 53 C → h 49 3 = nI k → h 49 1 = nI (cJ C) → h 49 6 = nI li → ∃ h' t', F_X12_go_26 n m 48 (nI N) (nI i) (wM τ h t) = some (endS C (min k (cJ C)) li (runS C (min k (cJ C)) li f T), wM τ h' t') ∧ Fr (WK 53) h h' ∧ MT h' 53 C (runS C (min k (cJ C)) li f T) := by
  have hB0 := hB
  obtain ⟨⟨M0, M1, M2, M3, M4, M5, M6, M7, M8, M9, M10, M11, M12, M28, M29⟩, K49, K50, K51, K52, K53, K54, K55, K56, K57, K58, K59, K60, K61, K62, K63⟩ := hB
  intro f
  induction f with
  | zero =>
    intro i m T h t hi hm hT w1 w2 w3 h3 h1 h6
    obtain ⟨m, rfl⟩ : ∃ q, m = q + 1 := ⟨m - 1, by omega⟩
    have hJ := w3.1.2.1
    have k1 := nn_m (σ := τ) (g := h) (t := t) n hB0 h3 h1 hk hJ
    have k2 := end_m2 (σ := τ) (g := h) (t := t) (nd := min k (cJ C)) n hB0 (Or.inl rfl) hJ w2 (by omega) h6 hli (by omega)
    simp only [F_X12_go_26, F_X12_go_62, runS]
    rw [if_pos (nI_le (by omega) (by omega)), wM_R (by decide), M4, qk_s1, qk_b2 k1, qk_b2 k2]
    exact ⟨h, t, rfl, Fr.rf _ _, w2⟩
  | succ f ih =>
    intro i m T h t hi hm hT w1 w2 w3 h3 h1 h6
    obtain ⟨m, rfl⟩ : ∃ q, m = q + 1 := ⟨m - 1, by omega⟩
    have hW := w3.1
    have hJ := hW.2.1
    have k1 := nn_m (σ := τ) (g := h) (t := t) n hB0 h3 h1 hk hJ
    have k2 := end_m2 (σ := τ) (g := h) (t := t) (nd := min k (cJ C)) n hB0 (Or.inl rfl) hJ w2 (by omega) h6 hli (by omega)
    simp only [F_X12_go_26, F_X12_go_62, runS]
    rw [if_neg (nI_ge (by omega) (by omega)), wM_R (by decide), M4, qk_s1, qk_b2 k1, qk_b2 k2]
    by_cases c1 : endS C (min k (cJ C)) li T = -4
    · rw [if_pos c1, if_pos c1, wM_R (by decide), M4, qk_s1]
      obtain ⟨h', t', b1, b2, b3⟩ := turn_m2 (σ := τ) (t := t) n hn hB0 (Or.inl rfl) w3 w2 w1
      have e : ∀ j, h' 49 j = h 49 j := fun j => b2 49 j (by unfold WK; omega)
      rw [qk_b1 b1, ← nI_succ]
      obtain ⟨h2, t2, d1, d2, d3⟩ := ih (i + 1) m (turnS C T) h' t' (by omega) (by omega) (turn_30 hW w1 hli c1) (turn_w hW w1) b3 (w3.k (Or.inl rfl) b2) ((e 3).trans h3) ((e 1).trans h1) ((e 6).trans h6)
      exact ⟨h2, t2, d1, b2.tr d2, d3⟩
    · rw [if_neg c1, if_neg c1, wM_R (by decide), M4, qk_s1, qk_b2 k1, qk_b2 k2]
      exact ⟨h, t, rfl, Fr.rf _ _, w2⟩
theorem q_go {τ : Hp} {D : Dt} {lno : Nat → Int32} {ot : Option Tk} (n : Nat) (hn : 200 < n) (h : Inv τ D lno ot) (a : Int32) : SQ τ (F_X11_go n 0 a) (F_X12_go n 48 a) := by
  have L := h.1.1
  obtain ⟨c, m, d, e', f, w⟩ := h.2.1
  have hB := h.1.2.2.2.1
  have hB0 := hB
  have hJ := d.1.1
  obtain ⟨⟨M0, M1, M2, M3, M4, M5, M6, M7, M8, M9, M10, M11, M12, M28, M29⟩, K49, K50, K51, K52, K53, K54, K55, K56, K57, K58, K59, K60, K61, K62, K63⟩ := hB
  have hU := c.2.2.2.2.2.2.2
  by_cases h0 : a < nI 1 ∨ nI 60 < a
  · refine SQ.no h (-1) ?_ ?_
    · unfold F_X11_go
      by_cases c1 : a < 1
      · rw [if_pos c1]
      · rw [if_neg c1, if_neg (show ¬ a ≤ 60 from Int32.not_le.mpr (h0.resolve_left c1))]
    · unfold F_X12_go
      rw [qk_b2 (isIn_v n (y := 1) (z := 60) a 1 60 rfl rfl rfl _), if_pos (show a < 1 ∨ 60 < a from h0), if_pos rfl]
  have w1 : ¬ a < 1 := fun y => h0 (Or.inl y)
  have w2 : a ≤ 60 := nle_lt fun y => h0 (Or.inr y)
  obtain ⟨N, n1, n2, rfl⟩ := nI_bet (a := 1) (b := 60) (by omega) (fun y => h0 (Or.inl y)) (fun y => h0 (Or.inr y)) (by omega)
  cases ot with
  | none =>
    refine SQ.no h (-3) ?_ ?_
    · unfold F_X11_go
      rw [if_neg w1, if_pos w2, L.1, qk_s1, bg_c h]
    · unfold F_X12_go
      rw [qk_b2 (isIn_v n (y := 1) (z := 60) (nI N) 1 60 rfl rfl rfl _), if_neg (show ¬ (nI N < 1 ∨ 60 < nI N) from h0), if_neg (by decide), qk_b2 (beg_m n h)]
      rfl
  | some T =>
    obtain ⟨wp, wt, wm⟩ := w
    obtain ⟨g1, a1, a2, a3⟩ := go_c (τ := τ) (N := N) n hn L.1 (by omega) N 0 n T (hI τ) (by omega) (by omega) wm wt e'.2 (cc_now c d wp) hU
    rw [wI_S] at a1
    obtain ⟨t, ht⟩ := h.1.2.2.2.2.1
    have e1 : ∀ b j, b < 65 → b ≠ 1 ∨ j < 10 → b < 7 ∨ 10 < b → g1 b j = hI τ b j := fun b j h1 h2 h3 => a2 b j (by
      rintro (q | q | q)
      · omega
      · omega
      · exact stk_lo h1 q)
    have m1 := mod_fr (g := g1) (fun b j hb => e1 b j (by omega) (by omega) (by omega)) m
    obtain ⟨f6, ft, f5, f7⟩ := f
    have f5' : g1 53 5 = nI (cJ (dC D)) := (e1 53 5 (by omega) (by omega) (by omega)).trans f5
    have f7' : ∀ i, i < cJ (dC D) → g1 53 (7 + i) = nI i := fun i hi => (e1 53 _ (by omega) (by omega) (by omega)).trans (f7 i hi)
    obtain ⟨g2, t2, b1', b2', b3'⟩ := go_m (τ := τ) (N := N) (k := dk D) (li := di D) n hn hB0 (by omega) hU.2.2.1 hU.2.2.2.2.2.2.2 N 0 n T g1 t (by omega) (by omega) wm wt (ft.fr fun j => e1 53 j (by omega) (by omega) (by omega)) (mcd_m m1 d wp f5' f7') m1.2.2.2.2.1 m1.2.1 m1.2.2.2.2.2.2.2.1
    have hW : CW (dC D) := ⟨wp, d.1⟩
    refine ⟨endS (dC D) (min (dk D) (cJ (dC D))) (di D) (runS (dC D) (min (dk D) (cJ (dC D))) (di D) N T), wI τ g1, wM τ g2 t2, D, lno, some (runS (dC D) (min (dk D) (cJ (dC D))) (di D) N T), ?_, ?_, ?_, rfl⟩
    · unfold F_X11_go
      rw [if_neg w1, if_pos w2, L.1, qk_s1, bg_c h]
      exact a1
    · have hb : F_X12_hasBegun n 48 (wM τ g1 t) = some (1, wM τ g1 t) := by
        unfold F_X12_hasBegun
        rw [wM_R (by decide), M4, qk_s1, z_6, wM_L, K53, kq_6 (by decide), wM_I, e1 53 6 (by omega) (by omega) (by omega), if_pos f6]
      rw [wIM ht g1]
      unfold F_X12_go
      rw [qk_b2 (isIn_v n (y := 1) (z := 60) (nI N) 1 60 rfl rfl rfl _), if_neg (show ¬ (nI N < 1 ∨ 60 < nI N) from h0), if_neg (by decide), qk_b2 hb, if_neg (by decide)]
      exact b1'
    · have e3 : ∀ b j, b ≠ 48 → b ≠ 53 → g2 b j = g1 b j := fun b j h1 h2 => b2' b j (by unfold WK; omega)
      have fr : Fr (fun a j => NW a j ∨ isStk τ a) (hI τ) g2 := fun b j hb => by
        have q : ¬ NW b j := fun y => hb (Or.inl y)
        have s : ¬ isStk τ b := fun y => hb (Or.inr y)
        unfold NW at q
        rw [b2' b j (by unfold WK; omega)]
        refine a2 b j ?_
        rintro (y | y | y)
        · omega
        · omega
        · exact s y
      refine h.nm fr ⟨c.fr (fun b j h1 h2 h3 => (e3 b j (by omega) (by omega)).trans (e1 b j (by omega) (by omega) (by omega))) ?_, mod_fr (fun b j hb => (e3 b j (by omega) (by omega)).trans (e1 b j (by omega) (by omega) (by omega))) m, d, ?_, ⟨?_, b3', (b2' 53 5 (by unfold WK; omega)).trans f5', fun i hi => (b2' 53 _ (by unfold WK; omega)).trans (f7' i hi)⟩, wp, run_w hW N T wt, run_30 hW hU.2.2.2.2.2.2.2 N T wt wm⟩
      · exact fun b j h1 h2 h3 => fr b j (fun y => y.elim (fun y => by unfold NW at y; omega) h3)
      · exact TKc.fr (τ := wI τ g1) (g := g2) (fun b j h1 h2 h3 h4 => e3 b j (by omega) (by omega)) ⟨(e1 1 8 (by omega) (by omega) (by omega)).trans e'.1, a3⟩
      · exact ((b2' 53 6 (by unfold WK; omega)).trans (e1 53 6 (by omega) (by omega) (by omega))).trans f6
