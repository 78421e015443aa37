/-! worlds -/
def nxZ (z : Int32) : Int32 := z * 1103515245 + 12345
def rdZ (z : Int32) : Int32 := ((z &&& 2147483647) / 65536) - ((z &&& 2147483647) / 65536) / 100 * 100
def dT (odds z : Int32) : Nat → Int32 × Int32
  | 0 => (z, 0)
  | t + 1 => (nxZ (dT odds z t).1, if odds ≤ rdZ (nxZ (dT odds z t).1) then (dT odds z t).2 else (dT odds z t).2 ||| b1s t)
def dJ (odds : Int32) (th : Nat) (z : Int32) : Nat → Int32 × (Nat → Int32)
  | 0 => (z, fun _ => 0)
  | j + 1 => ((dT odds (dJ odds th z j).1 th).1, upb (dJ odds th z j).2 j (dT odds (dJ odds th z j).1 th).2)
theorem dT_s (odds z : Int32) : ∀ t, t ≤ 12 → isS t (dT odds z t).2 := by
  intro t
  induction t with
  | zero => intro _ i hi _; exact bi_0 i hi
  | succ t ih =>
    intro ht i hi h2
    simp only [dT]
    split
    · exact ih (by omega) i hi (by omega)
    · rw [bi_or hi, ih (by omega) i hi (by omega), bi_1 t (by omega) i hi, decide_eq_false (by omega)]; rfl
theorem dJ_at (odds : Int32) (th : Nat) (z : Int32) : ∀ j, (∀ q, j ≤ q → (dJ odds th z j).2 q = 0) ∧ (th ≤ 12 → ∀ q, isS th ((dJ odds th z j).2 q)) := by
  intro j
  induction j with
  | zero => exact ⟨fun _ _ => rfl, fun _ q i hi _ => bi_0 i hi⟩
  | succ j ih =>
    refine ⟨fun q hq => ?_, fun ht q => ?_⟩
    · show upb _ j _ q = 0
      unfold upb
      rw [if_neg (by omega)]
      exact ih.1 q (by omega)
    · show isS th (upb _ j _ q)
      unfold upb
      split
      · exact dT_s odds _ th ht
      · exact ih.2 ht q
def hitW (w y J : Nat) (E : Int32) : Bool := if w = 0 then (if J - y < y then decide (E = 1) else if y < J - y then decide (E = 0) else false) else decide (E = nI w)
def wrldS (D : Dt) (odds : Int32) (w : Nat) (z : Int32) : Nat → Int32 × Int32
  | 0 => (z, 0)
  | i + 1 =>
    let d := dJ odds (cT (dC D)) (wrldS D odds w z i).1 (cJ (dC D))
    (d.1, if hitW w (yesS (rC D exN) (rB D exN d.2 (ldN D) (da D))) (cJ (dC D)) (rE D exN d.2 (ndN D (dk D)) (ldN D) (da D)) then (wrldS D odds w z i).2 + 1 else (wrldS D odds w z i).2)
theorem deal_c {τ : Hp} {D : Dt} {hd : Nat → Int32} {g : Nat → Nat → Int32} {R : Nat → Nat → Option Nat} {k lr : Nat} {ha : Bool} (n : Nat) (hn : 12 < n) (hr : RL τ 11) (h : Sd τ D exN hd g R k lr ha) (hJ : cJ (dC D) ≤ 12) (odds z : Int32) : ∃ g', F_X3_deal n 11 z odds (wA τ g R) = some ((dJ odds (cT (dC D)) z (cJ (dC D))).1, wA τ g' R) ∧ Sd τ D exN (dJ odds (cT (dC D)) z (cJ (dC D))).2 g' R k lr ha := by
  have hc := h.1
  obtain ⟨c1, c2, c3, c4, c5, c6⟩ := hc
  rw [exN_J] at c4
  have hth : cT (dC D) ≤ 12 := c2.2.2.1
  have hr0 := hr
  obtain ⟨r65, ⟨R1, R3, R4, R6, R7, R15, R16, R17, R18⟩, L1, L2, L3, L4, L5, L6, L7, L8, L9⟩ := hr0
  have R1x : R 11 4 = some 14 := (h.2.2.2.2 11 4 (by omega)).trans R4
  have inner : ∀ (K : Nat → Int32 → Int32 → Int32 → Hp → Option (Int32 × Hp)) (gg : Nat → Nat → Int32) (z0 : Int32) (j : Nat), j < 12 → gg 11 0 = nI (cT (dC D)) → ∀ d t f, t + d = cT (dC D) → d < f → F_X3_deal_20 n K f 11 odds (dT odds z0 t).1 (nI j) (dT odds z0 t).2 (nI t) (wA τ gg R) = K 11 odds (dT odds z0 (cT (dC D))).1 (nI j + 1) (wA τ (up2 gg 14 j (dT odds z0 (cT (dC D))).2) R) := by
    intro K gg z0 j hj h0 d
    induction d with
    | zero =>
      intro t f ht hf
      obtain ⟨f, rfl⟩ : ∃ q, f = q + 1 := ⟨f - 1, by omega⟩
      obtain rfl : t = cT (dC D) := by omega
      have hst := q_st (σ := wA τ gg R) (a := 14) (i := j) (N := 12) n (dT odds z0 (cT (dC D))).2 L3 hj (by omega)
      simp only [F_X3_deal_20, F_X3_deal_67]
      rw [wA_I, h0, if_pos (nI_le (Nat.le_refl _) (by omega)), wA_R, R1x, qk_s1, qk_b1 hst, wA_p]
    | succ d ih =>
      intro t f ht hf
      obtain ⟨f, rfl⟩ : ∃ q, f = q + 1 := ⟨f - 1, by omega⟩
      have ih2 := ih (t + 1) f (by omega) (by omega)
      simp only [dT] at ih2
      simp only [F_X3_deal_20, F_X3_deal_61]
      rw [wA_I, h0, if_neg (nI_ge (by omega) (by omega)), ← nI_succ]
      show (if odds ≤ rdZ (nxZ (dT odds z0 t).1) then _ else _) = _
      by_cases c : odds ≤ rdZ (nxZ (dT odds z0 t).1)
      · rw [if_pos c] at ih2 ⊢
        exact ih2
      · rw [if_neg c] at ih2 ⊢
        exact ih2
  obtain ⟨ρ, e1, g', rfl, e2, e3⟩ := q_for (fun f j (a : Int32 × (Nat → Nat → Int32)) => F_X3_deal_5 n f 11 odds a.1 (nI j) (wA τ a.2 R)) (fun j a => a.1 = (dJ odds (cT (dC D)) z j).1 ∧ Fr (fun p _ => p = 14) g a.2 ∧ ∀ q, q < j → a.2 14 q = (dJ odds (cT (dC D)) z j).2 q) (fun ρ => ∃ g', ρ = ((dJ odds (cT (dC D)) z (cJ (dC D))).1, wA τ g' R) ∧ Fr (fun p _ => p = 14) g g' ∧ ∀ q, q < cJ (dC D) → g' 14 q = (dJ odds (cT (dC D)) z (cJ (dC D))).2 q) (cJ (dC D)) (fun j f a hj hp => by
    obtain ⟨zz, gg⟩ := a
    obtain ⟨p1, p2, p3⟩ := hp
    simp only at p1 p2 p3
    subst p1
    have i0 := inner (F_X3_deal_5 n f) gg (dJ odds (cT (dC D)) z j).1 j (by omega) ((p2 11 0 (by omega)).trans c3) (cT (dC D)) 0 n (by omega) (by omega)
    refine ⟨((dJ odds (cT (dC D)) z (j + 1)).1, up2 gg 14 j (dT odds (dJ odds (cT (dC D)) z j).1 (cT (dC D))).2), ?_, rfl, p2.up rfl, fun q hq => ?_⟩
    · simp only [F_X3_deal_5]
      rw [wA_I, p2 11 2 (by omega), c4, if_neg (nI_ge hj (by omega)), nI_succ]
      exact i0
    · show up2 gg 14 j _ 14 q = upb _ j _ q
      unfold upb
      by_cases h1 : q = j
      · subst h1; rw [up_s, if_pos rfl]
      · rw [up_j h1, if_neg h1]; exact p3 q (by omega)) (fun f a hp => by
    obtain ⟨zz, gg⟩ := a
    obtain ⟨p1, p2, p3⟩ := hp
    simp only at p1 p2 p3
    subst p1
    refine ⟨_, ?_, gg, rfl, p2, p3⟩
    simp only [F_X3_deal_5]
    rw [wA_I, p2 11 2 (by omega), c4, if_pos (nI_le (Nat.le_refl _) (by omega))]) n (z, g) (by omega) ⟨rfl, Fr.rf _ _, fun q hq => by omega⟩
  refine ⟨g', by unfold F_X3_deal; rw [q_0]; exact e1, ⟨c1, c2, (e2 11 0 (by omega)).trans c3, ?_, fun t ht => (e2 12 t (by omega)).trans (c5 t ht), fun i hi => ?_⟩, ?_, fun i hi => ?_, h.2.2.2.1.tr (e2.mo fun a j w => Or.inl (by omega)), h.2.2.2.2⟩
  · rw [exN_J]; exact (e2 11 2 (by omega)).trans c4
  · obtain ⟨T, t1, t2⟩ := c6 i hi
    exact ⟨T, t1, t2.ext (XG.rf _) (fun a j q1 q2 q3 => e2 a j (by omega))⟩
  · have u := h.2.1
    unfold RU at u ⊢
    rw [e2 (11 + 5) 0 (by omega), e2 (11 + 5) 1 (by omega), e2 (11 + 5) 2 (by omega), e2 (11 + 5) 3 (by omega)]
    exact u
  · rw [exN_J] at hi
    exact e3 i hi
theorem or_a0 (x : Int32) : x + 0 = x := by grind
theorem hit_1 : ∀ J : Nat, J < 13 → ∀ y : Nat, y < J + 1 → (nI y ≤ nI J - nI y ↔ ¬ (J - y < y)) := by decide +kernel
theorem hit_2 : ∀ J : Nat, J < 13 → ∀ y : Nat, y < J + 1 → (nI J - nI y ≤ nI y ↔ ¬ (y < J - y)) := by decide +kernel
theorem hit_3 : ∀ J : Nat, J < 13 → ∀ y : Nat, y < J + 1 → (2 * nI y - nI J ≤ 0 ↔ ¬ (J - y < y)) := by decide +kernel
theorem hit_4 : ∀ J : Nat, J < 13 → ∀ y : Nat, y < J + 1 → (0 ≤ 2 * nI y - nI J ↔ ¬ (y < J - y)) := by decide +kernel
theorem mdl_m {τ : Hp} {D : Dt} {lno : Nat → Int32} {g : Nat → Nat → Int32} {t : Nat} (n : Nat) (hn : 12 < n) (hB : MB τ) (m : RWm g 49 51 D lno) (d : DW D lno) (Kq : Nat → Int32 → Int32 → Int32 → Int32 → Int32 → Int32 → Hp → Option (Int32 × Hp)) (v1 odds v4 z v6 v7 : Int32) : ∃ g', F_X12_worlds_77 n Kq n 48 v1 odds v4 z v6 v7 0 (wM τ g t) = F_X12_worlds_175 n Kq 48 v1 odds v4 (dJ odds (cT (dC D)) z (cJ (dC D))).1 v6 v7 (wM τ g' t) ∧ Fr (fun a j => a = 54 ∧ 19 ≤ j) g g' ∧ ∀ q, q < cJ (dC D) → g' 54 (19 + q) = (dJ odds (cT (dC D)) z (cJ (dC D))).2 q := by
  have hJ := d.1.1
  have hth := d.1.2.1
  obtain ⟨⟨M0, M1, M2, M3, M4, M5, M6, M7, M8, M9, M10, M11, M12, M28, M29⟩, K49, K50, K51, K52, K53, K54, K55, K56, K57, K58, K59, K60, K61, K62, K63⟩ := hB
  have inner : ∀ (K77 : Nat → Int32 → Int32 → Int32 → Int32 → Int32 → Int32 → Int32 → Hp → Option (Int32 × Hp)) (z0 : Int32) (j : Nat), j < 12 → ∀ d t' f (gg : Nat → Nat → Int32), t' + d = cT (dC D) → d < f → gg 49 0 = nI (cT (dC D)) → gg 54 (19 + j) = (dT odds z0 t').2 → ∃ g', F_X12_worlds_102 n Kq K77 f 48 v1 odds v4 (dT odds z0 t').1 v6 v7 (nI j) (nI t') (wM τ gg t) = K77 48 v1 odds v4 (dT odds z0 (cT (dC D))).1 v6 v7 (nI j + 1) (wM τ g' t) ∧ Fr (fun a q => a = 54 ∧ q = 19 + j) gg g' ∧ g' 54 (19 + j) = (dT odds z0 (cT (dC D))).2 := by
    intro K77 z0 j hj d
    induction d with
    | zero =>
      intro t' f gg ht hf h0 h19
      obtain ⟨f, rfl⟩ : ∃ q, f = q + 1 := ⟨f - 1, by omega⟩
      obtain rfl : t' = cT (dC D) := by omega
      refine ⟨gg, ?_, Fr.rf _ _, h19⟩
      simp only [F_X12_worlds_102, F_X12_worlds_169]
      rw [wM_R (by decide), M0, qk_s1, wM_L, K49, z_0, kq_0 (by decide), wM_I, h0, if_pos (nI_le (Nat.le_refl _) (by omega))]
    | succ d ih =>
      intro t' f gg ht hf h0 h19
      obtain ⟨f, rfl⟩ : ∃ q, f = q + 1 := ⟨f - 1, by omega⟩
      have h1 : ∀ v, up2 gg 54 (19 + j) v 49 0 = nI (cT (dC D)) := fun v => by rw [up_i (by omega)]; exact h0
      simp only [F_X12_worlds_102, F_X12_worlds_161]
      rw [wM_R (by decide), M0, qk_s1, wM_L, K49, z_0, kq_0 (by decide), wM_I, h0, if_neg (nI_ge (by omega) (by omega)), wM_R (by decide), M5, qk_s1, l_19, K54, qk_in (by omega) (by omega), nI_clamp (by omega), h19, qk_i2 (by omega) (by omega), qk_i2 (by omega) (by omega), wM_p, wM_p, qk_lt, qk_lt, ← nI_succ]
      show ∃ g', (if odds ≤ rdZ (nxZ (dT odds z0 t').1) then _ else _) = _ ∧ _
      by_cases c : odds ≤ rdZ (nxZ (dT odds z0 t').1)
      · have e : (dT odds z0 (t' + 1)).2 = (dT odds z0 t').2 := by simp only [dT]; rw [if_pos c]
        obtain ⟨g', q1, q2, q3⟩ := ih (t' + 1) f (up2 gg 54 (19 + j) ((dT odds z0 t').2 ||| 0)) (by omega) (by omega) (h1 _) (by rw [up_s, or_z, e])
        rw [if_pos c]
        exact ⟨g', q1, ((Fr.rf _ _).up ⟨rfl, rfl⟩).tr q2, q3⟩
      · have e : (dT odds z0 (t' + 1)).2 = (dT odds z0 t').2 ||| b1s t' := by simp only [dT]; rw [if_neg c]
        obtain ⟨g', q1, q2, q3⟩ := ih (t' + 1) f (up2 gg 54 (19 + j) ((dT odds z0 t').2 ||| (1 <<< (nI t' &&& 31)))) (by omega) (by omega) (h1 _) (by rw [up_s, e]; rfl)
        rw [if_neg c]
        exact ⟨g', q1, ((Fr.rf _ _).up ⟨rfl, rfl⟩).tr q2, q3⟩
  have outer : ∀ d j f (gg : Nat → Nat → Int32), j + d = cJ (dC D) → d < f → Fr (fun a q => a = 54 ∧ 19 ≤ q) g gg → (∀ q, q < j → gg 54 (19 + q) = (dJ odds (cT (dC D)) z j).2 q) → ∃ g', F_X12_worlds_77 n Kq f 48 v1 odds v4 (dJ odds (cT (dC D)) z j).1 v6 v7 (nI j) (wM τ gg t) = F_X12_worlds_175 n Kq 48 v1 odds v4 (dJ odds (cT (dC D)) z (cJ (dC D))).1 v6 v7 (wM τ g' t) ∧ Fr (fun a j => a = 54 ∧ 19 ≤ j) g g' ∧ ∀ q, q < cJ (dC D) → g' 54 (19 + q) = (dJ odds (cT (dC D)) z (cJ (dC D))).2 q := by
    intro d
    induction d with
    | zero =>
      intro j f gg hj hf h1 h2
      obtain ⟨f, rfl⟩ : ∃ q, f = q + 1 := ⟨f - 1, by omega⟩
      obtain rfl : j = cJ (dC D) := by omega
      refine ⟨gg, ?_, h1, h2⟩
      simp only [F_X12_worlds_77]
      rw [wM_R (by decide), M0, qk_s1, wM_L, K49, z_1, kq_1 (by decide), wM_I, h1 49 1 (by omega), m.2.1, if_pos (nI_le (Nat.le_refl _) (by omega))]
    | succ d ih =>
      intro j f gg hj hf h1 h2
      obtain ⟨f, rfl⟩ : ∃ q, f = q + 1 := ⟨f - 1, by omega⟩
      obtain ⟨g2, q1, q2, q3⟩ := inner (F_X12_worlds_77 n Kq f) (dJ odds (cT (dC D)) z j).1 j (by omega) (cT (dC D)) 0 n (up2 gg 54 (19 + j) 0) (by omega) (by omega) (by rw [up_i (by omega), h1 49 0 (by omega)]; exact m.1) (up_s _ _ _ _)
      obtain ⟨g3, r1, r2, r3⟩ := ih (j + 1) f g2 (by omega) (by omega) ((h1.up ⟨rfl, by omega⟩).tr (q2.mo fun a q w => ⟨w.1, by omega⟩)) (fun q hq => by
        show _ = upb (dJ odds (cT (dC D)) z j).2 j _ q
        unfold upb
        by_cases c : q = j
        · subst c; rw [q3, if_pos rfl]
        · rw [if_neg c, q2 54 (19 + q) (by omega), up_j (by omega)]; exact h2 q (by omega))
      refine ⟨g3, ?_, r2, r3⟩
      simp only [F_X12_worlds_77]
      rw [wM_R (by decide), M0, qk_s1, wM_L, K49, z_1, kq_1 (by decide), wM_I, h1 49 1 (by omega), m.2.1, if_neg (nI_ge (by omega) (by omega)), wM_R (by decide), M5, qk_s1, l_19, K54, qk_in (by omega) (by omega), nI_clamp (by omega), qk_lt, wM_p]
      rw [nI_1] at q1
      exact q1.trans r1
  obtain ⟨g', e1, e2, e3⟩ := outer (cJ (dC D)) 0 n g (by omega) (by omega) (Fr.rf _ _) (fun q hq => by omega)
  exact ⟨g', e1, e2, e3⟩
theorem q_worlds {τ : Hp} {D : Dt} {lno : Nat → Int32} {ot : Option Tk} (n : Nat) (hn : 4000 < n) (h : Inv τ D lno ot) (a z odds w : Int32) : BQ τ D lno ot (F_X11_worlds n 0 a z odds w) (F_X12_worlds n 48 a z odds w) := by
  have hJ := h.2.1.2.2.1.1.1
  have hth := h.2.1.2.2.1.1.2.1
  have L := h.1.1
  by_cases h0 : a < 1 ∨ nI 30 < a
  · refine BQ.of (-1) ?_ (fun τ1 h1 => ?_)
    · unfold F_X11_worlds
      by_cases h2 : a < 1
      · rw [if_pos h2]
      · rw [if_neg h2, if_pos (show 30 < a from h0.resolve_left h2)]
    · unfold F_X12_worlds
      rw [qk_b2 (isIn_v n (y := 1) (z := 30) a 1 30 rfl rfl rfl _), if_pos (show a < 1 ∨ 30 < a from h0), if_pos rfl]
  have a1 : ¬ a < 1 := fun q => h0 (Or.inl q)
  have a2 : ¬ 30 < a := fun q => h0 (Or.inr q)
  by_cases h1o : odds < 0 ∨ nI 100 < odds
  · refine BQ.of (-1) ?_ (fun τ1 h1 => ?_)
    · unfold F_X11_worlds
      rw [if_neg a1, if_neg a2]
      by_cases h2 : odds < 0
      · rw [if_pos h2]
      · rw [if_neg h2, if_pos (show 100 < odds from h1o.resolve_left h2)]
    · unfold F_X12_worlds
      rw [qk_b2 (isIn_v n (y := 1) (z := 30) a 1 30 rfl rfl rfl _), if_neg (show ¬ (a < 1 ∨ 30 < a) from h0), if_neg (by decide), qk_b2 (isIn_v n (y := 0) (z := 100) odds 0 100 rfl rfl rfl _), if_pos (show odds < 0 ∨ 100 < odds from h1o), if_pos rfl]
  have o1 : ¬ odds < 0 := fun q => h1o (Or.inl q)
  have o2 : ¬ 100 < odds := fun q => h1o (Or.inr q)
  by_cases h2w : w < 0 ∨ nI 2 < w
  · refine BQ.of (-1) ?_ (fun τ1 h1 => ?_)
    · unfold F_X11_worlds
      rw [if_neg a1, if_neg a2, if_neg o1, if_neg o2]
      by_cases h2 : w < 0
      · rw [if_pos h2]
      · rw [if_neg h2, if_neg (show ¬ w ≤ 2 from fun q => (Int32.not_le.mpr (h2w.resolve_left h2)) q)]
    · unfold F_X12_worlds
      rw [qk_b2 (isIn_v n (y := 1) (z := 30) a 1 30 rfl rfl rfl _), if_neg (show ¬ (a < 1 ∨ 30 < a) from h0), if_neg (by decide), qk_b2 (isIn_v n (y := 0) (z := 100) odds 0 100 rfl rfl rfl _), if_neg (show ¬ (odds < 0 ∨ 100 < odds) from h1o), if_neg (by decide), qk_b2 (isIn_v n (y := 0) (z := 2) w 0 2 rfl rfl rfl _), if_pos (show w < 0 ∨ 2 < w from h2w), if_pos rfl]
  obtain ⟨q, hq, rfl⟩ := what_j (by omega) h2w
  have w1 : ¬ nI q < 0 := fun y => h2w (Or.inl y)
  have w2 : nI q ≤ 2 := nle_lt (fun y => h2w (Or.inr y))
  obtain ⟨m, hm, rfl⟩ := what_j (M := 30) (a := a) (by omega) (fun x => x.elim (fun y => a1 (by
    rw [Int32.lt_iff_toInt_lt] at y ⊢
    have e0 : (0 : Int32).toInt = 0 := rfl
    have e1 : (1 : Int32).toInt = 1 := rfl
    omega)) (fun y => h0 (Or.inr y)))
  by_cases hz : cJ (dC D) = 0
  · refine BQ.of (-3) ?_ (fun τ1 h1 => ?_)
    · have e := j0_c h (some (-3, τ)) (b1 (hR τ 0 1) fun i11 => b1 (hR τ 0 0) fun i12 => b1 (F_X3_seatFrom n i11 i12 0 τ) fun σ13 => F_X11_worlds_68 n n 0 (nI m) odds (nI q) z 0 0 σ13)
      unfold F_X11_worlds
      rw [if_neg a1, if_neg a2, if_neg o1, if_neg o2, if_neg w1, if_pos w2]
      rw [e, if_pos hz]
    · unfold F_X12_worlds
      rw [qk_b2 (isIn_v n (y := 1) (z := 30) (nI m) 1 30 rfl rfl rfl _), if_neg (show ¬ (nI m < 1 ∨ 30 < nI m) from h0), if_neg (by decide), qk_b2 (isIn_v n (y := 0) (z := 100) odds 0 100 rfl rfl rfl _), if_neg (show ¬ (odds < 0 ∨ 100 < odds) from h1o), if_neg (by decide), qk_b2 (isIn_v n (y := 0) (z := 2) (nI q) 0 2 rfl rfl rfl _), if_neg (show ¬ (nI q < 0 ∨ 2 < nI q) from h2w), if_neg (by decide), j0_m h1, if_pos hz]
  have hp : 0 < cJ (dC D) := by omega
  have hU := h.2.1.1.2.2.2.2.2.2.2
  have hcw := cw_r (ex := exN) h.2.1.2.2.1 (by rw [exN_p]; exact hp)
  have hJC : cJ (rC D exN) ≤ 12 := by rw [exN_J]; exact hJ
  have hds : ∀ z i, i < cJ (rC D exN) → isS (cT (rC D exN)) ((dJ odds (cT (dC D)) z (cJ (dC D))).2 i) := fun z i _ => (dJ_at odds (cT (dC D)) z (cJ (dC D))).2 hth i
  refine ⟨(wrldS D odds q z m).2, ?_, fun τ1 h1 => ?_⟩
  · obtain ⟨g, R, s1, s2⟩ := mind_c (ex := exN) (wo := 0) n (by omega) h (fun i hi => exN_b i (by omega)) (by rw [exN_p]; exact hp)
    have R01 : R 0 1 = some 11 := (s2.2.2.2.2 0 1 (by omega)).trans L.2.1
    have r11 := h.1.2.2.1.2.1
    obtain ⟨ρ, e1, g', rfl, hd', e2⟩ := q_for (fun f i (x : Int32 × Int32 × (Nat → Nat → Int32)) => F_X11_worlds_68 n f 0 (nI m) odds (nI q) x.1 x.2.1 (nI i) (wA τ x.2.2 R)) (fun i x => x.1 = (wrldS D odds q z i).1 ∧ x.2.1 = (wrldS D odds q z i).2 ∧ ∃ hd, Sd τ D exN hd x.2.2 R (dk D) (ldP exN (ldS (dl D) (cJ (dC D)))) (da D)) (fun ρ => ∃ g', ρ = ((wrldS D odds q z m).2, wA τ g' R) ∧ ∃ hd, Sd τ D exN hd g' R (dk D) (ldP exN (ldS (dl D) (cJ (dC D)))) (da D)) m (fun i f x hi hp' => by
      obtain ⟨x1, x2, gg⟩ := x
      obtain ⟨p1, p2, hd, p3⟩ := hp'
      simp only at p1 p2 p3
      subst p1 p2
      obtain ⟨g1, d1, d2⟩ := deal_c n (by omega) r11 p3 hJ odds (wrldS D odds q z i).1
      obtain ⟨g2, r1, r2, r3, r4⟩ := d2.run n hn (hds _)
      rw [exN_l hp] at r1 r3 r4
      have hn0 : min (dk D) (cJ (rC D exN)) = ndN D (dk D) := by rw [exN_J]; rfl
      rw [hn0] at r1 r3
      have hy := bc_M r4 hJC
      have hTw : TW (rC D exN) (rR D exN (dJ odds (cT (dC D)) (wrldS D odds q z i).1 (cJ (dC D))).2 (ndN D (dk D)) (ldN D) (da D)) := run_w hcw _ _ (begin_w (by rw [exN_J]; exact ldS_lt hp) (hds _))
      have hTm : tM (rR D exN (dJ odds (cT (dC D)) (wrldS D odds q z i).1 (cJ (dC D))).2 (ndN D (dk D)) (ldN D) (da D)) ≤ 3030 := run_b hcw hU.2.2.2.2.2.2.2 _ _ (begin_w (by rw [exN_J]; exact ldS_lt hp) (hds _)) (by show 0 ≤ 3030; omega)
      have he := end_c (σ := wA τ g2 R) (g := g2) n r2.1 r3 r2.2.1.1 r2.2.1.2.2.1 r2.2.1.2.2.2.2.2.2.1 r2.2.1.2.2.2.2.2.2.2 (by omega)
      rw [hn0] at he
      generalize hEE : rE D exN (dJ odds (cT (dC D)) (wrldS D odds q z i).1 (cJ (dC D))).2 (ndN D (dk D)) (ldN D) (da D) = E at r1
      have he' : F_X3_ends n 11 (wA τ g2 R) = some (E, wA τ g2 R) := by rw [← hEE]; exact he
      have yl : cnt (cJ (rC D exN)) (tS (rB D exN (dJ odds (cT (dC D)) (wrldS D odds q z i).1 (cJ (dC D))).2 (ldN D) (da D))) ≤ cJ (dC D) := by rw [← exN_J D]; exact cnt_le _ _
      have hws : wrldS D odds q z (i + 1) = ((dJ odds (cT (dC D)) (wrldS D odds q z i).1 (cJ (dC D))).1, if hitW q (cnt (cJ (rC D exN)) (tS (rB D exN (dJ odds (cT (dC D)) (wrldS D odds q z i).1 (cJ (dC D))).2 (ldN D) (da D)))) (cJ (dC D)) E then (wrldS D odds q z i).2 + 1 else (wrldS D odds q z i).2) := by rw [← hEE]; rfl
      generalize cnt (cJ (rC D exN)) (tS (rB D exN (dJ odds (cT (dC D)) (wrldS D odds q z i).1 (cJ (dC D))).2 (ldN D) (da D))) = y at hy yl hws
      refine ⟨((wrldS D odds q z (i + 1)).1, (wrldS D odds q z (i + 1)).2, g2), ?_, rfl, rfl, _, r2⟩
      have k1 := hit_1 (cJ (dC D)) (by omega) y (by omega)
      have k2 := hit_2 (cJ (dC D)) (by omega) y (by omega)
      have g2J : g2 11 2 = nI (cJ (dC D)) := by have := r2.1.2.2.2.1; rw [exN_J] at this; exact this
      have knew : F_X3_knewAtFirst n 11 (wA τ g2 R) = some (if hitW 0 y (cJ (dC D)) E then 1 else 0, wA τ g2 R) := by
        unfold F_X3_knewAtFirst F_X3_knewAtFirst_28 F_X3_knewAtFirst_40 hitW
        rw [bc_v, qk_s2, wA_I, hy, g2J, if_pos rfl]
        by_cases c1 : cJ (dC D) - y < y
        · rw [if_neg (fun x => k1.mp x c1), if_pos c1, qk_b2 he']
          by_cases c2 : E = 1
          · rw [if_pos c2, decide_eq_true c2]; rfl
          · rw [if_neg c2, decide_eq_false c2, if_pos (k2.mpr (by omega))]; rfl
        · rw [if_pos (k1.mpr c1), if_neg c1]
          by_cases c3 : y < cJ (dC D) - y
          · rw [if_neg (fun x => k2.mp x c3), if_pos c3, qk_b2 he']
            by_cases c2 : E = 0
            · rw [if_pos c2, decide_eq_true c2]; rfl
            · rw [if_neg c2, decide_eq_false c2]; rfl
          · rw [if_pos (k2.mpr c3), if_neg c3]; rfl
      simp only [F_X11_worlds_68, F_X11_worlds_120, F_X11_worlds_123]
      rw [if_neg (nI_ge hi (by omega)), wA_R, R01, qk_s1, qk_b2 d1, wA_R, R01, qk_s1, qk_b2 r1, hws, ← nI_succ]
      by_cases c0 : q = 0
      · subst c0
        rw [if_pos (show nI 0 = 0 from rfl), wA_R, R01, qk_s1, qk_b2 knew]
        cases hitW 0 y (cJ (dC D)) E
        · rw [if_pos (by decide)]; rfl
        · rw [if_neg (by decide)]; rfl
      · rw [if_neg (nI_ne0 (by omega) (by omega))]
        have hw' : hitW q y (cJ (dC D)) E = decide (E = nI q) := by unfold hitW; rw [if_neg c0]
        rw [hw']
        by_cases c2 : E = nI q
        · rw [if_pos c2, decide_eq_true c2]; rfl
        · rw [if_neg c2, decide_eq_false c2]; rfl) (fun f x hp' => by
      obtain ⟨x1, x2, gg⟩ := x
      obtain ⟨p1, p2, hd, p3⟩ := hp'
      simp only at p1 p2 p3
      subst p1 p2
      refine ⟨_, ?_, gg, rfl, hd, p3⟩
      simp only [F_X11_worlds_68]
      rw [if_pos (nI_le (Nat.le_refl _) (by omega))]) n (z, 0, g) (by omega) ⟨rfl, rfl, _, s2⟩
    refine ⟨wA τ g' R, ?_, e2.q⟩
    unfold F_X11_worlds
    rw [if_neg a1, if_neg a2, if_neg o1, if_neg o2, if_neg w1, if_pos w2, j0_c h, if_neg hz, L.2.1, qk_s1, L.1, qk_s1, qk_b1 s1]
    rw [q_0] at e1 ⊢
    exact e1
  · obtain ⟨ρ, e1, τ', rfl, e2⟩ := q_for (fun f i (x : Int32 × Int32 × Hp) => F_X12_worlds_60 n f 48 (nI m) odds (nI q) x.1 x.2.1 (nI i) x.2.2) (fun i x => x.1 = (wrldS D odds q z i).1 ∧ x.2.1 = (wrldS D odds q z i).2 ∧ Fq τ1 x.2.2) (fun ρ => ∃ τ', ρ = ((wrldS D odds q z m).2, τ') ∧ Fq τ1 τ') m (fun i f x hi hp' => by
      obtain ⟨x1, x2, τ2⟩ := x
      obtain ⟨p1, p2, p3⟩ := hp'
      simp only at p1 p2 p3
      subst p1 p2
      have h2 := h1.fq p3
      obtain ⟨t, ht⟩ := at_m h2
      obtain ⟨g1, s1, s2, s3, s4, s5, s6, s7⟩ := tka_m (t := t) n (by omega) h2 hp
      rw [← ht] at s1
      have hB := h2.1.2.2.2.1
      have hB0 := hB
      obtain ⟨g2, u1, u2, u3⟩ := mdl_m (t := t) n (by omega) hB s5 h2.2.1.2.2.1 (F_X12_worlds_60 n f) (nI m) odds (nI q) (wrldS D odds q z i).1 (wrldS D odds q z i).2 (nI i)
      have m5 : RWm g2 49 51 D lno := rwm_fr (fun j => u2 49 j (by omega)) (fun j => u2 51 j (by omega)) s5
      have hC : MC g2 54 (rC D exN) := mc_m m5 h2.2.1.2.2.1 (by rw [exN_p]; exact hp) (by rw [exN_p, u2 54 5 (by omega)]; exact s6) (fun k hk => by
        rw [exN_p] at hk
        rw [exN_x hk, u2 54 (7 + k) (by omega)]; exact s7 k hk)
      have hH : MH g2 54 (cJ (rC D exN)) (dJ odds (cT (dC D)) (wrldS D odds q z i).1 (cJ (dC D))).2 := fun k hk => by
        rw [exN_J] at hk
        exact u3 k hk
      obtain ⟨g', t', b1', b2'⟩ := run_m (t := t) (nd := ndN D (dk D)) (ld := ldN D) (ha := da D) n hn hB m5 hC hH (hds _) (by rw [exN_J]; exact ldS_lt hp) rfl (by unfold ndN; omega) hU.2.2.2.2.2.2.2
      obtain ⟨y0, mt, y26, -⟩ := b2'
      have yl : yesS (rC D exN) (rB D exN (dJ odds (cT (dC D)) (wrldS D odds q z i).1 (cJ (dC D))).2 (ldN D) (da D)) ≤ cJ (dC D) := by rw [← exN_J D]; exact cnt_le _ _
      have hws : wrldS D odds q z (i + 1) = ((dJ odds (cT (dC D)) (wrldS D odds q z i).1 (cJ (dC D))).1, if hitW q (yesS (rC D exN) (rB D exN (dJ odds (cT (dC D)) (wrldS D odds q z i).1 (cJ (dC D))).2 (ldN D) (da D))) (cJ (dC D)) (rE D exN (dJ odds (cT (dC D)) (wrldS D odds q z i).1 (cJ (dC D))).2 (ndN D (dk D)) (ldN D) (da D)) then (wrldS D odds q z i).2 + 1 else (wrldS D odds q z i).2) := rfl
      have hq' : Fq τ2 (wM τ2 g' t') := fq_m (fun a j h1 h2 h3 h4 => by rw [y0 a j (by omega) h2 h3 h4, u2 a j (by omega)]; exact s2 a j h2)
      have e49 : g' 49 1 = nI (cJ (dC D)) := by rw [y0 49 1 (by omega) (by omega) (by omega) (by omega)]; exact m5.2.1
      generalize rE D exN (dJ odds (cT (dC D)) (wrldS D odds q z i).1 (cJ (dC D))).2 (ndN D (dk D)) (ldN D) (da D) = E at b1' hws
      generalize yesS (rC D exN) (rB D exN (dJ odds (cT (dC D)) (wrldS D odds q z i).1 (cJ (dC D))).2 (ldN D) (da D)) = y at y26 yl hws
      have k3 := hit_3 (cJ (dC D)) (by omega) y (by omega)
      have k4 := hit_4 (cJ (dC D)) (by omega) y (by omega)
      refine ⟨((wrldS D odds q z (i + 1)).1, (wrldS D odds q z (i + 1)).2, wM τ2 g' t'), ?_, rfl, rfl, p3.tr hq'⟩
      obtain ⟨⟨M0, M1, M2, M3, M4, M5, M6, M7, M8, M9, M10, M11, M12, M28, M29⟩, K49, K50, K51, K52, K53, K54, K55, K56, K57, K58, K59, K60, K61, K62, K63⟩ := hB
      have last : ∀ v : Int32, (v = if da D then 1 else 0) → F_X12_worlds_205 n (F_X12_worlds_60 n f) 48 (nI m) odds (nI q) (dJ odds (cT (dC D)) (wrldS D odds q z i).1 (cJ (dC D))).1 (wrldS D odds q z i).2 (nI i) v (nI (min (dk D) (cJ (dC D)))) (nI (ldS (dl D) (cJ (dC D)))) 48 (wM τ2 g2 t) = F_X12_worlds_60 n f 48 (nI m) odds (nI q) (wrldS D odds q z (i + 1)).1 (wrldS D odds q z (i + 1)).2 (nI (i + 1)) (wM τ2 g' t') := by
        intro v hv
        subst hv
        have b1'' : F_X12_runs n 48 (nI (ldS (dl D) (cJ (dC D)))) (nI (min (dk D) (cJ (dC D)))) (if da D then 1 else 0) (wM τ2 g2 t) = some (E, wM τ2 g' t') := b1'
        unfold F_X12_worlds_205
        rw [qk_b2 b1'', wM_R (by decide), M0, qk_s1, wM_L, K49, z_1, kq_1 (by decide), wM_I, y26, e49, qk_lt, hws]
        unfold F_X12_worlds_241 F_X12_worlds_251 F_X12_worlds_255 F_X12_worlds_290 F_X12_worlds_304
        rw [if_pos rfl, if_neg (show ¬ (1 : Int32) = 0 by decide), or_a0, nI_1]
        unfold hitW
        obtain rfl | rfl | rfl : q = 0 ∨ q = 1 ∨ q = 2 := by omega
        · rw [if_pos (show nI 0 = 0 from rfl), if_pos (show (0 : Nat) = 0 from rfl)]
          by_cases c1 : cJ (dC D) - y < y
          · rw [if_neg (fun x => k3.mp x c1), if_pos c1, if_pos (k4.mpr (by omega))]
            by_cases c2 : E = 1
            · rw [if_pos c2, decide_eq_true c2]; rfl
            · rw [if_neg c2, decide_eq_false c2]; rfl
          · rw [if_pos (k3.mpr c1), if_neg c1]
            by_cases c3 : y < cJ (dC D) - y
            · rw [if_neg (fun x => k4.mp x c3), if_pos c3]
              by_cases c2 : E = 0
              · rw [if_pos c2, decide_eq_true c2]; rfl
              · rw [if_neg c2, decide_eq_false c2]; rfl
            · rw [if_pos (k4.mpr c3), if_neg c3]; rfl
        · rw [if_neg (show ¬ nI 1 = 0 by decide), if_pos (show nI 1 = 1 from rfl), if_neg (show ¬ (1 : Nat) = 0 by omega)]
          by_cases c2 : E = 1
          · rw [if_pos c2, decide_eq_true (show E = nI 1 from c2)]; rfl
          · rw [if_neg c2, decide_eq_false (show ¬ E = nI 1 from c2)]; rfl
        · rw [if_neg (show ¬ nI 2 = 0 by decide), if_neg (show ¬ nI 2 = 1 by decide), if_neg (show ¬ (2 : Nat) = 0 by omega)]
          by_cases c2 : E = 2
          · rw [if_pos c2, decide_eq_true (show E = nI 2 from c2)]; rfl
          · rw [if_neg c2, decide_eq_false (show ¬ E = nI 2 from c2)]; rfl
      simp only [F_X12_worlds_60]
      rw [if_neg (nI_ge hi (by omega)), M5, qk_s1, qk_b1 s1, u1]
      unfold F_X12_worlds_175
      rw [wM_R (by decide), M0, qk_s1, wM_L, K49, z_1, kq_1 (by decide), wM_I, m5.2.1, qk_b2 (ldo_m n hB0 m5.2.2.2.2.2.1 hU.2.2.2.2.1 hJ), qk_b2 (nn_m n hB0 m5.2.2.2.2.1 m5.2.1 hU.2.2.1 hJ), wM_R (by decide), M0, qk_s1, z_5, wM_L, K49, kq_5 (by decide), wM_I, v3_m m5]
      by_cases hda : da D = true
      · rw [if_pos hda]; exact last 1 (by rw [if_pos hda])
      · rw [if_neg hda]; exact last 0 (by rw [if_neg hda])) (fun f x hp' => by
      obtain ⟨x1, x2, τ2⟩ := x
      obtain ⟨p1, p2, p3⟩ := hp'
      simp only at p1 p2 p3
      subst p1 p2
      refine ⟨_, ?_, τ2, rfl, p3⟩
      simp only [F_X12_worlds_60]
      rw [if_pos (nI_le (Nat.le_refl _) (by omega))]) n (z, 0, τ1) (by omega) ⟨rfl, rfl, Fq.rf τ1⟩
    refine ⟨τ', ?_, e2⟩
    unfold F_X12_worlds
    rw [qk_b2 (isIn_v n (y := 1) (z := 30) (nI m) 1 30 rfl rfl rfl _), if_neg (show ¬ (nI m < 1 ∨ 30 < nI m) from h0), if_neg (by decide), qk_b2 (isIn_v n (y := 0) (z := 100) odds 0 100 rfl rfl rfl _), if_neg (show ¬ (odds < 0 ∨ 100 < odds) from h1o), if_neg (by decide), qk_b2 (isIn_v n (y := 0) (z := 2) (nI q) 0 2 rfl rfl rfl _), if_neg (show ¬ (nI q < 0 ∨ 2 < nI q) from h2w), if_neg (by decide), j0_m h1, if_neg hz]
    exact e1
