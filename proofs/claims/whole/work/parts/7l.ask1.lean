/-! calls that only ask: both sides answer alike -/
def BQ (τ : Hp) (D : Dt) (lno : Nat → Int32) (ot : Option Tk) (x y : Hp → Option (Int32 × Hp)) : Prop := ∃ r, (∃ τ', x τ = some (r, τ') ∧ Fq τ τ') ∧ ∀ τ1, Inv τ1 D lno ot → ∃ τ', y τ1 = some (r, τ') ∧ Fq τ1 τ'
theorem BQ.go {τ : Hp} {D : Dt} {lno : Nat → Int32} {ot : Option Tk} {x y : Hp → Option (Int32 × Hp)} (h : Inv τ D lno ot) (b : BQ τ D lno ot x y) : ∃ r τ1 τ2, x τ = some (r, τ1) ∧ y τ1 = some (r, τ2) ∧ Inv τ2 D lno ot := by
  obtain ⟨r, ⟨τ1, x1, x2⟩, y1⟩ := b
  have h1 := h.fq x2
  obtain ⟨τ2, z1, z2⟩ := y1 τ1 h1
  exact ⟨r, τ1, τ2, x1, z1, h1.fq z2⟩
/-- the same, where neither changes a thing -/
theorem BQ.of {τ : Hp} {D : Dt} {lno : Nat → Int32} {ot : Option Tk} {x y : Hp → Option (Int32 × Hp)} (r : Int32) (hx : x τ = some (r, τ)) (hy : ∀ τ1, Inv τ1 D lno ot → y τ1 = some (r, τ1)) : BQ τ D lno ot x y := ⟨r, ⟨τ, hx, Fq.rf τ⟩, fun τ1 h1 => ⟨τ1, hy τ1 h1, Fq.rf τ1⟩⟩
theorem nI_p1 {J : Nat} {a : Int32} (hJ : J ≤ 12) : (nI J - 1 < a) ↔ nI J ≤ a := by
  rw [Int32.lt_iff_toInt_lt, Int32.le_iff_toInt_le, nI_toInt (by omega)]
  have e : (nI J - 1).toInt = (J : Int) - 1 := by
    have : ∀ J : Nat, J < 13 → (nI J - 1).toInt = (J : Int) - 1 := by decide +kernel
    exact this J (by omega)
  rw [e]
  omega
/-- the model in a heap as it is -/
theorem at_m {τ : Hp} {D : Dt} {lno : Nat → Int32} {ot : Option Tk} (h : Inv τ D lno ot) : ∃ t, τ = wM τ (hI τ) t := by
  obtain ⟨t, ht⟩ := h.1.2.2.2.2.1
  exact ⟨t, (wM_o ht).symm⟩
theorem fq_m {τ : Hp} {g : Nat → Nat → Int32} {t : Nat} (h : ∀ a j, ¬ (a = 48 ∧ 14 ≤ j ∧ j ≤ 27) → a ≠ 54 → a ≠ 62 → a ≠ 63 → g a j = hI τ a j) : Fq τ (wM τ g t) := ⟨g, up2 (hR τ) 48 15 (some t), rfl, fun a j h1 h2 => by
  unfold up2
  rw [if_neg h2], Or.inr ⟨t, up_s _ _ _ _⟩, fun a j hj => h a j (fun q => hj (Or.inr (Or.inr (Or.inl q)))) (fun q => hj (by unfold VW; omega)) (fun q => hj (by unfold VW; omega)) (fun q => hj (by unfold VW; omega))⟩
theorem fq_c {τ : Hp} {g : Nat → Nat → Int32} (h : Fr (WS τ) (hI τ) g) : Fq τ (wI τ g) := ⟨g, hR τ, rfl, fun _ _ _ _ => rfl, Or.inl rfl, h.mo fun _ _ w => Or.inr (Or.inl w)⟩
theorem fq_l {τ : Hp} {g : Nat → Nat → Int32} {t : Nat} (h : Fr WL (hI τ) g) : Fq τ (wM τ g t) := fq_m fun a j h1 h2 h3 h4 => h a j (by unfold WL; omega)
theorem jur_m {σ : Hp} {g : Nat → Nat → Int32} {t J : Nat} {a : Int32} (n : Nat) (hB : MB σ) (h1 : g 49 1 = nI J) (hJ : J ≤ 12) : F_X12_isJuror n 48 a (wM σ g t) = some (if a < 0 ∨ nI J ≤ a then 0 else 1, wM σ g t) := by
  obtain ⟨⟨M0, M1, M2, M3, M4, M5, M6, M7, M8, M9, M10, M11, M12, M28, M29⟩, K49, K50, K51, K52, K53, K54, K55, K56, K57, K58, K59, K60, K61, K62, K63⟩ := hB
  unfold F_X12_isJuror
  rw [wM_R (by decide), M0, qk_s1, wM_L, K49, z_1, kq_1 (by decide), wM_I, h1, qk_b2 (isIn_v n (y := 0) a 0 (nI J - 1) rfl rfl rfl _)]
  by_cases h : a < 0 ∨ nI J ≤ a
  · rw [if_pos h, if_pos (h.imp id (nI_p1 hJ).mpr), qk_ck (Or.inl rfl)]
  · rw [if_neg h, if_neg (fun q => h (q.imp id (nI_p1 hJ).mp)), qk_ck (Or.inr rfl)]
theorem seat_r {τ : Hp} {r J : Nat} {a : Int32} (n : Nat) (h2 : hI τ r 2 = nI J) : F_X3_isSeat n r a τ = some (if a < 0 ∨ nI J ≤ a then 0 else 1, τ) := by
  unfold F_X3_isSeat
  rw [h2]
  by_cases h : a < 0
  · rw [if_pos h, if_pos (Or.inl h)]
  · by_cases h3 : nI J ≤ a
    · rw [if_neg h, if_pos h3, if_pos (Or.inr h3)]
    · rw [if_neg h, if_neg h3, if_neg (fun q => q.elim h h3)]
theorem seat_j {J : Nat} {a : Int32} (hJ : J ≤ 12) (h : ¬ (a < 0 ∨ nI J ≤ a)) : ∃ j, j < J ∧ a = nI j := by
  obtain ⟨j, hj, rfl⟩ := nI_of (fun q => h (Or.inl q))
  have h2 : ¬ J ≤ j := fun q => h (Or.inr ((nI_leI (by omega) hj).mpr q))
  exact ⟨j, by omega, rfl⟩
theorem cc_now {τ : Hp} {r : Nat} {D : Dt} {lno : Nat → Int32} (c : RWc τ r D lno) (d : DW D lno) (hp : 0 < cJ (dC D)) : CC τ (hI τ) r (dC D) := by
  obtain ⟨c1, c2, c3, c4, c5, c6, c7, c8⟩ := c
  exact ⟨c1, ⟨hp, d.1⟩, c2, c3, c4, fun j hj => by obtain ⟨T, t1, t2, -⟩ := c5 j hj; exact ⟨T, t1, t2⟩⟩
theorem lwm_of {g : Nat → Nat → Int32} {D : Dt} {lno : Nat → Int32} {j : Nat} (m : RWm g 49 51 D lno) (d : DW D lno) (hj : j < cJ (dC D)) : LwM g (g 49 (19 + 7 * j + 5)) (cE (dC D) j) := by
  obtain ⟨m1, m2, m3, m4, m5, m6, m7, m8, m9, m10⟩ := m
  rw [(m9 j hj).2.2.2.2.2.1]
  rcases (d.2.2 j hj).2.2 with ⟨a, b⟩ | ⟨l, a, b, c⟩
  · exact Or.inl ⟨a, b⟩
  · obtain ⟨N, x, cs, o1, o2, o3, o4⟩ := m10 l a
    exact Or.inr ⟨l, N, x, cs, b, Nat.lt_of_lt_of_le a d.2.1, o1, o2, o3, by rw [c]; exact o4⟩
/-- ONE -/
def soloS (hd : Nat → Int32) : Nat → Int32 × Int32
  | 0 => (0, 0)
  | i + 1 => ((soloS hd i).1 ||| hd i, (soloS hd i).2 ||| ((soloS hd i).1 &&& hd i))
theorem q_one {τ : Hp} {D : Dt} {lno : Nat → Int32} {ot : Option Tk} (n : Nat) (hn : 12 < n) (h : Inv τ D lno ot) : BQ τ D lno ot (F_X11_one n 0) (F_X12_one n 48) := by
  refine BQ.of ((soloS (dH D) (cJ (dC D))).1 &&& ((soloS (dH D) (cJ (dC D))).2 ^^^ (-1))) ?_ (fun τ1 h1 => ?_)
  · obtain ⟨⟨⟨a1, a2, a3, a4, a5⟩, -⟩, ⟨⟨c1, c2, c3, c4, c5, -⟩, -, d, -⟩, -⟩ := h
    have hJ := d.1.1
    have c0 := c1
    obtain ⟨r65, ⟨R1, R3, R4, R6, R7, R15, R16, R17, R18⟩, L1, L2, L3, L4, L5, L6, L7, L8, L9⟩ := c0
    obtain ⟨ρ, e1, e2⟩ := q_for (fun f i (a : Int32 × Int32) => F_X11_one_6 n f 0 a.1 a.2 (nI i) τ) (fun i a => a = soloS (dH D) i) (fun ρ => ρ = ((soloS (dH D) (cJ (dC D))).1 &&& ((soloS (dH D) (cJ (dC D))).2 ^^^ (-1)), τ)) (cJ (dC D)) (fun i f a hi hp => by
      refine ⟨soloS (dH D) (i + 1), ?_, rfl⟩
      subst hp
      obtain ⟨T, t1, t2, t3, t4, t5⟩ := c5 i hi
      simp only [F_X11_one_6, soloS]
      rw [a1, qk_s1, c3, if_neg (nI_ge hi (by omega)), qk_s1, R4, qk_s1, qk_b2 (q_at n L3 (by omega) (by omega)), t5, ← nI_succ]) (fun f a hp => by
      refine ⟨_, ?_, rfl⟩
      subst hp
      simp only [F_X11_one_6, F_X11_one_48]
      rw [a1, qk_s1, c3, if_pos (nI_le (Nat.le_refl _) (by omega))]) n (0, 0) (by omega) rfl
    subst e2
    exact e1
  · obtain ⟨t, ht⟩ := at_m h1
    rw [ht]
    obtain ⟨⟨-, -, -, hB, -⟩, ⟨-, ⟨m1, m2, m3, m4, m5, m6, m7, m8, m9, m10⟩, d, -⟩, -⟩ := h1
    have hJ := d.1.1
    have hB0 := hB
    obtain ⟨⟨M0, M1, M2, M3, M4, M5, M6, M7, M8, M9, M10, M11, M12, M28, M29⟩, K49, K50, K51, K52, K53, K54, K55, K56, K57, K58, K59, K60, K61, K62, K63⟩ := hB
    obtain ⟨ρ, e1, e2⟩ := q_for (fun f i (a : Int32 × Int32) => F_X12_one_6 n f 48 a.1 a.2 (nI i) (wM τ1 (hI τ1) t)) (fun i a => a = soloS (dH D) i) (fun ρ => ρ = ((soloS (dH D) (cJ (dC D))).1 &&& ((soloS (dH D) (cJ (dC D))).2 ^^^ (-1)), wM τ1 (hI τ1) t)) (cJ (dC D)) (fun i f a hi hp => by
      refine ⟨soloS (dH D) (i + 1), ?_, rfl⟩
      subst hp
      have hget := get_m (σ := τ1) (g := hI τ1) (t := t) (k := i) (x := 6) (x' := 6) n hB0 rfl (by omega) (by omega)
      rw [(m9 i hi).2.2.2.2.2.2] at hget
      simp only [F_X12_one_6, soloS]
      rw [wM_R (by decide), M0, qk_s1, wM_L, K49, z_1, kq_1 (by decide), wM_I, m2, if_neg (nI_ge hi (by omega)), qk_b2 hget, qk_b2 hget, ← nI_succ]) (fun f a hp => by
      refine ⟨_, ?_, rfl⟩
      subst hp
      simp only [F_X12_one_6, F_X12_one_44]
      rw [wM_R (by decide), M0, qk_s1, wM_L, K49, z_1, kq_1 (by decide), wM_I, m2, if_pos (nI_le (Nat.le_refl _) (by omega))]) n (0, 0) (by omega) rfl
    subst e2
    exact e1
theorem q_count {τ : Hp} {D : Dt} {lno : Nat → Int32} {ot : Option Tk} (n : Nat) (hn : 12 < n) (h : Inv τ D lno ot) (a : Int32) : BQ τ D lno ot (F_X11_count n 0 a) (F_X12_count n 48 a) := by
  have hh := h
  obtain ⟨⟨⟨a1, a2, a3, a4, a5⟩, -⟩, ⟨⟨c1, c2, c3, c4, c5, c6, -⟩, -, d, -⟩, -⟩ := h
  have hJ := d.1.1
  have hth := d.1.2.1
  have c0 := c1
  obtain ⟨r65, ⟨R1, R3, R4, R6, R7, R15, R16, R17, R18⟩, L1, L2, L3, L4, L5, L6, L7, L8, L9⟩ := c0
  have mod : ∀ τ1, Inv τ1 D lno ot → ∃ t, τ1 = wM τ1 (hI τ1) t ∧ MB τ1 ∧ RWm (hI τ1) 49 51 D lno := fun τ1 h1 => by
    obtain ⟨t, ht⟩ := at_m h1
    exact ⟨t, ht, h1.1.2.2.2.1, h1.2.1.2.1⟩
  by_cases h0 : a = 0
  · subst h0
    refine BQ.of (nI (cT (dC D))) (by unfold F_X11_count; rw [if_pos rfl, a1, qk_s1, c2]) (fun τ1 h1 => ?_)
    obtain ⟨t, ht, hB, m⟩ := mod τ1 h1
    rw [ht]
    obtain ⟨⟨M0, M1, M2, M3, M4, M5, M6, M7, M8, M9, M10, M11, M12, M28, M29⟩, K49, K50, K51, K52, K53, K54, K55, K56, K57, K58, K59, K60, K61, K62, K63⟩ := hB
    unfold F_X12_count F_X12_count_36
    rw [if_pos rfl, wM_R (by decide), M0, qk_s1, wM_L, K49, z_0, kq_0 (by decide), wM_I, m.1]
  by_cases h1 : a = 1
  · subst h1
    refine BQ.of (nI (cJ (dC D))) (by unfold F_X11_count; rw [if_neg h0, if_pos rfl, a1, qk_s1, c3]) (fun τ1 h1 => ?_)
    obtain ⟨t, ht, hB, m⟩ := mod τ1 h1
    rw [ht]
    obtain ⟨⟨M0, M1, M2, M3, M4, M5, M6, M7, M8, M9, M10, M11, M12, M28, M29⟩, K49, K50, K51, K52, K53, K54, K55, K56, K57, K58, K59, K60, K61, K62, K63⟩ := hB
    unfold F_X12_count F_X12_count_36
    rw [if_neg h0, if_pos rfl, wM_R (by decide), M0, qk_s1, wM_L, K49, z_1, kq_1 (by decide), wM_I, m.2.1]
  by_cases h2 : a = 2
  · subst h2
    refine BQ.of (nI (dL D)) (by unfold F_X11_count; rw [if_neg h0, if_neg h1, if_pos rfl, a1, qk_s1, c6]) (fun τ1 h1' => ?_)
    obtain ⟨t, ht, hB, m⟩ := mod τ1 h1'
    rw [ht]
    obtain ⟨⟨M0, M1, M2, M3, M4, M5, M6, M7, M8, M9, M10, M11, M12, M28, M29⟩, K49, K50, K51, K52, K53, K54, K55, K56, K57, K58, K59, K60, K61, K62, K63⟩ := hB
    unfold F_X12_count F_X12_count_36
    rw [if_neg h0, if_neg h1, if_pos rfl, wM_R (by decide), M0, qk_s1, wM_L, K49, z_2, kq_2 (by decide), wM_I, m.2.2.1]
  by_cases h3 : a = 3
  · subst h3
    refine BQ.of (wgh (cS (dC D)) (-1) (cT (dC D))) ?_ (fun τ1 h1' => ?_)
    · unfold F_X11_count
      have := wgh_c (σ := τ) (g := hI τ) (x := -1) n hn R1 L1 c2 hth c4
      rw [wI_S] at this
      rw [if_neg h0, if_neg h1, if_neg h2, if_pos rfl, a1, qk_s1, qk_b2 this]
    · obtain ⟨t, ht, hB, m⟩ := mod τ1 h1'
      rw [ht]
      have hB0 := hB
      obtain ⟨⟨M0, M1, M2, M3, M4, M5, M6, M7, M8, M9, M10, M11, M12, M28, M29⟩, K49, K50, K51, K52, K53, K54, K55, K56, K57, K58, K59, K60, K61, K62, K63⟩ := hB
      unfold F_X12_count
      rw [if_neg h0, if_neg h1, if_neg h2, if_pos rfl, wM_R (by decide), M0, qk_s1, wM_L, K49, z_0, kq_0 (by decide), wM_I, m.1, qk_b2 (spk_m n hn hB0 m.1 hth m.2.2.2.1)]
      rw [wgh_bg (y := -1) (fun i hi => by rw [bi_all _ (by omega) i (by omega), bi_m1 i (by omega), decide_eq_true hi])]
  by_cases h4 : a = 4
  · subst h4
    refine BQ.of (allH (cT (dC D)) (dH D) (cJ (dC D))) ?_ (fun τ1 h1' => ?_)
    · unfold F_X11_count
      have := tta_c (σ := τ) (g := hI τ) (hd := dH D) n hn R4 L3 c2 c3 hJ (fun i hi => by obtain ⟨T, t1, t2, t3, t4, t5⟩ := c5 i hi; exact t5)
      rw [wI_S] at this
      rw [if_neg h0, if_neg h1, if_neg h2, if_neg h3, if_pos rfl, a1, qk_s1, qk_b2 this]
    · obtain ⟨t, ht, hB, m⟩ := mod τ1 h1'
      rw [ht]
      have hB0 := hB
      obtain ⟨⟨M0, M1, M2, M3, M4, M5, M6, M7, M8, M9, M10, M11, M12, M28, M29⟩, K49, K50, K51, K52, K53, K54, K55, K56, K57, K58, K59, K60, K61, K62, K63⟩ := hB
      obtain ⟨m1, m2, m3, m4, m5, m6, m7, m8, m9, m10⟩ := m
      unfold F_X12_count
      rw [if_neg h0, if_neg h1, if_neg h2, if_neg h3, if_pos rfl, wM_R (by decide), M0, qk_s1, wM_L, K49, z_0, kq_0 (by decide), wM_I, m1, qk_lt]
      obtain ⟨ρ, e1, e2⟩ := q_for (fun f i (a : Int32) => F_X12_count_71 n f 48 a (nI i) (wM τ1 (hI τ1) t)) (fun i a => a = allH (cT (dC D)) (dH D) i) (fun ρ => ρ = (allH (cT (dC D)) (dH D) (cJ (dC D)), wM τ1 (hI τ1) t)) (cJ (dC D)) (fun i f a hi hp => by
        refine ⟨allH (cT (dC D)) (dH D) (i + 1), ?_, rfl⟩
        subst hp
        have hget := get_m (σ := τ1) (g := hI τ1) (t := t) (k := i) (x := 6) (x' := 6) n hB0 rfl (by omega) (by omega)
        rw [(m9 i hi).2.2.2.2.2.2] at hget
        simp only [F_X12_count_71, allH]
        rw [wM_R (by decide), M0, qk_s1, wM_L, K49, z_1, kq_1 (by decide), wM_I, m2, if_neg (nI_ge hi (by omega)), qk_b2 hget, ← nI_succ]) (fun f a hp => by
        refine ⟨_, ?_, rfl⟩
        subst hp
        simp only [F_X12_count_71]
        rw [wM_R (by decide), M0, qk_s1, wM_L, K49, z_1, kq_1 (by decide), wM_I, m2, if_pos (nI_le (Nat.le_refl _) (by omega))]) n (allH (cT (dC D)) (dH D) 0) (by omega) rfl
      subst e2
      exact e1
  · refine BQ.of (-1000000001) (by unfold F_X11_count; rw [if_neg h0, if_neg h1, if_neg h2, if_neg h3, if_neg h4]) (fun τ1 h1' => ?_)
    unfold F_X12_count
    rw [if_neg h0, if_neg h1, if_neg h2, if_neg h3, if_neg h4]
theorem q_leans {τ : Hp} {D : Dt} {lno : Nat → Int32} {ot : Option Tk} (n : Nat) (hn : 200 < n) (h : Inv τ D lno ot) (a : Int32) : BQ τ D lno ot (F_X11_leans n 0 a) (F_X12_leans n 48 a) := by
  have hh := h
  obtain ⟨⟨⟨a1, a2, a3, a4, a5⟩, -⟩, ⟨c, -, d, e, -, -⟩, -⟩ := h
  have hJ := d.1.1
  have hth := d.1.2.1
  by_cases h0 : a < 0 ∨ nI (cJ (dC D)) ≤ a
  · refine BQ.of (-1000000001) ?_ (fun τ1 h1 => ?_)
    · unfold F_X11_leans
      rw [a1, qk_s1, qk_b2 (seat_r n c.2.2.1), if_pos h0, if_pos rfl]
    · obtain ⟨t, ht⟩ := at_m h1
      rw [ht]
      unfold F_X12_leans
      rw [qk_b2 (jur_m n h1.1.2.2.2.1 h1.2.1.2.1.2.1 hJ), if_pos h0, if_pos rfl]
  · obtain ⟨j, hj, rfl⟩ := seat_j hJ h0
    have hp : 0 < cJ (dC D) := by omega
    have hC := cc_now c d hp
    cases ot with
    | none =>
      refine ⟨leanS (dC D) (dH D) (fun _ => 0) 0 0 0 j, ?_, fun τ1 h1 => ?_⟩
      · obtain ⟨e8, e10, e11, e12, e13, e14, e6⟩ := e
        obtain ⟨g', k1, k2⟩ := lean_c (y := 0) (no := 0) (hd := dH D) (pu := fun _ => 0) n hn hC hj (e6 j hj).2.1 (e6 j hj).2.2.1 e10
        rw [wI_S] at k1
        refine ⟨wI τ g', ?_, fq_c k2⟩
        unfold F_X11_leans
        rw [a1, qk_s1, qk_b2 (seat_r n c.2.2.1), if_neg h0, if_neg (by decide), a1, qk_s1, e8, if_pos rfl, qk_s1, qk_b2 k1]
      · obtain ⟨t, ht⟩ := at_m h1
        obtain ⟨⟨-, -, -, hB, -⟩, ⟨-, m, -, -, f, -⟩, -⟩ := h1
        have hB0 := hB
        have m' := m
        obtain ⟨m1, m2, m3, m4, m5, m6, m7, m8, m9, m10⟩ := m'
        obtain ⟨⟨M0, M1, M2, M3, M4, M5, M6, M7, M8, M9, M10, M11, M12, M28, M29⟩, K49, K50, K51, K52, K53, K54, K55, K56, K57, K58, K59, K60, K61, K62, K63⟩ := hB
        have f6 : ¬ hI τ1 53 6 = 1 := f
        have hget : ∀ g : Nat → Nat → Int32, (∀ q, g 49 q = hI τ1 49 q) → F_X12_get n 48 (nI j) 6 (wM τ1 g t) = some (dH D j, wM τ1 g t) := fun g hg => by
          have := get_m (σ := τ1) (g := g) (t := t) (k := j) (x := 6) (x' := 6) n hB0 rfl (by omega) (by omega)
          rw [hg, (m9 j hj).2.2.2.2.2.2] at this
          exact this
        generalize hg3 : up2 (up2 (up2 (hI τ1) 48 23 0) 48 24 0) 48 25 0 = g3
        have e49 : ∀ q, g3 49 q = hI τ1 49 q := fun q => by rw [← hg3, up_i (by omega), up_i (by omega), up_i (by omega)]
        have e51 : ∀ q, g3 51 q = hI τ1 51 q := fun q => by rw [← hg3, up_i (by omega), up_i (by omega), up_i (by omega)]
        have m3' := rwm_fr e49 e51 m
        obtain ⟨g', t', k1, k2⟩ := lby_m (t := t) (held := dH D j) (p := 0) (y := 0) (no := 0) (m := 0) n hn hB0 m3'.1 hth m3'.2.2.2.1 (show j < 12 by omega) (lwm_of m3' d hj) (by rw [← hg3, up_j (by omega), up_j (by omega), up_s]) (by rw [← hg3, up_j (by omega), up_s]) (by rw [← hg3, up_s])
        refine ⟨wM τ1 g' t', ?_, fq_m (fun p q h1 h2 h3 h4 => ?_)⟩
        · conv => lhs; rw [ht]
          unfold F_X12_leans F_X12_hasBegun F_X12_sees
          rw [qk_b2 (jur_m n hB0 m2 hJ), if_neg h0, if_neg (by decide), wM_R (by decide), M4, qk_s1, wM_L, K53, z_6, kq_6 (by decide), wM_I, if_neg f6, qk_s2, if_pos rfl, wM_p, qk_lt, wM_p, qk_lt, wM_p, qk_lt, qk_s1, hg3, qk_b2 (hget g3 e49), qk_b2 k1]
          rfl
        · rw [k2 p q (by unfold WL; omega), ← hg3]
          unfold up2
          rw [if_neg (by omega), if_neg (by omega), if_neg (by omega)]
    | some T =>
      refine ⟨leanS (dC D) (tH T) (tP T) (nI (yesS (dC D) T)) (nI (noS (dC D) T)) (nI (tM T)) j, ?_, fun τ1 h1 => ?_⟩
      · obtain ⟨e8, e⟩ := e
        have e' := e
        obtain ⟨e10, e11, e12, e14, e6, -⟩ := e'
        obtain ⟨g', k1, k2⟩ := lean_c (y := nI (yesS (dC D) T)) (no := nI (noS (dC D) T)) (hd := tH T) (pu := tP T) n hn hC hj (e6 j hj).2.1 (e6 j hj).2.2.1 e10
        have ky := yes_c (σ := τ) (g := hI τ) n e12 hJ
        have kn := no_c (σ := τ) (g := hI τ) n e12 hJ c.2.2.1
        rw [wI_S] at k1 ky kn
        refine ⟨wI τ g', ?_, fq_c k2⟩
        unfold F_X11_leans
        rw [a1, qk_s1, qk_b2 (seat_r n c.2.2.1), if_neg h0, if_neg (by decide), a1, qk_s1, e8, if_neg (by decide), qk_s1, qk_s1, qk_b2 ky, a1, qk_s1, qk_b2 kn]
        exact qk_b2 k1 _
      · obtain ⟨t, ht⟩ := at_m h1
        obtain ⟨⟨-, -, -, hB, -⟩, ⟨-, m, -, -, f, -⟩, -⟩ := h1
        have hB0 := hB
        have m' := m
        obtain ⟨m1, m2, m3, m4, m5, m6, m7, m8, m9, m10⟩ := m'
        obtain ⟨⟨M0, M1, M2, M3, M4, M5, M6, M7, M8, M9, M10, M11, M12, M28, M29⟩, K49, K50, K51, K52, K53, K54, K55, K56, K57, K58, K59, K60, K61, K62, K63⟩ := hB
        obtain ⟨f6, ⟨f0, fy, fn, -, -, fi⟩, f5, f7⟩ := f
        generalize hg3 : up2 (up2 (up2 (hI τ1) 48 23 (nI (yesS (dC D) T))) 48 24 (nI (noS (dC D) T))) 48 25 (nI (tM T)) = g3
        have e49 : ∀ q, g3 49 q = hI τ1 49 q := fun q => by rw [← hg3, up_i (by omega), up_i (by omega), up_i (by omega)]
        have e51 : ∀ q, g3 51 q = hI τ1 51 q := fun q => by rw [← hg3, up_i (by omega), up_i (by omega), up_i (by omega)]
        have e53 : ∀ q, g3 53 q = hI τ1 53 q := fun q => by rw [← hg3, up_i (by omega), up_i (by omega), up_i (by omega)]
        have m3' := rwm_fr e49 e51 m
        obtain ⟨g', t', k1, k2⟩ := lby_m (t := t) (held := tH T j) (p := tP T j) (y := nI (yesS (dC D) T)) (no := nI (noS (dC D) T)) (m := nI (tM T)) n hn hB0 m3'.1 hth m3'.2.2.2.1 (show j < 12 by omega) (lwm_of m3' d hj) (by rw [← hg3, up_j (by omega), up_j (by omega), up_s]) (by rw [← hg3, up_j (by omega), up_s]) (by rw [← hg3, up_s])
        refine ⟨wM τ1 g' t', ?_, fq_m (fun p q h1 h2 h3 h4 => ?_)⟩
        · conv => lhs; rw [ht]
          unfold F_X12_leans F_X12_hasBegun F_X12_sees
          rw [qk_b2 (jur_m n hB0 m2 hJ), if_neg h0, if_neg (by decide), wM_R (by decide), M4, qk_s1, wM_L, K53, z_6, kq_6 (by decide), wM_I, if_pos f6, qk_s2, if_neg (by decide), wM_R (by decide), M4, qk_s1, z_1, z_2, z_0, wM_L, K53, kq_1 (by decide), qk_s1, K53, kq_2 (by decide), qk_s1, K53, kq_0 (by decide), wM_I, fy, fn, f0, wM_p, qk_lt, wM_p, qk_lt, wM_p, qk_lt, qk_s1, hg3, wM_R (by decide), M4, qk_s1, l_19, l_31, wM_L, K53, qk_in (by omega) (by omega), qk_s1, K53, qk_in (by omega) (by omega), nI_clamp (by omega), nI_clamp (by omega), wM_I, e53, e53, (fi j hj).1, (fi j hj).2.1, qk_b2 k1]
          rfl
        · rw [k2 p q (by unfold WL; omega), ← hg3]
          unfold up2
          rw [if_neg (by omega), if_neg (by omega), if_neg (by omega)]
