/-! RUNS, on both sides, of those who are left -/
def rC (D : Dt) (ex : Nat → Bool) : Ct := cI (dC D) (pkn ex (cJ (dC D))) (pkx ex (cJ (dC D)))
def rH (D : Dt) (ex : Nat → Bool) : Nat → Int32 := fun i => dH D (pkx ex (cJ (dC D)) i)
def rB (D : Dt) (ex : Nat → Bool) (hd : Nat → Int32) (ld : Nat) (ha : Bool) : Tk := beginS (rC D ex) hd ld ha
def rR (D : Dt) (ex : Nat → Bool) (hd : Nat → Int32) (nd ld : Nat) (ha : Bool) : Tk := runS (rC D ex) nd (di D) 3000 (rB D ex hd ld ha)
def rE (D : Dt) (ex : Nat → Bool) (hd : Nat → Int32) (nd ld : Nat) (ha : Bool) : Int32 := endS (rC D ex) nd (di D) (rR D ex hd nd ld ha)
theorem cw_r {D : Dt} {lno : Nat → Int32} {ex : Nat → Bool} (h : DW D lno) (hp : 0 < pkn ex (cJ (dC D))) : CW (rC D ex) := by
  obtain ⟨⟨h1, h2, h3, h4⟩, -⟩ := h
  exact ⟨hp, Nat.le_trans (pkn_le _ _) h1, h2, h3, fun i hi => h4 _ (pkx_lt hi).1⟩
theorem hs_r {D : Dt} {lno : Nat → Int32} {ex : Nat → Bool} (h : DW D lno) : ∀ i, i < cJ (rC D ex) → isS (cT (rC D ex)) (rH D ex i) := fun i hi => (h.2.2 _ (pkx_lt hi).1).1
theorem pk_all : ∀ J, pkn (fun _ => false) J = J ∧ ∀ m, m < J → pkx (fun _ => false) J m = m := by
  intro J
  induction J with
  | zero => exact ⟨rfl, fun m h => by omega⟩
  | succ J ih =>
    refine ⟨by rw [pkn_s, ih.1]; rfl, fun m hm => ?_⟩
    simp only [pkx, Bool.false_eq_true, if_false, ih.1]
    by_cases h : m = J
    · rw [if_pos h, h]
    · rw [if_neg h]; exact ih.2 m (by omega)
theorem pk_six {n : Nat} : ∀ J, pkn (fun q => decide (n ≤ q)) J = min n J ∧ ∀ m, m < min n J → pkx (fun q => decide (n ≤ q)) J m = m := by
  intro J
  induction J with
  | zero => exact ⟨by rw [Nat.min_zero]; rfl, fun m h => by omega⟩
  | succ J ih =>
    rw [pkn_s, ih.1]
    simp only [pkx, ih.1]
    by_cases h : n ≤ J
    · rw [decide_eq_true h, if_pos rfl]
      refine ⟨by omega, fun m hm => ?_⟩
      rw [if_pos rfl]; exact ih.2 m (by omega)
    · rw [decide_eq_false h, if_neg (by decide)]
      refine ⟨by omega, fun m hm => ?_⟩
      rw [if_neg (by decide)]
      by_cases h2 : m = min n J
      · rw [if_pos h2]; omega
      · rw [if_neg h2]; exact ih.2 m (by omega)
theorem ldP_lt {ex : Nat → Bool} {l J : Nat} (hl : l < J) (hp : 0 < pkn ex J) : ldP ex l < pkn ex J := by
  unfold ldP
  by_cases h : ex l = true
  · rw [if_pos h]; exact hp
  · rw [if_neg h]
    have mono : ∀ d i, pkn ex i ≤ pkn ex (i + d) := by
      intro d
      induction d with
      | zero => intro i; exact Nat.le_refl _
      | succ d ih => intro i; rw [← Nat.add_assoc, pkn_s]; have := ih i; split <;> omega
    have h1 := pkn_s ex l
    rw [if_neg h] at h1
    have h2 := mono (J - (l + 1)) (l + 1)
    rw [show l + 1 + (J - (l + 1)) = J by omega] at h2
    omega
/-- the mind's room, seated -/
def Sd (τ : Hp) (D : Dt) (ex : Nat → Bool) (hd : Nat → Int32) (g : Nat → Nat → Int32) (R : Nat → Nat → Option Nat) (k lr : Nat) (ha : Bool) : Prop := CC (wA τ g R) g 11 (rC D ex) ∧ RU g 11 k lr ha (di D) ∧ (∀ i, i < cJ (rC D ex) → g 14 i = hd i) ∧ Fr (fun a _ => (11 ≤ a ∧ a ≤ 20) ∨ isStk τ a) (hI τ) g ∧ ∀ a j, a ≠ 13 → R a j = hR τ a j
theorem Sd.q {τ : Hp} {D : Dt} {ex : Nat → Bool} {hd : Nat → Int32} {g : Nat → Nat → Int32} {R : Nat → Nat → Option Nat} {k lr : Nat} {ha : Bool} (h : Sd τ D ex hd g R k lr ha) : Fq τ (wA τ g R) := ⟨g, R, rfl, fun a j h1 _ => h.2.2.2.2 a j h1, Or.inl (h.2.2.2.2 48 15 (by omega)), h.2.2.2.1.mo fun a j w => w.elim Or.inl (fun q => Or.inr (Or.inl q))⟩
theorem mind_c {τ : Hp} {D : Dt} {lno : Nat → Int32} {ot : Option Tk} {ex : Nat → Bool} {wo : Int32} (n : Nat) (hn : 12 < n) (h : Inv τ D lno ot) (hex : ∀ i, i < cJ (dC D) → bi wo i = ex i) (hp : 0 < pkn ex (cJ (dC D))) : ∃ g R, F_X3_seatFrom n 11 1 wo τ = some (wA τ g R) ∧ Sd τ D ex (rH D ex) g R (dk D) (ldP ex (ldS (dl D) (cJ (dC D)))) (da D) := by
  obtain ⟨l, ⟨⟨c1, c2, c3, c4, c5, c6, c7, c8⟩, m, d, -⟩, -⟩ := h
  have hJ0 : 0 < cJ (dC D) := Nat.lt_of_lt_of_le hp (pkn_le _ _)
  have hJ := d.1.1
  have r11 := l.2.2.1.2.1
  obtain ⟨g, R, s1, s2, s3, s4, s5, s6, s7, s8, s9, s10, s11⟩ := seat_c (σ := τ) (g := hI τ) (hd := dH D) (ex := ex) (wo := wo) n hn r11 c1 (by omega) c2 c3 hJ c8 (fun i hi => by obtain ⟨T, t1, t2, t3, t4, t5⟩ := c5 i hi; exact t5) hex (fun _ _ => trivial)
  rw [wI_S] at s1
  have hf : Fr (fun a _ => (11 ≤ a ∧ a ≤ 20) ∨ isStk τ a) (hI τ) g := s2.mo fun a j w => Or.inl (by omega)
  have hX : XG τ (wA τ g R) := XG.A fun a j h => s3 a j (by omega)
  have hIx : IX τ (hI τ) g := fun a j h1 h2 h3 => s2 a j (by omega)
  have hlp := ldP_lt (ex := ex) (ldS_lt (lr := dl D) hJ0) hp
  obtain ⟨u1, u2, u2b, u3, u4, u5, u6, u7⟩ := c8
  refine ⟨g, R, s1, ⟨r11.ext (fun j => s3 11 j (by omega)) (fun _ _ _ => rfl), cw_r d hp, s4, s5, fun t ht => ?_, fun i hi => ?_⟩, ⟨s8, u2, u2b, s9 hJ0, by have := pkn_le ex (cJ (dC D)); omega, s10, s11, u7⟩, fun i hi => (s7 i hi).2, hf, s3⟩
  · exact (s6 t (by have := d.1.2.1; have : t < cT (dC D) := ht; omega)).trans (c4 t ht)
  · obtain ⟨T, t1, t2, t3, t4, t5⟩ := c5 _ (pkx_lt hi).1
    exact ⟨T, (s7 i hi).1.trans t1, t2.ext hX hIx⟩
theorem Sd.needed {τ : Hp} {D : Dt} {ex : Nat → Bool} {hd : Nat → Int32} {g : Nat → Nat → Int32} {R : Nat → Nat → Option Nat} {k lr : Nat} {ha : Bool} (h : Sd τ D ex hd g R k lr ha) {v : Nat} (h1 : 1 ≤ v) (h2 : v ≤ 12) : Sd τ D ex hd (up2 g 16 0 (nI v)) R v lr ha := by
  obtain ⟨⟨c1, c2, c3, c4, c5, c6⟩, ⟨u1, u2, u2b, u3, u4, u5, u6, u7⟩, t, f, r⟩ := h
  refine ⟨⟨c1, c2, c3, c4, fun t ht => c5 t ht, fun i hi => ?_⟩, ⟨up_s _ _ _ _, h1, h2, u3, u4, u5, u6, u7⟩, t, f.up (Or.inl (by omega)), r⟩
  obtain ⟨T, t1, t2⟩ := c6 i hi
  exact ⟨T, t1, t2.ext (XG.rf _) (fun a j q1 q2 q3 => up_i (by omega))⟩
theorem Sd.leader {τ : Hp} {D : Dt} {ex : Nat → Bool} {hd : Nat → Int32} {g : Nat → Nat → Int32} {R : Nat → Nat → Option Nat} {k lr : Nat} {ha : Bool} (h : Sd τ D ex hd g R k lr ha) {v : Nat} (h2 : v ≤ 11) : Sd τ D ex hd (up2 g 16 1 (nI v)) R k v ha := by
  obtain ⟨⟨c1, c2, c3, c4, c5, c6⟩, ⟨u1, u2, u2b, u3, u4, u5, u6, u7⟩, t, f, r⟩ := h
  refine ⟨⟨c1, c2, c3, c4, fun t ht => c5 t ht, fun i hi => ?_⟩, ⟨u1, u2, u2b, up_s _ _ _ _, h2, u5, u6, u7⟩, t, f.up (Or.inl (by omega)), r⟩
  obtain ⟨T, t1, t2⟩ := c6 i hi
  exact ⟨T, t1, t2.ext (XG.rf _) (fun a j q1 q2 q3 => up_i (by omega))⟩
theorem Sd.hands {τ : Hp} {D : Dt} {ex : Nat → Bool} {hd : Nat → Int32} {g : Nat → Nat → Int32} {R : Nat → Nat → Option Nat} {k lr : Nat} {ha : Bool} (h : Sd τ D ex hd g R k lr ha) (v : Bool) : Sd τ D ex hd (up2 g 16 2 (if v then 1 else 0)) R k lr v := by
  obtain ⟨⟨c1, c2, c3, c4, c5, c6⟩, ⟨u1, u2, u2b, u3, u4, u5, u6, u7⟩, t, f, r⟩ := h
  refine ⟨⟨c1, c2, c3, c4, fun t ht => c5 t ht, fun i hi => ?_⟩, ⟨u1, u2, u2b, u3, u4, up_s _ _ _ _, u6, u7⟩, t, f.up (Or.inl (by omega)), r⟩
  obtain ⟨T, t1, t2⟩ := c6 i hi
  exact ⟨T, t1, t2.ext (XG.rf _) (fun a j q1 q2 q3 => up_i (by omega))⟩
theorem wt_sd {τ : Hp} {g h : Nat → Nat → Int32} {R : Nat → Nat → Option Nat} (a : Fr (WT (wA τ g R) 11) g h) (b : Fr (fun a _ => (11 ≤ a ∧ a ≤ 20) ∨ isStk τ a) (hI τ) g) : Fr (fun a _ => (11 ≤ a ∧ a ≤ 20) ∨ isStk τ a) (hI τ) h := b.tr (a.mo fun p j w => by
  rcases w with w | w | w
  · exact Or.inl (by omega)
  · exact Or.inl (by omega)
  · exact Or.inr w)
theorem Sd.run {τ : Hp} {D : Dt} {ex : Nat → Bool} {hd : Nat → Int32} {g : Nat → Nat → Int32} {R : Nat → Nat → Option Nat} {k lr : Nat} {ha : Bool} (n : Nat) (hn : 4000 < n) (h : Sd τ D ex hd g R k lr ha) (hs : ∀ i, i < cJ (rC D ex) → isS (cT (rC D ex)) (hd i)) : ∃ g', F_X3_runThrough n 11 (wA τ g R) = some (rE D ex hd (min k (cJ (rC D ex))) (ldS lr (cJ (rC D ex))) ha, wA τ g' R) ∧ Sd τ D ex hd g' R k lr ha ∧ CT (wA τ g' R) g' 11 (rC D ex) (rR D ex hd (min k (cJ (rC D ex))) (ldS lr (cJ (rC D ex))) ha) ∧ isM (cJ (rC D ex)) (tS (rB D ex hd (ldS lr (cJ (rC D ex))) ha)) (g' 11 13) := by
  obtain ⟨c, u, t, f, r⟩ := h
  obtain ⟨g', a1, a2, a3, a4⟩ := run_c (σ := wA τ g R) (g := g) n hn c u t hs
  exact ⟨g', a1, ⟨c.frT a2, u.fr (by omega) a2, fun i hi => by rw [a2 14 i (WT.n (by omega) (by omega) (by omega))]; exact t i hi, wt_sd a2 f, r⟩, a3, a4⟩
theorem Sd.begin {τ : Hp} {D : Dt} {ex : Nat → Bool} {hd : Nat → Int32} {g : Nat → Nat → Int32} {R : Nat → Nat → Option Nat} {k lr : Nat} {ha : Bool} (n : Nat) (hn : 200 < n) (h : Sd τ D ex hd g R k lr ha) : ∃ g', F_X3_beginTalk n 11 (wA τ g R) = some (wA τ g' R) ∧ Sd τ D ex hd g' R k lr ha ∧ CT (wA τ g' R) g' 11 (rC D ex) (rB D ex hd (ldS lr (cJ (rC D ex))) ha) := by
  obtain ⟨c, u, t, f, r⟩ := h
  obtain ⟨g', a1, a2, a3, a4, a5⟩ := begin_c (σ := wA τ g R) (g := g) n hn c u t
  exact ⟨g', a1, ⟨c.frT a2, u.fr (by omega) a2, fun i hi => by rw [a2 14 i (WT.n (by omega) (by omega) (by omega))]; exact t i hi, wt_sd a2 f, r⟩, a3⟩
/-! the model's -/
theorem takes_m {σ : Hp} {g : Nat → Nat → Int32} {t kk J : Nat} {hd : Nat → Int32} (n : Nat) (hn : 12 < n) (hB : MB σ) (hk : isT2 kk) (h1 : g 49 1 = nI J) (hJ : J ≤ 12) (hh : ∀ j, j < J → g 49 (19 + 7 * j + 6) = hd j) : ∃ g', F_X12_takesAll n 48 kk (wM σ g t) = some (wM σ g' t) ∧ Fr (fun a j => a = kk ∧ (j = 5 ∨ (7 ≤ j ∧ j < 31))) g g' ∧ g' kk 5 = nI J ∧ ∀ i, i < J → g' kk (7 + i) = nI i ∧ g' kk (19 + i) = hd i := by
  have hK := hB.k hk
  have hk2 : kk = 53 ∨ kk = 54 := hk
  have hB0 := hB
  obtain ⟨⟨M0, M1, M2, M3, M4, M5, M6, M7, M8, M9, M10, M11, M12, M28, M29⟩, K49, K50, K51, K52, K53, K54, K55, K56, K57, K58, K59, K60, K61, K62, K63⟩ := hB
  unfold F_X12_takesAll
  rw [wM_R (by decide), M0, qk_s1, wM_L, K49, z_1, z_5, kq_1 (by decide), hK, kq_5 (by decide), wM_I, h1, qk_lt, wM_p]
  obtain ⟨ρ, e1, g', rfl, e2, e3⟩ := q_for (fun f i (h : Nat → Nat → Int32) => F_X12_takesAll_11 n f 48 kk (nI i) (wM σ h t)) (fun i h => Fr (fun a j => a = kk ∧ (7 ≤ j ∧ j < 31)) (up2 g kk 5 (nI J)) h ∧ ∀ q, q < i → h kk (7 + q) = nI q ∧ h kk (19 + q) = hd q) (fun ρ => ∃ g', ρ = wM σ g' t ∧ Fr (fun a j => a = kk ∧ (7 ≤ j ∧ j < 31)) (up2 g kk 5 (nI J)) g' ∧ ∀ q, q < J → g' kk (7 + q) = nI q ∧ g' kk (19 + q) = hd q) J (fun i f h hi hp => by
    have c1 : ∀ j, h 49 j = g 49 j := fun j => by rw [hp.1 49 j (by omega), up_i (by omega)]
    have hget := get_m (σ := σ) (g := up2 h kk (7 + i) (nI i)) (t := t) (k := i) (x := 6) (x' := 6) n hB0 rfl (by omega) (by omega)
    rw [up_i (show (49 : Nat) ≠ kk by omega), c1, hh i hi] at hget
    simp only [F_X12_takesAll_11]
    rw [wM_R (by decide), M0, qk_s1, wM_L, K49, z_1, kq_1 (by decide), wM_I, c1, h1, if_neg (nI_ge hi (by omega)), l_7, l_19, hK, qk_in (by omega) (by omega), nI_clamp (by omega), qk_lt, wM_p, qk_b2 hget, wM_L, hK, qk_in (by omega) (by omega), nI_clamp (by omega), qk_lt, wM_p, ← nI_succ]
    refine ⟨_, rfl, (hp.1.up ⟨rfl, by omega⟩).up ⟨rfl, by omega⟩, fun q hq => ?_⟩
    by_cases h2 : q = i
    · subst h2; exact ⟨by rw [up_j (by omega), up_s], up_s _ _ _ _⟩
    · rw [up_j (show 7 + q ≠ 19 + i by omega), up_j (show 7 + q ≠ 7 + i by omega), up_j (show 19 + q ≠ 19 + i by omega), up_j (show 19 + q ≠ 7 + i by omega)]
      exact hp.2 q (by omega)) (fun f h hp => by
    have c1 : ∀ j, h 49 j = g 49 j := fun j => by rw [hp.1 49 j (by omega), up_i (by omega)]
    refine ⟨_, ?_, h, rfl, hp⟩
    simp only [F_X12_takesAll_11]
    rw [wM_R (by decide), M0, qk_s1, wM_L, K49, z_1, kq_1 (by decide), wM_I, c1, h1, if_pos (nI_le (Nat.le_refl _) (by omega))]) n (up2 g kk 5 (nI J)) (by omega) ⟨Fr.rf _ _, fun q hq => by omega⟩
  refine ⟨g', by rw [q_0]; exact e1, ?_, ?_, e3⟩
  · exact ((Fr.rf _ _).up ⟨rfl, Or.inl rfl⟩).tr (e2.mo fun a j w => ⟨w.1, Or.inr w.2⟩)
  · rw [e2 kk 5 (by omega), up_s]
/-- the cast in the model's array, of members so and so -/
theorem mc_m {g : Nat → Nat → Int32} {kk : Nat} {D : Dt} {lno : Nat → Int32} {ex : Nat → Bool} (m : RWm g 49 51 D lno) (d : DW D lno) (hp : 0 < pkn ex (cJ (dC D))) (h5 : g kk 5 = nI (pkn ex (cJ (dC D)))) (h7 : ∀ i, i < pkn ex (cJ (dC D)) → g kk (7 + i) = nI (pkx ex (cJ (dC D)) i)) : MC g kk (rC D ex) := by
  obtain ⟨m1, m2, m3, m4, m5, m6, m7, m8, m9, m10⟩ := m
  refine ⟨cw_r d hp, h5, m1, m4, fun i hi => ?_⟩
  have hx := (pkx_lt hi).1
  have hJ := d.1.1
  obtain ⟨n1, n2, n3, n4, n5, n6, n7⟩ := m9 _ hx
  refine ⟨pkx ex (cJ (dC D)) i, by omega, h7 i hi, n1, n2, n3, n4, n5, ?_⟩
  rw [n6]
  rcases (d.2.2 _ hx).2.2 with ⟨a, b⟩ | ⟨l, a, b, c⟩
  · exact Or.inl ⟨a, b⟩
  · obtain ⟨N, x, cs, o1, o2, o3, o4⟩ := m10 l a
    refine Or.inr ⟨l, N, x, cs, b, Nat.lt_of_lt_of_le a d.2.1, o1, o2, o3, ?_⟩
    show sumS x N 8 0 0 = (N, some (cs, cE (dC D) (pkx ex (cJ (dC D)) i)))
    rw [c]; exact o4
theorem rwm_fr {g h : Nat → Nat → Int32} {s lw : Nat} {D : Dt} {lno : Nat → Int32} (h1 : ∀ j, h s j = g s j) (h2 : ∀ j, h lw j = g lw j) (a : RWm g s lw D lno) : RWm h s lw D lno := by
  obtain ⟨m1, m2, m3, m4, m5, m6, m7, m8, m9, m10⟩ := a
  refine ⟨by rw [h1]; exact m1, by rw [h1]; exact m2, by rw [h1]; exact m3, fun t ht => by rw [h1]; exact m4 t ht, by rw [h1]; exact m5, by rw [h1]; exact m6, by rw [h1]; exact m7, by rw [h1]; exact m8, fun j hj => by rw [h1, h1, h1, h1, h1, h1, h1]; exact m9 j hj, fun l hl => ?_⟩
  obtain ⟨N, x, cs, n1, n2, n3, n4⟩ := m10 l hl
  exact ⟨N, x, cs, by rw [h1]; exact n1, n2, fun i hi => by rw [h2]; exact n3 i hi, n4⟩
theorem ldo_m {σ : Hp} {g : Nat → Nat → Int32} {t l J : Nat} (n : Nat) (hB : MB σ) (h4 : g 49 4 = nI l) (hl : l ≤ 11) (hJ : J ≤ 12) : F_X12_leaderOf n 48 (nI J) (wM σ g t) = some (nI (ldS l J), wM σ g t) := by
  obtain ⟨⟨M0, M1, M2, M3, M4, M5, M6, M7, M8, M9, M10, M11, M12, M28, M29⟩, K49, K50, K51, K52, K53, K54, K55, K56, K57, K58, K59, K60, K61, K62, K63⟩ := hB
  unfold F_X12_leaderOf ldS
  rw [wM_R (by decide), M0, qk_s1, wM_L, K49, z_4, kq_4 (by decide), wM_I, h4]
  by_cases h : l < J
  · rw [if_neg (nI_ge h (by omega)), if_pos h, qk_s1, K49, kq_4 (by decide), h4]
  · rw [if_pos (nI_le (by omega) (by omega)), if_neg h]; rfl
theorem les_m (n a b : Nat) (ha : a ≤ 12) (hb : b ≤ 12) (τ : Hp) : F_X12_lesser n (nI a) (nI b) τ = some (nI (min a b), τ) := by
  unfold F_X12_lesser
  by_cases h : b ≤ a
  · rw [if_pos (nI_le h (by omega)), Nat.min_eq_right h]
  · rw [if_neg (nI_ge (by omega) (by omega)), Nat.min_eq_left (by omega)]
theorem nn_m {σ : Hp} {g : Nat → Nat → Int32} {t k J : Nat} (n : Nat) (hB : MB σ) (h3 : g 49 3 = nI k) (h1 : g 49 1 = nI J) (hk : k ≤ 12) (hJ : J ≤ 12) : F_X12_neededNow n 48 (wM σ g t) = some (nI (min k J), wM σ g t) := by
  obtain ⟨⟨M0, M1, M2, M3, M4, M5, M6, M7, M8, M9, M10, M11, M12, M28, M29⟩, K49, K50, K51, K52, K53, K54, K55, K56, K57, K58, K59, K60, K61, K62, K63⟩ := hB
  unfold F_X12_neededNow
  rw [wM_R (by decide), M0, qk_s1, wM_L, K49, z_3, z_1, kq_3 (by decide), qk_s1, K49, kq_1 (by decide), wM_I, h3, h1, qk_b2 (les_m n k J hk hJ _)]
/-- what a run of the model leaves -/
def RM (g g' : Nat → Nat → Int32) (D : Dt) (ex : Nat → Bool) (hd : Nat → Int32) (nd ld : Nat) (ha : Bool) : Prop := (∀ a j, ¬ (a = 48 ∧ 16 ≤ j ∧ j ≤ 27) → a ≠ 54 → a ≠ 62 → a ≠ 63 → g' a j = g a j) ∧ MT g' 54 (rC D ex) (rR D ex hd nd ld ha) ∧ g' 48 26 = nI (yesS (rC D ex) (rB D ex hd ld ha)) ∧ isM (cJ (rC D ex)) (tS (rB D ex hd ld ha)) (g' 48 27) ∧ (∀ i, i < cJ (rC D ex) → g' 62 i = tP (rB D ex hd ld ha) i) ∧ (∀ q, q < cT (dC D) → g' 63 q = runO (rC D ex) nd (di D) 3000 (rB D ex hd ld ha) (markS (rC D ex) (fun _ => -4) (rB D ex hd ld ha) 0) q) ∧ g' 54 5 = nI (cJ (rC D ex)) ∧ ∀ j, 7 ≤ j → j < 19 → g' 54 j = g 54 j
theorem wr54 {g g' : Nat → Nat → Int32} (h : Fr (WR 54) g g') : ∀ a j, ¬ (a = 48 ∧ 16 ≤ j ∧ j ≤ 27) → a ≠ 54 → a ≠ 62 → a ≠ 63 → g' a j = g a j := fun a j h1 h2 h3 h4 => h a j (by unfold WR; omega)
theorem run_m {σ : Hp} {g : Nat → Nat → Int32} {t nd ld : Nat} {D : Dt} {lno : Nat → Int32} {ex : Nat → Bool} {hd : Nat → Int32} {ha : Bool} {v3 : Int32} (n : Nat) (hn : 4000 < n) (hB : MB σ) (m : RWm g 49 51 D lno) (hC : MC g 54 (rC D ex)) (hh : MH g 54 (cJ (rC D ex)) hd) (hs : ∀ i, i < cJ (rC D ex) → isS (cT (rC D ex)) (hd i)) (hl : ld < cJ (rC D ex)) (hv : v3 = if ha then 1 else 0) (hnd : nd ≤ 12) (hli : di D ≤ 3000) : ∃ g' t', F_X12_runs n 48 (nI ld) (nI nd) v3 (wM σ g t) = some (rE D ex hd nd ld ha, wM σ g' t') ∧ RM g g' D ex hd nd ld ha := by
  obtain ⟨g', t', a1, a2, a3, a4, a5, a6, a7⟩ := runs_m (t := t) n hn hB hC hh hs hl hv hnd m.2.2.2.2.2.2.2.1 hli
  exact ⟨g', t', a1, wr54 a2, a3, a4, a5, a6, a7, by rw [a2 54 5 (by unfold WR; omega)]; exact hC.2.1, fun j h1 h2 => a2 54 j (by unfold WR; omega)⟩
