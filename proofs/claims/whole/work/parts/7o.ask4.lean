/-! six, lost, leads, hands -/
def exS (m : Nat) : Nat → Bool := fun q => decide (m ≤ q)
theorem exS_p {D : Dt} {m : Nat} (h : m ≤ cJ (dC D)) : pkn (exS m) (cJ (dC D)) = m := (pk_six (n := m) (cJ (dC D))).1.trans (Nat.min_eq_left h)
theorem exS_x {D : Dt} {m i : Nat} (h : m ≤ cJ (dC D)) (hi : i < m) : pkx (exS m) (cJ (dC D)) i = i := (pk_six (n := m) (cJ (dC D))).2 i (by rw [Nat.min_eq_left h]; exact hi)
theorem exS_l {D : Dt} {m : Nat} (h : m ≤ cJ (dC D)) (h1 : 1 ≤ m) : ldS (ldP (exS m) (ldS (dl D) (cJ (dC D)))) m = ldS (dl D) m := by
  have key : ∀ l, ldP (exS m) l = if m ≤ l then 0 else l := fun l => by
    unfold ldP
    by_cases h2 : m ≤ l
    · rw [if_pos (show exS m l = true from decide_eq_true h2), if_pos h2]
    · rw [if_neg (show ¬ exS m l = true from fun q => h2 (of_decide_eq_true q)), if_neg h2]
      exact (pk_six (n := m) l).1.trans (Nat.min_eq_right (by omega))
  rw [key]
  unfold ldS
  by_cases h3 : dl D < cJ (dC D)
  · rw [if_pos h3]
    by_cases h2 : m ≤ dl D
    · rw [if_pos h2, if_neg (show ¬ dl D < m by omega)]
      split <;> rfl
    · rw [if_neg h2]
  · rw [if_neg h3, if_neg (show ¬ dl D < m by omega), if_neg (show ¬ m ≤ 0 by omega)]
    split <;> rfl
theorem q_six {τ : Hp} {D : Dt} {lno : Nat → Int32} {ot : Option Tk} (n : Nat) (hn : 4000 < n) (h : Inv τ D lno ot) (a w : Int32) : BQ τ D lno ot (F_X11_six n 0 a w) (F_X12_six n 48 a w) := by
  have hJ := h.2.1.2.2.1.1.1
  have L := h.1.1
  have hU := h.2.1.1.2.2.2.2.2.2.2
  have mIn : ∀ τ1, Inv τ1 D lno ot → ∀ f : Int32 → Hp → Option (Int32 × Hp), (b1 (hR τ1 48 0) fun i1 => ck (¬ ((1 : Int32) < 0 ∨ hL τ1 i1 ≤ (1 : Int32).toNatClampNeg)) (b2 (F_X12_isIn n a.toInt64 1 ((hI τ1 i1 (1 : Int32).toNatClampNeg).toInt64) τ1) f)) = f (if a < 1 ∨ nI (cJ (dC D)) < a then 0 else 1) τ1 := fun τ1 h1 f => by
    have hB := h1.1.2.2.2.1
    obtain ⟨⟨M0, M1, M2, M3, M4, M5, M6, M7, M8, M9, M10, M11, M12, M28, M29⟩, K49, K50, K51, K52, K53, K54, K55, K56, K57, K58, K59, K60, K61, K62, K63⟩ := hB
    rw [M0, qk_s1, K49, z_1, kq_1 (by decide), h1.2.1.2.1.2.1, qk_b2 (isIn_v n (y := 1) a 1 (nI (cJ (dC D))) rfl rfl rfl _)]
  by_cases h0 : a < 1 ∨ nI (cJ (dC D)) < a
  · refine BQ.of (-1) ?_ (fun τ1 h1 => ?_)
    · unfold F_X11_six
      by_cases h2 : a < 1
      · rw [if_pos h2]
      · rw [if_neg h2, L.1, qk_s1, h.2.1.1.2.2.1, if_pos (h0.resolve_left h2)]
    · unfold F_X12_six
      rw [mIn τ1 h1, if_pos h0, if_pos rfl]
  · have c1 : ¬ a < 1 := fun z => h0 (Or.inl z)
    have c2 : ¬ nI (cJ (dC D)) < a := fun z => h0 (Or.inr z)
    by_cases hw : w < 0 ∨ nI 2 < w
    · refine BQ.of (-1) ?_ (fun τ1 h1 => ?_)
      · unfold F_X11_six
        rw [if_neg c1, L.1, qk_s1, h.2.1.1.2.2.1, if_neg c2]
        by_cases h2 : w < 0
        · rw [if_pos h2]
        · rw [if_neg h2, if_neg (show ¬ w ≤ 2 from fun q => (Int32.not_le.mpr (hw.resolve_left h2)) q)]
      · unfold F_X12_six
        rw [mIn τ1 h1, if_neg h0, if_neg (by decide), qk_b2 (isIn_v n (y := 0) (z := 2) w 0 2 rfl rfl rfl _), if_pos (show w < 0 ∨ 2 < w from hw), if_pos rfl]
    · obtain ⟨q, hq, rfl⟩ := what_j (by omega) hw
      have d0 : ¬ nI q < 0 := fun z => hw (Or.inl z)
      have d2 : nI q ≤ 2 := nle_lt (fun z => hw (Or.inr z))
      obtain ⟨m, hm, rfl⟩ := what_j (M := cJ (dC D)) (a := a) (by omega) (fun z => z.elim (fun y => c1 (by
        rw [Int32.lt_iff_toInt_lt] at y ⊢
        have e0 : (0 : Int32).toInt = 0 := rfl
        have e1 : (1 : Int32).toInt = 1 := rfl
        omega)) c2)
      have hm1 : 1 ≤ m := by
        by_cases z : m = 0
        · subst z; exact absurd (by decide) c1
        · omega
      have hpn : 0 < pkn (exS m) (cJ (dC D)) := by rw [exS_p hm]; omega
      have hJC : cJ (rC D (exS m)) = m := exS_p hm
      obtain ⟨g, R, a1, a2⟩ := mind_c (ex := exS m) (wo := (-1) <<< (nI m &&& 31)) n (by omega) h (fun i hi => bi_out m (by omega) i (by omega)) hpn
      obtain ⟨g', b1', b2', b3', b4'⟩ := a2.run n hn (hs_r h.2.1.2.2.1)
      rw [hJC, exS_l hm hm1] at b1' b3'
      have R01 : R 0 1 = some 11 := (a2.2.2.2.2 0 1 (by omega)).trans L.2.1
      generalize hRR : rR D (exS m) (rH D (exS m)) (min (dk D) m) (ldS (dl D) m) (da D) = RR at b3'
      refine ⟨(match q with
        | 0 => rE D (exS m) (rH D (exS m)) (min (dk D) m) (ldS (dl D) m) (da D)
        | 1 => nI (tM RR)
        | _ => g' 11 12), ⟨wA τ g' R, ?_, b2'.q⟩, fun τ1 h1 => ?_⟩
      · unfold F_X11_six
        rw [if_neg c1, L.1, qk_s1, h.2.1.1.2.2.1, if_neg c2, if_neg d0, if_pos d2, L.2.1, qk_s1, qk_s1, qk_b1 a1, wA_R, R01, qk_s1, qk_b2 b1']
        obtain rfl | rfl | rfl : q = 0 ∨ q = 1 ∨ q = 2 := by omega
        · rw [if_pos (show nI 0 = 0 from rfl)]
          rfl
        · rw [if_neg (show ¬ nI 1 = 0 by decide), if_pos (show nI 1 = 1 from rfl), wA_R, R01, qk_s1, wA_I, b3'.1]
          rfl
        · rw [if_neg (show ¬ nI 2 = 0 by decide), if_neg (show ¬ nI 2 = 1 by decide), wA_R, R01, qk_s1, wA_I]
          rfl
      · obtain ⟨t, ht⟩ := at_m h1
        have hp : 0 < cJ (dC D) := by omega
        obtain ⟨g1, s1, s2, s3, s4, s5, s6, s7⟩ := tka_m (t := t) n (by omega) h1 hp
        have hB := h1.1.2.2.2.1
        have hB0 := hB
        have d := h1.2.1.2.2.1
        obtain ⟨⟨M0, M1, M2, M3, M4, M5, M6, M7, M8, M9, M10, M11, M12, M28, M29⟩, K49, K50, K51, K52, K53, K54, K55, K56, K57, K58, K59, K60, K61, K62, K63⟩ := hB
        have m5 : RWm (up2 g1 54 5 (nI m)) 49 51 D lno := rwm_fr (fun j => up_i (by omega)) (fun j => up_i (by omega)) s5
        have hC : MC (up2 g1 54 5 (nI m)) 54 (rC D (exS m)) := mc_m m5 d hpn (by rw [up_s, exS_p hm]) (fun i hi => by
          rw [exS_p hm] at hi
          rw [up_j (by omega), exS_x hm hi]; exact s7 i (by omega))
        have hH : MH (up2 g1 54 5 (nI m)) 54 (cJ (rC D (exS m))) (rH D (exS m)) := fun i hi => by
          rw [hJC] at hi
          rw [up_j (by omega)]
          have := s4 i (by rw [exN_J]; omega)
          rw [this]
          show dH D (pkx exN (cJ (dC D)) i) = dH D (pkx (exS m) (cJ (dC D)) i)
          rw [exN_x (by omega), exS_x hm hi]
        obtain ⟨g2, t2, r1, r2⟩ := run_m (t := t) (nd := min (dk D) m) (ld := ldS (dl D) m) (ha := da D) n hn hB0 m5 hC hH (hs_r d) (by rw [hJC]; exact ldS_lt (by omega)) rfl (by omega) hU.2.2.2.2.2.2.2
        obtain ⟨y0, mt, y26, y27, y62, y63, y5, -⟩ := r2
        rw [hRR] at mt
        have fin : ∀ v3 : Int32, (v3 = if da D then 1 else 0) → ∃ τ', F_X12_six_76 n 48 (nI q) v3 (nI (min (dk D) m)) (nI (ldS (dl D) m)) 48 (wM τ1 (up2 g1 54 5 (nI m)) t) = some ((match q with
          | 0 => rE D (exS m) (rH D (exS m)) (min (dk D) m) (ldS (dl D) m) (da D)
          | 1 => nI (tM RR)
          | _ => g' 11 12), τ') ∧ Fq τ1 τ' := by
          intro v3 hv
          subst hv
          refine ⟨wM τ1 g2 t2, ?_, fq_m (fun a j h1 h2 h3 h4 => by rw [y0 a j (by omega) h2 h3 h4, up_i h2]; exact s2 a j h2)⟩
          unfold F_X12_six_76
          rw [qk_b2 r1]
          obtain rfl | rfl | rfl : q = 0 ∨ q = 1 ∨ q = 2 := by omega
          · rw [if_pos (show nI 0 = 0 from rfl)]
            rfl
          · rw [if_neg (show ¬ nI 1 = 0 by decide), if_pos (show nI 1 = 1 from rfl), wM_R (by decide), M5, qk_s1, wM_L, K54, z_0, kq_0 (by decide), wM_I, mt.1]
            rfl
          · obtain ⟨x, x1, x2⟩ := slof_m (σ := τ1) (g := g2) (t := t2) (sl := tS RR) n (by omega) hB0 isT54 y5 (by rw [hJC]; omega) (fun i hi => (mt.2.2.2.2.2 i hi).2.2.1)
            rw [if_neg (show ¬ nI 2 = 0 by decide), if_neg (show ¬ nI 2 = 1 by decide), wM_R (by decide), M5, qk_s1, qk_b2 x1]
            show some (x, _) = some (g' 11 12, _)
            have b12 := b3'.2.2.1
            rw [isM_eq x2 b12]
        have e : ∀ f : Int32 → Hp → Option (Int32 × Hp), f 1 τ1 = f 1 (wM τ1 (hI τ1) t) := fun f => by rw [← ht]
        unfold F_X12_six
        rw [mIn τ1 h1, if_neg h0, if_neg (by decide), qk_b2 (isIn_v n (y := 0) (z := 2) (nI q) 0 2 rfl rfl rfl _), if_neg (show ¬ (nI q < 0 ∨ 2 < nI q) from hw), if_neg (by decide)]
        have ht' : F_X12_takesAll n 48 54 τ1 = some (wM τ1 g1 t) := by
          have := s1
          rw [← ht] at this
          exact this
        rw [M5, qk_s1, qk_b1 ht', wM_R (by decide), M5, qk_s1, wM_L, K54, z_5, kq_5 (by decide), qk_lt, wM_p, qk_b2 (ldo_m n hB0 m5.2.2.2.2.2.1 hU.2.2.2.2.1 (by omega)), wM_R (by decide), M0, qk_s1, wM_L, K49, z_3, kq_3 (by decide), wM_I, m5.2.2.2.2.1, qk_b2 (les_m n _ _ hU.2.2.1 (by omega) _), wM_R (by decide), M0, qk_s1, wM_L, K49, kq_5 (by decide), wM_I, v3_m m5]
        by_cases hda : da D = true
        · rw [if_pos hda]; exact fin 1 (by rw [if_pos hda])
        · rw [if_neg hda]; exact fin 0 (by rw [if_neg hda])
theorem q_lost {τ : Hp} {D : Dt} {lno : Nat → Int32} {ot : Option Tk} (n : Nat) (hn : 4000 < n) (h : Inv τ D lno ot) (a : Int32) : BQ τ D lno ot (F_X11_lost n 0 a) (F_X12_lost n 48 a) := by
  have hJ := h.2.1.2.2.1.1.1
  have hth := h.2.1.2.2.1.1.2.1
  have L := h.1.1
  by_cases h0 : a < 1 ∨ nI 12 < a
  · refine BQ.of (-1) ?_ (fun τ1 h1 => ?_)
    · unfold F_X11_lost
      by_cases h2 : a < 1
      · rw [if_pos h2]
      · rw [if_neg h2, if_neg (show ¬ a ≤ 12 from fun q => (Int32.not_le.mpr (h0.resolve_left h2)) q)]
    · unfold F_X12_lost
      rw [qk_b2 (isIn_v n (y := 1) (z := 12) a 1 12 rfl rfl rfl _), if_pos (show a < 1 ∨ 12 < a from h0), if_pos rfl]
  · have c1 : ¬ a < 1 := fun z => h0 (Or.inl z)
    have c2 : a ≤ 12 := nle_lt (fun z => h0 (Or.inr z))
    obtain ⟨k, hk, rfl⟩ := what_j (M := 12) (a := a) (by omega) (fun z => z.elim (fun y => c1 (by
      rw [Int32.lt_iff_toInt_lt] at y ⊢
      have e0 : (0 : Int32).toInt = 0 := rfl
      have e1 : (1 : Int32).toInt = 1 := rfl
      omega)) (fun y => h0 (Or.inr y)))
    have hk1 : 1 ≤ k := by
      by_cases z : k = 0
      · subst z; exact absurd (by decide) c1
      · omega
    by_cases hz : cJ (dC D) = 0
    · refine BQ.of (-3) ?_ (fun τ1 h1 => ?_)
      · unfold F_X11_lost
        rw [if_neg c1, if_pos c2, j0_c h, if_pos hz]
      · unfold F_X12_lost
        rw [qk_b2 (isIn_v n (y := 1) (z := 12) (nI k) 1 12 rfl rfl rfl _), if_neg (show ¬ (nI k < 1 ∨ 12 < nI k) from h0), if_neg (by decide), j0_m h1, if_pos hz]
    · have hp : 0 < cJ (dC D) := by omega
      obtain ⟨g1, R1, a1, a2, a3⟩ := ewr_c n hn h hp 0 (by omega) 12 ⟨fun _ => ⟨by omega, by omega⟩, fun q => by omega, fun q => by omega⟩
      have h1 := h.fq a2
      obtain ⟨g2, R2, b1', b2', b3'⟩ := ewr_c n hn h1 hp 0 (by omega) k ⟨fun _ => ⟨by omega, by omega⟩, fun q => by omega, fun q => by omega⟩
      have h2 := h1.fq b2'
      rw [if_pos rfl, if_neg (show ¬ (0 : Nat) = 1 by omega), if_neg (show ¬ (0 : Nat) = 2 by omega)] at a1 a3 b1' b3'
      refine ⟨g1 11 14 &&& (g2 11 14 ^^^ (-1)), ⟨wA (wA τ g1 R1) g2 R2, ?_, a2.tr b2'⟩, fun τ1 h1' => ?_⟩
      · unfold F_X11_lost
        rw [if_neg c1, if_pos c2, j0_c h, if_neg hz]
        have a1' : F_X11_endWithRule n 0 0 12 τ = _ := a1
        have b1'' : F_X11_endWithRule n 0 0 (nI k) (wA τ g1 R1) = _ := b1'
        rw [qk_b2 a1', h1.1.1.2.1, qk_s1, qk_b2 b1'', h2.1.1.2.1, qk_s1]
        rfl
      · obtain ⟨u1, t1, e1, e2, w1, e3, e4⟩ := rall_m n hn h1' hp 12 (by omega)
        have h1'' := h1'.fq e2
        obtain ⟨u2, t2, f1, f2, w2, f3, f4⟩ := rall_m n hn h1'' hp k (by omega)
        have hB := h1'.1.2.2.2.1
        have hB1 := hB
        have hB2 := h1''.1.2.2.2.1
        have m1 := h1''.2.1.2.1
        have m2 := (h1''.fq f2).2.1.2.1
        refine ⟨wM (wM τ1 u1 t1) u2 t2, ?_, e2.tr f2⟩
        obtain ⟨-, mt1, -, -, -, -, y51, -⟩ := e4
        obtain ⟨-, mt2, -, -, -, -, y52, -⟩ := f4
        have al1 := allh_m (σ := τ1) (g := u1) (t := t1) (th := cT (dC D)) (hd := tH (rR D exN (rH D exN) (ndN D 12) (ldN D) (da D))) n (by omega) hB1 isT54 y51 (by rw [exN_J]; exact hJ) m1.1 (fun i hi => (mt1.2.2.2.2.2 i hi).1)
        have al2 := allh_m (σ := wM τ1 u1 t1) (g := u2) (t := t2) (th := cT (dC D)) (hd := tH (rR D exN (rH D exN) (ndN D k) (ldN D) (da D))) n (by omega) hB2 isT54 y52 (by rw [exN_J]; exact hJ) m2.1 (fun i hi => (mt2.2.2.2.2.2 i hi).1)
        have e1' : F_X12_runAll n 48 12 τ1 = _ := e1
        obtain ⟨⟨M0, M1, M2, M3, M4, M5, M6, M7, M8, M9, M10, M11, M12, M28, M29⟩, K49, K50, K51, K52, K53, K54, K55, K56, K57, K58, K59, K60, K61, K62, K63⟩ := hB
        unfold F_X12_lost
        rw [qk_b2 (isIn_v n (y := 1) (z := 12) (nI k) 1 12 rfl rfl rfl _), if_neg (show ¬ (nI k < 1 ∨ 12 < nI k) from h0), if_neg (by decide), j0_m h1', if_neg hz, qk_b2 e1', wM_R (by decide), M5, qk_s1, qk_b2 al1, qk_b2 f1, wM_R (by decide), wM_R (by decide), M5, qk_s1, qk_b2 al2, a3.2.2.2.1, b3'.2.2.2.1]
        rfl
