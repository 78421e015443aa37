/-! slips, moved, out -/
theorem q_slips {τ : Hp} {D : Dt} {lno : Nat → Int32} {ot : Option Tk} (n : Nat) (hn : 4000 < n) (h : Inv τ D lno ot) (a : Int32) : BQ τ D lno ot (F_X11_slips n 0 a) (F_X12_slips n 48 a) := by
  have hJ := h.2.1.2.2.1.1.1
  by_cases hz : cJ (dC D) = 0
  · refine BQ.of (-3) ?_ (fun τ1 h1 => ?_)
    · unfold F_X11_slips
      rw [j0_c h, if_pos hz]
    · unfold F_X12_slips
      rw [j0_m h1, if_pos hz]
  · have hp : 0 < cJ (dC D) := by omega
    obtain ⟨g, R, a1, a2, a3, a4⟩ := rim_c n hn h hp
    have L := h.1.1
    have R01 : R 0 1 = some 11 := (a2.2.2.2.2 0 1 (by omega)).trans L.2.1
    have hJC : cJ (rC D exN) ≤ 12 := by rw [exN_J]; exact hJ
    refine ⟨if a = 0 then g 11 12 else g 11 13, ⟨wA τ g R, ?_, a2.q⟩, fun τ1 h1 => ?_⟩
    · unfold F_X11_slips
      rw [j0_c h, if_neg hz, qk_b1 a1]
      by_cases h0 : a = 0
      · rw [if_pos h0, if_pos h0, wA_R, R01, qk_s1, wA_I]
      · rw [if_neg h0, if_neg h0, wA_R, R01, qk_s1, wA_I]
    · obtain ⟨g', t', b1', b2', g1, b3', b4'⟩ := rnow_m n hn h1 hp
      have hB := h1.1.2.2.2.1
      have hB0 := hB
      obtain ⟨⟨M0, M1, M2, M3, M4, M5, M6, M7, M8, M9, M10, M11, M12, M28, M29⟩, K49, K50, K51, K52, K53, K54, K55, K56, K57, K58, K59, K60, K61, K62, K63⟩ := hB
      obtain ⟨-, mt, y26, y27, -, -, y5, -⟩ := b4'
      obtain ⟨x, x1, x2⟩ := slof_m (σ := τ1) (g := g') (t := t') (sl := tS (rR D exN (rH D exN) (ndN D (dk D)) (ldN D) (da D))) n (by omega) hB0 isT54 y5 hJC (fun i hi => (mt.2.2.2.2.2 i hi).2.2.1)
      refine ⟨wM τ1 g' t', ?_, b2'⟩
      unfold F_X12_slips
      rw [j0_m h1, if_neg hz, qk_b2 b1']
      by_cases h0 : a = 0
      · rw [if_pos h0, if_pos h0, wM_R (by decide), M5, qk_s1, qk_b2 x1, isM_eq x2 a3.2.2.1]
      · rw [if_neg h0, if_neg h0, wM_I, isM_eq y27 a4]
theorem q_moved {τ : Hp} {D : Dt} {lno : Nat → Int32} {ot : Option Tk} (n : Nat) (hn : 4000 < n) (h : Inv τ D lno ot) (a w : Int32) : BQ τ D lno ot (F_X11_moved n 0 a w) (F_X12_moved n 48 a w) := by
  have hJ := h.2.1.2.2.1.1.1
  have hth := h.2.1.2.2.1.1.2.1
  have L := h.1.1
  by_cases h0 : a < 0 ∨ nI (cJ (dC D)) ≤ a
  · refine BQ.of (-1000000001) ?_ (fun τ1 h1 => ?_)
    · unfold F_X11_moved
      rw [L.1, qk_s1, qk_b2 (seat_r n h.2.1.1.2.2.1), if_pos h0, if_pos rfl]
    · obtain ⟨t, ht⟩ := at_m h1
      rw [ht]
      unfold F_X12_moved
      rw [qk_b2 (jur_m n h1.1.2.2.2.1 h1.2.1.2.1.2.1 hJ), if_pos h0, if_pos rfl]
  · obtain ⟨j, hj, rfl⟩ := seat_j hJ h0
    have hp : 0 < cJ (dC D) := by omega
    by_cases hw : w < 0 ∨ nI 2 < w
    · refine BQ.of (-1000000001) ?_ (fun τ1 h1 => ?_)
      · unfold F_X11_moved
        rw [L.1, qk_s1, qk_b2 (seat_r n h.2.1.1.2.2.1), if_neg h0, if_neg (by decide)]
        by_cases h2 : w < 0
        · rw [if_pos h2]
        · rw [if_neg h2, if_neg (show ¬ w ≤ 2 from fun q => (Int32.not_le.mpr (hw.resolve_left h2)) q)]
      · obtain ⟨t, ht⟩ := at_m h1
        rw [ht]
        unfold F_X12_moved
        rw [qk_b2 (jur_m n h1.1.2.2.2.1 h1.2.1.2.1.2.1 hJ), if_neg h0, if_neg (by decide), qk_b2 (isIn_v n (y := 0) (z := 2) w 0 2 rfl rfl rfl _), if_pos (show w < 0 ∨ 2 < w from hw), if_pos rfl]
    · obtain ⟨q, hq, rfl⟩ := what_j (by omega) hw
      have c0 : ¬ nI q < 0 := fun z => hw (Or.inl z)
      have c2 : nI q ≤ 2 := nle_lt (fun z => hw (Or.inr z))
      obtain ⟨g, R, a1, a2, a3, a4⟩ := rim_c n hn h hp
      have r11 := h.1.2.2.1.2.1
      have r0 := r11
      obtain ⟨r65, ⟨R1, R3, R4, R6, R7, R15, R16, R17, R18⟩, L1, L2, L3, L4, L5, L6, L7, L8, L9⟩ := r0
      have R01 : ∀ g' : Nat → Nat → Int32, hR (wA τ g' R) 0 1 = some 11 := fun _ => (a2.2.2.2.2 0 1 (by omega)).trans L.2.1
      have R1x : ∀ j, R 11 j = hR τ 11 j := fun j => a2.2.2.2.2 11 j (by omega)
      have hjC : j < cJ (rC D exN) := by rw [exN_J]; exact hj
      obtain ⟨gb, b1', b2', b3'⟩ := a2.begin n (by omega)
      rw [exN_l hp] at b3'
      have hww := rR_w (nd := ndN D (dk D)) (ha := da D) h hp (show ldN D < cJ (dC D) from ldS_lt hp)
      generalize hRR : rR D exN (rH D exN) (ndN D (dk D)) (ldN D) (da D) = RR at a3 hww
      generalize hBB : rB D exN (rH D exN) (ldN D) (da D) = BB at b3'
      have hBh : tH BB j = dH D j := by
        rw [← hBB]
        show dH D (pkx exN (cJ (dC D)) j) = _
        rw [exN_x hj]
      have x3 := a3.2.2.2.2.1 j hjC
      have y3 := b3'.2.2.2.2.1 j hjC
      refine ⟨(match q with
        | 0 => wgh (cS (dC D)) (tH RR j) (cT (dC D)) - wgh (cS (dC D)) (dH D j) (cT (dC D))
        | 1 => tP RR j - tP BB j
        | _ => if tG RR j = 0 then 0 else 1), ?_, fun τ1 h1 => ?_⟩
      · have at7 : ∀ (g' : Nat → Nat → Int32) (row : Nat), row = 18 ∨ row = 19 → F_X11_at n row (nI j) (wA τ g' R) = some (g' row j, wA τ g' R) := fun g' row hr => q_at n (σ := wA τ g' R) (N := 12) (by rcases hr with rfl | rfl <;> assumption) (by omega) (by omega)
        have R01' : R 0 1 = some 11 := R01 g
        unfold F_X11_moved F_X11_moved_70
        rw [L.1, qk_s1, qk_b2 (seat_r n h.2.1.1.2.2.1), if_neg h0, if_neg (by decide), if_neg c0, if_pos c2, qk_b1 a1]
        obtain rfl | rfl | rfl : q = 0 ∨ q = 1 ∨ q = 2 := by omega
        · refine ⟨wA τ gb R, ?_, b2'.q⟩
          rw [if_neg (show ¬ nI 0 = 2 by decide), if_pos (show nI 0 = 0 from rfl), wA_R, R01', qk_s1, R1x, R16, qk_s1, qk_b2 (at7 g 18 (Or.inl rfl)), wA_R, R01', qk_s1, qk_b1 b1', qk_b2 (at7 gb 18 (Or.inl rfl)), x3.2.1, y3.2.1, hBh]
          rfl
        · refine ⟨wA τ gb R, ?_, b2'.q⟩
          rw [if_neg (show ¬ nI 1 = 2 by decide), if_neg (show ¬ nI 1 = 0 by decide), wA_R, R01', qk_s1, R1x, R17, qk_s1, qk_b2 (at7 g 19 (Or.inr rfl)), wA_R, R01', qk_s1, qk_b1 b1', qk_b2 (at7 gb 19 (Or.inr rfl)), x3.2.2.1, y3.2.2.1]
          rfl
        · refine ⟨wA τ g R, ?_, a2.q⟩
          have gi := gin_c (σ := wA τ g R) (g := g) n ((R1x 18).trans R18) L9 (show j < 12 by omega) x3.2.2.2 (hww.2.2.2 j hjC)
          have gi' : F_X3_gaveIn n 11 (nI j) (wA τ g R) = _ := gi
          rw [if_pos (show nI 2 = 2 from rfl), wA_R, R01', qk_s1, qk_b2 gi']
          by_cases z : tG RR j = 0
          · rw [if_pos z, if_pos rfl]
            rfl
          · rw [if_neg z, if_neg (by decide)]
            rfl
      · obtain ⟨g', t', b1', b2', g1, b3', b4'⟩ := rnow_m n hn h1 hp
        have hB := h1.1.2.2.2.1
        have hB0 := hB
        have m := h1.2.1.2.1
        obtain ⟨⟨M0, M1, M2, M3, M4, M5, M6, M7, M8, M9, M10, M11, M12, M28, M29⟩, K49, K50, K51, K52, K53, K54, K55, K56, K57, K58, K59, K60, K61, K62, K63⟩ := hB
        obtain ⟨y0, mt, y26, y27, y62, -, y5, -⟩ := b4'
        rw [hRR] at mt
        rw [hBB] at y62
        obtain ⟨t, ht⟩ := at_m h1
        have kj : F_X12_isJuror n 48 (nI j) τ1 = some (1, τ1) := by
          have := jur_m (σ := τ1) (g := hI τ1) (t := t) (a := nI j) n hB0 m.2.1 hJ
          rw [if_neg h0, ← ht] at this
          exact this
        have e49 : ∀ p, g' 49 p = hI τ1 49 p := fun p => by rw [y0 49 p (by omega) (by omega) (by omega) (by omega)]; exact b3' 49 p (by omega)
        have m' : g' 49 0 = nI (cT (dC D)) := (e49 0).trans m.1
        have ms : ∀ t, t < cT (dC D) → g' 49 (7 + t) = cS (dC D) t := fun t ht => (e49 _).trans (m.2.2.2.1 t ht)
        have hget := get_m (σ := τ1) (g := g') (t := t') (k := j) (x := 6) (x' := 6) n hB0 rfl (by omega) (by omega)
        rw [e49, (m.2.2.2.2.2.2.2.2.1 j hj).2.2.2.2.2.2] at hget
        have mj := mt.2.2.2.2.2 j hjC
        refine ⟨wM τ1 g' t', ?_, b2'⟩
        unfold F_X12_moved
        rw [qk_b2 kj, if_neg (by decide), qk_b2 (isIn_v n (y := 0) (z := 2) (nI q) 0 2 rfl rfl rfl _), if_neg (show ¬ (nI q < 0 ∨ 2 < nI q) from hw), if_neg (by decide), qk_b2 b1']
        obtain rfl | rfl | rfl : q = 0 ∨ q = 1 ∨ q = 2 := by omega
        · rw [if_pos (show nI 0 = 0 from rfl), wM_R (by decide), M5, qk_s1, l_19, wM_L, K54, qk_in (by omega) (by omega), nI_clamp (by omega), wM_I, mj.1, qk_b2 (spk_m n (by omega) hB0 m' hth ms), qk_b2 hget, qk_b2 (spk_m n (by omega) hB0 m' hth ms)]
          rfl
        · rw [if_neg (show ¬ nI 1 = 0 by decide), if_pos (show nI 1 = 1 from rfl), wM_R (by decide), M5, qk_s1, l_31, wM_L, K54, qk_in (by omega) (by omega), wM_R (by decide), M28, qk_s1, K62, qk_in (by omega) (by omega), nI_clamp (by omega), nI_clamp (by omega), wM_I, mj.2.1, y62 j hjC]
          rfl
        · rw [if_neg (show ¬ nI 2 = 0 by decide), if_neg (show ¬ nI 2 = 1 by decide), wM_R (by decide), M5, qk_s1, l_55, wM_L, K54, qk_in (by omega) (by omega), nI_clamp (by omega), wM_I, mj.2.2.2]
          have hg2 := hww.2.2.2 j hjC
          by_cases z : tG RR j = 0
          · rw [z, if_pos (by decide)]
            rfl
          · rw [if_neg (nI_nle (by omega) (by omega)), if_neg z]
            rfl
/-- once all hold a thing, all hold it -/
def shS (C : Ct) (T : Tk) (q : Nat) : Bool := bi (allH (cT C) (tH T) (cJ C)) q
theorem sh_turn {C : Ct} {T : Tk} {q : Nat} (hC : CW C) (hq : q < 12) (h : shS C T q = true) : shS C (turnS C T) q = true := by
  have key : ∀ U : Tk, (∀ j, bi (tH T j) q = true → bi (tH U j) q = true) → shS C U q = true := by
    intro U hU
    unfold shS at h ⊢
    rw [allH_b hC.2.2.1 (by omega)] at h ⊢
    simp only [Bool.and_eq_true, decide_eq_true_eq] at h ⊢
    exact ⟨h.1, fun j hj => hU j (h.2 j hj)⟩
  have k1 : ∀ j, bi (tH T j) q = true → bi (tH (thingS C T (tX T)) j) q = true := fun j hj => by
    unfold thingS
    split
    · exact hj
    · show bi (tH T j ||| b1s _) q = true
      rw [bi_or (by omega), hj]; rfl
  refine key _ ?_
  show ∀ j, bi (tH T j) q = true → bi (tH (actS C T (tX T)) j) q = true
  unfold actS
  split
  · exact k1
  · exact fun j hj => hj
  · exact fun j hj => hj
  · exact k1
  · exact fun j hj => hj
  · unfold sleepS
    split
    · exact fun j hj => hj
    · split <;> exact fun j hj => hj
  · exact fun j hj => hj
theorem out_end {C : Ct} {nd li q : Nat} (hC : CW C) (hq : q < 12) : ∀ f (T : Tk) (o : Nat → Int32), shS C T q = true → 0 ≤ o q → runO C nd li f T o q = o q := by
  intro f
  induction f with
  | zero => intro T o _ _; rfl
  | succ f ih =>
    intro T o h1 h2
    simp only [runO]
    split
    · have e : markS C o (turnS C T) (nI (tM T)) q = o q := by
        unfold markS
        by_cases z : bi (allH (cT C) (tH (turnS C T)) (cJ C)) q = true
        · rw [if_pos z, if_pos h2]
        · rw [if_neg z]
      rw [ih _ _ (sh_turn hC hq h1) (by rw [e]; exact h2), e]
    · rfl
theorem q_out {τ : Hp} {D : Dt} {lno : Nat → Int32} {ot : Option Tk} (n : Nat) (hn : 4000 < n) (h : Inv τ D lno ot) (a : Int32) : BQ τ D lno ot (F_X11_out n 0 a) (F_X12_out n 48 a) := by
  have hJ := h.2.1.2.2.1.1.1
  have hth := h.2.1.2.2.1.1.2.1
  have L := h.1.1
  have mIn : ∀ τ1, Inv τ1 D lno ot → ∀ f : Int32 → Hp → Option (Int32 × Hp), (b1 (hR τ1 48 0) fun i1 => ck (¬ ((0 : Int32) < 0 ∨ hL τ1 i1 ≤ (0 : Int32).toNatClampNeg)) (b2 (F_X12_isIn n a.toInt64 0 (((hI τ1 i1 (0 : Int32).toNatClampNeg) - 1).toInt64) τ1) f)) = f (if a < 0 ∨ nI (cT (dC D)) ≤ a then 0 else 1) τ1 := fun τ1 h1 f => by
    have hB := h1.1.2.2.2.1
    obtain ⟨⟨M0, M1, M2, M3, M4, M5, M6, M7, M8, M9, M10, M11, M12, M28, M29⟩, K49, K50, K51, K52, K53, K54, K55, K56, K57, K58, K59, K60, K61, K62, K63⟩ := hB
    rw [M0, qk_s1, K49, z_0, kq_0 (by decide), h1.2.1.2.1.1, qk_b2 (isIn_v n (y := 0) a 0 (nI (cT (dC D)) - 1) rfl rfl rfl _)]
    congr 1
    by_cases h0 : a < 0 ∨ nI (cT (dC D)) ≤ a
    · rw [if_pos h0, if_pos (h0.imp id (nI_p1 hth).mpr)]
    · rw [if_neg h0, if_neg (fun q => h0 (q.imp id (nI_p1 hth).mp))]
  by_cases h0 : a < 0 ∨ nI (cT (dC D)) ≤ a
  · refine BQ.of (-1) ?_ (fun τ1 h1 => ?_)
    · unfold F_X11_out
      by_cases h2 : a < 0
      · rw [if_pos h2]
      · rw [if_neg h2, L.1, qk_s1, h.2.1.1.2.1, if_neg (fun q => Int32.not_le.mpr q (h0.resolve_left h2))]
    · unfold F_X12_out
      rw [mIn τ1 h1, if_pos h0, if_pos rfl]
  · obtain ⟨q, hq, rfl⟩ := seat_j hth h0
    have c0 : ¬ nI q < 0 := fun z => h0 (Or.inl z)
    have cT' : nI q < nI (cT (dC D)) := nI_lt hq (by omega)
    by_cases hz : cJ (dC D) = 0
    · refine BQ.of (-3) ?_ (fun τ1 h1 => ?_)
      · have := j0_c h (some (-3, τ)) (b1 (hR τ 0 1) fun i15 => b1 (hR τ 0 0) fun i16 => b1 (F_X3_seatFrom n i15 i16 0 τ) fun σ17 => b1 (hR σ17 0 1) fun i18 => b1 (F_X3_beginTalk n i18 σ17) fun σ19 => F_X11_out_53 n n 0 (nI q) 0 0 σ19)
        unfold F_X11_out
        rw [if_neg c0, L.1, qk_s1, h.2.1.1.2.1, if_pos cT']
        rw [L.1] at this
        rw [this, if_pos hz]
      · unfold F_X12_out
        rw [mIn τ1 h1, if_neg h0, if_neg (by decide), j0_m h1, if_pos hz]
    · have hp : 0 < cJ (dC D) := by omega
      have hW := cw_r (ex := exN) h.2.1.2.2.1 (by rw [exN_p]; exact hp)
      obtain ⟨g, R, a1, a2⟩ := mind_c (ex := exN) (wo := 0) n (by omega) h (fun i hi => exN_b i (by omega)) (by rw [exN_p]; exact hp)
      obtain ⟨gb, b1', b2', b3'⟩ := a2.begin n (by omega)
      rw [exN_l hp] at b3'
      have hli := h.2.1.1.2.2.2.2.2.2.2.2.2.2.2.2.2.2
      have hw0 : TW (rC D exN) (rB D exN (rH D exN) (ldN D) (da D)) := begin_w (by rw [exN_J]; exact ldS_lt hp) (hs_r h.2.1.2.2.1)
      refine ⟨runO (rC D exN) (ndN D (dk D)) (di D) 3000 (rB D exN (rH D exN) (ldN D) (da D)) (markS (rC D exN) (fun _ => -4) (rB D exN (rH D exN) (ldN D) (da D)) 0) q, ?_, fun τ1 h1 => ?_⟩
      · have hnd : min (dk D) (cJ (rC D exN)) = ndN D (dk D) := by rw [exN_J]; rfl
        have loop : ∀ f i m (T : Tk) (gg : Nat → Nat → Int32) (v : Int32) (o : Nat → Int32), f + i = 3000 → f < m → i ≤ tM T → tM T ≤ 40 * i → TW (rC D exN) T → CT (wA τ gg R) gg 11 (rC D exN) T → Sd τ D exN (rH D exN) gg R (dk D) (ldP exN (ldS (dl D) (cJ (dC D)))) (da D) → (shS (rC D exN) T q = true → o q = v ∧ 0 ≤ v) → (shS (rC D exN) T q = false → o q = -4) → ∃ g', F_X11_out_53 n m 0 (nI q) v (nI i) (wA τ gg R) = some (runO (rC D exN) (ndN D (dk D)) (di D) f T o q, wA τ g' R) ∧ Sd τ D exN (rH D exN) g' R (dk D) (ldP exN (ldS (dl D) (cJ (dC D)))) (da D) := by
          intro f
          induction f with
          | zero =>
            intro i m T gg v o hi hm t1 t2 w1 w2 w3 o1 o2
            obtain ⟨m, rfl⟩ : ∃ q, m = q + 1 := ⟨m - 1, by omega⟩
            have R01 : R 0 1 = some 11 := (w3.2.2.2.2 0 1 (by omega)).trans L.2.1
            have e14 : gg 11 14 = allH (cT (rC D exN)) (tH T) (cJ (rC D exN)) := w2.2.2.2.1
            refine ⟨gg, ?_, w3⟩
            simp only [F_X11_out_53, F_X11_out_104, runO]
            unfold F_X3_isShared
            rw [show (3000 : Int32) = nI 3000 from rfl, if_pos (nI_le (by omega) (by omega)), wA_R, R01, qk_s1, wA_I, e14, bi_v]
            cases hs : shS (rC D exN) T q
            · have hs' : bi (allH (cT (rC D exN)) (tH T) (cJ (rC D exN))) q = false := hs
              rw [hs', if_neg (by decide), qk_s2, if_pos rfl, o2 hs]
            · have hs' : bi (allH (cT (rC D exN)) (tH T) (cJ (rC D exN))) q = true := hs
              rw [hs', if_pos (by decide), qk_s2, if_neg (by decide), (o1 hs).1]
          | succ f ih =>
            intro i m T gg v o hi hm t1 t2 w1 w2 w3 o1 o2
            obtain ⟨m, rfl⟩ : ∃ q, m = q + 1 := ⟨m - 1, by omega⟩
            have R01 : R 0 1 = some 11 := (w3.2.2.2.2 0 1 (by omega)).trans L.2.1
            have e14 : gg 11 14 = allH (cT (rC D exN)) (tH T) (cJ (rC D exN)) := w2.2.2.2.1
            have u := w3.2.1
            have he := end_c (σ := wA τ gg R) (g := gg) n w3.1 w2 u.1 u.2.2.1 u.2.2.2.2.2.2.1 u.2.2.2.2.2.2.2 (by omega)
            rw [hnd] at he
            have he' : F_X3_ends n 11 (wA τ gg R) = some (endS (rC D exN) (ndN D (dk D)) (di D) T, wA τ gg R) := he
            simp only [F_X11_out_53, F_X11_out_104]
            unfold F_X3_isShared
            rw [show (3000 : Int32) = nI 3000 from rfl, if_neg (nI_ge (by omega) (by omega)), wA_R, R01, qk_s1, wA_I, e14, bi_v]
            cases hs : shS (rC D exN) T q
            · have hs' : bi (allH (cT (rC D exN)) (tH T) (cJ (rC D exN))) q = false := hs
              simp only [runO]
              rw [hs', if_neg (by decide), qk_s2, if_pos rfl, wA_R, R01, qk_s1, qk_b2 he']
              by_cases c1 : endS (rC D exN) (ndN D (dk D)) (di D) T = -4
              · rw [if_pos c1, if_pos c1, wA_R, R01, qk_s1, qk_s1]
                obtain ⟨g', s1, s2, s3⟩ := step_c (σ := wA τ gg R) (g := gg) n (by omega) w3.1 w2 w1 (by omega)
                have s1' : F_X3_step n 11 (wA τ gg R) = some (wA τ g' R) := s1
                have hm1 := turn_m (C := rC D exN) (T := T)
                have hmm := (hW.2.2.2.2 _ w1.2.1).2
                have h14 : ∀ i, g' 14 i = gg 14 i := fun i => s2 14 i (fun z => by
                  rcases z with z | z | z
                  · omega
                  · omega
                  · exact stk_lo (by omega) z)
                have w3' : Sd τ D exN (rH D exN) g' R (dk D) (ldP exN (ldS (dl D) (cJ (dC D)))) (da D) := ⟨w3.1.fr s2, w3.2.1.fr (by omega) (WC.t s2), fun i hi => (h14 i).trans (w3.2.2.1 i hi), wt_sd (WC.t s2) w3.2.2.2.1, w3.2.2.2.2⟩
                rw [qk_b1 s1', wA_I, w2.1, ← nI_succ]
                refine ih (i + 1) m (turnS (rC D exN) T) g' (nI (tM T)) _ (by omega) (by omega) (by omega) (by omega) (turn_w hW w1) s3 w3' (fun z => ?_) (fun z => ?_)
                · unfold markS
                  have z' : bi (allH (cT (rC D exN)) (tH (turnS (rC D exN) T)) (cJ (rC D exN))) q = true := z
                  rw [z', if_pos rfl, o2 hs, if_neg (by decide)]
                  exact ⟨rfl, nI_pos' (by omega)⟩
                · unfold markS
                  have z' : bi (allH (cT (rC D exN)) (tH (turnS (rC D exN) T)) (cJ (rC D exN))) q = false := z
                  rw [z', if_neg (by decide)]
                  exact o2 hs
              · rw [if_neg c1, if_neg c1, wA_R, R01, qk_s1, wA_I, e14, bi_v, hs', if_neg (by decide), qk_s2, if_pos rfl, o2 hs]
                exact ⟨gg, rfl, w3⟩
            · have hs' : bi (allH (cT (rC D exN)) (tH T) (cJ (rC D exN))) q = true := hs
              obtain ⟨o3, o4⟩ := o1 hs
              rw [hs', if_pos (by decide), qk_s2, if_neg (by decide), wA_R, R01, qk_s1, wA_I, e14, bi_v, hs', if_pos (by decide), qk_s2, if_neg (by decide), out_end hW (by omega) (f + 1) T o hs (by rw [o3]; exact o4), o3]
              exact ⟨gg, rfl, w3⟩
        obtain ⟨g', l1, l2⟩ := loop 3000 0 n (rB D exN (rH D exN) (ldN D) (da D)) gb 0 (markS (rC D exN) (fun _ => -4) (rB D exN (rH D exN) (ldN D) (da D)) 0) (by omega) (by omega) (Nat.zero_le _) (by show 0 ≤ 40 * 0; omega) hw0 b3' b2' (fun z => by
          unfold markS
          have z' : bi (allH (cT (rC D exN)) (tH (rB D exN (rH D exN) (ldN D) (da D))) (cJ (rC D exN))) q = true := z
          rw [z', if_pos rfl, if_neg (show ¬ (0 : Int32) ≤ -4 by decide)]
          exact ⟨rfl, by decide⟩) (fun z => by
          unfold markS
          have z' : bi (allH (cT (rC D exN)) (tH (rB D exN (rH D exN) (ldN D) (da D))) (cJ (rC D exN))) q = false := z
          rw [z', if_neg (by decide)])
        refine ⟨wA τ g' R, ?_, l2.q⟩
        have R01 : R 0 1 = some 11 := (a2.2.2.2.2 0 1 (by omega)).trans L.2.1
        unfold F_X11_out
        rw [if_neg c0, L.1, qk_s1, h.2.1.1.2.1, if_pos cT', qk_s1, h.2.1.1.2.2.1, if_neg (nI_ne0 (by omega) (by omega)), L.2.1, qk_s1, qk_s1, qk_b1 a1, wA_R, R01, qk_s1, qk_b1 b1']
        rw [q_0]
        exact l1
      · obtain ⟨g', t', b1', b2', g1, b3', b4'⟩ := rnow_m n hn h1 hp
        have hB := h1.1.2.2.2.1
        obtain ⟨⟨M0, M1, M2, M3, M4, M5, M6, M7, M8, M9, M10, M11, M12, M28, M29⟩, K49, K50, K51, K52, K53, K54, K55, K56, K57, K58, K59, K60, K61, K62, K63⟩ := hB
        obtain ⟨y0, mt, y26, y27, y62, y63, y5, -⟩ := b4'
        refine ⟨wM τ1 g' t', ?_, b2'⟩
        unfold F_X12_out
        rw [mIn τ1 h1, if_neg h0, if_neg (by decide), j0_m h1, if_neg hz, qk_b2 b1', wM_R (by decide), M29, qk_s1, wM_L, K63, qk_in (by omega) (by omega), nI_clamp (by omega), wM_I, y63 q hq]
