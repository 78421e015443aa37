/-! calls that run in mind, on both sides -/
def exN : Nat → Bool := fun _ => false
def ndN (D : Dt) (k : Nat) : Nat := min k (cJ (dC D))
def ldN (D : Dt) : Nat := ldS (dl D) (cJ (dC D))
theorem exN_J (D : Dt) : cJ (rC D exN) = cJ (dC D) := (pk_all (cJ (dC D))).1
theorem exN_p (D : Dt) : pkn exN (cJ (dC D)) = cJ (dC D) := (pk_all (cJ (dC D))).1
theorem exN_x {D : Dt} {i : Nat} (h : i < cJ (dC D)) : pkx exN (cJ (dC D)) i = i := (pk_all (cJ (dC D))).2 i h
theorem exN_l {D : Dt} (h : 0 < cJ (dC D)) : ldS (ldP exN (ldS (dl D) (cJ (dC D)))) (cJ (rC D exN)) = ldN D := by
  have h1 : ldP exN (ldS (dl D) (cJ (dC D))) = ldS (dl D) (cJ (dC D)) := by
    show (if false = true then 0 else pkn exN _) = _
    rw [if_neg (by decide)]
    exact (pk_all _).1
  rw [h1, exN_J]
  unfold ldN
  have := ldS_lt (lr := dl D) h
  show (if ldS (dl D) (cJ (dC D)) < cJ (dC D) then ldS (dl D) (cJ (dC D)) else 0) = _
  rw [if_pos this]
theorem exN_b : ∀ i, i < 12 → bi 0 i = exN i := fun i hi => bi_0 i (by omega)
theorem run_b {C : Ct} {nd li : Nat} (hC : CW C) (hli : li ≤ 3000) : ∀ f T, TW C T → tM T ≤ 3030 → tM (runS C nd li f T) ≤ 3030 := by
  intro f
  induction f with
  | zero => intro T h h2; exact h2
  | succ f ih =>
    intro T h h2
    unfold runS
    split
    · next q =>
      refine ih _ (turn_w hC h) ?_
      rw [turn_m]
      have h3 := end_m q
      have h4 := (hC.2.2.2.2 _ h.2.1).2.2
      omega
    · exact h2
theorem rR_w {τ : Hp} {D : Dt} {lno : Nat → Int32} {ot : Option Tk} {nd ld : Nat} {ha : Bool} (h : Inv τ D lno ot) (hp : 0 < cJ (dC D)) (hl : ld < cJ (dC D)) : TW (rC D exN) (rR D exN (rH D exN) nd ld ha) := run_w (cw_r h.2.1.2.2.1 (by rw [exN_p]; exact hp)) _ _ (begin_w (by rw [exN_J]; exact hl) (hs_r h.2.1.2.2.1))
theorem rR_b' {τ : Hp} {D : Dt} {lno : Nat → Int32} {ot : Option Tk} {nd ld : Nat} {ha : Bool} (h : Inv τ D lno ot) (hp : 0 < cJ (dC D)) (hl : ld < cJ (dC D)) : tM (rR D exN (rH D exN) nd ld ha) ≤ 3030 := run_b (cw_r h.2.1.2.2.1 (by rw [exN_p]; exact hp)) h.2.1.1.2.2.2.2.2.2.2.2.2.2.2.2.2.2 _ _ (begin_w (by rw [exN_J]; exact hl) (hs_r h.2.1.2.2.1)) (by show 0 ≤ 3030; omega)
theorem rR_b {τ : Hp} {D : Dt} {lno : Nat → Int32} {ot : Option Tk} {nd ld : Nat} {ha : Bool} (h : Inv τ D lno ot) (hp : 0 < cJ (dC D)) : tM (rR D exN (rH D exN) nd (ldN D) ha) ≤ 3030 := rR_b' h hp (ldS_lt hp)
/-- the class's run in mind -/
theorem rim_c {τ : Hp} {D : Dt} {lno : Nat → Int32} {ot : Option Tk} (n : Nat) (hn : 4000 < n) (h : Inv τ D lno ot) (hp : 0 < cJ (dC D)) : ∃ g R, F_X11_runInMind n 0 τ = some (wA τ g R) ∧ Sd τ D exN (rH D exN) g R (dk D) (ldP exN (ldS (dl D) (cJ (dC D)))) (da D) ∧ CT (wA τ g R) g 11 (rC D exN) (rR D exN (rH D exN) (ndN D (dk D)) (ldN D) (da D)) ∧ isM (cJ (rC D exN)) (tS (rB D exN (rH D exN) (ldN D) (da D))) (g 11 13) := by
  obtain ⟨g, R, a1, a2⟩ := mind_c (ex := exN) (wo := 0) n (by omega) h (fun i hi => exN_b i (by have := h.2.1.2.2.1.1.1; omega)) (by rw [exN_p]; exact hp)
  obtain ⟨g', b1', b2', b3', b4'⟩ := a2.run n hn (hs_r h.2.1.2.2.1)
  have L := h.1.1
  rw [exN_l hp] at b1' b3' b4'
  rw [exN_J] at b1' b3'
  refine ⟨g', R, ?_, b2', b3', b4'⟩
  unfold F_X11_runInMind
  rw [L.2.1, qk_s1, L.1, qk_s1, qk_b1 a1, wA_R, a2.2.2.2.2 0 1 (by omega), L.2.1, qk_s1, qk_b2 b1']
/-- a run by a rule so and so -/
theorem ewr_c {τ : Hp} {D : Dt} {lno : Nat → Int32} {ot : Option Tk} (n : Nat) (hn : 4000 < n) (h : Inv τ D lno ot) (hp : 0 < cJ (dC D)) (w : Nat) (hw : w < 3) (v : Nat) (hv : (w = 0 → 1 ≤ v ∧ v ≤ 12) ∧ (w = 1 → v < cJ (dC D)) ∧ (w = 2 → v ≤ 1)) : ∃ g R, F_X11_endWithRule n 0 (nI w) (nI v) τ = some (rE D exN (rH D exN) (ndN D (if w = 0 then v else dk D)) (if w = 1 then v else ldN D) (if w = 2 then decide (v = 1) else da D), wA τ g R) ∧ Fq τ (wA τ g R) ∧ CT (wA τ g R) g 11 (rC D exN) (rR D exN (rH D exN) (ndN D (if w = 0 then v else dk D)) (if w = 1 then v else ldN D) (if w = 2 then decide (v = 1) else da D)) := by
  have hJ := h.2.1.2.2.1.1.1
  obtain ⟨g, R, a1, a2⟩ := mind_c (ex := exN) (wo := 0) n (by omega) h (fun i hi => exN_b i (by omega)) (by rw [exN_p]; exact hp)
  have L := h.1.1
  have r11 := h.1.2.2.1.2.1
  have r0 := r11
  obtain ⟨r65, ⟨R1, R3, R4, R6, R7, R15, R16, R17, R18⟩, L1, L2, L3, L4, L5, L6, L7, L8, L9⟩ := r0
  have hst := q_st (σ := wA τ g R) (a := 16) (i := w) (N := 4) n (nI v) L5 (by omega) (by omega)
  have key : ∀ k lr ha, Sd τ D exN (rH D exN) (up2 g 16 w (nI v)) R k lr ha → min k (cJ (rC D exN)) = ndN D (if w = 0 then v else dk D) → ldS lr (cJ (rC D exN)) = (if w = 1 then v else ldN D) → ha = (if w = 2 then decide (v = 1) else da D) → ∃ g R, F_X11_endWithRule n 0 (nI w) (nI v) τ = some (rE D exN (rH D exN) (ndN D (if w = 0 then v else dk D)) (if w = 1 then v else ldN D) (if w = 2 then decide (v = 1) else da D), wA τ g R) ∧ Fq τ (wA τ g R) ∧ CT (wA τ g R) g 11 (rC D exN) (rR D exN (rH D exN) (ndN D (if w = 0 then v else dk D)) (if w = 1 then v else ldN D) (if w = 2 then decide (v = 1) else da D)) := by
    intro k lr ha hS e1 e2 e3
    obtain ⟨g', b1', b2', b3', b4'⟩ := hS.run n hn (hs_r h.2.1.2.2.1)
    rw [e1, e2, e3] at b1' b3'
    refine ⟨g', R, ?_, b2'.q, b3'⟩
    unfold F_X11_endWithRule
    rw [L.2.1, qk_s1, L.1, qk_s1, qk_b1 a1, wA_R, a2.2.2.2.2 0 1 (by omega), L.2.1, qk_s1, a2.2.2.2.2 11 7 (by omega), R7, qk_s1]
    rw [qk_b1 hst, wA_p, wA_R, a2.2.2.2.2 0 1 (by omega), L.2.1, qk_s1, qk_b2 b1']
  obtain rfl | rfl | rfl : w = 0 ∨ w = 1 ∨ w = 2 := by omega
  · exact key v _ _ (a2.needed (hv.1 rfl).1 (hv.1 rfl).2) (by rw [exN_J]; rfl) (exN_l hp) rfl
  · have hv1 := hv.2.1 rfl
    refine key (dk D) v (da D) (a2.leader (by omega)) (by rw [exN_J]; rfl) ?_ rfl
    rw [exN_J]
    unfold ldS
    rw [if_pos hv1]; rfl
  · have hv2 := hv.2.2 rfl
    have e : nI v = if decide (v = 1) then 1 else 0 := by
      obtain rfl | rfl : v = 0 ∨ v = 1 := by omega
      · rfl
      · rfl
    rw [e] at key ⊢
    exact key (dk D) _ (decide (v = 1)) (a2.hands _) (by rw [exN_J]; rfl) (exN_l hp) rfl
/-- the model takes all to mind -/
theorem tka_m {τ : Hp} {D : Dt} {lno : Nat → Int32} {ot : Option Tk} {t : Nat} (n : Nat) (hn : 12 < n) (h : Inv τ D lno ot) (hp : 0 < cJ (dC D)) : ∃ g1, F_X12_takesAll n 48 54 (wM τ (hI τ) t) = some (wM τ g1 t) ∧ (∀ a j, a ≠ 54 → g1 a j = hI τ a j) ∧ MC g1 54 (rC D exN) ∧ MH g1 54 (cJ (rC D exN)) (rH D exN) ∧ RWm g1 49 51 D lno ∧ g1 54 5 = nI (cJ (dC D)) ∧ ∀ i, i < cJ (dC D) → g1 54 (7 + i) = nI i := by
  obtain ⟨⟨-, -, -, hB, -⟩, ⟨-, m, d, -⟩, -⟩ := h
  have hJ := d.1.1
  have m' := m
  obtain ⟨m1, m2, m3, m4, m5, m6, m7, m8, m9, m10⟩ := m'
  obtain ⟨g1, a1, a2, a3, a4⟩ := takes_m (σ := τ) (g := hI τ) (t := t) (hd := dH D) n hn hB isT54 m2 hJ (fun j hj => (m9 j hj).2.2.2.2.2.2)
  have e : ∀ a j, a ≠ 54 → g1 a j = hI τ a j := fun a j h => a2 a j (fun w => h w.1)
  have m' := rwm_fr (h := g1) (fun j => e 49 j (by omega)) (fun j => e 51 j (by omega)) m
  refine ⟨g1, a1, e, mc_m m' d (by rw [exN_p]; exact hp) (by rw [exN_p]; exact a3) (fun i hi => ?_), fun i hi => ?_, m', a3, fun i hi => (a4 i hi).1⟩
  · rw [exN_p] at hi
    rw [exN_x hi]; exact (a4 i hi).1
  · rw [exN_J] at hi
    show _ = dH D (pkx exN (cJ (dC D)) i)
    rw [exN_x hi]; exact (a4 i hi).2
theorem v3_m {D : Dt} {g : Nat → Nat → Int32} {lno : Nat → Int32} (m : RWm g 49 51 D lno) (x y : Option (Int32 × Hp)) : (if g 49 5 = 1 then x else y) = if da D then x else y := by
  rw [m.2.2.2.2.2.2.1]
  cases da D <;> rfl
/-- runAll -/
theorem rall_m {τ : Hp} {D : Dt} {lno : Nat → Int32} {ot : Option Tk} (n : Nat) (hn : 4000 < n) (h : Inv τ D lno ot) (hp : 0 < cJ (dC D)) (k : Nat) (hk : k ≤ 12) : ∃ g' t', F_X12_runAll n 48 (nI k) τ = some (rE D exN (rH D exN) (ndN D k) (ldN D) (da D), wM τ g' t') ∧ Fq τ (wM τ g' t') ∧ ∃ g1, (∀ a j, a ≠ 54 → g1 a j = hI τ a j) ∧ RM g1 g' D exN (rH D exN) (ndN D k) (ldN D) (da D) := by
  obtain ⟨t, ht⟩ := at_m h
  obtain ⟨g1, a1, a2, a3, a4, a5, a6, a7⟩ := tka_m (t := t) n (by omega) h hp
  have hJ := h.2.1.2.2.1.1.1
  have hU := h.2.1.1.2.2.2.2.2.2.2
  have hB := h.1.2.2.2.1
  have hB0 := hB
  have hli : di D ≤ 3000 := hU.2.2.2.2.2.2.2
  have hll : dl D ≤ 11 := hU.2.2.2.2.1
  obtain ⟨g', t', b1', b2'⟩ := run_m (t := t) (nd := ndN D k) (ld := ldN D) (ha := da D) n hn hB a5 a3 a4 (hs_r h.2.1.2.2.1) (by rw [exN_J]; exact ldS_lt hp) rfl (by unfold ndN; omega) hli
  refine ⟨g', t', ?_, fq_m (fun a j h1 h2 h3 h4 => by rw [b2'.1 a j (by omega) h2 h3 h4]; exact a2 a j h2), g1, a2, b2'⟩
  obtain ⟨⟨M0, M1, M2, M3, M4, M5, M6, M7, M8, M9, M10, M11, M12, M28, M29⟩, K49, K50, K51, K52, K53, K54, K55, K56, K57, K58, K59, K60, K61, K62, K63⟩ := hB
  conv => lhs; rw [ht]
  unfold F_X12_runAll F_X12_runAll_44
  rw [wM_R (by decide), M5, qk_s1, qk_b1 a1, wM_R (by decide), M0, qk_s1, wM_L, K49, z_1, kq_1 (by decide), wM_I, a5.2.1, qk_b2 (ldo_m n hB0 a5.2.2.2.2.2.1 hll hJ), wM_R (by decide), M0, qk_s1, wM_L, K49, kq_1 (by decide), wM_I, a5.2.1, qk_b2 (les_m n k _ hk hJ _), wM_R (by decide), M0, qk_s1, z_5, wM_L, K49, kq_5 (by decide), wM_I, v3_m a5]
  have b0 : F_X12_runs n 48 (nI (ldS (dl D) (cJ (dC D)))) (nI (min k (cJ (dC D)))) (if da D then 1 else 0) (wM τ g1 t) = _ := b1'
  cases hda : da D
  · rw [hda, if_neg (by decide)] at b0
    rw [if_neg (by decide), qk_b2 b0]
  · rw [hda, if_pos rfl] at b0
    rw [if_pos rfl, qk_b2 b0]
theorem rnow_m {τ : Hp} {D : Dt} {lno : Nat → Int32} {ot : Option Tk} (n : Nat) (hn : 4000 < n) (h : Inv τ D lno ot) (hp : 0 < cJ (dC D)) : ∃ g' t', F_X12_runNow n 48 τ = some (rE D exN (rH D exN) (ndN D (dk D)) (ldN D) (da D), wM τ g' t') ∧ Fq τ (wM τ g' t') ∧ ∃ g1, (∀ a j, a ≠ 54 → g1 a j = hI τ a j) ∧ RM g1 g' D exN (rH D exN) (ndN D (dk D)) (ldN D) (da D) := by
  have hk : dk D ≤ 12 := h.2.1.1.2.2.2.2.2.2.2.2.2.1
  obtain ⟨g', t', a1, a2⟩ := rall_m n hn h hp (dk D) hk
  obtain ⟨t, ht⟩ := at_m h
  have hB := h.1.2.2.2.1
  have m := h.2.1.2.1
  obtain ⟨⟨M0, M1, M2, M3, M4, M5, M6, M7, M8, M9, M10, M11, M12, M28, M29⟩, K49, K50, K51, K52, K53, K54, K55, K56, K57, K58, K59, K60, K61, K62, K63⟩ := hB
  refine ⟨g', t', ?_, a2⟩
  have e : ∀ x, F_X12_runAll n 48 x τ = F_X12_runAll n 48 x (wM τ (hI τ) t) := fun x => by rw [← ht]
  rw [e] at a1
  conv => lhs; rw [ht]
  unfold F_X12_runNow
  rw [wM_R (by decide), M0, qk_s1, wM_L, K49, z_3, kq_3 (by decide), wM_I, m.2.2.2.2.1, qk_b2 a1]
theorem j0_c {τ : Hp} {D : Dt} {lno : Nat → Int32} {ot : Option Tk} (h : Inv τ D lno ot) (x y : Option (Int32 × Hp)) : (b1 (hR τ 0 0) fun i1 => if hI τ i1 2 = 0 then x else y) = if cJ (dC D) = 0 then x else y := by
  have hJ := h.2.1.2.2.1.1.1
  rw [h.1.1.1, qk_s1, h.2.1.1.2.2.1]
  by_cases h0 : cJ (dC D) = 0
  · rw [if_pos (by rw [h0]; rfl), if_pos h0]
  · rw [if_neg (nI_ne0 (by omega) (by omega)), if_neg h0]
theorem j0_m {τ : Hp} {D : Dt} {lno : Nat → Int32} {ot : Option Tk} (h : Inv τ D lno ot) (x y : Option (Int32 × Hp)) : (b1 (hR τ 48 0) fun i1 => ck (¬ ((1 : Int32) < 0 ∨ hL τ i1 ≤ (1 : Int32).toNatClampNeg)) (if (hI τ i1 (1 : Int32).toNatClampNeg) = 0 then x else y)) = if cJ (dC D) = 0 then x else y := by
  have hJ := h.2.1.2.2.1.1.1
  have hB := h.1.2.2.2.1
  obtain ⟨⟨M0, M1, M2, M3, M4, M5, M6, M7, M8, M9, M10, M11, M12, M28, M29⟩, K49, K50, K51, K52, K53, K54, K55, K56, K57, K58, K59, K60, K61, K62, K63⟩ := hB
  rw [M0, qk_s1, K49, z_1, kq_1 (by decide), h.2.1.2.1.2.1]
  by_cases h0 : cJ (dC D) = 0
  · rw [if_pos (by rw [h0]; rfl), if_pos h0]
  · rw [if_neg (nI_ne0 (by omega) (by omega)), if_neg h0]
theorem what_j {M : Nat} {a : Int32} (hM : M < 2 ^ 31) (h : ¬ (a < 0 ∨ nI M < a)) : ∃ j, j ≤ M ∧ a = nI j := by
  obtain ⟨j, hj, rfl⟩ := nI_of (fun q => h (Or.inl q))
  have h2 : ¬ M < j := fun q => h (Or.inr ((nI_ltI hM hj).mpr q))
  exact ⟨j, by omega, rfl⟩
theorem nle_lt {a b : Int32} (h : ¬ b < a) : a ≤ b := Int32.not_lt.mp h
theorem q_run {τ : Hp} {D : Dt} {lno : Nat → Int32} {ot : Option Tk} (n : Nat) (hn : 4000 < n) (h : Inv τ D lno ot) (a : Int32) : BQ τ D lno ot (F_X11_run n 0 a) (F_X12_run n 48 a) := by
  have hJ := h.2.1.2.2.1.1.1
  by_cases h0 : a < 0 ∨ nI 4 < a
  · refine BQ.of (-1) ?_ (fun τ1 h1 => ?_)
    · unfold F_X11_run
      by_cases h2 : a < 0
      · rw [if_pos h2]
      · rw [if_neg h2, if_neg (show ¬ a ≤ 4 from fun q => (Int32.not_le.mpr (h0.resolve_left h2)) q)]
    · unfold F_X12_run
      rw [qk_b2 (isIn_v n (y := 0) (z := 4) a 0 4 rfl rfl rfl _), if_pos (show a < 0 ∨ 4 < a from h0), if_pos rfl]
  · obtain ⟨w, hw, rfl⟩ := what_j (by omega) h0
    have c0 : ¬ nI w < 0 := fun q => h0 (Or.inl q)
    have c4 : nI w ≤ 4 := nle_lt (fun q => h0 (Or.inr q))
    by_cases hz : cJ (dC D) = 0
    · refine BQ.of (-3) ?_ (fun τ1 h1 => ?_)
      · unfold F_X11_run
        rw [if_neg c0, if_pos c4, j0_c h, if_pos hz]
      · unfold F_X12_run
        rw [qk_b2 (isIn_v n (y := 0) (z := 4) (nI w) 0 4 rfl rfl rfl _), if_neg (show ¬ (nI w < 0 ∨ 4 < nI w) from h0), if_neg (by decide), j0_m h1, if_pos hz]
    · have hp : 0 < cJ (dC D) := by omega
      obtain ⟨g, R, a1, a2, a3, a4⟩ := rim_c n hn h hp
      have L := h.1.1
      have hU := h.2.1.1.2.2.2.2.2.2.2
      generalize hRR : rR D exN (rH D exN) (ndN D (dk D)) (ldN D) (da D) = RR at a3
      have hJC : cJ (rC D exN) ≤ 12 := by rw [exN_J]; exact hJ
      have hwT : TW (rC D exN) RR := by
        rw [← hRR]
        exact run_w (cw_r h.2.1.2.2.1 (by rw [exN_p]; exact hp)) _ _ (begin_w (by rw [exN_J]; exact ldS_lt hp) (hs_r h.2.1.2.2.1))
      have he := a2.1
      have R01 : R 0 1 = some 11 := (a2.2.2.2.2 0 1 (by omega)).trans L.2.1
      refine ⟨(match w with
        | 0 => rE D exN (rH D exN) (ndN D (dk D)) (ldN D) (da D)
        | 1 => nI (tM RR)
        | 2 => nI (tU RR)
        | 3 => nI (yesS (rC D exN) (rB D exN (rH D exN) (ldN D) (da D)))
        | _ => nI (yesS (rC D exN) RR)), ⟨wA τ g R, ?_, a2.q⟩, fun τ1 h1 => ?_⟩
      · have kE : w = 0 → F_X3_ends n 11 (wA τ g R) = some (rE D exN (rH D exN) (ndN D (dk D)) (ldN D) (da D), wA τ g R) := by
          intro _
          have := end_c (σ := wA τ g R) (g := g) n a2.1 a3 a2.2.1.1 a2.2.1.2.2.1 a2.2.1.2.2.2.2.2.2.1 a2.2.1.2.2.2.2.2.2.2 (by rw [← hRR]; have := rR_b (ld := ldN D) (nd := ndN D (dk D)) (ha := da D) h hp; omega)
          rw [exN_J, ← hRR] at this
          exact this
        have ky := yes_c (σ := wA τ g R) (g := g) n a3.2.2.1 hJC
        have kb := bc_M a4 hJC
        unfold F_X11_run
        rw [if_neg c0, if_pos c4, j0_c h, if_neg hz, qk_b1 a1]
        obtain rfl | rfl | rfl | rfl | rfl : w = 0 ∨ w = 1 ∨ w = 2 ∨ w = 3 ∨ w = 4 := by omega
        · rw [if_pos (show nI 0 = 0 from rfl), wA_R, R01, qk_s1, qk_b2 (kE rfl)]
          rfl
        · rw [if_neg (show ¬ nI 1 = 0 by decide), if_pos (show nI 1 = 1 from rfl), wA_R, R01, qk_s1, wA_I, a3.1]
          rfl
        · rw [if_neg (show ¬ nI 2 = 0 by decide), if_neg (show ¬ nI 2 = 1 by decide), if_pos (show nI 2 = 2 from rfl), wA_R, R01, qk_s1, wA_I, a3.2.1]
          rfl
        · rw [if_neg (show ¬ nI 3 = 0 by decide), if_neg (show ¬ nI 3 = 1 by decide), if_neg (show ¬ nI 3 = 2 by decide), if_pos (show nI 3 = 3 from rfl), wA_R, R01, qk_s1, bc_v, qk_s2, wA_I, kb]; rfl
        · rw [if_neg (show ¬ nI 4 = 0 by decide), if_neg (show ¬ nI 4 = 1 by decide), if_neg (show ¬ nI 4 = 2 by decide), if_neg (show ¬ nI 4 = 3 by decide), wA_R, R01, qk_s1]
          exact qk_b2 ky _
      · obtain ⟨g', t', b1', b2', g1, b3', b4'⟩ := rnow_m n hn h1 hp
        have hB := h1.1.2.2.2.1
        obtain ⟨⟨M0, M1, M2, M3, M4, M5, M6, M7, M8, M9, M10, M11, M12, M28, M29⟩, K49, K50, K51, K52, K53, K54, K55, K56, K57, K58, K59, K60, K61, K62, K63⟩ := hB
        refine ⟨wM τ1 g' t', ?_, b2'⟩
        obtain ⟨-, mt, y26, -⟩ := b4'
        rw [hRR] at mt
        unfold F_X12_run
        rw [qk_b2 (isIn_v n (y := 0) (z := 4) (nI w) 0 4 rfl rfl rfl _), if_neg (show ¬ (nI w < 0 ∨ 4 < nI w) from h0), if_neg (by decide), j0_m h1, if_neg hz, qk_b2 b1']
        obtain rfl | rfl | rfl | rfl | rfl : w = 0 ∨ w = 1 ∨ w = 2 ∨ w = 3 ∨ w = 4 := by omega
        · rw [if_pos (show nI 0 = 0 from rfl)]
          rfl
        · rw [if_neg (show ¬ nI 1 = 0 by decide), if_pos (show nI 1 = 1 from rfl), wM_R (by decide), M5, qk_s1, wM_L, K54, z_0, kq_0 (by decide), wM_I, mt.1]
          rfl
        · rw [if_neg (show ¬ nI 2 = 0 by decide), if_neg (show ¬ nI 2 = 1 by decide), if_pos (show nI 2 = 2 from rfl), wM_R (by decide), M5, qk_s1, wM_L, K54, z_3, kq_3 (by decide), wM_I, mt.2.2.2.1]
          rfl
        · rw [if_neg (show ¬ nI 3 = 0 by decide), if_neg (show ¬ nI 3 = 1 by decide), if_neg (show ¬ nI 3 = 2 by decide), if_pos (show nI 3 = 3 from rfl), wM_I, y26]
          rfl
        · rw [if_neg (show ¬ nI 4 = 0 by decide), if_neg (show ¬ nI 4 = 1 by decide), if_neg (show ¬ nI 4 = 2 by decide), if_neg (show ¬ nI 4 = 3 by decide), wM_R (by decide), M5, qk_s1, wM_L, K54, z_1, kq_1 (by decide), wM_I, mt.2.1]
          rfl
