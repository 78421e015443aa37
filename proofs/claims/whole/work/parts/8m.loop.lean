/-! THE LOOP OF THE LAW -/
theorem BQ.sq {τ : Hp} {D : Dt} {lno : Nat → Int32} {ot : Option Tk} {x y : Hp → Option (Int32 × Hp)} (b : BQ τ D lno ot x y) (h : Inv τ D lno ot) : SQ τ x y := SQ.bq h b
theorem SQ.two {τ : Hp} {D : Dt} {lno : Nat → Int32} {ot : Option Tk} {x y : Hp → Option (Int32 × Hp)} (h : Inv τ D lno ot) (b : ∃ r, x τ = some (r, τ) ∧ y τ = some (r, τ)) : SQ τ x y := by
  obtain ⟨r, b1, b2⟩ := b
  exact SQ.no h r b1 b2
/-- what a step's end owes -/
def GoOn (K : Hp → Option (Int32 × Hp)) : Prop := ∀ τ D lno ot, Inv τ D lno ot → hL τ 64 = 1 → ∃ τ', K τ = some (1, τ')
theorem sq_k {σ : Hp} {x y K : Hp → Option (Int32 × Hp)} (hS : SQ σ x y) (hl : hL σ 64 = 1) (hK : GoOn K) : ∃ τ', (b2 (x σ) fun r σ1 => b2 (y σ1) fun r' σ3 => if r = r' then K σ3 else some (0, σ3)) = some (1, τ') := by
  obtain ⟨r, τ1, τ2, D, lno, ot, h1, h2, h3, h4⟩ := hS
  rw [qk_b2 h1, qk_b2 h2, if_pos rfl]
  exact hK τ2 D lno ot h3 (h4.trans hl)
theorem ck_i {i k L : Nat} (h : i + k < L) (hL : L < 2 ^ 31) {ρ : Type} (x : Option ρ) : ck (¬ (nI i + nI k < 0 ∨ L ≤ (nI i + nI k).toNatClampNeg)) x = x := by
  rw [nI_add]; exact qk_in h hL x
set_option maxHeartbeats 4000000 in
set_option maxRecDepth 100000 in
theorem lp_step {n L f i : Nat} {xs : Nat → Int32} {σ : Hp} {D : Dt} {lno : Nat → Int32} {ot : Option Tk} (hn : 4200 < n) (hL' : L < 2 ^ 31) (hi : i + 6 ≤ L) (e6 : ¬ nI L - 6 < nI i) (h : Inv σ D lno ot) (hl : hL σ 64 = 1) (hK : GoOn (F_L_law_1205 (F_L_law_23 n L xs f) 0 48 64 (nI i))) : ∃ τ', F_L_law_23 n L xs (f + 1) 0 48 64 (nI i) σ = some (1, τ') := by
  have c0 : ∀ {ρ : Type} (x : Option ρ), ck (¬ (nI i < 0 ∨ L ≤ (nI i).toNatClampNeg)) x = x := fun x => qk_in (by omega) hL' x
  have c1 : ∀ {ρ : Type} (x : Option ρ), ck (¬ (nI i + 1 < 0 ∨ L ≤ (nI i + 1).toNatClampNeg)) x = x := fun x => ck_i (k := 1) (by omega) hL' x
  have c2 : ∀ {ρ : Type} (x : Option ρ), ck (¬ (nI i + 2 < 0 ∨ L ≤ (nI i + 2).toNatClampNeg)) x = x := fun x => ck_i (k := 2) (by omega) hL' x
  have c3 : ∀ {ρ : Type} (x : Option ρ), ck (¬ (nI i + 3 < 0 ∨ L ≤ (nI i + 3).toNatClampNeg)) x = x := fun x => ck_i (k := 3) (by omega) hL' x
  have c4 : ∀ {ρ : Type} (x : Option ρ), ck (¬ (nI i + 4 < 0 ∨ L ≤ (nI i + 4).toNatClampNeg)) x = x := fun x => ck_i (k := 4) (by omega) hL' x
  have c5 : ∀ {ρ : Type} (x : Option ρ), ck (¬ (nI i + 5 < 0 ∨ L ≤ (nI i + 5).toNatClampNeg)) x = x := fun x => ck_i (k := 5) (by omega) hL' x
  obtain ⟨z, hz⟩ : ∃ z, xs (nI i).toNatClampNeg &&& 31 = z := ⟨_, rfl⟩
  simp only [F_L_law_23]
  rw [if_neg e6, c0, hz]
  by_cases q0 : z = 0
  · rw [if_pos q0]
    simp only [c1]
    exact sq_k (q_thing n h _) hl hK
  rw [if_neg q0]
  by_cases q1 : z = 1
  · rw [if_pos q1]
    simp only [c1, c2, c3, c4]
    exact sq_k (q_juror n (by omega) h _ _ _ _) hl hK
  rw [if_neg q1]
  by_cases q2 : z = 2
  · rw [if_pos q2]
    simp only [c1, c2]
    exact sq_k (q_holds n (by omega) h _ _) hl hK
  rw [if_neg q2]
  by_cases q3 : z = 3
  · rw [if_pos q3]
    simp only [c1, c2]
    exact sq_k ((q_of n h _ _).sq h) hl hK
  rw [if_neg q3]
  by_cases q4 : z = 4
  · rw [if_pos q4]
    simp only [c1]
    exact sq_k ((q_leans n (by omega) h _).sq h) hl hK
  rw [if_neg q4]
  by_cases q5 : z = 5
  · rw [if_pos q5]
    simp only [c1]
    exact sq_k (q_law n (by omega) h _) hl hK
  rw [if_neg q5]
  by_cases q6 : z = 6
  · rw [if_pos q6]
    simp only [c1, c2]
    exact sq_k (q_set n h _ _) hl hK
  rw [if_neg q6]
  by_cases q7 : z = 7
  · rw [if_pos q7]
    exact sq_k (q_begin n (by omega) h) hl hK
  rw [if_neg q7]
  by_cases q8 : z = 8
  · rw [if_pos q8]
    simp only [c1]
    exact sq_k (q_go n (by omega) h _) hl hK
  rw [if_neg q8]
  by_cases q9 : z = 9
  · rw [if_pos q9]
    simp only [c1]
    exact sq_k ((q_talk n (by omega) h _).sq h) hl hK
  rw [if_neg q9]
  by_cases q10 : z = 10
  · rw [if_pos q10]
    simp only [c1]
    exact sq_k ((q_run n (by omega) h _).sq h) hl hK
  rw [if_neg q10]
  by_cases q11 : z = 11
  · rw [if_pos q11]
    rw [c1]
    by_cases v : xs (nI i + 1).toNatClampNeg = 0
    · rw [if_pos v]
      simp only [c1, if_pos v]
      exact sq_k ((q_slips n (by omega) h 0).sq h) hl hK
    · rw [if_neg v]
      simp only [c1, if_neg v]
      exact sq_k ((q_slips n (by omega) h 1).sq h) hl hK
  rw [if_neg q11]
  by_cases q12 : z = 12
  · rw [if_pos q12]
    simp only [c1, c2]
    exact sq_k ((q_moved n (by omega) h _ _).sq h) hl hK
  rw [if_neg q12]
  by_cases q13 : z = 13
  · rw [if_pos q13]
    simp only [c1]
    exact sq_k ((q_out n (by omega) h _).sq h) hl hK
  rw [if_neg q13]
  by_cases q14 : z = 14
  · rw [if_pos q14]
    exact sq_k ((q_one n (by omega) h).sq h) hl hK
  rw [if_neg q14]
  by_cases q15 : z = 15
  · rw [if_pos q15]
    simp only [c1, c2]
    exact sq_k ((q_six n (by omega) h _ _).sq h) hl hK
  rw [if_neg q15]
  by_cases q16 : z = 16
  · rw [if_pos q16]
    simp only [c1]
    exact sq_k ((q_lost n (by omega) h _).sq h) hl hK
  rw [if_neg q16]
  by_cases q17 : z = 17
  · rw [if_pos q17]
    simp only [c1]
    exact sq_k ((q_leads n (by omega) h _).sq h) hl hK
  rw [if_neg q17]
  by_cases q18 : z = 18
  · rw [if_pos q18]
    exact sq_k ((q_hands n (by omega) h).sq h) hl hK
  rw [if_neg q18]
  by_cases q19 : z = 19
  · rw [if_pos q19]
    simp only [c1]
    exact sq_k ((q_left n (by omega) h _).sq h) hl hK
  rw [if_neg q19]
  by_cases q20 : z = 20
  · rw [if_pos q20]
    simp only [c1, c2, c3, c4]
    exact sq_k ((q_worlds n (by omega) h _ _ _ _).sq h) hl hK
  rw [if_neg q20]
  by_cases q21 : z = 21
  · rw [if_pos q21]
    exact sq_k (q_image n (by omega) h) hl hK
  rw [if_neg q21]
  by_cases q22 : z = 22
  · rw [if_pos q22]
    exact sq_k (q_restore n (by omega) h) hl hK
  rw [if_neg q22]
  by_cases q23 : z = 23
  · rw [if_pos q23]
    simp only [c1]
    exact sq_k ((q_count n (by omega) h _).sq h) hl hK
  rw [if_neg q23]
  by_cases q24 : z = 24
  · rw [if_pos q24]
    simp only [c1, c2, c3]
    exact sq_k (q_keep n (by omega) h _ _ _) hl hK
  rw [if_neg q24]
  by_cases q25 : z = 25
  · rw [if_pos q25]
    simp only [c1, c2, c3]
    exact sq_k (q_row n (by omega) h _ _ _) hl hK
  rw [if_neg q25]
  by_cases q26 : z = 26
  · rw [if_pos q26]
    simp only [c1, c2, c3]
    exact sq_k (q_put n h _ _ _) hl hK
  rw [if_neg q26]
  by_cases q27 : z = 27
  · rw [if_pos q27]
    simp only [c1, c2]
    obtain ⟨k, v, τ1, τ2, a1, a2, a3, a4, a5, a6⟩ := q_elem n h hl (xs (nI i + 1).toNatClampNeg) (xs (nI i + 2).toNatClampNeg)
    rw [qk_b2 a1, qk_b2 a2, qk_b2 a3, if_pos rfl]
    by_cases k0 : k = 0
    · rw [if_pos k0, a5, z_0, kq_0 (by decide), if_pos (a4 k0)]
      exact hK τ2 _ _ _ a6 a5
    · rw [if_neg k0]
      exact hK τ2 _ _ _ a6 a5
  rw [if_neg q27]
  by_cases q28 : z = 28
  · rw [if_pos q28]
    simp only [c1, c2, c3, c4, c5]
    exact sq_k (q_copy n (by omega) h _ _ _ _ _) hl hK
  rw [if_neg q28]
  by_cases q29 : z = 29
  · rw [if_pos q29]
    simp only [c1]
    exact sq_k (SQ.two h (q_voice n h _)) hl hK
  rw [if_neg q29]
  by_cases q30 : z = 30
  · rw [if_pos q30]
    simp only [c1]
    exact sq_k (SQ.two h (q_toss n h _)) hl hK
  rw [if_neg q30]
  exact hK σ D lno ot h hl
theorem nI_m6 (J : Nat) (h : J < 3073) : (nI J - 6).toInt = (J : Int) - 6 := by
  have e6 : (6 : Int32).toInt = 6 := by decide
  rw [Int32.toInt_sub, nI_toInt (by omega), e6, Int.bmod_eq_of_le (by omega) (by omega)]
theorem lp_e {L i : Nat} (hL' : L ≤ 3072) (hi : i ≤ L) : nI L - 6 < nI i ↔ L < i + 6 := by
  rw [Int32.lt_iff_toInt_lt, nI_m6 L (by omega), nI_toInt (by omega)]
  omega
theorem lp_all {n L : Nat} {xs : Nat → Int32} (hn : 4200 < n) (hL' : L ≤ 3072) : ∀ f i σ D lno ot, L < i + 6 * f → i ≤ L → Inv σ D lno ot → hL σ 64 = 1 → ∃ τ', F_L_law_23 n L xs f 0 48 64 (nI i) σ = some (1, τ') := by
  intro f
  induction f with
  | zero => intro i σ D lno ot h1 h2; omega
  | succ f ih =>
    intro i σ D lno ot h1 h2 h hl
    by_cases e : i + 6 ≤ L
    · refine lp_step hn (by omega) e (fun q => by rw [lp_e hL' h2] at q; omega) h hl (fun τ D' lno' ot' h' hl' => ?_)
      show ∃ τ', F_L_law_23 n L xs f 0 48 64 (nI i + 6) τ = some (1, τ')
      rw [show nI i + 6 = nI (i + 6) from nI_add i 6]
      exact ih (i + 6) τ D' lno' ot' (by omega) e h' hl'
    · refine ⟨σ, ?_⟩
      simp only [F_L_law_23]
      rw [if_pos ((lp_e hL' h2).mpr (by omega))]
