/-! WHAT THE MAKERS MAKE -/
def hp0 : Hp := (0, fun _ => 0, fun _ => 0, fun _ _ => 0, fun _ _ => none, fun _ _ => 0)
def mkO : Option Hp := b1 (F_X11_init 6000 0 (nw hp0 11 0)) fun σ4 => b1 (F_X12_init 6000 48 (nw σ4 12 0)) fun σ9 => some (nw σ9 17 1)
set_option maxRecDepth 100000 in
theorem mk_s : mkO.isSome = true := by decide +kernel
def mkH : Hp := mkO.get mk_s
set_option maxRecDepth 100000 in
theorem mk_1 : hR mkH 0 0 = some 1 ∧ hR mkH 0 1 = some 11 ∧ hR mkH 0 2 = some 21 ∧ hR mkH 0 4 = some 31 ∧ hL mkH 31 = 8 := by decide +kernel
set_option maxRecDepth 100000 in
theorem mk_2 : ∀ d, d < 8 → hR mkH 31 d = some (32 + 2 * d) ∧ hR mkH (32 + 2 * d) 4 = some (33 + 2 * d) ∧ hL mkH (33 + 2 * d) = 100 := by decide +kernel
set_option maxRecDepth 100000 in
theorem mk_3 : RL mkH 1 ∧ RL mkH 11 ∧ RL mkH 21 := by
  unfold RL
  repeat' apply And.intro
  all_goals decide +kernel
set_option maxRecDepth 100000 in
theorem mk_4 : MB mkH := by
  unfold MB
  repeat' apply And.intro
  all_goals decide +kernel
set_option maxRecDepth 100000 in
theorem mk_5 : hR mkH 48 15 = some 59 ∧ hN mkH = 65 ∧ hK mkH 64 = 17 ∧ hL mkH 64 = 1 := by decide +kernel
set_option maxRecDepth 100000 in
theorem mk_6 : hI mkH 1 0 = nI 0 ∧ hI mkH 1 2 = nI 0 ∧ hI mkH 1 5 = nI 0 ∧ hI mkH 6 0 = 12 ∧ hI mkH 6 1 = 0 ∧ hI mkH 6 2 = 0 ∧ hI mkH 6 3 = 600 ∧ hI mkH 49 0 = nI 0 ∧ hI mkH 49 1 = nI 0 ∧ hI mkH 49 2 = nI 0 ∧ hI mkH 49 3 = 12 ∧ hI mkH 49 4 = 0 ∧ hI mkH 49 5 = 0 ∧ hI mkH 49 6 = 600 ∧ hI mkH 1 8 = 0 ∧ hI mkH 1 10 = 0 ∧ hI mkH 1 11 = 0 ∧ hI mkH 1 12 = 0 ∧ hI mkH 1 13 = 0 ∧ hI mkH 53 6 = 0 ∧ hI mkH 48 13 = 0 ∧ hI mkH 0 3 = 0 := by
  repeat' apply And.intro
  all_goals decide +kernel
set_option maxRecDepth 100000 in
theorem mk_7 : ∀ d, d < 8 → hI mkH (32 + 2 * d) 3 = nI 0 ∧ hI mkH 58 d = nI 0 ∧ hI mkH 56 d = 0 ∧ hR mkH (32 + 2 * d) 0 = none ∧ hI mkH (32 + 2 * d) 2 = -1 := by decide +kernel
set_option maxRecDepth 100000 in
theorem mk_8 : ∀ d, d < 8 → ∀ i, i < 100 → hI mkH (33 + 2 * d) i = hI mkH 59 (100 * d + i) := by decide +kernel
/-- nothing told, no talk -/
def dt0 : Dt := ((0, 0, fun _ => 0, fun _ => 0, fun _ => 0, fun _ => 0, fun _ => 0, fun _ => 0, fun _ => evP), 0, fun _ => 0, fun _ => evP, 12, 0, false, 600)
theorem mk_inv : Inv mkH dt0 (fun _ => -1) none := by
  obtain ⟨r1, r2, r3⟩ := mk_3
  obtain ⟨k1, k2, k3, k4⟩ := mk_5
  obtain ⟨a0, a2, a5, u0, u1, u2, u3, b0, b1, b2, b3, b4, b5, b6, c8, c10, c11, c12, c13, t6, p1, p2⟩ := mk_6
  refine ⟨⟨mk_1, mk_2, ⟨r1, r2, r3⟩, mk_4, ⟨59, k1⟩, by omega, by rw [k2]; show ¬ hK mkH 64 = 1; rw [k3]; decide⟩, ⟨⟨r1, a0, a2, fun t ht => absurd ht (Nat.not_lt_zero _), fun j hj => absurd hj (Nat.not_lt_zero _), a5, fun l hl => absurd hl (Nat.not_lt_zero _), ⟨u0, by decide, by decide, u1, by decide, u2, u3, by decide⟩⟩, ⟨b0, b1, b2, fun t ht => absurd ht (Nat.not_lt_zero _), b3, b4, b5, b6, fun j hj => absurd hj (Nat.not_lt_zero _), fun l hl => absurd hl (Nat.not_lt_zero _)⟩, ⟨⟨by decide, by decide, fun t ht => absurd ht (Nat.not_lt_zero _), fun j hj => absurd hj (Nat.not_lt_zero _)⟩, by decide, fun j hj => absurd hj (Nat.not_lt_zero _)⟩, ⟨c8, c10, c11, c12, c13, trivial, fun j hj => absurd hj (Nat.not_lt_zero _)⟩, by show ¬ hI mkH 53 6 = 1; rw [t6]; decide, trivial⟩, p1.trans p2.symm, Or.inl p2, fun d hd => ?_⟩
  obtain ⟨d1, d2, d3, d4, d5⟩ := mk_7 d hd
  exact ⟨⟨0, by decide, d1, d2, mk_8 d hd⟩, Or.inl ⟨d3, d4, d5⟩⟩
theorem mk_law {L : Nat} {xs : Nat → Int32} (hL' : L ≤ 3072) : ∃ τ, F_L_law 6000 L xs hp0 = some (1, τ) := by
  obtain ⟨τ, h⟩ := lp_all (n := 6000) (L := L) (xs := xs) (by omega) hL' 6000 0 mkH dt0 (fun _ => -1) none (by omega) (by omega) mk_inv mk_5.2.2.2
  refine ⟨τ, ?_⟩
  have e : mkO = some mkH := (Option.some_get mk_s).symm
  unfold mkO at e
  unfold F_L_law
  rw [nb_d]
  obtain ⟨σ4, e1, e⟩ := b1_ex e
  rw [show hN hp0 = 0 from rfl, qk_b1 e1, nb_d]
  have h48 : hN σ4 = 48 := by
    obtain ⟨ρ, f1, f2⟩ : ∃ ρ, F_X11_init 6000 0 (nw hp0 11 0) = some ρ ∧ hN ρ = 48 := ⟨(F_X11_init 6000 0 (nw hp0 11 0)).get (by decide +kernel), (Option.some_get _).symm, by decide +kernel⟩
    rw [f1] at e1
    rw [← Option.some.inj e1]; exact f2
  obtain ⟨σ9, e2, e⟩ := b1_ex e
  have h64 : hN σ9 = 64 := by
    have := mk_5.2.1
    rw [← Option.some.inj e] at this
    have q : hN σ9 + 1 = 65 := this
    omega
  rw [h48, qk_b1 e2, qk_ck (by decide), nb_d, h64, q_0]
  rw [show nw σ9 17 (1 : Int32).toNatClampNeg = mkH from Option.some.inj e]
  exact h
