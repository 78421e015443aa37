/-! KEEP -/
theorem at_any (n a : Nat) (v : Int32) (σ : Hp) : ∃ r, F_X11_at n a v σ = some (r, σ) := by
  unfold F_X11_at
  by_cases h : v < 0
  · exact ⟨_, if_pos h⟩
  · rw [if_neg h]
    by_cases h2 : nI (hL σ a) ≤ v
    · exact ⟨_, if_pos h2⟩
    · rw [if_neg h2]
      by_cases h3 : hL σ a ≤ v.toNatClampNeg
      · sorry
      · exact ⟨_, if_pos (fun q => q.elim h h3)⟩
theorem vo_m {τ : Hp} {g : Nat → Nat → Int32} {t : Nat} {D : Dt} {lno : Nat → Int32} {j : Nat} (n : Nat) (hn : 13 ≤ n) (hB : MB τ) (m : RWm g 49 51 D lno) (d : DW D lno) (hj : j < cJ (dC D)) : F_X12_voiceOf n 48 (nI j) (wM τ g t) = some (voiceS (cK (dC D) j) (cM (dC D) j) (cH (dC D) j) (cP (dC D) j) (dH D j), wM τ g t) := by
  have hJ := d.1.1
  have q := m.2.2.2.2.2.2.2.2.1 j hj
  have k0 := get_m (σ := τ) (g := g) (t := t) (k := j) (x := 0) (x' := 0) n hB rfl (by omega) (by omega)
  have k1 := get_m (σ := τ) (g := g) (t := t) (k := j) (x := 1) (x' := 1) n hB rfl (by omega) (by omega)
  have k2 := get_m (σ := τ) (g := g) (t := t) (k := j) (x := 2) (x' := 2) n hB rfl (by omega) (by omega)
  have k4 := get_m (σ := τ) (g := g) (t := t) (k := j) (x := 4) (x' := 4) n hB rfl (by omega) (by omega)
  have k6 := get_m (σ := τ) (g := g) (t := t) (k := j) (x := 6) (x' := 6) n hB rfl (by omega) (by omega)
  rw [q.1] at k0
  rw [q.2.1] at k1
  rw [q.2.2.1] at k2
  rw [q.2.2.2.2.1] at k4
  rw [q.2.2.2.2.2.2] at k6
  have hS := (d.2.2 j hj).1
  have hth := d.1.2.1
  obtain ⟨x, hx, ex⟩ := isM_n (m := 12) (s := fun i => bi (dH D j) i) (x := dH D j) (fun i hi => by
    by_cases c : i < 12
    · rw [decide_eq_true c]; rfl
    · rw [hS i hi (by omega), decide_eq_false c]; rfl) (by omega)
  have kb : F_X12_bits n (dH D j) (wM τ g t) = some (bcv (dH D j), wM τ g t) := by
    rw [ex, bits_m n hn x hx, bc_pc x hx]
  unfold F_X12_voiceOf
  rw [qk_b2 k2, qk_b2 k6, qk_b2 kb, qk_b2 k1, qk_b2 k0, qk_b2 k4]
  have hk := (d.1.2.2.2 j hj).1
  generalize cK (dC D) j = k at hk
  obtain rfl | rfl | rfl | rfl | rfl | rfl | rfl | rfl : k = 0 ∨ k = 1 ∨ k = 2 ∨ k = 3 ∨ k = 4 ∨ k = 5 ∨ k = 6 ∨ k = 7 := by omega
  all_goals rfl
