/-! ELEMENT -/
theorem Inv.wj {τ : Hp} {D : Dt} {lno : Nat → Int32} {ot : Option Tk} (w : Int64) (h : Inv τ D lno ot) : Inv (pJ τ 64 0 w) D lno ot := by
  have hX : XG τ (pJ τ 64 0 w) := ⟨Nat.le_refl _, fun a _ => ⟨rfl, rfl, fun _ _ => rfl⟩⟩
  have ix : IX τ (hI τ) (hI (pJ τ 64 0 w)) := fun _ _ _ _ _ => rfl
  exact Inv.nw hX ix (fun _ _ _ _ => rfl) (fun _ _ _ _ => rfl) h.1.2.2.2.2.1 h.1.2.2.2.2.2.2 h (h.2.1.pres hX ix (fun _ _ _ => ⟨fun _ => rfl, fun _ => rfl, rfl⟩) (fun _ => rfl) (fun _ => rfl) (fun _ => rfl))
theorem Inv.thr {τ : Hp} {D : Dt} {lno : Nat → Int32} {ot : Option Tk} (k : Int32) (h : Inv τ D lno ot) : Inv (pI τ 48 14 k) D lno ot :=
  h.fq (τ := pI τ 48 14 k) ⟨up2 (hI τ) 48 14 k, hR τ, rfl, fun _ _ _ _ => rfl, Or.inl rfl, (Fr.rf _ _).up (Or.inr (Or.inr (Or.inl ⟨rfl, by omega, by omega⟩)))⟩
theorem el_no {τ : Hp} (n : Nat) (a b s : Int32) (hs : ¬ s = 0) : F_X12_element_45 n 48 a b s 48 τ = some (0, pI τ 48 14 s) := by
  unfold F_X12_element_45
  rw [qk_lt, pI_w, wI_I, up_s, if_neg hs]
theorem el_yes {τ : Hp} {d i : Nat} (n : Nat) (hd : d < 8) (hi : i < 100) (M10 : hR τ 48 10 = some 59) (K59 : hL τ 59 = 800) : F_X12_element_45 n 48 (nI d) (nI i) 0 48 τ = some ((hI τ 59 (100 * d + i)).toInt64, pI τ 48 14 0) := by
  unfold F_X12_element_45
  rw [qk_lt, pI_w, wI_I, up_s, if_pos rfl, wI_R, M10, qk_s1, a100, wI_L, K59, qk_in (by omega) (by omega), nI_clamp (by omega), up_i (by omega)]
theorem cmp_0 (x : Int64) : lg_cmp x x = 0 := by
  unfold lg_cmp
  simp
theorem q_elem {τ : Hp} {D : Dt} {lno : Nat → Int32} {ot : Option Tk} (n : Nat) (h : Inv τ D lno ot) (h64 : hL τ 64 = 1) (a b : Int32) : ∃ k v τ1 τ2, F_L_element n 0 a b 64 τ = some (k, τ1) ∧ F_X12_element n 48 a b τ1 = some (v, τ2) ∧ F_X12_thrown n 48 τ2 = some (k, τ2) ∧ (k = 0 → lg_cmp (hJ τ2 64 0) v = 0) ∧ hL τ2 64 = 1 ∧ Inv τ2 D lno ot := by
  have hB := h.1.2.2.2.1
  obtain ⟨⟨M0, M1, M2, M3, M4, M5, M6, M7, M8, M9, M10, M11, M12, M28, M29⟩, K49, K50, K51, K52, K53, K54, K55, K56, K57, K58, K59, K60, K61, K62, K63⟩ := hB
  have no : ∀ k : Int32, ¬ k = 0 → F_X11_element n 0 a b τ = some ((k, 0), τ) → F_X12_element n 48 a b τ = some (0, pI τ 48 14 k) → ∃ k v τ1 τ2, F_L_element n 0 a b 64 τ = some (k, τ1) ∧ F_X12_element n 48 a b τ1 = some (v, τ2) ∧ F_X12_thrown n 48 τ2 = some (k, τ2) ∧ (k = 0 → lg_cmp (hJ τ2 64 0) v = 0) ∧ hL τ2 64 = 1 ∧ Inv τ2 D lno ot := fun k hk x y => by
    refine ⟨k, 0, τ, pI τ 48 14 k, ?_, y, ?_, fun q => absurd q hk, h64, h.thr k⟩
    · unfold F_L_element
      rw [qk_b2 x, if_neg hk]
    · unfold F_X12_thrown
      rw [pI_w, wI_I, up_s]
  by_cases h0 : a < 0 ∨ nI 7 < a
  · refine no 1 (by decide) ?_ ?_
    · unfold F_X11_element
      rw [qk_b2 (sat_n n h h0), qk_on]
    · unfold F_X12_element
      rw [qk_b2 (ish_m n a τ), if_pos h0, if_pos rfl, el_no n a b 1 (by decide)]
  obtain ⟨d, hd, rfl⟩ := what_j (by omega) h0
  obtain ⟨⟨N, hN, z1, z2, z3⟩, sk⟩ := h.2.2.2.2 d (by omega)
  have rw' := row_c n d sk
  by_cases h2 : ¬ hI τ 56 d = 2
  · rw [if_neg h2] at rw'
    refine no 2 (by decide) ?_ ?_
    · unfold F_X11_element
      rw [qk_b2 (sat_s n h (by omega)), qk_om, qk_b2 rw', if_pos rfl]
    · unfold F_X12_element F_X12_element_40
      rw [qk_b2 (ish_m n _ τ), if_neg h0, if_neg (by decide), M7, qk_s1, K56, nI_clamp (by omega), qk_i2 (by omega) (by omega), if_neg h2, el_no n _ _ 2 (by decide)]
  have h2 := Classical.not_not.mp h2
  rw [if_pos h2] at rw'
  have hp := hp_1 (τ := τ) (a := b) n z1 hN
  have mdl : ∀ τ', hR τ' = hR τ → hL τ' = hL τ → hI τ' = hI τ → F_X12_element n 48 (nI d) b τ' = (if b < 0 ∨ nI N ≤ b then F_X12_element_45 n 48 (nI d) b 2 48 τ' else F_X12_element_45 n 48 (nI d) b 0 48 τ') := fun τ' r1 r2 r3 => by
    have ii : F_X12_isIn n b.toInt64 0 ((nI N - 1).toInt64) τ' = some (if b < 0 ∨ nI N ≤ b then 0 else 1, τ') := by
      rw [isIn_v n (y := 0) b 0 (nI N - 1) rfl rfl rfl]
      by_cases q : b < 0 ∨ nI N ≤ b
      · rw [if_pos q, if_pos (q.imp id (nI_p1' hN).mpr)]
      · rw [if_neg q, if_neg (fun y => q (y.imp id (nI_p1' hN).mp))]
    unfold F_X12_element F_X12_element_40
    rw [qk_b2 (ish_m n _ τ'), if_neg h0, if_neg (by decide), r1, M7, qk_s1, r2, K56, nI_clamp (by omega), qk_i2 (by omega) (by omega), r3, if_pos h2, M9, qk_s1, K58, qk_i2 (by omega) (by omega), z2, qk_b2 ii]
    by_cases q : b < 0 ∨ nI N ≤ b
    · rw [if_pos q, if_pos q, if_pos rfl]
    · rw [if_neg q, if_neg q, if_neg (by decide)]
  by_cases h3 : b < 0 ∨ nI N ≤ b
  · rw [if_pos h3] at hp
    refine no 2 (by decide) ?_ ?_
    · unfold F_X11_element
      rw [qk_b2 (sat_s n h (by omega)), qk_om, qk_b2 rw', if_neg (by decide), qk_b2 hp, if_pos rfl]
    · rw [mdl τ rfl rfl rfl, if_pos h3, el_no n _ _ 2 (by decide)]
  rw [if_neg h3] at hp
  obtain ⟨i, hi, rfl⟩ : ∃ i, i < N ∧ b = nI i := by
    obtain ⟨i, hi, rfl⟩ := nI_of (fun q => h3 (Or.inl q))
    have h2 : ¬ N ≤ i := fun q => h3 (Or.inr ((nI_leI (by omega) hi).mpr q))
    exact ⟨i, by omega, rfl⟩
  obtain ⟨s1, s2, s3⟩ := h.1.2.1 d (by omega)
  have at' := q_at (σ := τ) (a := 33 + 2 * d) (i := i) (N := 100) n s3 (by omega) (by omega)
  generalize hw : (hI τ (33 + 2 * d) i).toInt64 = w at *
  have ey := el_yes (τ := pJ τ 64 0 w) (d := d) (i := i) n (by omega) (by omega) M10 K59
  refine ⟨0, w, pJ τ 64 0 w, pI (pJ τ 64 0 w) 48 14 0, ?_, ?_, ?_, fun _ => ?_, h64, (h.wj w).thr 0⟩
  · unfold F_L_element F_X11_element
    rw [qk_b2 (sat_s n h (by omega)), qk_om, qk_b2 rw', if_neg (by decide), qk_b2 hp, if_neg (by decide), s2, qk_s1, qk_b2 at', qk_s2, if_pos rfl, h64, z_0, kq_0 (by decide), qk_lt, hw]
  · rw [mdl (pJ τ 64 0 w) rfl rfl rfl, if_neg h3, ey, ← hw, z3 i (by omega)]
    rfl
  · unfold F_X12_thrown
    rw [pI_w, wI_I, up_s]
  · show lg_cmp (up2 (hJ τ) 64 0 w 64 0) w = 0
    rw [up_s, cmp_0]
