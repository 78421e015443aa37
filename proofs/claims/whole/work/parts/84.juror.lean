/-! JUROR -/
def TU (τ υ : Hp) (k : Nat) (no ki he mn ln pt lw : Int32) (o : Option Nat) : Prop := hN υ = hN τ + 1 ∧ hK υ (hN τ) = k ∧ (∀ a, a ≠ hN τ → hK υ a = hK τ a ∧ hL υ a = hL τ a ∧ (∀ j, hI υ a j = hI τ a j) ∧ ∀ j, hR υ a j = hR τ a j) ∧ (hI υ (hN τ) 0 = no ∧ hI υ (hN τ) 1 = ki ∧ hI υ (hN τ) 2 = he ∧ hI υ (hN τ) 3 = mn ∧ hI υ (hN τ) 4 = ln ∧ hI υ (hN τ) 5 = pt ∧ hI υ (hN τ) 6 = lw) ∧ hR υ (hN τ) 7 = o
def tuH (τ : Hp) (k : Nat) (no told ln pt lw : Int32) (o : Option Nat) : Hp := pR (pI (pI (pI (pI (pI (pI (pI (nw τ k 0) (hN τ) 0 no) (hN τ) 1 (told / 1000)) (hN τ) 2 ((told / 100) - (told / 100) / 10 * 10)) (hN τ) 3 (told - told / 100 * 100)) (hN τ) 4 ln) (hN τ) 5 pt) (hN τ) 6 lw) (hN τ) 7 o
theorem tuH_u (τ : Hp) (k : Nat) (no told ln pt lw : Int32) (o : Option Nat) : TU τ (tuH τ k no told ln pt lw o) k no (told / 1000) ((told / 100) - (told / 100) / 10 * 10) (told - told / 100 * 100) ln pt lw o := by
  refine ⟨rfl, ?_, fun a ha => ⟨?_, ?_, fun j => ?_, fun j => ?_⟩, ⟨?_, ?_, ?_, ?_, ?_, ?_, ?_⟩, ?_⟩
  · show up1 (hK τ) (hN τ) k (hN τ) = k
    simp [up1]
  · show up1 (hK τ) (hN τ) k a = _
    simp [up1, ha]
  · show up1 (hL τ) (hN τ) 0 a = _
    simp [up1, ha]
  · show up2 (up2 (up2 (up2 (up2 (up2 (up2 (up1 (hI τ) (hN τ) fun _ => 0) (hN τ) 0 _) (hN τ) 1 _) (hN τ) 2 _) (hN τ) 3 _) (hN τ) 4 _) (hN τ) 5 _) (hN τ) 6 _ a j = _
    rw [up_i ha, up_i ha, up_i ha, up_i ha, up_i ha, up_i ha, up_i ha]
    simp [up1, ha]
  · show up2 (up1 (hR τ) (hN τ) fun _ => none) (hN τ) 7 o a j = _
    rw [up_i ha]
    simp [up1, ha]
  · exact (up_j (by decide)).trans ((up_j (by decide)).trans ((up_j (by decide)).trans ((up_j (by decide)).trans ((up_j (by decide)).trans ((up_j (by decide)).trans (up_s _ _ _ _))))))
  · exact (up_j (by decide)).trans ((up_j (by decide)).trans ((up_j (by decide)).trans ((up_j (by decide)).trans ((up_j (by decide)).trans (up_s _ _ _ _)))))
  · exact (up_j (by decide)).trans ((up_j (by decide)).trans ((up_j (by decide)).trans ((up_j (by decide)).trans (up_s _ _ _ _))))
  · exact (up_j (by decide)).trans ((up_j (by decide)).trans ((up_j (by decide)).trans (up_s _ _ _ _)))
  · exact (up_j (by decide)).trans ((up_j (by decide)).trans (up_s _ _ _ _))
  · exact (up_j (by decide)).trans (up_s _ _ _ _)
  · exact up_s _ _ _ _
  · exact up_s _ _ _ _
theorem nt_c {τ : Hp} {o : Option Nat} {x : Nat} {no told ln pt lw : Int32} (n : Nat) (h0 : hR τ 0 0 = some 1) (hl : F_X3_lawAt n 1 lw τ = some (o, τ)) (hx : told / 1000 = nI x) (h7 : x ≤ 7) : F_X11_newTurn n 0 no told ln pt lw τ = some (some (hN τ), tuH τ (kc x) no told ln pt lw o) := by
  unfold F_X11_newTurn
  rw [h0, qk_s1, qk_b2 hl, hx]
  obtain rfl | rfl | rfl | rfl | rfl | rfl | rfl | rfl : x = 0 ∨ x = 1 ∨ x = 2 ∨ x = 3 ∨ x = 4 ∨ x = 5 ∨ x = 6 ∨ x = 7 := by omega
  all_goals rfl
theorem la_n {τ : Hp} (n : Nat) {a : Int32} (h : a < 0) : F_X3_lawAt n 1 a τ = some (none, τ) := by
  unfold F_X3_lawAt
  rw [if_pos h]
theorem la_s {τ : Hp} {l L : Nat} (n : Nat) (hR' : RL τ 1) (h5 : hI τ 1 5 = nI L) (hl : l < L) (hL' : L ≤ 6) : F_X3_lawAt n 1 (nI l) τ = some (hR τ 5 l, τ) := by
  obtain ⟨r65, ⟨R1, R3, R4, R6, R7, R15, R16, R17, R18⟩, L1, L2, L3, L4, L5, L6, L7, L8, L9⟩ := hR'
  unfold F_X3_lawAt
  rw [if_neg (nI_pos (by omega)), h5, if_neg (nI_ge hl (by omega)), R6, qk_s1, L4, if_neg (nI_ge (by omega) (by omega)), qk_s1, L4, qk_in (by omega) (by omega), nI_clamp (by omega), qk_lt]
theorem kc_n1 (k : Nat) : kc k ≠ 1 := by unfold kc; split <;> decide
theorem t1_v (n : Nat) (a : Int32) (σ : Hp) : F_X11_isToldRight n a σ = some (if (a < 0 ∨ 7999 < a) ∨ (a - a / 100 * 100 < 1 ∨ 30 < a - a / 100 * 100) then 0 else 1, σ) := by
  unfold F_X11_isToldRight
  have e : 8000 ≤ a ↔ 7999 < a := by
    rw [Int32.le_iff_toInt_le, Int32.lt_iff_toInt_lt]
    have e1 : (8000 : Int32).toInt = 8000 := by decide
    have e2 : (7999 : Int32).toInt = 7999 := by decide
    omega
  by_cases c1 : a < 0
  · rw [if_pos c1, if_pos (Or.inl (Or.inl c1))]
  rw [if_neg c1]
  by_cases c2 : 7999 < a
  · rw [if_pos (e.mpr c2), if_pos (Or.inl (Or.inr c2))]
  rw [if_neg (fun q => c2 (e.mp q))]
  by_cases c3 : a - a / 100 * 100 < 1
  · rw [if_pos c3, if_pos (Or.inr (Or.inl c3))]
  rw [if_neg c3]
  by_cases c4 : 30 < a - a / 100 * 100
  · rw [if_pos c4, if_pos (Or.inr (Or.inr c4))]
  rw [if_neg c4, if_neg (by rintro ((q | q) | (q | q)) <;> contradiction)]
