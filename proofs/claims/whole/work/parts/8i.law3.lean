/-! LAW: the class makes one -/
def lawH (τ : Hp) (N : Nat) : Hp := pR (nw (pR (nw (pR (nw (pI (nw τ 1 0) (hN τ) 5 (-1)) 13 N) (hN τ) 0 (some (hN τ + 1))) 13 N) (hN τ) 2 (some (hN τ + 2))) 13 N) (hN τ) 4 (some (hN τ + 3))
def LU (τ υ : Hp) (N : Nat) : Prop := hN υ = hN τ + 4 ∧ (hK υ (hN τ) = 1 ∧ hK υ (hN τ + 1) = 13 ∧ hK υ (hN τ + 2) = 13 ∧ hK υ (hN τ + 3) = 13) ∧ (hL υ (hN τ + 1) = N ∧ hL υ (hN τ + 2) = N ∧ hL υ (hN τ + 3) = N) ∧ (hR υ (hN τ) 0 = some (hN τ + 1) ∧ hR υ (hN τ) 2 = some (hN τ + 2) ∧ hR υ (hN τ) 4 = some (hN τ + 3)) ∧ (hI υ (hN τ) 5 = -1 ∧ hI υ (hN τ) 1 = 0 ∧ hI υ (hN τ) 3 = 0) ∧ ∀ a, a < hN τ → hK υ a = hK τ a ∧ hL υ a = hL τ a ∧ (∀ j, hI υ a j = hI τ a j) ∧ ∀ j, hR υ a j = hR τ a j
theorem lawH_u (τ : Hp) (N : Nat) : LU τ (lawH τ N) N := by
  refine ⟨rfl, ⟨?_, ?_, ?_, ?_⟩, ⟨?_, ?_, ?_⟩, ⟨?_, ?_, ?_⟩, ⟨?_, ?_, ?_⟩, fun a ha => ⟨?_, ?_, fun j => ?_, fun j => ?_⟩⟩
  all_goals have k2 : ¬ τ.1 = τ.1 + 1 + 1 := by omega
  all_goals have k3 : ¬ τ.1 = τ.1 + 1 + 1 + 1 := by omega
  all_goals have k4 : ¬ τ.1 + 1 = τ.1 + 1 + 1 + 1 := by omega
  all_goals have k5 : ¬ τ.1 + 2 = τ.1 := by omega
  all_goals have k6 : ¬ τ.1 + 3 = τ.1 := by omega
  all_goals (try have n0 : ¬ a = τ.1 := Nat.ne_of_lt ha)
  all_goals (try have n1 : ¬ a = τ.1 + 1 := Nat.ne_of_lt (Nat.lt_of_lt_of_le ha (Nat.le_add_right _ 1)))
  all_goals (try have n2 : ¬ a = τ.1 + 1 + 1 := Nat.ne_of_lt (Nat.lt_of_lt_of_le ha (Nat.le_add_right _ 2)))
  all_goals (try have n3 : ¬ a = τ.1 + 1 + 1 + 1 := Nat.ne_of_lt (Nat.lt_of_lt_of_le ha (Nat.le_add_right _ 3)))
  all_goals simp [lawH, pR, pI, nw, hN, hK, hL, hI, hR, up1, up2, *]
