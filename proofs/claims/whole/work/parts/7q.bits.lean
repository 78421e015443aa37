/-! leftOut -/
def blV : Nat → Int32 → Int32 → Option Int32
  | 0, _, _ => none
  | f + 1, v, x => if x ≤ 0 then some v else blV f (v + (x &&& 1)) (x >>> (1 &&& 31))
theorem bl_f (n : Nat) (σ : Hp) : ∀ f v x r, blV f v x = some r → ∀ m, f ≤ m → F_X12_bits_4 n m v x σ = some (r, σ) := by
  intro f
  induction f with
  | zero => intro v x r h; cases h
  | succ f ih =>
    intro v x r h m hm
    obtain ⟨m, rfl⟩ : ∃ q, m = q + 1 := ⟨m - 1, by omega⟩
    simp only [blV] at h
    simp only [F_X12_bits_4]
    by_cases c : x ≤ 0
    · rw [if_pos c] at h ⊢
      cases h; rfl
    · rw [if_neg c] at h ⊢
      exact ih _ _ _ h m (by omega)
theorem bl_pc0 : ∀ i : Nat, i < 64 → ∀ j : Nat, j < 64 → blV 13 0 (nI (64 * i + j)) = some (nI (pc (64 * i + j))) := by decide +kernel
theorem bits_m (n : Nat) (hn : 13 ≤ n) (s : Nat) (hs : s < 4096) (σ : Hp) : F_X12_bits n (nI s) σ = some (nI (pc s), σ) := by
  have h := bl_pc0 (s / 64) (by omega) (s % 64) (by omega)
  rw [Nat.div_add_mod] at h
  exact bl_f n σ 13 0 _ _ h n hn
def exQq (s : Nat) : Nat → Bool := fun i => bi (nI s) i
theorem pow_sh : ∀ J : Nat, J < 13 → (1 : Int32) <<< (nI J &&& 31) = nI (2 ^ J) := by decide +kernel
theorem bi_hi : ∀ J : Nat, J < 13 → ∀ i, i < 32 → bi ((1 : Int32) <<< (nI J &&& 31)) i = decide (i = J) := by decide +kernel
theorem bi_ge {s J i : Nat} (h : s < 2 ^ J) (hJ : J ≤ 12) (h1 : J ≤ i) (h2 : i < 32) : bi (nI s) i = false := by
  rw [bi_b h2]
  show (BitVec.ofNat 32 s).getLsbD i = false
  rw [BitVec.getLsbD_ofNat]
  have : s.testBit i = false := by
    apply Nat.testBit_lt_two_pow
    exact Nat.lt_of_lt_of_le h (Nat.pow_le_pow_right (by omega) h1)
  rw [this, Bool.and_false]
theorem cnt_not (f : Nat → Bool) : ∀ m, cnt m (fun q => !f q) + cnt m f = m := by
  intro m
  induction m with
  | zero => rfl
  | succ m ih =>
    show (cnt m (fun q => !f q) + (if (!f m) = true then 1 else 0)) + (cnt m f + (if f m = true then 1 else 0)) = m + 1
    by_cases h : f m = true
    · rw [h, if_neg (by decide), if_pos rfl]; omega
    · rw [Bool.not_eq_true] at h
      rw [h, if_pos (by decide), if_neg (by decide)]; omega
