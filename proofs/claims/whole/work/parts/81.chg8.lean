/-! COPY -/
def stp (bk : Bool) (m k : Nat) : Nat := if bk then m - 1 - k else k
theorem mv_go {ρ : Type} (F : Nat → Nat → (Nat → Nat → Int32) → Option ρ) (K : (Nat → Nat → Int32) → Option ρ) (A : Nat → Nat) (B : Nat → Nat → Nat) (d e i j m : Nat) (bk : Bool) (hbk : (bk = true → i ≤ j) ∧ (bk = false → j ≤ i)) (hinj : ∀ x y, x < 100 → y < 100 → A d = A e → B d x = B e y → x = y) (hinj2 : ∀ x y, B e x = B e y → x = y) (hi : i + m ≤ 100) (hj : j + m ≤ 100) (hs : ∀ k f g, k < m → F (f + 1) k g = F f (k + 1) (up2 g (A e) (B e (j + stp bk m k)) (g (A d) (B d (i + stp bk m k))))) (he : ∀ f g, F (f + 1) m g = K g) (n : Nat) (g : Nat → Nat → Int32) (hn : m < n) : ∃ g', F n 0 g = K g' ∧ (∀ x, x < m → g' (A e) (B e (j + x)) = g (A d) (B d (i + x))) ∧ ∀ a b, (∀ x, x < m → ¬ (a = A e ∧ b = B e (j + x))) → g' a b = g a b := by
  have key : ∀ q k f (h : Nat → Nat → Int32), q + k = m → q < f → (∀ x, x < m → (if bk then m - k ≤ x else x < k) → h (A e) (B e (j + x)) = g (A d) (B d (i + x))) → (∀ a b, (∀ x, x < m → (if bk then m - k ≤ x else x < k) → ¬ (a = A e ∧ b = B e (j + x))) → h a b = g a b) → ∃ g', F f k h = K g' ∧ (∀ x, x < m → g' (A e) (B e (j + x)) = g (A d) (B d (i + x))) ∧ ∀ a b, (∀ x, x < m → ¬ (a = A e ∧ b = B e (j + x))) → g' a b = g a b := by
    intro q
    induction q with
    | zero =>
      intro k f h hk hf p1 p2
      obtain ⟨f, rfl⟩ : ∃ q, f = q + 1 := ⟨f - 1, by omega⟩
      obtain rfl : k = m := by omega
      refine ⟨h, he f h, fun x hx => p1 x hx ?_, fun a b hab => p2 a b fun x hx _ => hab x hx⟩
      split
      · omega
      · exact hx
    | succ q ih =>
      intro k f h hk hf p1 p2
      obtain ⟨f, rfl⟩ : ∃ q, f = q + 1 := ⟨f - 1, by omega⟩
      rw [hs k f h (by omega)]
      have rd : h (A d) (B d (i + stp bk m k)) = g (A d) (B d (i + stp bk m k)) := p2 _ _ fun x hx hc ⟨y1, y2⟩ => by
        unfold stp at y2
        cases bk with
        | true =>
          have := hbk.1 rfl
          simp only [if_true] at y2 hc
          have := hinj _ _ (by omega) (by omega) y1 y2
          omega
        | false =>
          have := hbk.2 rfl
          simp only [Bool.false_eq_true, if_false] at y2 hc
          have := hinj _ _ (by omega) (by omega) y1 y2
          omega
      rw [rd]
      refine ih (k + 1) f _ (by omega) (by omega) (fun x hx hc => ?_) (fun a b hab => ?_)
      · by_cases y : x = stp bk m k
        · rw [y, up_s]
        · rw [up_j (fun z => y (by have := hinj2 _ _ z; omega))]
          refine p1 x hx ?_
          unfold stp at y
          cases bk with
          | true =>
            simp only [if_true] at y hc ⊢
            omega
          | false =>
            simp only [Bool.false_eq_true, if_false] at y hc ⊢
            omega
      · have h1 : ¬ (a = A e ∧ b = B e (j + stp bk m k)) := hab (stp bk m k) (by unfold stp; split <;> omega) (by
          unfold stp
          cases bk with
          | true =>
            simp only [if_true]
            omega
          | false =>
            simp only [Bool.false_eq_true, if_false]
            omega)
        have e1 : up2 h (A e) (B e (j + stp bk m k)) (g (A d) (B d (i + stp bk m k))) a b = h a b := by
          unfold up2
          rw [if_neg h1]
        rw [e1]
        refine p2 a b fun x hx hc => hab x hx ?_
        cases bk with
        | true =>
          simp only [if_true] at hc ⊢
          omega
        | false =>
          simp only [Bool.false_eq_true, if_false] at hc ⊢
          omega
  refine key m 0 n g (by omega) hn (fun x hx hc => ?_) (fun _ _ _ => rfl)
  exfalso
  cases bk with
  | true =>
    simp only [if_true] at hc
    omega
  | false =>
    simp only [Bool.false_eq_true, if_false] at hc
    omega
theorem nI_sbI {N i : Nat} (hN : N ≤ 100) (hi : i < 2 ^ 31) : (nI N - nI i).toInt = (N : Int) - i := by
  rw [Int32.toInt_sub, nI_toInt (by omega), nI_toInt hi, Int.bmod_eq_of_le (by omega) (by omega)]
theorem hp_n {τ : Hp} {s N i m : Nat} (n : Nat) (h : hI τ s 3 = nI N) (hN : N ≤ 100) (hi : i < 2 ^ 31) (hm : m < 2 ^ 31) : F_X5_hasPlaces n s (nI i) (nI m) τ = some (if i + m ≤ N then 1 else 0, τ) := by
  unfold F_X5_hasPlaces
  rw [h, if_neg (nI_pos hi), if_neg (nI_pos hm)]
  by_cases c : nI N < nI m
  · have := (nI_ltI (by omega) hm).mp c
    rw [if_pos c, if_neg (by omega)]
  · have c' := fun q => c ((nI_ltI (by omega) hm).mpr q)
    rw [if_neg c]
    have e : (nI N - nI m < nI i) ↔ ¬ i + m ≤ N := by
      rw [Int32.lt_iff_toInt_lt, nI_sbI hN hm, nI_toInt hi]; omega
    by_cases c2 : i + m ≤ N
    · rw [if_neg (fun q => e.mp q c2), if_pos c2]
    · rw [if_pos (e.mpr c2), if_neg c2]
theorem hp_x {τ : Hp} {s : Nat} {i m : Int32} (n : Nat) (h : i < 0 ∨ m < 0) : F_X5_hasPlaces n s i m τ = some (0, τ) := by
  unfold F_X5_hasPlaces
  by_cases c : i < 0
  · rw [if_pos c]
  · rw [if_neg c, if_pos (h.resolve_left c)]
theorem cy_c {τ : Hp} {g : Nat → Nat → Int32} {d e i j m : Nat} (n : Nat) (hn : 100 < n) (s2 : hR τ (32 + 2 * d) 4 = some (33 + 2 * d)) (s3 : hL τ (33 + 2 * d) = 100) (u2 : hR τ (32 + 2 * e) 4 = some (33 + 2 * e)) (u3 : hL τ (33 + 2 * e) = 100) (hi : i + m ≤ 100) (hj : j + m ≤ 100) : ∃ g', F_X11_copy_98 n n (nI i) (nI j) (nI m) (32 + 2 * d) (32 + 2 * e) 0 (wI τ g) = some (nI m, wI τ g') ∧ (∀ x, x < m → g' (33 + 2 * e) (j + x) = g (33 + 2 * d) (i + x)) ∧ ∀ a b, (∀ x, x < m → ¬ (a = 33 + 2 * e ∧ b = j + x)) → g' a b = g a b := by
  have hm : m < 2 ^ 31 := by omega
  have one : ∀ (k s : Nat) (f : Nat) (h : Nat → Nat → Int32), k < m → s < m → F_X11_copy_123 n (F_X11_copy_98 n f) (nI i) (nI j) (nI m) (32 + 2 * d) (32 + 2 * e) (nI k) (nI s) (wI τ h) = F_X11_copy_98 n f (nI i) (nI j) (nI m) (32 + 2 * d) (32 + 2 * e) (nI (k + 1)) (wI τ (up2 h (33 + 2 * e) (j + s) (h (33 + 2 * d) (i + s)))) := fun k s f h hk hs => by
    have at' := q_at (σ := wI τ h) (a := 33 + 2 * d) (i := i + s) (N := 100) n s3 (by omega) (by omega)
    have st := q_st (σ := wI τ h) (a := 33 + 2 * e) (i := j + s) (N := 100) n (h (33 + 2 * d) (i + s)) u3 (by omega) (by omega)
    rw [wI_p] at st
    rw [wI_I] at at'
    unfold F_X11_copy_123
    rw [wI_R, u2, qk_s1, s2, qk_s1, nI_add, nI_add, qk_b2 at', qk_b1 st, nI_1]
  have s0 : ∀ k, k < m → nI m - 1 - nI k = nI (m - 1 - k) := fun k hk => by rw [nI_m1 (by omega), nI_sub (by omega)]
  by_cases c : j ≤ i
  · obtain ⟨g', k1, k2, k3⟩ := mv_go (fun f k h => F_X11_copy_98 n f (nI i) (nI j) (nI m) (32 + 2 * d) (32 + 2 * e) (nI k) (wI τ h)) (fun h => some (nI m, wI τ h)) (fun a => 33 + 2 * a) (fun _ x => x) d e i j m false ⟨fun q => absurd q (by decide), fun _ => c⟩ (fun x y _ _ _ h => h) (fun x y h => h) hi hj (fun k f h hk => by
      simp only [F_X11_copy_98]
      rw [if_neg (nI_ge hk hm), if_pos (nI_le c (by omega)), one k k f h hk hk]; rfl) (fun f h => by
      simp only [F_X11_copy_98]
      rw [if_pos (nI_le (Nat.le_refl _) hm)]) n g (by omega)
    exact ⟨g', k1, k2, k3⟩
  · obtain ⟨g', k1, k2, k3⟩ := mv_go (fun f k h => F_X11_copy_98 n f (nI i) (nI j) (nI m) (32 + 2 * d) (32 + 2 * e) (nI k) (wI τ h)) (fun h => some (nI m, wI τ h)) (fun a => 33 + 2 * a) (fun _ x => x) d e i j m true ⟨fun _ => by omega, fun q => absurd q (by decide)⟩ (fun x y _ _ _ h => h) (fun x y h => h) hi hj (fun k f h hk => by
      simp only [F_X11_copy_98]
      rw [if_neg (nI_ge hk hm), if_neg (nI_ge (by omega) (by omega)), s0 k hk, one k (m - 1 - k) f h hk (by omega)]; rfl) (fun f h => by
      simp only [F_X11_copy_98]
      rw [if_pos (nI_le (Nat.le_refl _) hm)]) n g (by omega)
    exact ⟨g', k1, k2, k3⟩
theorem cy_m {τ : Hp} {g : Nat → Nat → Int32} {d e i j m : Nat} (n : Nat) (hn : 100 < n) (hd : d < 8) (he : e < 8) (M10 : hR τ 48 10 = some 59) (K59 : hL τ 59 = 800) (hi : i + m ≤ 100) (hj : j + m ≤ 100) : ∃ g', F_X12_copy_122 n n 48 (nI d) (nI i) (nI e) (nI j) (nI m) 0 (wI τ g) = some (nI m, wI τ g') ∧ (∀ x, x < m → g' 59 (100 * e + (j + x)) = g 59 (100 * d + (i + x))) ∧ ∀ a b, (∀ x, x < m → ¬ (a = 59 ∧ b = 100 * e + (j + x))) → g' a b = g a b := by
  have hm : m < 2 ^ 31 := by omega
  have one : ∀ (k s : Nat) (f : Nat) (h : Nat → Nat → Int32), k < m → s < m → F_X12_copy_147 n (F_X12_copy_122 n f) 48 (nI d) (nI i) (nI e) (nI j) (nI m) (nI k) (nI s) (wI τ h) = F_X12_copy_122 n f 48 (nI d) (nI i) (nI e) (nI j) (nI m) (nI (k + 1)) (wI τ (up2 h 59 (100 * e + (j + s)) (h 59 (100 * d + (i + s))))) := fun k s f h hk hs => by
    unfold F_X12_copy_147
    rw [wI_R, M10, qk_s1, qk_s1, a100, a100, nI_add, nI_add, wI_L, K59, qk_in (by omega) (by omega), qk_in (by omega) (by omega), nI_clamp (by omega), nI_clamp (by omega), wI_p, qk_lt, wI_I, nI_1, Nat.add_assoc, Nat.add_assoc]
  have s0 : ∀ k, k < m → nI m - 1 - nI k = nI (m - 1 - k) := fun k hk => by rw [nI_m1 (by omega), nI_sub (by omega)]
  by_cases c : i ≤ j
  · obtain ⟨g', k1, k2, k3⟩ := mv_go (fun f k h => F_X12_copy_122 n f 48 (nI d) (nI i) (nI e) (nI j) (nI m) (nI k) (wI τ h)) (fun h => some (nI m, wI τ h)) (fun _ => 59) (fun a x => 100 * a + x) d e i j m true ⟨fun _ => c, fun q => absurd q (by decide)⟩ (fun x y _ _ _ h => by omega) (fun x y h => by omega) hi hj (fun k f h hk => by
      simp only [F_X12_copy_122]
      rw [if_neg (nI_ge hk hm), if_pos (nI_le c (by omega)), s0 k hk, one k (m - 1 - k) f h hk (by omega)]; rfl) (fun f h => by
      simp only [F_X12_copy_122]
      rw [if_pos (nI_le (Nat.le_refl _) hm)]) n g (by omega)
    exact ⟨g', k1, k2, k3⟩
  · obtain ⟨g', k1, k2, k3⟩ := mv_go (fun f k h => F_X12_copy_122 n f 48 (nI d) (nI i) (nI e) (nI j) (nI m) (nI k) (wI τ h)) (fun h => some (nI m, wI τ h)) (fun _ => 59) (fun a x => 100 * a + x) d e i j m false ⟨fun q => absurd q (by decide), fun _ => by omega⟩ (fun x y _ _ _ h => by omega) (fun x y h => by omega) hi hj (fun k f h hk => by
      simp only [F_X12_copy_122]
      rw [if_neg (nI_ge hk hm), if_neg (nI_ge (by omega) (by omega)), one k k f h hk hk]; rfl) (fun f h => by
      simp only [F_X12_copy_122]
      rw [if_pos (nI_le (Nat.le_refl _) hm)]) n g (by omega)
    exact ⟨g', k1, k2, k3⟩
