/-! LAW: the class reads one -/
theorem cpy_n {σ : Hp} {g : Nat → Nat → Int32} {a b M m : Nat} (n : Nat) (hn : m < n) (hM : M ≤ 200) (hm : m ≤ M) (ha : hL σ a = M) (hb : hL σ b = m) (hab : a ≠ b) : ∃ g', F_X11_copyAll n a b (wI σ g) = some (wI σ g') ∧ Fr (fun p _ => p = b) g g' ∧ ∀ j, j < m → g' b j = g a j := by
  obtain ⟨ρ, e1, g', rfl, e2, e3⟩ := q_for (fun f i (h : Nat → Nat → Int32) => F_X11_copyAll_2 n f a b (nI i) (wI σ h)) (fun i h => Fr (fun p _ => p = b) g h ∧ ∀ j, j < i → h b j = g a j) (fun ρ => ∃ g', ρ = wI σ g' ∧ Fr (fun p _ => p = b) g g' ∧ ∀ j, j < m → g' b j = g a j) m (fun i f h hi hp => by
    have hiM : i < M := Nat.lt_of_lt_of_le hi hm
    simp only [F_X11_copyAll_2]
    rw [wI_L, ha, hb, if_neg (nI_ge hiM (by omega)), if_neg (nI_ge hi (by omega)), qk_in hiM (by omega), qk_in hi (by omega), nI_clamp (by omega), wI_I, hp.1 a i hab, qk_lt, wI_p, ← nI_succ]
    refine ⟨_, rfl, hp.1.up rfl, fun j hj => ?_⟩
    by_cases h1 : j = i
    · subst h1; exact up_s _ _ _ _
    · rw [up_j h1]; exact hp.2 j (by omega)) (fun f h hp => by
    refine ⟨_, ?_, h, rfl, hp⟩
    simp only [F_X11_copyAll_2]
    rw [wI_L, ha, hb]
    by_cases c : nI M ≤ nI m
    · rw [if_pos c]
    · rw [if_neg c, if_pos (nI_le (Nat.le_refl _) (by omega))]) n g (by omega) ⟨Fr.rf _ _, fun j hj => by omega⟩
  exact ⟨g', by unfold F_X11_copyAll; rw [q_0]; exact e1, e2, e3⟩
theorem nb_d {ρ : Type} (σ : Hp) (k n : Nat) (f : Nat → Hp → Option ρ) : nb σ k n f = f (hN σ) (nw σ k n) := rfl
theorem init_u {τ : Hp} {N s : Nat} (n : Nat) (hN' : N ≤ 100) (hs : s < hN τ) (hl : hL τ s = 100) : F_X1_init n (hN τ) s (nI N) (nw τ 1 0) = b1 (hR (lawH τ N) (hN τ) 0) fun i16 => b1 (F_X11_copyAll n s i16 (lawH τ N)) fun σ17 => b1 (F_X1_readSum n 8 (hN τ) 0 σ17) fun σ18 => if nI N ≤ hI σ18 (hN τ) 1 then some σ18 else b1 (F_X1_findFault n (hN τ) σ18) fun σ19 => some σ19 := by
  have hL0 : hL (pI (nw τ 1 0) (hN τ) 5 (-1)) s = 100 := by
    show up1 (hL τ) (hN τ) 0 s = 100
    unfold up1
    rw [if_neg (Nat.ne_of_lt hs)]; exact hl
  have h1 : ¬ nI 100 < nI N := nI_nlt (by omega) (by omega)
  have hx3 : (if (0 : Int32) < nI N then nI N else 0) = nI N := by
    by_cases c : (0 : Int32) < nI N
    · rw [if_pos c]
    · rw [if_neg c]
      have : N = 0 := by
        have h2 : ¬ nI 0 < nI N := c
        rw [nI_ltI (by omega) (by omega)] at h2
        omega
      rw [this]; rfl
  have hc : ¬ nI N < 0 ∧ N ≤ 100 := ⟨nI_pos (by omega), hN'⟩
  unfold F_X1_init
  rw [qk_lt, hL0, if_neg h1, qk_lt, hx3, qk_lt, nI_clamp (by omega), qk_ck hc, nb_d, qk_lt, qk_ck hc, nb_d, qk_lt, qk_ck hc, nb_d, qk_lt]
  rfl
theorem init_c {τ : Hp} {N s : Nat} {x : Nat → Int32} (n : Nat) (hn : 200 < n) (hN' : N ≤ 100) (hs : s < hN τ) (hl : hL τ s = 100) (hx : ∀ i, i < N → hI τ s i = x i) : ∃ g, F_X1_init n (hN τ) s (nI N) (nw τ 1 0) = some (wI (lawH τ N) g) ∧ (∀ a, a < hN τ → ∀ j, g a j = hI τ a j) ∧ ((¬ lwOk x N ∧ g (hN τ) 5 = nI (sumS x N 8 0 0).1) ∨ (lwOk x N ∧ g (hN τ) 5 = -1 ∧ ∃ cs e, sumS x N 8 0 0 = (N, some (cs, e)) ∧ LwI (lawH τ N) g (hN τ) e)) := by
  have U := lawH_u τ N
  rw [init_u n hN' hs hl]
  obtain ⟨υ, hυ⟩ : ∃ υ, lawH τ N = υ := ⟨_, rfl⟩
  rw [hυ] at U ⊢
  obtain ⟨uN, ⟨k0, k1, k2, k3⟩, ⟨l1, l2, l3⟩, ⟨r0, r2, r4⟩, ⟨i5, i1, i3⟩, uA⟩ := U
  have hS : LyL υ (hN τ) N := ⟨r0, r2, r4, l1, l2, l3, hN'⟩
  obtain ⟨g0, c1, c2, c3⟩ := cpy_n (σ := υ) (g := hI υ) (a := s) (b := hN τ + 1) (M := 100) (m := N) n (by omega) (by omega) hN' ((uA s hs).2.1.trans hl) l1 (by omega)
  rw [wI_S] at c1
  have ps : PS g0 (hN τ) N x 0 [] := ⟨(c2 _ _ (by omega)).trans i1, (c2 _ _ (by omega)).trans i5, (c2 _ _ (by omega)).trans i3, fun i hi => absurd hi (Nat.not_lt_zero _), fun i hi => (c3 i hi).trans (((uA s hs).2.2.1 i).trans (hx i hi))⟩
  obtain ⟨g1, s1, s2, s3⟩ := sum_c (σ := υ) (x := x) n hn hS 8 0 (by omega) (by omega) 0 [] g0 (by omega) (Nat.le_refl _) ps
  have s1' : F_X1_readSum n 8 (hN τ) 0 (wI υ g0) = some (wI υ g1) := s1
  have o1 := sumS_ok (x := x) (N := N) 8 0 0
  have fr : ∀ a, a < hN τ → ∀ j, g1 a j = hI τ a j := fun a ha j => by
    rw [s2 a (by omega) (by omega), c2 a j (by omega)]
    exact (uA a ha).2.2.1 j
  rw [r0, qk_s1, qk_b1 c1, qk_b1 s1', wI_I]
  unfold lwOk
  cases hk : sumS x N 8 0 0 with
  | mk p r =>
    rw [hk] at s3 o1
    have o2 : p ≤ N := o1.2.1 (Nat.zero_le _)
    cases r with
    | none =>
      simp only at s3
      refine ⟨g1, ?_, fr, Or.inl ⟨fun w => Bool.false_ne_true w.1, s3⟩⟩
      by_cases c : nI N ≤ g1 (hN τ) 1
      · rw [if_pos c]
      · rw [if_neg c, qk_b1 (ff_any n s3 (by omega))]
    | some w =>
      obtain ⟨cs, e⟩ := w
      simp only [List.nil_append] at s3
      obtain ⟨w1, w2, w3⟩ := o1.2.2 cs e rfl
      simp only [Nat.zero_add] at w2 w3
      obtain ⟨p1, p5, p3, pw, px⟩ := s3
      by_cases c : p = N
      · refine ⟨g1, ?_, fr, Or.inr ⟨⟨rfl, c⟩, p5, cs, e, by rw [c], N, cs, hS, p3, by omega, by omega, pw, w1⟩⟩
        rw [p1, if_pos (nI_le (by omega) (by omega))]
      · obtain ⟨g2, f1, f2, f3⟩ := PS.fault (σ := υ) n ⟨p1, p5, p3, pw, px⟩
        refine ⟨g2, ?_, fun a ha j => ?_, Or.inl ⟨fun w => c w.2, f3⟩⟩
        · rw [p1, if_neg (nI_ge (by omega) (by omega)), qk_b1 f1]
        · rw [f2 a (by omega) (by omega)]; exact fr a ha j
theorem al_c {υ : Hp} {g : Nat → Nat → Int32} {L q : Nat} (n : Nat) (hRL : RL υ 1) (h5 : g 1 5 = nI L) (hL' : L < 6) : F_X3_addLaw n 1 q (wI υ g) = some (nI L, wA υ (up2 g 1 5 (nI (L + 1))) (up2 (hR υ) 5 L (some q))) := by
  obtain ⟨r65, ⟨R1, R3, R4, R6, R7, R15, R16, R17, R18⟩, L1, L2, L3, L4, L5, L6, L7, L8, L9⟩ := hRL
  unfold F_X3_addLaw
  rw [wI_I, h5, if_neg (nI_pos (by omega)), wI_R, R6, qk_s1, wI_L, L4, if_pos (nI_lt hL' (by omega)), qk_s1, L4, qk_in hL' (by omega), nI_clamp (by omega), wI_A, wA_r, qk_lt, wA_I, h5, nI_1, wA_p, qk_lt, wA_I, up_s, nI_s1]
