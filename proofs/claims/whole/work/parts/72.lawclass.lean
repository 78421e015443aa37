/-! the class's Law, against the reading of 71 -/
def LyL (σ : Hp) (o N : Nat) : Prop := hR σ o 0 = some (o + 1) ∧ hR σ o 2 = some (o + 2) ∧ hR σ o 4 = some (o + 3) ∧ hL σ (o + 1) = N ∧ hL σ (o + 2) = N ∧ hL σ (o + 3) = N ∧ N ≤ 100
def PS (g : Nat → Nat → Int32) (o N : Nat) (x : Nat → Int32) (p : Nat) (ws : List Int32) : Prop := g o 1 = nI p ∧ g o 5 = -1 ∧ g o 3 = nI ws.length ∧ (∀ i, i < ws.length → g (o + 2) i = ws.getD i 0) ∧ (∀ i, i < N → g (o + 1) i = x i)
def Pst (g g' : Nat → Nat → Int32) (o N : Nat) (x : Nat → Int32) (ws : List Int32) (R : Rz) : Prop := (∀ a, a ≠ o → a ≠ o + 2 → g' a = g a) ∧ (match R.2 with
  | none => g' o 5 = nI R.1
  | some q => PS g' o N x R.1 (ws ++ q.1))
theorem PS.rd {σ : Hp} {g : Nat → Nat → Int32} {o N p : Nat} {x : Nat → Int32} {ws : List Int32} (n : Nat) (hS : LyL σ o N) (h : PS g o N x p ws) (hp : p ≤ N) : F_X1_next n o (wI σ g) = some (nx x N p, wI σ g) := by
  obtain ⟨s0, s2, s4, l1, l2, l3, hN⟩ := hS
  unfold F_X1_next
  rw [wI_I, wI_R, wI_L, h.1, if_neg (nI_pos (by omega)), qk_b1 s0, qk_b1 s0, l1]
  unfold nx
  by_cases h1 : p < N
  · rw [if_neg (nI_ge h1 (by omega)), qk_in h1 (by omega), nI_clamp (by omega), if_pos h1, h.2.2.2.2 p h1]
  · rw [if_pos (nI_le (by omega) (by omega)), if_neg h1]
theorem gd_app {ws : List Int32} {c : Int32} {i : Nat} (h : i < ws.length) : (ws ++ [c]).getD i 0 = ws.getD i 0 := by
  rw [List.getD_eq_getElem?_getD, List.getD_eq_getElem?_getD, List.getElem?_append_left h]
theorem gd_new {ws : List Int32} {c : Int32} : (ws ++ [c]).getD ws.length 0 = c := by
  rw [List.getD_eq_getElem?_getD, List.getElem?_append_right (Nat.le_refl _)]
  simp
/-- one sign written -/
theorem PS.wr {σ : Hp} {g : Nat → Nat → Int32} {o N p : Nat} {x : Nat → Int32} {ws : List Int32} (n : Nat) (c : Int32) (hS : LyL σ o N) (h : PS g o N x p ws) (hw : ws.length < N) : ∃ g', F_X1_write n o c (wI σ g) = some (wI σ g') ∧ (∀ a, a ≠ o → a ≠ o + 2 → g' a = g a) ∧ PS g' o N x p (ws ++ [c]) := by
  obtain ⟨s0, s2, s4, l1, l2, l3, hN⟩ := hS
  refine ⟨up2 (up2 g (o + 2) ws.length c) o 3 (nI (ws.length + 1)), ?_, ?_, ?_⟩
  · unfold F_X1_write
    rw [wI_I, wI_R, qk_b1 s2, h.2.2.1, qk_b1 (q_st n c (by rw [wI_L]; exact l2) hw (by omega)), wI_p, qk_lt, wI_I, up_i (by omega), h.2.2.1, wI_p, ← nI_succ]
  · intro a h1 h2
    rw [up_r h1, up_r h2]
  · refine ⟨?_, ?_, ?_, ?_, ?_⟩
    · rw [up_j (by omega), up_i (by omega)]; exact h.1
    · rw [up_j (by omega), up_i (by omega)]; exact h.2.1
    · rw [up_s, List.length_append]; rfl
    · intro i hi
      rw [List.length_append, List.length_singleton] at hi
      rw [up_i (by omega)]
      by_cases h3 : i = ws.length
      · subst h3; rw [up_s, gd_new]
      · rw [up_j h3, gd_app (by omega)]; exact h.2.2.2.1 i (by omega)
    · intro i hi
      rw [up_i (by omega), up_i (by omega)]; exact h.2.2.2.2 i hi
theorem st_any {σ : Hp} {g : Nat → Nat → Int32} {a N : Nat} (n : Nat) (i c : Int32) (hl : hL σ a = N) (hN : N ≤ 100) : ∃ g', F_X11_store n a i c (wI σ g) = some (wI σ g') ∧ (∀ b, b ≠ a → g' b = g b) := by
  unfold F_X11_store
  rw [wI_L, hl]
  by_cases h1 : i < 0
  · exact ⟨g, by rw [if_pos h1], fun _ _ => rfl⟩
  · rw [if_neg h1]
    by_cases h2 : nI N ≤ i
    · exact ⟨g, by rw [if_pos h2], fun _ _ => rfl⟩
    · rw [if_neg h2]
      obtain ⟨j, hj, rfl⟩ := nI_of h1
      rw [nI_leI (by omega) hj] at h2
      exact ⟨up2 g a j c, by rw [qk_in (by omega) (by omega), nI_clamp hj, qk_lt, wI_p], fun b hb => up_r hb⟩
theorem wr_any {σ : Hp} {g : Nat → Nat → Int32} {o N : Nat} (n : Nat) (c : Int32) (hS : LyL σ o N) : ∃ g', F_X1_write n o c (wI σ g) = some (wI σ g') ∧ (∀ a, a ≠ o → a ≠ o + 2 → g' a = g a) ∧ g' o 5 = g o 5 := by
  obtain ⟨s0, s2, s4, l1, l2, l3, hN⟩ := hS
  obtain ⟨g1, h1, h2⟩ := st_any (g := g) n (g o 3) c l2 hN
  refine ⟨up2 g1 o 3 (g1 o 3 + 1), ?_, ?_, ?_⟩
  · unfold F_X1_write
    rw [wI_I, wI_R, qk_b1 s2, qk_b1 h1, qk_lt, wI_I, wI_p]
  · intro a h3 h4
    rw [up_r h3, h2 a h4]
  · rw [up_j (by omega), h2 o (by omega)]
/-- a place on -/
theorem PS.on {g : Nat → Nat → Int32} {o N p : Nat} {x : Nat → Int32} {ws : List Int32} (h : PS g o N x p ws) : PS (up2 g o 1 (g o 1 + 1)) o N x (p + 1) ws := by
  refine ⟨?_, ?_, ?_, ?_, ?_⟩
  · rw [up_s, h.1, nI_succ]
  · rw [up_j (by omega)]; exact h.2.1
  · rw [up_j (by omega)]; exact h.2.2.1
  · intro i hi; rw [up_i (by omega)]; exact h.2.2.2.1 i hi
  · intro i hi; rw [up_i (by omega)]; exact h.2.2.2.2 i hi
theorem PS.fault {σ : Hp} {g : Nat → Nat → Int32} {o N p : Nat} {x : Nat → Int32} {ws : List Int32} (n : Nat) (h : PS g o N x p ws) : ∃ g', F_X1_findFault n o (wI σ g) = some (wI σ g') ∧ (∀ a, a ≠ o → a ≠ o + 2 → g' a = g a) ∧ g' o 5 = nI p := by
  refine ⟨up2 g o 5 (nI p), ?_, fun a h1 _ => up_r h1, up_s _ _ _ _⟩
  unfold F_X1_findFault
  rw [wI_I, h.2.1, if_neg (by decide), h.1, wI_p, qk_lt]
theorem ff_any {σ : Hp} {g : Nat → Nat → Int32} {o q : Nat} (n : Nat) (h : g o 5 = nI q) (hq : q < 2 ^ 31) : F_X1_findFault n o (wI σ g) = some (wI σ g) := by
  unfold F_X1_findFault
  rw [wI_I, h, if_pos (nI_pos' hq)]
theorem tk_any {σ : Hp} {g : Nat → Nat → Int32} {o q : Nat} (n : Nat) (c : Int32) (h : g o 5 = nI q) (hq : q < 2 ^ 31) : F_X1_take n o c (wI σ g) = some (wI σ g) := by
  unfold F_X1_take F_X1_take_28
  rw [wI_I, h, if_pos (nI_pos' hq), qk_b1 (ff_any n h hq)]
theorem PS.tk {σ : Hp} {g : Nat → Nat → Int32} {o N p : Nat} {x : Nat → Int32} {ws : List Int32} (n : Nat) (c : Int32) (hS : LyL σ o N) (h : PS g o N x p ws) (hp : p ≤ N) : ∃ g', F_X1_take n o c (wI σ g) = some (wI σ g') ∧ (∀ a, a ≠ o → a ≠ o + 2 → g' a = g a) ∧ (if nx x N p = c then PS g' o N x (p + 1) ws else g' o 5 = nI p) := by
  unfold F_X1_take F_X1_take_28
  rw [wI_I, h.2.1, if_neg (by decide), qk_b2 (h.rd n hS hp)]
  by_cases h1 : nx x N p = c
  · rw [if_pos h1]
    simp only [if_pos h1]
    exact ⟨up2 g o 1 (g o 1 + 1), by rw [qk_lt, wI_I, wI_p], fun a h2 _ => up_r h2, h.on⟩
  · rw [if_neg h1]
    simp only [if_neg h1]
    obtain ⟨g', k1, k2, k3⟩ := h.fault (σ := σ) n
    exact ⟨g', by rw [qk_b1 k1], k2, k3⟩
theorem dg_n (a j : Nat) : (10 * nI a + nI (48 + j)) - 48 = nI (10 * a + j) := by
  have h1 : nI (48 + j) = 48 + nI j := (nI_add 48 j).symm
  have h2 : nI (10 * a + j) = 10 * nI a + nI j := by
    rw [← nI_add]; congr 1
    exact Int32.ofNat_mul 10 a
  rw [h1, h2]; grind
theorem num_c {σ : Hp} {o N : Nat} {x : Nat → Int32} {ws : List Int32} (n : Nat) (hS : LyL σ o N) : ∀ k p a i f g, k + i = 3 → k < f → p ≤ N → a < 10 ^ i → PS g o N x p ws → ws.length + 1 ≤ (numS x N k p a).1 → ∃ g', F_X1_readNumber_4 n f o (nI a) (nI i) (wI σ g) = some (wI σ g') ∧ (∀ b, b ≠ o → b ≠ o + 2 → g' b = g b) ∧ PS g' o N x (numS x N k p a).1 (ws ++ [(-1) - nI (numS x N k p a).2]) := by
  intro k
  induction k with
  | zero =>
    intro p a i f g hi hf hp ha h hw
    obtain ⟨f, rfl⟩ : ∃ q, f = q + 1 := ⟨f - 1, by omega⟩
    obtain rfl : i = 3 := by omega
    have hN := hS.2.2.2.2.2.2
    simp only [numS] at hw ⊢
    obtain ⟨g', k1, k2, k3⟩ := h.wr n ((-1) - nI a) hS (by omega)
    refine ⟨g', ?_, k2, k3⟩
    simp only [F_X1_readNumber_4, F_X1_readNumber_63]
    rw [if_pos (show (3 : Int32) ≤ nI 3 by decide), qk_b1 k1]
  | succ k ih =>
    intro p a i f g hi hf hp ha h hw
    obtain ⟨f, rfl⟩ : ∃ q, f = q + 1 := ⟨f - 1, by omega⟩
    have hN := hS.2.2.2.2.2.2
    have h3 : ¬ (3 : Int32) ≤ nI i := nI_ge (a := i) (b := 3) (by omega) (by decide)
    have hnx := h.rd n hS hp
    simp only [F_X1_readNumber_4, F_X1_readNumber_63, F_X1_readNumber_54]
    rw [if_neg h3, qk_b2 hnx]
    simp only [numS] at hw ⊢
    by_cases h1 : nx x N p < 48
    · rw [if_pos h1] at hw ⊢
      rw [if_pos h1]
      obtain ⟨g', k1, k2, k3⟩ := h.wr n ((-1) - nI a) hS (by simp only at hw; omega)
      exact ⟨g', by rw [qk_b1 k1], k2, k3⟩
    · rw [if_neg h1] at hw ⊢
      rw [if_neg h1, qk_b2 hnx]
      by_cases h2 : 57 < nx x N p
      · rw [if_pos h2] at hw ⊢
        rw [if_pos h2]
        obtain ⟨g', k1, k2, k3⟩ := h.wr n ((-1) - nI a) hS (by simp only at hw; omega)
        exact ⟨g', by rw [qk_b1 k1], k2, k3⟩
      · rw [if_neg h2] at hw ⊢
        have hp1 := nx_dig h2
        obtain ⟨j, hj, h4⟩ := dig_n h1 h2
        have h5 : (nI (48 + j)).toNatClampNeg - 48 = j := by rw [nI_clamp (by omega)]; omega
        have ha9 : a < 1000 := Nat.lt_of_lt_of_le ha (by
          have : 10 ^ i ≤ 10 ^ 3 := Nat.pow_le_pow_right (by omega) (by omega)
          omega)
        rw [if_neg h2, qk_b2 hnx, qk_lt, wI_I, wI_p]
        rw [h4] at hw ⊢
        rw [dg_n]
        rw [h5] at hw ⊢
        have hon := h.on
        by_cases h6 : 10 * a + j = 0
        · rw [if_pos h6] at hw ⊢
          rw [if_pos (by rw [h6]; rfl)]
          obtain ⟨g', k1, k2, k3⟩ := hon.wr n ((-1) - nI (10 * a + j)) hS (by simp only at hw; omega)
          exact ⟨g', by rw [qk_b1 k1], fun b b1 b2 => by rw [k2 b b1 b2, up_r b1], k3⟩
        · rw [if_neg h6] at hw ⊢
          rw [if_neg (by
            rw [q_0, nI_eq (by omega) (by omega)]; exact h6)]
          obtain ⟨g', k1, k2, k3⟩ := ih (p + 1) (10 * a + j) (i + 1) f _ (by omega) (by omega) (by omega) (by rw [Nat.pow_succ]; omega) hon hw
          rw [← nI_succ]
          exact ⟨g', k1, fun b b1 b2 => by rw [k2 b b1 b2, up_r b1], k3⟩
/-- what a reader of a sum owes -/
def CK (σ : Hp) (o N : Nat) (x : Nat → Int32) (K : Nat → Int32 → Hp → Option Hp) (KS : Nat → Nat → Rz) (dm : Nat) : Prop := ∀ d, dm ≤ d → d ≤ 6 → ∀ p ws g, p ≤ N → ws.length ≤ p → PS g o N x p ws → ∃ g', K o (nI d) (wI σ g) = some (wI σ g') ∧ Pst g g' o N x ws (KS d p)
theorem atm_c {σ : Hp} {o N : Nat} {x : Nat → Int32} {K : Nat → Int32 → Hp → Option Hp} {KS : Nat → Nat → Rz} {dm : Nat} (n : Nat) (hn : 4 < n) (hS : LyL σ o N) (hO : ∀ d p, OkR N p (KS d p)) (hK : CK σ o N x K KS dm) {d : Nat} (hd : dm ≤ d + 1) (hd6 : d ≤ 6) {p : Nat} {ws : List Int32} {g : Nat → Nat → Int32} (hp : p ≤ N) (hw : ws.length ≤ p) (h : PS g o N x p ws) : ∃ g', F_X1_readAtom K n o (nI d) (wI σ g) = some (wI σ g') ∧ Pst g g' o N x ws (atmS x N KS d p) := by
  have hN := hS.2.2.2.2.2.2
  unfold F_X1_readAtom
  rw [qk_b2 (h.rd n hS hp)]
  by_cases h1 : nx x N p = 40 ∨ nx x N p = 91
  · have e1 : ∀ c : Int32, c = 40 ∨ c = 91 → (if c = 40 then F_X1_readAtom_17 K n o (nI d) c (wI σ g) else if c = 91 then F_X1_readAtom_17 K n o (nI d) c (wI σ g) else if c < 48 then F_X1_readAtom_45 K n o c (wI σ g) else if 57 < c then F_X1_readAtom_45 K n o c (wI σ g) else b1 (F_X1_readNumber n o (wI σ g)) fun σ7 => some σ7) = F_X1_readAtom_17 K n o (nI d) c (wI σ g) := by
      intro c hc
      by_cases h2 : c = 40
      · rw [if_pos h2]
      · rw [if_neg h2, if_pos (hc.resolve_left h2)]
    rw [e1 _ h1]
    unfold F_X1_readAtom_17 F_X1_readBracket atmS
    dsimp only
    rw [if_pos h1]
    have hpN : p < N := by rcases h1 with h | h <;> exact nx_lt h (by decide)
    by_cases h2 : 6 ≤ d
    · obtain rfl : d = 6 := by omega
      rw [if_pos h2, if_neg (show ¬ nI 6 < 6 by decide)]
      obtain ⟨g', k1, k2, k3⟩ := h.fault (σ := σ) n
      exact ⟨g', by rw [qk_b1 (qk_b1 k1 _)], k2, k3⟩
    · rw [if_neg h2, if_pos (show nI d < 6 from nI_lt (a := d) (b := 6) (by omega) (by decide)), qk_lt, wI_I, wI_p, ← nI_succ]
      obtain ⟨g1, k1, k2, k3⟩ := hK (d + 1) hd (by omega) (p + 1) ws _ (by omega) (by omega) h.on
      rw [qk_b1 k1]
      have o1 := hO (d + 1) (p + 1)
      have kf : ∀ a, a ≠ o → a ≠ o + 2 → g1 a = g a := fun a h1 h2 => by rw [k2 a h1 h2, up_r h1]
      cases hk : KS (d + 1) (p + 1) with
      | mk p1 r =>
        rw [hk] at k3 o1
        have o2 := o1.2.1 hpN
        simp only at o2
        cases r with
        | none =>
          simp only at k3 ⊢
          by_cases h3 : nx x N p = 40
          · rw [if_pos h3, qk_b1 (tk_any n 41 k3 (by omega))]
            exact ⟨g1, rfl, kf, k3⟩
          · rw [if_neg h3, qk_b1 (tk_any n 44 k3 (by omega)), wI_I, k3, if_pos (nI_pos' (by omega))]
            exact ⟨g1, rfl, kf, k3⟩
        | some q =>
          obtain ⟨cs, e⟩ := q
          simp only at k3 ⊢
          obtain ⟨s1, s2, s3⟩ := o1.2.2 cs e rfl
          simp only at s2 s3
          have lw : (ws ++ cs).length ≤ p1 := by rw [List.length_append]; omega
          by_cases h3 : nx x N p = 40
          · rw [if_pos h3, if_pos h3]
            obtain ⟨g2, t1, t2, t3⟩ := k3.tk n 41 hS o2
            refine ⟨g2, by rw [qk_b1 (qk_b1 t1 _)], ?_⟩
            by_cases h4 : nx x N p1 = 41
            · rw [if_pos h4] at t3 ⊢
              exact ⟨fun a a1 a2 => by rw [t2 a a1 a2, kf a a1 a2], t3⟩
            · rw [if_neg h4] at t3 ⊢
              exact ⟨fun a a1 a2 => by rw [t2 a a1 a2, kf a a1 a2], t3⟩
          · rw [if_neg h3, if_neg h3]
            obtain ⟨g2, t1, t2, t3⟩ := k3.tk n 44 hS o2
            rw [qk_b1 t1]
            have kf2 : ∀ a, a ≠ o → a ≠ o + 2 → g2 a = g a := fun a a1 a2 => by rw [t2 a a1 a2, kf a a1 a2]
            by_cases h4 : nx x N p1 = 44
            · rw [if_pos h4] at t3 ⊢
              have hp1 := nx_lt h4 (by decide)
              rw [wI_I, t3.2.1, if_neg (by decide)]
              obtain ⟨g3, u1, u2, u3⟩ := hK (d + 1) hd (by omega) (p1 + 1) (ws ++ cs) g2 (by omega) (by omega) t3
              rw [qk_b1 u1]
              have kf3 : ∀ a, a ≠ o → a ≠ o + 2 → g3 a = g a := fun a a1 a2 => by rw [u2 a a1 a2, kf2 a a1 a2]
              have o3 := hO (d + 1) (p1 + 1)
              cases hk2 : KS (d + 1) (p1 + 1) with
              | mk p2 r2 =>
                rw [hk2] at u3 o3
                have o4 := o3.2.1 hp1
                simp only at o4
                cases r2 with
                | none =>
                  simp only at u3 ⊢
                  rw [qk_b1 (tk_any n 93 u3 (by omega))]
                  obtain ⟨g4, v1, v2, v3⟩ := wr_any (g := g3) n 44 hS
                  refine ⟨g4, by rw [qk_b1 v1]; rfl, fun a a1 a2 => by rw [v2 a a1 a2, kf3 a a1 a2], by rw [v3]; exact u3⟩
                | some q2 =>
                  obtain ⟨cs2, e2⟩ := q2
                  simp only at u3 ⊢
                  obtain ⟨w1, w2, w3⟩ := o3.2.2 cs2 e2 rfl
                  simp only at w2 w3
                  obtain ⟨g4, v1, v2, v3⟩ := u3.tk n 93 hS o4
                  rw [qk_b1 v1]
                  by_cases h5 : nx x N p2 = 93
                  · rw [if_pos h5] at v3 ⊢
                    have hp2 := nx_lt h5 (by decide)
                    obtain ⟨g5, x1, x2, x3⟩ := v3.wr n 44 hS (by simp only [List.length_append]; omega)
                    refine ⟨g5, by rw [qk_b1 x1]; rfl, fun a a1 a2 => by rw [x2 a a1 a2, v2 a a1 a2, kf3 a a1 a2], ?_⟩
                    simp only [← List.append_assoc]
                    exact x3
                  · rw [if_neg h5] at v3 ⊢
                    obtain ⟨g5, x1, x2, x3⟩ := wr_any (g := g4) n 44 hS
                    exact ⟨g5, by rw [qk_b1 x1]; rfl, fun a a1 a2 => by rw [x2 a a1 a2, v2 a a1 a2, kf3 a a1 a2], by rw [x3]; exact v3⟩
            · rw [if_neg h4] at t3 ⊢
              rw [wI_I, t3, if_pos (nI_pos' (by omega))]
              exact ⟨g2, rfl, kf2, t3⟩
  · have h40 : ¬ nx x N p = 40 := fun h => h1 (Or.inl h)
    have h91 : ¬ nx x N p = 91 := fun h => h1 (Or.inr h)
    rw [if_neg h40, if_neg h91]
    have e45 : ¬ (¬ nx x N p < 48 ∧ ¬ 57 < nx x N p) → ∃ g', F_X1_readAtom_45 K n o (nx x N p) (wI σ g) = some (wI σ g') ∧ Pst g g' o N x ws (atmS x N KS d p) := by
      intro h2
      unfold atmS
      dsimp only
      rw [if_neg h1, if_neg h2]
      unfold F_X1_readAtom_45 F_X1_readAtom_75
      by_cases h3 : fld (nx x N p) = true
      · rw [if_pos h3]
        have hpN := nx_lt rfl (fld_1000 h3)
        obtain ⟨g', k1, k2, k3⟩ := h.on.wr n (nx x N p) hS (by omega)
        refine ⟨g', ?_, fun a a1 a2 => by rw [k2 a a1 a2, up_r a1], k3⟩
        rw [qk_lt, wI_I, wI_p, qk_b1 k1]
        unfold fld at h3
        simp only [Bool.or_eq_true, beq_iff_eq] at h3
        rcases h3 with (((e | e) | e) | e) | e <;> simp [e]
      · rw [if_neg h3]
        obtain ⟨g', k1, k2, k3⟩ := h.fault (σ := σ) n
        refine ⟨g', ?_, k2, k3⟩
        unfold fld at h3
        simp only [Bool.or_eq_true, beq_iff_eq, not_or] at h3
        obtain ⟨⟨⟨⟨a, b⟩, c⟩, e⟩, f⟩ := h3
        rw [if_neg a, if_neg b, if_neg c, if_neg e, if_neg f, qk_b1 k1]
    by_cases h2 : nx x N p < 48
    · rw [if_pos h2]; exact e45 (fun q => q.1 h2)
    · rw [if_neg h2]
      by_cases h3 : 57 < nx x N p
      · rw [if_pos h3]; exact e45 (fun q => q.2 h3)
      · rw [if_neg h3]
        have e2 : atmS x N KS d p = ((numS x N 3 p 0).1, some ([(-1) - nI (numS x N 3 p 0).2], fun _ _ _ _ _ => nI (numS x N 3 p 0).2)) := by
          unfold atmS
          dsimp only
          rw [if_neg h1, if_pos ⟨h2, h3⟩]
        rw [e2]
        have n1 := numS_1 h2 h3
        obtain ⟨g', k1, k2, k3⟩ := num_c (ws := ws) n hS 3 p 0 0 n g (by omega) (by omega) hp (by decide) h (by omega)
        exact ⟨g', by unfold F_X1_readNumber; rw [q_0, qk_b1 k1], k2, k3⟩
