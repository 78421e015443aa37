theorem like_c {τ : Hp} {r o : Nat} {D : Dt} {lno : Nat → Int32} (n : Nat) (hn : 12 < n) (hr : RL τ r) (hro : r + 9 < o ∨ o + 9 < r) (c : RWc τ o D lno) (dw : DW D lno) (hb : hI τ o 8 = 0 ∨ hI τ o 8 = 1) : ∃ g R, F_X3_becomeLike n r o τ = some (wA τ g R) ∧ (∀ a k, a < r ∨ r + 9 < a → g a k = hI τ a k) ∧ (∀ a k, a ≠ r + 2 → a ≠ r + 4 → R a k = hR τ a k) ∧ g r 0 = nI (cT (dC D)) ∧ g r 2 = nI (cJ (dC D)) ∧ (∀ t, t < 12 → g (r + 1) t = hI τ (o + 1) t) ∧ (∀ m, m < cJ (dC D) → R (r + 2) m = hR τ (o + 2) m ∧ g (r + 3) m = dH D m) ∧ (∀ k, k < 4 → g (r + 5) k = hI τ (o + 5) k) ∧ g r 5 = nI (dL D) ∧ (∀ l, l < dL D → R (r + 4) l = hR τ (o + 4) l) ∧ (∀ k, 8 ≤ k → k ≤ 14 → g r k = hI τ o k) ∧ (∀ i k, 6 ≤ i → i ≤ 9 → k < 12 → g (r + i) k = hI τ (o + i) k) := by
  have hJ := dw.1.1
  have hdL := dw.2.1
  have r65 := hr.1
  have o65 := c.1.1
  obtain ⟨g1, R1, a1, a2, a3, a4, a5, a6, a7, -⟩ := seat_c (σ := τ) (g := hI τ) (wo := 0) (ex := exN) n hn hr c.1 hro c.2.1 c.2.2.1 hJ c.2.2.2.2.2.2.2 (hd := dH D) (fun i hi => by
    obtain ⟨T, t1, t2, t3, t4, t5⟩ := c.2.2.2.2.1 i hi
    exact t5) (fun i hi => bi_0 i (by omega)) (fun _ _ => trivial)
  rw [wI_S] at a1
  rw [exN_p] at a5 a7
  have hr1 : ∀ g, RL (wA τ g R1) r := fun g => hr.ext (fun j => a3 r j (by omega)) (fun _ _ _ => rfl)
  have ho1 : ∀ g, RL (wA τ g R1) o := fun g => c.1.ext (fun j => a3 o j (by omega)) (fun _ _ _ => rfl)
  have cpL : hL (wA τ g1 R1) (o + 5) = 4 := (ho1 g1).2.2.2.2.2.2.1
  have cpL2 : hL (wA τ g1 R1) (r + 5) = 4 := (hr1 g1).2.2.2.2.2.2.1
  obtain ⟨g2, b1', b2', b3'⟩ := cpy_c (σ := wA τ g1 R1) (g := g1) (m := 4) n (by omega) (by omega) cpL cpL2 (show o + 5 ≠ r + 5 by omega)
  rw [wA_w, wA_w] at b1'
  have f2 : ∀ a k, ¬ (a = r ∧ (k = 0 ∨ k = 2)) → a ≠ r + 1 → a ≠ r + 3 → a ≠ r + 5 → g2 a k = hI τ a k := fun a k h1 h2 h3 h4 => (b2' a k h4).trans (a2 a k (by omega))
  obtain ⟨g3, hg3⟩ : ∃ g3, up2 g2 r 5 (g2 o 5) = g3 := ⟨_, rfl⟩
  have o5 : g2 o 5 = nI (dL D) := (f2 o 5 (by omega) (by omega) (by omega) (by omega)).trans c.2.2.2.2.2.1
  have f3 : ∀ a k, ¬ (a = r ∧ (k = 0 ∨ k = 2 ∨ k = 5)) → a ≠ r + 1 → a ≠ r + 3 → a ≠ r + 5 → g3 a k = hI τ a k := fun a k h1 h2 h3 h4 => by
    rw [← hg3]; unfold up2; rw [if_neg (by omega)]; exact f2 a k (by omega) h2 h3 h4
  have g35 : g3 r 5 = nI (dL D) := by rw [← hg3, up_s]; exact o5
  have g3n : ∀ a k, ¬ (a = r ∧ k = 5) → g3 a k = g2 a k := fun a k h => by rw [← hg3]; unfold up2; rw [if_neg h]
  obtain ⟨ρ, l1, g4, R4, rfl, l2, l3, l4, l5, l6⟩ := q_for (fun f i (R : Nat → Nat → Option Nat) => F_X3_becomeLike_27 n f r o (nI i) (wA τ g3 R)) (fun i R => (∀ a k, a ≠ r + 4 → R a k = R1 a k) ∧ ∀ l, l < i → l < dL D → R (r + 4) l = hR τ (o + 4) l) (fun ρ => ∃ g4 R4, ρ = wA τ g4 R4 ∧ (∀ a k, a ≠ r + 4 → R4 a k = R1 a k) ∧ (∀ l, l < dL D → R4 (r + 4) l = hR τ (o + 4) l) ∧ (∀ a k, ¬ (a = r ∧ 8 ≤ k ∧ k ≤ 14) → ¬ (r + 6 ≤ a ∧ a ≤ r + 9) → g4 a k = g3 a k) ∧ (∀ k, 8 ≤ k → k ≤ 14 → g4 r k = g3 o k) ∧ (∀ i k, 6 ≤ i → i ≤ 9 → k < 12 → g4 (r + i) k = g3 (o + i) k)) 6 (fun i f R hi hp => by
    have rl : RL (wA τ g3 R) r := RL.ext (σ := wA τ g3 R1) (fun j => hp.1 r j (by omega)) (fun _ _ _ => rfl) (hr1 g3)
    have rlo : RL (wA τ g3 R) o := RL.ext (σ := wA τ g3 R1) (fun j => hp.1 o j (by omega)) (fun _ _ _ => rfl) (ho1 g3)
    have la := la_g (τ := wA τ g3 R) (L := dL D) n rlo ((f3 o 5 (by omega) (by omega) (by omega) (by omega)).trans c.2.2.2.2.2.1) hi hdL
    have r6 : R r 6 = some (r + 4) := rl.2.1.2.2.2.1
    have l6 : hL τ (r + 4) = 6 := rl.2.2.2.2.2.1
    simp only [F_X3_becomeLike_27]
    rw [wA_R, r6, qk_s1, wA_L, l6, if_neg (nI_ge hi (by omega)), qk_s1, qk_b2 la, wA_L, l6, qk_in hi (by omega), nI_clamp (by omega), wA_r, qk_lt, ← nI_succ]
    refine ⟨_, rfl, fun a k h => (up_i h).trans (hp.1 a k h), fun l hl hl2 => ?_⟩
    by_cases q : l = i
    · subst q
      rw [up_s, wA_R, if_pos hl2, hp.1 _ _ (by omega), a3 _ _ (by omega)]
    · rw [up_j q]; exact hp.2 l (by omega) hl2) (fun f R hp => by
    have rl : RL (wA τ g3 R) r := RL.ext (σ := wA τ g3 R1) (fun j => hp.1 r j (by omega)) (fun _ _ _ => rfl) (hr1 g3)
    have rlo : RL (wA τ g3 R) o := RL.ext (σ := wA τ g3 R1) (fun j => hp.1 o j (by omega)) (fun _ _ _ => rfl) (ho1 g3)
    have r6 : R r 6 = some (r + 4) := rl.2.1.2.2.2.1
    have l6 : hL τ (r + 4) = 6 := rl.2.2.2.2.2.1
    obtain ⟨g4, e1, e2, e3, e4⟩ := bl_53 (τ := τ) (g := g3) (R := R) n hn rl rlo hro (by rw [f3 o 8 (by omega) (by omega) (by omega) (by omega)]; exact hb)
    refine ⟨_, ?_, g4, R, rfl, hp.1, fun l hl => hp.2 l (by omega) hl, e2, e3, e4⟩
    simp only [F_X3_becomeLike_27]
    rw [wA_R, r6, qk_s1, wA_L, l6, if_pos (nI_le (Nat.le_refl _) (by omega)), e1]) n R1 (by omega) ⟨fun _ _ _ => rfl, fun l hl => by omega⟩
  have f4 : ∀ a k, a < r ∨ r + 9 < a → g4 a k = hI τ a k := fun a k h => (l4 a k (by omega) (by omega)).trans (f3 a k (by omega) (by omega) (by omega) (by omega))
  refine ⟨g4, R4, ?_, f4, fun a k h1 h2 => (l2 a k h2).trans (a3 a k h1), ?_, ?_, fun t ht => ?_, fun m hm => ⟨?_, ?_⟩, fun k hk => ?_, ?_, l3, fun k h1 h2 => (l5 k h1 h2).trans (f3 o k (by omega) (by omega) (by omega) (by omega)), fun i k h1 h2 h3 => (l6 i k h1 h2 h3).trans (f3 _ k (by omega) (by omega) (by omega) (by omega))⟩
  · have q7 : R1 o 7 = some (o + 5) := (ho1 g1).2.1.2.2.2.2.1
    have r7 : R1 r 7 = some (r + 5) := (hr1 g1).2.1.2.2.2.2.1
    unfold F_X3_becomeLike
    rw [qk_b1 a1, wA_R, q7, qk_s1, r7, qk_s1, qk_b1 b1', wA_I, wA_p, qk_lt, hg3]
    rw [q_0]; exact l1
  · rw [l4 r 0 (by omega) (by omega), g3n r 0 (by omega), b2' r 0 (by omega)]; exact a4
  · rw [l4 r 2 (by omega) (by omega), g3n r 2 (by omega), b2' r 2 (by omega)]; exact a5
  · rw [l4 _ t (by omega) (by omega), g3n _ t (by omega), b2' _ t (by omega)]; exact a6 t ht
  · rw [l2 _ m (by omega), (a7 m hm).1, exN_x hm]
  · rw [l4 _ m (by omega) (by omega), g3n _ m (by omega), b2' _ m (by omega), (a7 m hm).2, exN_x hm]
  · rw [l4 _ k (by omega) (by omega), g3n _ k (by omega), b3' k hk, a2 _ k (by omega)]
  · rw [l4 r 5 (by omega) (by omega)]; exact g35
