theorem q_image {τ : Hp} {D : Dt} {lno : Nat → Int32} {ot : Option Tk} (n : Nat) (hn : 600 < n) (h : Inv τ D lno ot) : SQ τ (F_X11_image n 0) (F_X12_image n 48) := by
  have L := h.1.1
  obtain ⟨c, m, dw, e', f, w⟩ := h.2.1
  have hB := h.1.2.2.2.1
  obtain ⟨g, R, k0, k1, k2, k3, k4, k5, k6, k7, k8, k9, k10, k11⟩ := like_c (r := 21) n (by omega) h.1.2.2.1.2.2 (Or.inr (by omega)) c dw e'.b
  obtain ⟨W1, W2⟩ := like_w h.1.2.2.1.2.2 c dw e' k1 k2 k3 k4 k5 k6 k7 k8 k9 k10 k11
  have hB1 : MB (wA τ (up2 g 0 3 1) R) := MB.wa (fun j => k2 48 j (by omega) (by omega)) hB
  obtain ⟨g2, i1, i2, i3, i4, i5, i6⟩ := img_m (τ := wA τ (up2 g 0 3 1) R) (g := up2 g 0 3 1) n hn hB1
  rw [wA_w, wA_w] at i1
  have o1 : ∀ a k, ¬ (a = 0 ∧ k = 3) → (a < 21 ∨ 30 < a) → up2 g 0 3 1 a k = hI τ a k := fun a k h1 h2 => by
    unfold up2; rw [if_neg h1]; exact k1 a k (by omega)
  have o2 : ∀ a k, ¬ (a = 0 ∧ k = 3) → (a < 21 ∨ 30 < a) → a ≠ 50 → a ≠ 55 → a ≠ 52 → ¬ (a = 48 ∧ k = 13) → g2 a k = hI τ a k := fun a k h1 h2 h3 h4 h5 h6 => (i2 a k h3 h4 h5 h6).trans (o1 a k h1 h2)
  have m1 : up2 g 0 3 1 49 1 = nI (cJ (dC D)) := (o1 49 1 (by omega) (by omega)).trans m.2.1
  have X : XG τ (wA τ g2 R) := XG.A fun a j h => k2 a j (by omega) (by omega)
  have ix : IX τ (hI τ) (hI (wA τ g2 R)) := fun a j h1 h2 h3 => o2 a j (by omega) (by omega) (by omega) (by omega) (by omega) (by omega)
  have gg : ∀ a k, 21 ≤ a → a ≤ 30 → g2 a k = g a k := fun a k h1 h2 => (i2 a k (by omega) (by omega) (by omega) (by omega)).trans (by unfold up2; rw [if_neg (by omega)])
  have ix2 : IX (wA τ g R) (hI (wA τ g R)) g2 := fun a j h1 h2 h3 => (i2 a j (by omega) (by omega) (by omega) (by omega)).trans (by unfold up2; rw [if_neg (by omega)]; rfl)
  refine ⟨nI (cJ (dC D)), wA τ (up2 g 0 3 1) R, wA τ g2 R, D, lno, ot, ?_, ?_, ?_, rfl⟩
  · unfold F_X11_image
    rw [L.2.2.1, qk_s1, L.1, qk_s1, qk_b1 k0, wA_p, qk_lt, wA_R, k2 0 0 (by omega) (by omega), L.1, qk_s1, wA_I, o1 1 2 (by omega) (by omega), c.2.2.1]
  · rw [i1, m1]
  · refine ⟨h.1.pres X (fun b j hb => ?_) (fun j hj => k2 48 j (by omega) (by omega)) ?_ h.1.2.2.2.2.2.2, h.2.1.pres X ix (fun a h1 h2 => ⟨fun j => o2 a j (by omega) (by omega) (by omega) (by omega) (by omega) (by omega), fun j => k2 a j (by omega) (by omega), rfl⟩) (fun j => o2 _ j (by omega) (by omega) (by omega) (by omega) (by omega) (by omega)) (fun j => o2 _ j (by omega) (by omega) (by omega) (by omega) (by omega) (by omega)) (fun j => o2 _ j (by omega) (by omega) (by omega) (by omega) (by omega) (by omega)), ?_, Or.inr ⟨?_, D, lno, ot, RWc.fr (τ := wA τ g R) (g := g2) (fun b j h1 h2 h3 => gg b j (by omega) (by omega)) ix2 W1, ?_, dw, TKc.fr (τ := wA τ g R) (g := g2) (fun b j h1 h2 h3 h4 => gg b j (by omega) (by omega)) W2, ?_, w⟩, fun d hd => Sh.pres X ix ⟨fun j => o2 _ j (by omega) (by omega) (by omega) (by omega) (by omega) (by omega), k2 _ _ (by omega) (by omega)⟩ (fun j => o2 _ j (by omega) (by omega) (by omega) (by omega) (by omega) (by omega)) (fun b h1 h2 => ⟨fun _ i _ => o2 _ _ (by omega) (by omega) (by omega) (by omega) (by omega) (by omega), fun _ => o2 _ _ (by omega) (by omega) (by omega) (by omega) (by omega) (by omega)⟩) (h.2.2.2.2 d hd)⟩
    · by_cases q : b = 23 ∨ b = 25
      · omega
      · exact Or.inr (Or.inl (k2 b j (by omega) (by omega)))
    · obtain ⟨t, ht⟩ := h.1.2.2.2.2.1
      exact ⟨t, (k2 48 15 (by omega) (by omega)).trans ht⟩
    · show g2 48 13 = g2 0 3
      rw [i6, i2 0 3 (by omega) (by omega) (by omega) (by omega), up_s]
    · show g2 0 3 = 1
      rw [i2 0 3 (by omega) (by omega) (by omega) (by omega), up_s]
    · exact RWm.cp dw (fun k hk => (i3 k hk).trans (o1 49 k (by omega) (by omega))) (fun k hk => (i5 k hk).trans (o1 51 k (by omega) (by omega))) m
    · exact TKm.cp (lno := lno) dw (fun k hk => (i4 k hk).trans (o1 53 k (by omega) (by omega))) f
