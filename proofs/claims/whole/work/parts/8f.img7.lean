theorem q_restore {τ : Hp} {D : Dt} {lno : Nat → Int32} {ot : Option Tk} (n : Nat) (hn : 600 < n) (h : Inv τ D lno ot) : SQ τ (F_X11_restore n 0) (F_X12_restore n 48) := by
  have L := h.1.1
  have hB := h.1.2.2.2.1
  have e13 := h.2.2.1
  rcases h.2.2.2.1 with z | ⟨z, D', l', o', c, m, dw, e', f, w⟩
  · refine SQ.no h (-3) ?_ ?_
    · unfold F_X11_restore
      rw [if_pos z]
    · unfold F_X12_restore
      rw [if_pos (e13.trans z)]
  obtain ⟨g, R, k0, k1, k2, k3, k4, k5, k6, k7, k8, k9, k10, k11⟩ := like_c (r := 1) n (by omega) h.1.2.2.1.1 (Or.inl (by omega)) c dw e'.b
  obtain ⟨W1, W2⟩ := like_w h.1.2.2.1.1 c dw e' k1 k2 k3 k4 k5 k6 k7 k8 k9 k10 k11
  have hB1 : MB (wA τ g R) := MB.wa (fun j => k2 48 j (by omega) (by omega)) hB
  have n13 : ¬ g 48 13 = 0 := by rw [k1 48 13 (by omega), e13, z]; decide
  obtain ⟨g2, i1, i2, i3, i4, i5⟩ := rst_m (τ := wA τ g R) (g := g) n hn hB1 n13
  rw [wA_w, wA_w] at i1
  have m1 : g 50 1 = nI (cJ (dC D')) := (k1 50 1 (by omega)).trans m.2.1
  have X : XG τ (wA τ g2 R) := XG.A fun a j h => k2 a j (by omega) (by omega)
  have o2 : ∀ a k, 10 < a → a ≠ 49 → a ≠ 53 → a ≠ 51 → g2 a k = hI τ a k := fun a k h1 h2 h3 h4 => (i2 a k h2 h3 h4).trans (k1 a k (by omega))
  have ix : IX τ (hI τ) (hI (wA τ g2 R)) := fun a j h1 h2 h3 => o2 a j (by omega) (by omega) (by omega) (by omega)
  have ix2 : IX (wA τ g R) (hI (wA τ g R)) g2 := fun a j h1 h2 h3 => i2 a j (by omega) (by omega) (by omega)
  have gg : ∀ a k, 1 ≤ a → a ≤ 10 → g2 a k = g a k := fun a k h1 h2 => i2 a k (by omega) (by omega) (by omega)
  refine ⟨nI (cJ (dC D')), wA τ g R, wA τ g2 R, D', l', o', ?_, ?_, ?_, rfl⟩
  · unfold F_X11_restore
    rw [if_neg (by rw [z]; decide), L.1, qk_s1, L.2.2.1, qk_s1, qk_b1 k0, wA_R, k2 0 0 (by omega) (by omega), L.1, qk_s1, wA_I, k4]
  · rw [i1, m1]
  · refine Inv.nw X ix (fun a j h1 h2 => ?_) (fun a j h1 h2 => ?_) ?_ h.1.2.2.2.2.2.2 h ⟨RWc.fr (τ := wA τ g R) (g := g2) (fun b j h1 h2 h3 => gg b j (by omega) (by omega)) ix2 W1, ?_, dw, TKc.fr (τ := wA τ g R) (g := g2) (fun b j h1 h2 h3 h4 => gg b j (by omega) (by omega)) W2, ?_, w⟩
    · unfold NW at h2
      by_cases q : a = 0
      · subst q
        exact (i2 0 j (by omega) (by omega) (by omega)).trans (k1 0 j (by omega))
      · exact o2 a j (by omega) (by omega) (by omega) (by omega)
    · unfold RWr at h2
      exact k2 a j (by omega) (by omega)
    · obtain ⟨t, ht⟩ := h.1.2.2.2.2.1
      exact ⟨t, (k2 48 15 (by omega) (by omega)).trans ht⟩
    · exact RWm.cp dw (fun k hk => (i3 k hk).trans (k1 50 k (by omega))) (fun k hk => (i5 k hk).trans (k1 52 k (by omega))) m
    · exact TKm.cp (lno := l') dw (fun k hk => (i4 k hk).trans (k1 55 k (by omega))) f
