/-! LAW -/
theorem lw_no {τ : Hp} {D : Dt} {lno : Nat → Int32} {ot : Option Tk} {N : Nat} {g : Nat → Nat → Int32} {R : Nat → Nat → Option Nat} (h : Inv τ D lno ot) (hg : ∀ b k, b < hN τ → ¬ (b = 48 ∧ 16 ≤ k ∧ k ≤ 20) → g b k = hI τ b k) (hr : ∀ b k, b < hN τ → ¬ (b = 48 ∧ k = 15) → R b k = hR τ b k) (h15 : R 48 15 = some 59) : Inv (wA (lawH τ N) g R) D lno ot := by
  have n65 := h.1.2.2.2.2.2.1
  obtain ⟨X, ix⟩ := lw_x (τ := τ) (N := N) (g := g) (R := R) (fun b k h1 h2 => hg b k h2 (by omega)) (fun b k h1 h2 => hr b k h2 (by omega))
  exact lw_inv h (fun b k h1 h2 h3 h4 h5 => hg b k h1 h3) (fun b k h1 h2 h3 => hr b k h1 h3) h15 (h.2.1.pres X ix (fun a h1 h2 => ⟨fun j => hg a j (by omega) (by omega), fun j => hr a j (by omega) (by omega), (X.2 a (by omega)).2.1⟩) (fun j => hg _ j (by omega) (by omega)) (fun j => hg _ j (by omega) (by omega)) (fun j => hg _ j (by omega) (by omega)))
theorem lw_MB {τ : Hp} {N : Nat} {g : Nat → Nat → Int32} {R : Nat → Nat → Option Nat} (n65 : 65 ≤ hN τ) (hr : ∀ j, R 48 j = hR τ 48 j) (hB : MB τ) : MB (wA (lawH τ N) g R) := by
  obtain ⟨uN, -, -, -, -, uA⟩ := lawH_u τ N
  unfold MB at hB ⊢
  rw [wA_R, wA_L, show R 48 = hR τ 48 from funext hr, (uA 49 (by omega)).2.1, (uA 50 (by omega)).2.1, (uA 51 (by omega)).2.1, (uA 52 (by omega)).2.1, (uA 53 (by omega)).2.1, (uA 54 (by omega)).2.1, (uA 55 (by omega)).2.1, (uA 56 (by omega)).2.1, (uA 57 (by omega)).2.1, (uA 58 (by omega)).2.1, (uA 59 (by omega)).2.1, (uA 60 (by omega)).2.1, (uA 61 (by omega)).2.1, (uA 62 (by omega)).2.1, (uA 63 (by omega)).2.1]
  exact hB
theorem lc_u {τ υ : Hp} {D : Dt} {lno : Nat → Int32} {ot : Option Tk} {d N : Nat} {g : Nat → Nat → Int32} {R : Option (Int32 × Hp)} (n : Nat) (h : Inv τ D lno ot) (hd : d < 8) (h5 : hI τ 1 5 < 6) (h56 : ¬ hI τ 56 d = 0) (h2 : hI τ (32 + 2 * d) 2 = 0) (h3 : hI τ (32 + 2 * d) 3 = nI N) (hi : F_X1_init n (hN τ) (33 + 2 * d) (nI N) (nw τ 1 0) = some (wI υ g)) (h0 : hR υ 0 0 = some 1) (hR' : (if g (hN τ) 5 < 0 then (b2 (F_X3_addLaw n 1 (hN τ) (wI υ g)) fun r15 σ14 => some (r15, σ14)) else some (-100 - g (hN τ) 5, wI υ g)) = R) : F_X11_law n 0 (nI d) τ = R := by
  have n65 := h.1.2.2.2.2.2.1
  obtain ⟨s1, s2, s3⟩ := h.1.2.1 d hd
  have em := emp_c n d (h.2.2.2.2 d hd).2
  rw [if_neg h56] at em
  have r4 : hR (nw τ 1 0) (32 + 2 * d) 4 = some (33 + 2 * d) := by
    show up1 (hR τ) (hN τ) (fun _ => none) (32 + 2 * d) 4 = _
    unfold up1
    rw [if_neg (by omega)]; exact s2
  have i3 : hI (nw τ 1 0) (32 + 2 * d) 3 = nI N := by
    show up1 (hI τ) (hN τ) (fun _ => 0) (32 + 2 * d) 3 = _
    unfold up1
    rw [if_neg (by omega)]; exact h3
  unfold F_X11_law
  rw [qk_b2 (sat_s n h hd), qk_om, h.1.1.1, qk_s1, if_pos h5, qk_b2 em, if_pos rfl, if_pos h2, nb_d, r4, qk_s1, i3, qk_b1 hi, wI_I, wI_R, h0, qk_s1]
  exact hR'
theorem q_law {τ : Hp} {D : Dt} {lno : Nat → Int32} {ot : Option Tk} (n : Nat) (hn : 200 < n) (h : Inv τ D lno ot) (a : Int32) : SQ τ (F_X11_law n 0 a) (F_X12_law n 48 a) := by
  have L := h.1.1
  have hB := h.1.2.2.2.1
  have n65 := h.1.2.2.2.2.2.1
  have hB0 := hB
  obtain ⟨⟨M0, M1, M2, M3, M4, M5, M6, M7, M8, M9, M10, M11, M12, M28, M29⟩, K49, K50, K51, K52, K53, K54, K55, K56, K57, K58, K59, K60, K61, K62, K63⟩ := hB0
  obtain ⟨c, m, dw, -⟩ := h.2.1
  have hL6 := dw.2.1
  by_cases h0 : a < 0 ∨ nI 7 < a
  · refine SQ.no h (-1) ?_ ?_
    · unfold F_X11_law
      rw [qk_b2 (sat_n n h h0), qk_on]
    · unfold F_X12_law
      rw [qk_b2 (ish_m n a τ), if_pos h0, if_pos rfl]
  obtain ⟨d, hd, rfl⟩ := what_j (by omega) h0
  obtain ⟨⟨N, hN', z1, z2, z3⟩, sk⟩ := h.2.2.2.2 d (by omega)
  have em := emp_c n d sk
  have wr := wr_0 (τ := τ) (d := d) n hB (by omega)
  by_cases h6 : dL D = 6
  · refine SQ.no h (-2) ?_ ?_
    · unfold F_X11_law
      rw [qk_b2 (sat_s n h (by omega)), qk_om, L.1, qk_s1, c.2.2.2.2.2.1, h6, if_neg (show ¬ nI 6 < 6 by decide)]
    · unfold F_X12_law
      rw [qk_b2 (ish_m n _ τ), if_neg h0, if_neg (by decide), M0, qk_s1, z_2, K49, kq_2 (by decide), m.2.2.1, h6, if_pos (show nI 6 = 6 from rfl)]
  have lt6 : hI τ 1 5 < 6 := by
    rw [c.2.2.2.2.2.1]; exact nI_lt (b := 6) (by omega) (by omega)
  have ne6 : ¬ hI τ 49 2 = 6 := by
    rw [m.2.2.1]
    exact fun q => h6 ((nI_eq (a := dL D) (b := 6) (by omega) (by omega)).mp q)
  have md : ∀ r : Int32, ¬ r = 0 → F_X12_wrongRow n 48 (nI d) 0 τ = some (r, τ) → F_X12_law n 48 (nI d) τ = some (r, τ) := fun r hr hw => by
    unfold F_X12_law
    rw [qk_b2 (ish_m n _ τ), if_neg h0, if_neg (by decide), M0, qk_s1, z_2, K49, kq_2 (by decide), if_neg ne6, qk_b2 hw, if_neg hr]
  by_cases h1 : hI τ 56 d = 0
  · rw [if_pos h1] at wr em
    refine SQ.no h (-11) ?_ (md _ (by decide) wr)
    unfold F_X11_law
    rw [qk_b2 (sat_s n h (by omega)), qk_om, L.1, qk_s1, if_pos lt6, qk_b2 em, if_neg (by decide)]
  rw [if_neg h1] at wr em
  have cl : ¬ hI τ (32 + 2 * d) 2 = 0 → F_X11_law n 0 (nI d) τ = some (-12, τ) := fun hc => by
    unfold F_X11_law
    rw [qk_b2 (sat_s n h (by omega)), qk_om, L.1, qk_s1, if_pos lt6, qk_b2 em, if_pos rfl, if_neg hc]
  rcases sk with ⟨c1, -⟩ | ⟨c1, c2, -⟩ | ⟨c1, c2, so, c3, c4, c5⟩
  · exact absurd c1 h1
  · rw [if_neg (by rw [c1]; decide)] at wr
    exact SQ.no h (-12) (cl (by rw [c2]; decide)) (md _ (by decide) wr)
  rw [if_pos c1] at wr
  by_cases h2 : ¬ so = 0
  · have h3 : ¬ nI so = 0 := fun q => h2 ((nI_eq (a := so) (b := 0) (by omega) (by omega)).mp q)
    rw [if_neg (by rw [c5]; exact h3)] at wr
    exact SQ.no h (-12) (cl (by rw [c4]; exact h3)) (md _ (by decide) wr)
  have h2 := Classical.not_not.mp h2
  subst h2
  obtain ⟨L', hLL⟩ : ∃ L', dL D = L' := ⟨_, rfl⟩
  obtain ⟨s1, s2, s3⟩ := h.1.2.1 d (by omega)
  obtain ⟨x, hx⟩ : ∃ x : Nat → Int32, ∀ i, hI τ 59 (100 * d + i) = x i := ⟨fun i => hI τ 59 (100 * d + i), fun _ => rfl⟩
  obtain ⟨g, a1, a2, a3⟩ := init_c (τ := τ) (N := N) (s := 33 + 2 * d) (x := x) n hn hN' (by omega) s3 (fun i hi => (z3 i (by omega)).trans (hx i))
  have U := lawH_u τ N
  obtain ⟨υ, hυ⟩ : ∃ υ, lawH τ N = υ := ⟨_, rfl⟩
  have lcu := fun R hR => lc_u (R := R) n h (by omega : d < 8) lt6 h1 c4 z1 a1 (((lawH_u τ N).2.2.2.2.2 0 (by omega)).2.2.2 0 |>.trans L.1) hR
  rw [hυ] at a1 a3 lcu U
  obtain ⟨uN, ⟨k0, k1, k2, k3⟩, ⟨l1, l2, l3⟩, ⟨r0, r2, r4⟩, -, uA⟩ := U
  have rA : ∀ b k, b < hN τ → hR υ b k = hR τ b k := fun b k hb => (uA b hb).2.2.2 k
  rcases a3 with ⟨no, f5⟩ | ⟨ok, f5, cs, e, hs, lwi⟩
  · have p5 : ¬ g (hN τ) 5 < 0 := by
      rw [f5]
      have := (sumS_ok (x := x) (N := N) 8 0 0).2.1 (by omega)
      exact nI_pos (by omega)
    have x1 := lcu _ rfl
    rw [if_neg p5, f5] at x1
    have hB1 : MB (wI υ g) := by
      rw [← hυ]; exact lw_MB (g := g) (R := hR (lawH τ N)) n65 (fun j => by rw [hυ]; exact rA 48 j (by omega)) hB
    rcases law_m (τ := υ) (g := g) (d := d) (N := N) (L := L') (x := x) n hn hB1 (by omega) hN' (by omega) ((a2 49 (by omega) 2).trans (by rw [← hLL]; exact m.2.2.1)) ((a2 56 (by omega) d).trans c1) ((a2 57 (by omega) d).trans c5) ((a2 58 (by omega) d).trans z2) (fun i hi => (a2 59 (by omega) _).trans (hx i)) with ⟨-, g', y1, y2⟩ | ⟨ok, -⟩
    · refine ⟨lwNo x N, wI υ g, wM υ g' 59, D, lno, ot, x1, y1, ?_, (uA 64 (by omega)).2.1⟩
      rw [← hυ]
      refine lw_no (N := N) (g := g') (R := up2 (hR (lawH τ N)) 48 15 (some 59)) h (fun b k h1 h2 => (y2 b k h2).trans (a2 b h1 k)) (fun b k h1 h2 => ?_) (up_s _ _ _ _)
      rw [hυ]
      unfold up2
      rw [if_neg h2]; exact rA b k h1
    · exact absurd ok no
  · have p5 : g (hN τ) 5 < 0 := by rw [f5]; decide
    have hR1 : RL υ 1 := c.1.ext (fun j => rA 1 j (by omega)) (fun i h1 h2 => (uA (1 + i) (by omega)).2.1)
    have g15 : g 1 5 = nI L' := (a2 1 (by omega) 5).trans (by rw [← hLL]; exact c.2.2.2.2.2.1)
    have al := al_c (υ := υ) (g := g) (L := L') (q := hN τ) n hR1 g15 (by omega)
    have x1 := lcu _ rfl
    rw [if_pos p5, qk_b2 al] at x1
    obtain ⟨g1, hg1⟩ : ∃ g1, up2 g 1 5 (nI (L' + 1)) = g1 := ⟨_, rfl⟩
    obtain ⟨R1, hR1'⟩ : ∃ R1, up2 (hR υ) 5 L' (some (hN τ)) = R1 := ⟨_, rfl⟩
    rw [hg1, hR1'] at x1
    have eg : ∀ b k, ¬ (b = 1 ∧ k = 5) → g1 b k = g b k := fun b k q => by rw [← hg1]; unfold up2; rw [if_neg q]
    have eR : ∀ b k, ¬ (b = 5 ∧ k = L') → R1 b k = hR υ b k := fun b k q => by rw [← hR1']; unfold up2; rw [if_neg q]
    have e0 : ∀ b k, b < hN τ → ¬ (b = 1 ∧ k = 5) → g1 b k = hI τ b k := fun b k h1 h2 => (eg b k h2).trans (a2 b h1 k)
    have hB1 : MB (wI (wA υ g1 R1) g1) := by
      rw [wA_w, ← hυ]; exact lw_MB (g := g1) (R := R1) n65 (fun j => (eR 48 j (by omega)).trans (rA 48 j (by omega))) hB
    rcases law_m (τ := wA υ g1 R1) (g := g1) (d := d) (N := N) (L := L') (x := x) n hn hB1 (by omega) hN' (by omega) ((e0 49 2 (by omega) (by omega)).trans (by rw [← hLL]; exact m.2.2.1)) ((e0 56 d (by omega) (by omega)).trans c1) ((e0 57 d (by omega) (by omega)).trans c5) ((e0 58 d (by omega) (by omega)).trans z2) (fun i hi => (e0 59 _ (by omega) (by omega)).trans (hx i)) with ⟨no, -⟩ | ⟨-, g', y1, y2, y3, y4, y5⟩
    · exact absurd ok no
    · rw [wA_w] at y1
      have hr2 : ∀ b k, b < hN τ → ¬ (b = 5 ∧ k = L') → ¬ (b = 48 ∧ k = 15) → up2 R1 48 15 (some 59) b k = hR τ b k := fun b k h1 h2 h3 => by
        unfold up2
        rw [if_neg h3]; exact (eR b k h2).trans (rA b k h1)
      have R5 : up2 R1 48 15 (some 59) 5 L' = some (hN τ) := by
        rw [up_i (by omega), ← hR1', up_s]
      have g'15 : g' 1 5 = nI (L' + 1) := by
        rw [y2 1 5 (by omega) (by omega) (by omega), ← hg1, up_s]
      have gq : ∀ b k, hN τ ≤ b → g' b k = g b k := fun b k hb => (y2 b k (by omega) (by omega) (by omega)).trans (eg b k (by omega))
      have g'e : ∀ b k, b < hN τ → ¬ (b = 1 ∧ k = 5) → ¬ (b = 48 ∧ 16 ≤ k ∧ k ≤ 20) → ¬ (b = 51 ∧ 100 * L' ≤ k ∧ k < 100 * L' + N) → ¬ (b = 49 ∧ (k = 2 ∨ k = 103 + L')) → g' b k = hI τ b k := fun b k h1 h2 h3 h4 h5 => (y2 b k h3 h4 h5).trans (e0 b k h1 h2)
      have g51 : ∀ i, i < N → g' 51 (100 * L' + i) = x i := fun i hi => (y3 i hi).trans ((e0 59 _ (by omega) (by omega)).trans (hx i))
      have lo : LwO (wA υ g' (up2 R1 48 15 (some 59))) g' (hN τ) e := by
        obtain ⟨N', cs', ⟨v0, v2, v4, w1, w2, w3, w4⟩, q1, q2, q3, q4, q5⟩ := lwi
        have rq : ∀ k, up2 R1 48 15 (some 59) (hN τ) k = hR υ (hN τ) k := fun k => by
          unfold up2
          rw [if_neg (by omega)]; exact eR _ k (by omega)
        refine ⟨⟨n65, by show hN τ + 3 < hN υ; omega⟩, k0, k2, k3, ?_, N', cs', ⟨(rq 0).trans v0, (rq 2).trans v2, (rq 4).trans v4, w1, w2, w3, w4⟩, (gq _ _ (by omega)).trans q1, q2, q3, fun i hi => (gq _ _ (by omega)).trans (q4 i hi), q5⟩
        show ¬ hK υ (hN τ - 1) = 1
        rw [(uA (hN τ - 1) (by omega)).1]
        exact h.1.2.2.2.2.2.2
      refine ⟨nI L', wA υ g1 R1, wM (wA υ g1 R1) g' 59, lwD D e, lno, ot, x1, y1, ?_, (uA 64 (by omega)).2.1⟩
      show Inv (wA υ g' (up2 R1 48 15 (some 59))) (lwD D e) lno ot
      rw [← hυ] at lo ⊢
      exact lw_inv h (fun b k h1 h2 h3 h4 h5 => g'e b k h1 h2 h3 (fun q => h4 q.1) (fun q => h5 q.1)) (fun b k h1 h2 h3 => hr2 b k h1 (fun q => h2 q.1) h3) (up_s _ _ _ _) (lw_w h hLL (by omega) hN' g'e hr2 R5 g'15 y5 y4 g51 hs lo)
