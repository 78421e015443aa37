theorem jr_inv {τ υ : Hp} {D : Dt} {lno : Nat → Int32} {ot : Option Tk} {g : Nat → Nat → Int32} {R : Nat → Nat → Option Nat} {x mn : Nat} {he b c d : Int32} {o : Option Nat} {e : Ev} {J : Nat} (hJJ : cJ (dC D) = J) (hJ : J < 12) (h : Inv τ D lno ot) (hx : x ≤ 7) (hmn : 1 ≤ mn ∧ mn ≤ 30) (hhe : ¬ he < 0) (lc : LwC τ (hI τ) o e) (lw : (d = -1 ∧ e = evP) ∨ ∃ l, l < dL D ∧ d = nI l ∧ e = dE D l) (z1 : hN υ = hN τ + 1) (zK : hK υ (hN τ) = kc x) (zA : ∀ a, a ≠ hN τ → hK υ a = hK τ a ∧ hL υ a = hL τ a) (gT : g (hN τ) 0 = nI J ∧ g (hN τ) 1 = nI x ∧ g (hN τ) 2 = he ∧ g (hN τ) 3 = nI mn ∧ g (hN τ) 4 = b ∧ g (hN τ) 5 = c ∧ g (hN τ) 6 = d) (ee : ∀ b k, b ≠ hN τ → ¬ (b = 4 ∧ k = J) → ¬ (b = 1 ∧ (k = 2 ∨ k = 8 ∨ (10 ≤ k ∧ k ≤ 14))) → ¬ (7 ≤ b ∧ b ≤ 10) → ¬ (b = 49 ∧ (k = 1 ∨ (19 + 7 * J ≤ k ∧ k ≤ 19 + 7 * J + 6))) → ¬ (b = 53 ∧ k = 6) → g b k = hI τ b k) (eR : ∀ b k, b ≠ hN τ → ¬ (b = 3 ∧ k = J) → R b k = hR τ b k) (R3 : R 3 J = some (hN τ)) (R7 : R (hN τ) 7 = o) (g12 : g 1 2 = nI (J + 1)) (g18 : g 1 8 = 0) (g4 : ∀ t, t < J + 1 → g 4 t = upf (dH D) J 0 t) (gU : CU g 1 (J + 1) (cT (dC D)) (cS (dC D)) (upf (dH D) J 0)) (jv : g 49 (19 + 7 * J + 0) = nI x ∧ g 49 (19 + 7 * J + 1) = he ∧ g 49 (19 + 7 * J + 2) = nI mn ∧ g 49 (19 + 7 * J + 3) = b ∧ g 49 (19 + 7 * J + 4) = c ∧ g 49 (19 + 7 * J + 5) = d ∧ g 49 (19 + 7 * J + 6) = 0 ∧ g 49 1 = nI (J + 1) ∧ g 53 6 = 0) : Inv (wA υ g R) (joD D x he mn b c e) (upf lno J d) none := by
  obtain ⟨cc, m, dw, -⟩ := h.2.1
  have n65 := h.1.2.2.2.2.2.1
  have hL := dw.2.1
  have hth := dw.1.2.1
  have X : XG τ (wA υ g R) := ⟨by show hN τ ≤ hN υ; omega, fun a ha => ⟨(zA a (by omega)).1, (zA a (by omega)).2, fun h65 j => eR a j (by omega) (by omega)⟩⟩
  have ix : IX τ (hI τ) (hI (wA υ g R)) := fun a j h1 h2 h3 => ee a j (by omega) (by omega) (by omega) (by omega) (by omega) (by omega)
  have jj : ∀ {α : Type} (f : Nat → α) (v : α) (i : Nat), i ≠ J → upf f (cJ (dC D)) v i = f i := fun f v i hi => upf_n f v (by omega)
  have js : ∀ {α : Type} (f : Nat → α) (v : α), upf f (cJ (dC D)) v J = v := fun f v => by rw [hJJ]; exact upf_s f J v
  have e49 : ∀ k, k ≠ 1 → (k < 19 + 7 * J ∨ 19 + 7 * J + 6 < k) → g 49 k = hI τ 49 k := fun k h1 h2 => ee 49 k (by omega) (by omega) (by omega) (by omega) (by omega) (by omega)
  have cdH : ∀ t, upf (dH D) J 0 t = dH (joD D x he mn b c e) t := fun t => by
    show upf (dH D) J 0 t = upf (dH D) (cJ (dC D)) 0 t
    rw [hJJ]
  have w : WOs (wA υ g R) 1 49 51 53 (joD D x he mn b c e) (upf lno J d) none := by
    refine ⟨⟨cc.1.ext (fun j => eR 1 j (by omega) (by omega)) (fun i h1 h2 => (zA (1 + i) (by omega)).2), (ee 1 0 (by omega) (by omega) (by omega) (by omega) (by omega) (by omega)).trans cc.2.1, ?_, fun t ht => (ee 2 t (by omega) (by omega) (by omega) (by omega) (by omega) (by omega)).trans (cc.2.2.2.1 t ht), fun j hj => ?_, (ee 1 5 (by omega) (by omega) (by omega) (by omega) (by omega) (by omega)).trans cc.2.2.2.2.2.1, fun l hl => ?_, ?_⟩, ⟨(e49 0 (by omega) (by omega)).trans m.1, ?_, (e49 2 (by omega) (by omega)).trans m.2.2.1, fun t ht => (e49 _ (by omega) (by have : t < cT (dC D) := ht; omega)).trans (m.2.2.2.1 t ht), (e49 3 (by omega) (by omega)).trans m.2.2.2.2.1, (e49 4 (by omega) (by omega)).trans m.2.2.2.2.2.1, (e49 5 (by omega) (by omega)).trans m.2.2.2.2.2.2.1, (e49 6 (by omega) (by omega)).trans m.2.2.2.2.2.2.2.1, fun j hj => ?_, fun l hl => ?_⟩, ⟨⟨?_, hth, dw.1.2.2.1, fun j hj => ?_⟩, hL, fun j hj => ?_⟩, ?_, ?_, trivial⟩
    · show g 1 2 = nI (cJ (dC D) + 1)
      rw [hJJ]; exact g12
    · have hj' : j < J + 1 := by rw [← hJJ]; exact hj
      show ∃ T, R 3 j = some T ∧ TR (wA υ g R) g T (upf (cK (dC D)) (cJ (dC D)) x j) (upf (cH (dC D)) (cJ (dC D)) he j) (upf (cM (dC D)) (cJ (dC D)) mn j) (upf (cL (dC D)) (cJ (dC D)) b j) (upf (cP (dC D)) (cJ (dC D)) c j) (upf (cE (dC D)) (cJ (dC D)) e j) ∧ g T 0 = nI j ∧ g T 6 = upf lno J d j ∧ g 4 j = upf (dH D) (cJ (dC D)) 0 j
      by_cases q : j = J
      · subst q
        rw [js, js, js, js, js, js, js, upf_s]
        refine ⟨hN τ, R3, ⟨⟨n65, by show hN τ < hN υ; omega⟩, zK, gT.2.1, gT.2.2.1, gT.2.2.2.1, gT.2.2.2.2.1, gT.2.2.2.2.2.1, ?_⟩, gT.1, gT.2.2.2.2.2.2, (g4 j (by omega)).trans (upf_s _ _ _)⟩
        show LwC (wA υ g R) g (R (hN τ) 7) e
        rw [R7]
        exact lc.ext X ix
      · obtain ⟨T, t1, t2, t3, t4, t5⟩ := cc.2.2.2.2.1 j (by omega)
        rw [jj _ _ _ q, jj _ _ _ q, jj _ _ _ q, jj _ _ _ q, jj _ _ _ q, jj _ _ _ q, jj _ _ _ q, upf_n _ _ q]
        exact ⟨T, (eR 3 j (by omega) (by omega)).trans t1, t2.ext X ix, (t2.cell (τ := wA υ g R) ix 0).trans t3, (t2.cell (τ := wA υ g R) ix 6).trans t4, (ee 4 j (by omega) (by omega) (by omega) (by omega) (by omega) (by omega)).trans t5⟩
    · obtain ⟨q, q1, q2⟩ := cc.2.2.2.2.2.2.1 l hl
      exact ⟨q, (eR 5 l (by omega) (by omega)).trans q1, q2.ext X ix⟩
    · show RU g 1 _ _ _ _
      unfold RU
      rw [ee 6 0 (by omega) (by omega) (by omega) (by omega) (by omega) (by omega), ee 6 1 (by omega) (by omega) (by omega) (by omega) (by omega) (by omega), ee 6 2 (by omega) (by omega) (by omega) (by omega) (by omega) (by omega), ee 6 3 (by omega) (by omega) (by omega) (by omega) (by omega) (by omega)]
      exact cc.2.2.2.2.2.2.2
    · show g 49 1 = nI (cJ (dC D) + 1)
      rw [hJJ]; exact jv.2.2.2.2.2.2.2.1
    · have hj' : j < J + 1 := by rw [← hJJ]; exact hj
      show g 49 (19 + 7 * j + 0) = nI (upf (cK (dC D)) (cJ (dC D)) x j) ∧ g 49 (19 + 7 * j + 1) = upf (cH (dC D)) (cJ (dC D)) he j ∧ g 49 (19 + 7 * j + 2) = nI (upf (cM (dC D)) (cJ (dC D)) mn j) ∧ g 49 (19 + 7 * j + 3) = upf (cL (dC D)) (cJ (dC D)) b j ∧ g 49 (19 + 7 * j + 4) = upf (cP (dC D)) (cJ (dC D)) c j ∧ g 49 (19 + 7 * j + 5) = upf lno J d j ∧ g 49 (19 + 7 * j + 6) = upf (dH D) (cJ (dC D)) 0 j
      by_cases q : j = J
      · subst q
        rw [js, js, js, js, js, js, upf_s]
        exact ⟨jv.1, jv.2.1, jv.2.2.1, jv.2.2.2.1, jv.2.2.2.2.1, jv.2.2.2.2.2.1, jv.2.2.2.2.2.2.1⟩
      · rw [jj _ _ _ q, jj _ _ _ q, jj _ _ _ q, jj _ _ _ q, jj _ _ _ q, jj _ _ _ q, upf_n _ _ q, e49 _ (by omega) (by omega), e49 _ (by omega) (by omega), e49 _ (by omega) (by omega), e49 _ (by omega) (by omega), e49 _ (by omega) (by omega), e49 _ (by omega) (by omega), e49 _ (by omega) (by omega)]
        exact m.2.2.2.2.2.2.2.2.1 j (by omega)
    · obtain ⟨N, y, cs, n1, n2, n3, n4⟩ := m.2.2.2.2.2.2.2.2.2 l hl
      have hl' : l < dL D := hl
      refine ⟨N, y, cs, (e49 _ (by omega) (by omega)).trans n1, n2, fun i hi => (ee 51 _ (by omega) (by omega) (by omega) (by omega) (by omega) (by omega)).trans (n3 i hi), n4⟩
    · show cJ (dC D) + 1 ≤ 12
      omega
    · have hj' : j < J + 1 := by rw [← hJJ]; exact hj
      show upf (cK (dC D)) (cJ (dC D)) x j ≤ 7 ∧ 1 ≤ upf (cM (dC D)) (cJ (dC D)) mn j ∧ upf (cM (dC D)) (cJ (dC D)) mn j ≤ 30
      by_cases q : j = J
      · subst q
        rw [js, js]; exact ⟨hx, hmn⟩
      · rw [jj _ _ _ q, jj _ _ _ q]; exact dw.1.2.2.2 j (by omega)
    · have hj' : j < J + 1 := by rw [← hJJ]; exact hj
      show isS (cT (dC D)) (upf (dH D) (cJ (dC D)) 0 j) ∧ ¬ upf (cH (dC D)) (cJ (dC D)) he j < 0 ∧ ((upf lno J d j = -1 ∧ upf (cE (dC D)) (cJ (dC D)) e j = evP) ∨ ∃ l, l < dL D ∧ upf lno J d j = nI l ∧ upf (cE (dC D)) (cJ (dC D)) e j = dE D l)
      by_cases q : j = J
      · subst q
        rw [js, js, js, upf_s]
        exact ⟨fun i h1 h2 => bi_0 i h1, hhe, lw⟩
      · rw [jj _ _ _ q, jj _ _ _ q, jj _ _ _ q, upf_n _ _ q]
        exact dw.2.2 j (by omega)
    · refine ⟨g18, gU.1, gU.2.1, gU.2.2.1, gU.2.2.2.1, trivial, fun i hi => ?_⟩
      have hi' : i < J + 1 := by rw [← hJJ]; exact hi
      have := gU.2.2.2.2.2 i hi'
      rw [cdH] at this
      exact this
    · show ¬ g 53 6 = 1
      rw [jv.2.2.2.2.2.2.2.2]; decide
  refine Inv.nw X ix (fun a j h1 h2 => ?_) (fun a j h1 h2 => ?_) ?_ ?_ h w
  · unfold NW at h2
    exact ee a j (by omega) (by omega) (by omega) (by omega) (by omega) (by omega)
  · unfold RWr at h2
    exact eR a j (by omega) (by omega)
  · obtain ⟨t, ht⟩ := h.1.2.2.2.2.1
    exact ⟨t, (eR 48 15 (by omega) (by omega)).trans ht⟩
  · show ¬ hK υ (hN υ - 1) = 1
    rw [z1, Nat.add_sub_cancel, zK]
    exact kc_n1 x
