theorem RWm.cp {g h : Nat → Nat → Int32} {s lw s' lw' : Nat} {D : Dt} {lno : Nat → Int32} (dw : DW D lno) (a : ∀ k, k < 109 → h s' k = g s k) (b : ∀ k, k < 600 → h lw' k = g lw k) (m : RWm g s lw D lno) : RWm h s' lw' D lno := by
  have hJ := dw.1.1
  have hth := dw.1.2.1
  have hdL := dw.2.1
  obtain ⟨m1, m2, m3, m4, m5, m6, m7, m8, m9, m10⟩ := m
  refine ⟨(a 0 (by omega)).trans m1, (a 1 (by omega)).trans m2, (a 2 (by omega)).trans m3, fun t ht => (a _ (by omega)).trans (m4 t ht), (a 3 (by omega)).trans m5, (a 4 (by omega)).trans m6, (a 5 (by omega)).trans m7, (a 6 (by omega)).trans m8, fun j hj => ?_, fun l hl => ?_⟩
  · rw [a _ (by omega), a _ (by omega), a _ (by omega), a _ (by omega), a _ (by omega), a _ (by omega), a _ (by omega)]
    exact m9 j hj
  · obtain ⟨N, x, cs, n1, n2, n3, n4⟩ := m10 l hl
    exact ⟨N, x, cs, (a _ (by omega)).trans n1, n2, fun i hi => (b _ (by omega)).trans (n3 i hi), n4⟩
theorem TKm.cp {g h : Nat → Nat → Int32} {tk tk' : Nat} {D : Dt} {lno : Nat → Int32} {ot : Option Tk} (dw : DW D lno) (a : ∀ k, k < 67 → h tk' k = g tk k) (f : TKm g tk D ot) : TKm h tk' D ot := by
  have hJ := dw.1.1
  cases ot with
  | none => show ¬ h tk' 6 = 1; rw [a 6 (by omega)]; exact f
  | some T =>
    obtain ⟨f6, ⟨t0, t1, t2, t3, t4, t5⟩, f5, f7⟩ := f
    refine ⟨(a 6 (by omega)).trans f6, ⟨(a 0 (by omega)).trans t0, (a 1 (by omega)).trans t1, (a 2 (by omega)).trans t2, (a 3 (by omega)).trans t3, (a 4 (by omega)).trans t4, fun i hi => ?_⟩, (a 5 (by omega)).trans f5, fun i hi => (a _ (by omega)).trans (f7 i hi)⟩
    rw [a _ (by omega), a _ (by omega), a _ (by omega), a _ (by omega)]
    exact t5 i hi
theorem TKc.b {τ : Hp} {r : Nat} {D : Dt} {ot : Option Tk} (e : TKc τ r D ot) : hI τ r 8 = 0 ∨ hI τ r 8 = 1 := by
  cases ot with
  | none => exact Or.inl e.1
  | some T => exact Or.inr e.1
