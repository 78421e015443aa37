/-! the class's talks: the beginning, a run -/
theorem wrap {ld i J : Nat} (hl : ld < J) (hi : i < J) : (ld + i) % J = if ld + i < J then ld + i else ld + i - J := by
  by_cases h : ld + i < J
  · rw [if_pos h, Nat.mod_eq_of_lt h]
  · rw [if_neg h, Nat.mod_eq_sub_mod (by omega), Nat.mod_eq_of_lt (by omega)]
theorem begL_s {C : Ct} {hd : Nat → Int32} {ld : Nat} {ha : Bool} {k : Nat} : ∀ i, (begL C hd ld ha i).2.1 k = true → ∃ q, q < i ∧ k = (ld + q) % cJ C := by
  intro i
  induction i with
  | zero => intro h; cases h
  | succ i ih =>
    intro h
    by_cases h1 : k = (ld + i) % cJ C
    · exact ⟨i, by omega, h1⟩
    · have h2 : (begL C hd ld ha (i + 1)).2.1 k = (begL C hd ld ha i).2.1 k := by
        show upb _ _ _ k = _
        unfold upb
        rw [if_neg h1]
      rw [h2] at h
      obtain ⟨q, q1, q2⟩ := ih h
      exact ⟨q, by omega, q2⟩
theorem begL_n {C : Ct} {hd : Nat → Int32} {ld : Nat} {ha : Bool} {i : Nat} (hl : ld < cJ C) (hi : i < cJ C) : (begL C hd ld ha i).2.1 ((ld + i) % cJ C) = false := by
  cases h : (begL C hd ld ha i).2.1 ((ld + i) % cJ C)
  · rfl
  · obtain ⟨q, q1, q2⟩ := begL_s i h
    rw [wrap hl hi, wrap hl (by omega)] at q2
    split at q2 <;> split at q2 <;> omega
theorem begL_y {C : Ct} {hd : Nat → Int32} {ld : Nat} {ha : Bool} : ∀ i, (begL C hd ld ha i).2.2 ≤ i := by
  intro i
  induction i with
  | zero => exact Nat.le_refl _
  | succ i ih =>
    have h2 : ∀ b : Bool, (if b then (begL C hd ld ha i).2.2 + 1 else (begL C hd ld ha i).2.2) ≤ i + 1 := fun b => by
      cases b
      · show (begL C hd ld ha i).2.2 ≤ i + 1
        omega
      · show (begL C hd ld ha i).2.2 + 1 ≤ i + 1
        omega
    exact h2 _
def ldS (lr J : Nat) : Nat := if lr < J then lr else 0
theorem ldS_lt {lr J : Nat} (h : 0 < J) : ldS lr J < J := by unfold ldS; split <;> omega
/-- a room's rule -/
def RU (g : Nat → Nat → Int32) (r k lr : Nat) (ha : Bool) (li : Nat) : Prop := g (r + 5) 0 = nI k ∧ 1 ≤ k ∧ k ≤ 12 ∧ g (r + 5) 1 = nI lr ∧ lr ≤ 11 ∧ (g (r + 5) 2 = if ha then 1 else 0) ∧ g (r + 5) 3 = nI li ∧ li ≤ 3000
theorem RU.fr {σ : Hp} {g h : Nat → Nat → Int32} {r k lr li : Nat} {ha : Bool} (hr : r + 9 < 65) (hf : Fr (WT σ r) g h) (a : RU g r k lr ha li) : RU h r k lr ha li := by
  have e : ∀ j, h (r + 5) j = g (r + 5) j := fun j => hf _ _ (WT.n (by omega) (by omega) (by omega))
  unfold RU
  rw [e, e, e, e]
  exact a
theorem lds_c {σ : Hp} {g : Nat → Nat → Int32} {r k lr li J : Nat} {ha : Bool} (n : Nat) (hR : RL σ r) (hU : RU g r k lr ha li) (h2 : g r 2 = nI J) (hJ : J ≤ 12) : F_X3_leaderSeat n r (wI σ g) = some (nI (ldS lr J), wI σ g) := by
  obtain ⟨r65, ⟨R1, R3, R4, R6, R7, R15, R16, R17, R18⟩, L1, L2, L3, L4, L5, L6, L7, L8, L9⟩ := hR
  obtain ⟨u1, u2, u2b, u3, u4, u5⟩ := hU
  unfold F_X3_leaderSeat F_X3_isSeat
  rw [wI_R, R7, qk_s1, q_1, q_atw (by omega) (by omega), qk_s2, u3, if_neg (nI_pos (by omega)), wI_I, h2]
  unfold ldS
  by_cases h : lr < J
  · rw [if_neg (nI_ge h (by omega)), if_pos h, qk_s2, if_neg (by decide)]
  · rw [if_pos (nI_le (by omega) (by omega)), if_neg h, qk_s2, if_pos rfl]; rfl
def WB (σ : Hp) (r a j : Nat) : Prop := (a = r ∧ j = 12) ∨ a = r + 8 ∨ isStk σ a
theorem WB.t {σ : Hp} {r : Nat} {g h : Nat → Nat → Int32} (a : Fr (WB σ r) g h) : Fr (WT σ r) g h := a.mo fun i j w => by
  rcases w with w | w | w
  · exact Or.inl ⟨w.1, by omega, by omega⟩
  · exact Or.inr (Or.inl (by omega))
  · exact Or.inr (Or.inr w)
theorem begin_c {σ : Hp} {g : Nat → Nat → Int32} {r k lr li : Nat} {ha : Bool} {C : Ct} {hd : Nat → Int32} (n : Nat) (hn : 200 < n) (hC : CC σ g r C) (hU : RU g r k lr ha li) (hh : ∀ t, t < cJ C → g (r + 3) t = hd t) : ∃ g', F_X3_beginTalk n r (wI σ g) = some (wI σ g') ∧ Fr (WT σ r) g g' ∧ CT σ g' r C (beginS C hd (ldS lr (cJ C)) ha) ∧ isM (cJ C) (tS (beginS C hd (ldS lr (cJ C)) ha)) (g' r 13) ∧ g' r 8 = 1 := by
  have hC0 := hC
  obtain ⟨hR, hW, h0, h2, hsp, ht⟩ := hC0
  have hR0 := hR
  obtain ⟨r65, ⟨R1, R3, R4, R6, R7, R15, R16, R17, R18⟩, L1, L2, L3, L4, L5, L6, L7, L8, L9⟩ := hR
  have hJ := hW.2.1
  have hld : ldS lr (cJ C) < cJ C := ldS_lt hW.1
  generalize hl : ldS lr (cJ C) = ld at hld ⊢
  unfold F_X3_beginTalk
  obtain ⟨g1, a1, a2, a3⟩ := sat_c (sp := cS C) (hd := hd) n (by omega) hR0 h0 hW.2.2.1 h2 hJ hsp hh
  have a2' : Fr (WT σ r) g g1 := a2.mo fun i j w => by
    rcases w with w | w
    · exact Or.inl ⟨w.1, by omega, by omega⟩
    · exact Or.inr (Or.inl w)
  rw [qk_b1 a1]
  simp only [qk_lt, wI_p]
  have b2' : Fr (WT σ r) g (up2 g1 r 8 1) := a2'.up (Or.inl ⟨rfl, by omega, by omega⟩)
  have e2 : up2 g1 r 8 1 r 2 = nI (cJ C) := by rw [b2' r 2 (WT.n (by omega) (by omega) (by omega))]; exact h2
  rw [qk_b2 (lds_c n hR0 (hU.fr r65 b2') e2 hJ), hl, wI_p]
  generalize hg3 : up2 (up2 g1 r 8 1) r 9 (nI ld) = g3
  have c2 : Fr (WT σ r) g g3 := by rw [← hg3]; exact b2'.up (Or.inl ⟨rfl, by omega, by omega⟩)
  have e8 : g3 r 8 = 1 := by rw [← hg3, up_j (by omega), up_s]
  have e9 : g3 r 9 = nI ld := by rw [← hg3, up_s]
  obtain ⟨s10, s11, s12, s13, s14, s6⟩ := a3
  have k10 : g3 r 10 = 0 := by rw [← hg3, up_j (by omega), up_j (by omega)]; exact s10
  have k11 : g3 r 11 = 0 := by rw [← hg3, up_j (by omega), up_j (by omega)]; exact s11
  have k12 : g3 r 12 = 0 := by rw [← hg3, up_j (by omega), up_j (by omega)]; exact s12
  have k14 : g3 r 14 = allH (cT C) hd (cJ C) := by rw [← hg3, up_j (by omega), up_j (by omega)]; exact s14
  have k6 : ∀ i, i < cJ C → g3 (r + 6) i = hd i ∧ g3 (r + 7) i = wgh (cS C) (hd i) (cT C) ∧ g3 (r + 8) i = 0 ∧ g3 (r + 9) i = -1 := fun i hi => by
    rw [← hg3, up_i (by omega), up_i (by omega), up_i (by omega), up_i (by omega), up_i (by omega), up_i (by omega), up_i (by omega), up_i (by omega)]
    exact s6 i hi
  have hC3 := hC.frT c2
  have hU3 := hU.fr r65 c2
  obtain ⟨ρ, e1, h, rfl, f2, f3, f4⟩ := q_for (fun f i (a : Int32 × (Nat → Nat → Int32)) => F_X3_beginTalk_21 n f r a.1 (nI i) (wI σ a.2)) (fun i a => a.1 = nI (begL C hd ld ha i).2.2 ∧ Fr (WB σ r) g3 a.2 ∧ (∀ j, j < cJ C → a.2 (r + 8) j = (begL C hd ld ha i).1 j) ∧ isM (cJ C) (begL C hd ld ha i).2.1 (a.2 r 12)) (fun ρ => ∃ h, ρ = wI σ (up2 h r 13 (h r 12)) ∧ Fr (WB σ r) g3 h ∧ (∀ j, j < cJ C → h (r + 8) j = (begL C hd ld ha (cJ C)).1 j) ∧ isM (cJ C) (begL C hd ld ha (cJ C)).2.1 (h r 12)) (cJ C) (fun i f a hi hp => by
    obtain ⟨v1, h⟩ := a
    obtain ⟨p1, p2, p3, p4⟩ := hp
    simp only at p1 p2 p3 p4
    subst p1
    have hCh := hC3.frT (WB.t p2)
    have hUh := hU3.fr r65 (WB.t p2)
    have hjl : (ld + i) % cJ C < cJ C := Nat.mod_lt _ hW.1
    have hfr := begL_n (C := C) (hd := hd) (ha := ha) hld hi
    have h9 : h r 9 = nI ld := by rw [p2 r 9 (fun w => by
      rcases w with w | w | w
      · omega
      · omega
      · exact stk_lo (by omega) w)]; exact e9
    have hb : begL C hd ld ha (i + 1) = (if ha then upb (begL C hd ld ha i).1 ((ld + i) % cJ C) (cH C ((ld + i) % cJ C) * (nI (begL C hd ld ha i).2.2 - (nI i - nI (begL C hd ld ha i).2.2))) else (begL C hd ld ha i).1, upb (begL C hd ld ha i).2.1 ((ld + i) % cJ C) (saysS C hd (if ha then upb (begL C hd ld ha i).1 ((ld + i) % cJ C) (cH C ((ld + i) % cJ C) * (nI (begL C hd ld ha i).2.2 - (nI i - nI (begL C hd ld ha i).2.2))) else (begL C hd ld ha i).1) (fun _ => 0) 0 0 0 ((ld + i) % cJ C)), if saysS C hd (if ha then upb (begL C hd ld ha i).1 ((ld + i) % cJ C) (cH C ((ld + i) % cJ C) * (nI (begL C hd ld ha i).2.2 - (nI i - nI (begL C hd ld ha i).2.2))) else (begL C hd ld ha i).1) (fun _ => 0) 0 0 0 ((ld + i) % cJ C) then (begL C hd ld ha i).2.2 + 1 else (begL C hd ld ha i).2.2) := rfl
    have hyi := begL_y (C := C) (hd := hd) (ld := ld) (ha := ha) i
    generalize hB : begL C hd ld ha i = B at *
    generalize hj : (ld + i) % cJ C = j at *
    obtain ⟨T', t1, t65, tk, t1k, the, tmn, tln, tpt, tlw⟩ := hCh.2.2.2.2.2 j hjl
    simp only [F_X3_beginTalk_21, F_X3_beginTalk_82, F_X3_beginTalk_117]
    rw [wI_I, hCh.2.2.2.1, if_neg (nI_ge hi (by omega)), qk_b2 (sfl_c n hCh.2.2.2.1 ⟨hW.1, hJ⟩ h9 (by omega)), hj, qk_b2 (hCh.tat n hjl), t1, qk_om, wI_R, R7, qk_s1, q_2, q_atw (by omega) (by omega), qk_s2, hUh.2.2.2.2.2.1, wI_I, the]
    -- the state in which it leans
    have key : ∀ (h2 : Nat → Nat → Int32) (pu : Nat → Int32), pu = (if ha then upb B.1 j (cH C j * (nI B.2.2 - (nI i - nI B.2.2))) else B.1) → Fr (WB σ r) g3 h2 → (∀ q, q < cJ C → h2 (r + 8) q = pu q) → h2 r 12 = h r 12 → ∃ a' : Int32 × (Nat → Nat → Int32), om (some T') (F_X3_beginTalk_21 n f r (nI B.2.2) (nI i + 1) (wI σ h2)) (fun i2 => b2 (F_X3_leaning n r (nI j) 0 0 (wI σ h2)) fun r4 σ3 => if r4 < (hI σ3 i2 4) then (F_X3_beginTalk_21 n f r (nI B.2.2) (nI i + 1) σ3) else (lt (pI σ3 r 12 ((hI σ3 r 12) ||| (1 <<< (nI j &&& 31)))) fun σ5 => F_X3_beginTalk_21 n f r (nI B.2.2 + 1) (nI i + 1) σ5)) = F_X3_beginTalk_21 n f r a'.1 (nI (i + 1)) (wI σ a'.2) ∧ a'.1 = nI (begL C hd ld ha (i + 1)).2.2 ∧ Fr (WB σ r) g3 a'.2 ∧ (∀ q, q < cJ C → a'.2 (r + 8) q = (begL C hd ld ha (i + 1)).1 q) ∧ isM (cJ C) (begL C hd ld ha (i + 1)).2.1 (a'.2 r 12) := by
      intro h2 pu hpu q1 q2 q3
      have hC2 := hC3.frT (WB.t q1)
      have w6 : h2 (r + 7) j = wgh (cS C) (hd j) (cT C) := by
        rw [q1 (r + 7) j (fun w => by
          rcases w with w | w | w
          · omega
          · omega
          · exact stk_lo (by omega) w)]; exact (k6 j hjl).2.1
      have w10 : h2 r 10 = 0 := by
        rw [q1 r 10 (fun w => by
          rcases w with w | w | w
          · omega
          · omega
          · exact stk_lo (by omega) w)]; exact k10
      obtain ⟨h3, v1, v2⟩ := lean_c (y := 0) (no := 0) n hn hC2 hjl w6 (q2 j hjl) w10
      have f3 : Fr (WB σ r) g3 h3 := q1.tr (v2.mo fun _ _ w => Or.inr (Or.inr w))
      have f4 : h3 T' 4 = cL C j := by
        obtain ⟨T2, x1, x2⟩ := (hC3.frT (WB.t f3)).2.2.2.2.2 j hjl
        obtain rfl : T' = T2 := Option.some.inj (t1.symm.trans x1)
        exact x2.2.2.2.2.2.1
      have f5 : ∀ a b, a < 65 → h3 a b = h2 a b := fun a b hab => v2 a b (stk_lo hab)
      rw [hb, ← hpu, qk_om, qk_b2 v1, wI_I, f4, nI_1, nI_1]
      have hs : saysS C hd pu (fun _ => 0) 0 0 0 j = !(decide (leanS C hd pu 0 0 0 j < cL C j)) := rfl
      rw [hs]
      by_cases c1 : leanS C hd pu 0 0 0 j < cL C j
      · rw [if_pos c1, decide_eq_true c1]
        refine ⟨(nI B.2.2, h3), rfl, rfl, f3, fun q hq => by
          show h3 (r + 8) q = pu q
          rw [f5 _ _ (by omega)]; exact q2 q hq, ?_⟩
        show isM _ _ (h3 r 12)
        rw [f5 _ _ (by omega), q3]
        exact isM_no p4 hfr
      · rw [if_neg c1, decide_eq_false c1, qk_lt, wI_p]
        refine ⟨(nI (B.2.2 + 1), _), rfl, rfl, f3.up (Or.inl ⟨rfl, rfl⟩), fun q hq => ?_, ?_⟩
        · show up2 h3 r 12 _ (r + 8) q = _
          rw [up_i (by omega), f5 _ _ (by omega)]; exact q2 q hq
        · show isM _ _ (up2 h3 r 12 _ r 12)
          rw [up_s, f5 _ _ (by omega), q3]
          exact isM_up p4 hjl hJ
    by_cases hha : ha = true
    · have e1 : (if ha = true then (1 : Int32) else 0) = 1 := by rw [if_pos hha]
      rw [if_pos e1, wI_R, R17, qk_s1, q_stw (by omega) (by omega), qk_s1]
      have := key (up2 h (r + 8) j (cH C j * (nI B.2.2 - (nI i - nI B.2.2)))) (upb B.1 j (cH C j * (nI B.2.2 - (nI i - nI B.2.2)))) (if_pos hha).symm (p2.up (Or.inr (Or.inl rfl))) (fun q hq => by
        unfold upb
        by_cases hqj : q = j
        · subst hqj; rw [up_s, if_pos rfl]
        · rw [up_j hqj, if_neg hqj]; exact p3 q hq) (up_i (by omega))
      exact this
    · have e1 : ¬ (if ha = true then (1 : Int32) else 0) = 1 := by rw [if_neg hha]; decide
      rw [if_neg e1]
      have := key h B.1 (if_neg hha).symm p2 p3 rfl
      exact this) (fun f a hp => by
    obtain ⟨v1, h⟩ := a
    obtain ⟨p1, p2, p3, p4⟩ := hp
    simp only at p1 p2 p3 p4
    refine ⟨_, ?_, h, rfl, p2, p3, p4⟩
    simp only [F_X3_beginTalk_21, F_X3_beginTalk_123]
    rw [wI_I, (hC3.frT (WB.t p2)).2.2.2.1, if_pos (nI_le (Nat.le_refl _) (by omega)), qk_lt, wI_p]) n (0, g3) (by omega) ⟨rfl, Fr.rf _ _, fun j hj => (k6 j hj).2.2.1, by
      show isM _ _ (g3 r 12)
      rw [k12]; exact isM_z _⟩
  have f0 : ∀ a j, a < 65 → ¬ (a = r ∧ j = 12) → a ≠ r + 8 → h a j = g3 a j := fun a j q1 q2 q3 => f2 a j (fun w => by
    rcases w with w | w | w
    · exact q2 w
    · exact q3 w
    · exact stk_lo q1 w)
  refine ⟨_, by rw [q_0]; exact e1, (c2.tr (WB.t f2)).up (Or.inl ⟨rfl, by omega, by omega⟩), ⟨?_, ?_, ?_, ?_, fun i hi => ?_, ld, ?_, hld, ?_⟩, ?_, ?_⟩
  · rw [up_j (by omega), f0 _ _ (by omega) (by omega) (by omega)]; exact k10
  · rw [up_j (by omega), f0 _ _ (by omega) (by omega) (by omega)]; exact k11
  · rw [up_j (by omega)]; exact f4
  · rw [up_j (by omega), f0 _ _ (by omega) (by omega) (by omega)]; exact k14
  · rw [up_i (by omega), up_i (by omega), up_i (by omega), up_i (by omega), f0 (r + 6) _ (by omega) (by omega) (by omega), f0 (r + 7) _ (by omega) (by omega) (by omega), f0 (r + 9) _ (by omega) (by omega) (by omega), f3 i hi]
    have := k6 i hi
    exact ⟨this.1, this.2.1, rfl, this.2.2.2⟩
  · rw [up_j (by omega), f0 _ _ (by omega) (by omega) (by omega)]; exact e9
  · show (ld + 0) % cJ C = ld
    rw [Nat.add_zero, Nat.mod_eq_of_lt hld]
  · rw [up_s]; exact f4
  · rw [up_j (by omega), f0 _ _ (by omega) (by omega) (by omega)]; exact e8
theorem run_c {σ : Hp} {g : Nat → Nat → Int32} {r k lr li : Nat} {ha : Bool} {C : Ct} {hd : Nat → Int32} (n : Nat) (hn : 4000 < n) (hC : CC σ g r C) (hU : RU g r k lr ha li) (hh : ∀ t, t < cJ C → g (r + 3) t = hd t) (hs : ∀ i, i < cJ C → isS (cT C) (hd i)) : ∃ g', F_X3_runThrough n r (wI σ g) = some (endS C (min k (cJ C)) li (runS C (min k (cJ C)) li 3000 (beginS C hd (ldS lr (cJ C)) ha)), wI σ g') ∧ Fr (WT σ r) g g' ∧ CT σ g' r C (runS C (min k (cJ C)) li 3000 (beginS C hd (ldS lr (cJ C)) ha)) ∧ isM (cJ C) (tS (beginS C hd (ldS lr (cJ C)) ha)) (g' r 13) := by
  have r65 := hC.1.1
  have hW := hC.2.1
  unfold F_X3_runThrough
  obtain ⟨g1, a1, a2, a3, a4, a5⟩ := begin_c n (by omega) hC hU hh
  rw [qk_b1 a1]
  have key : ∀ f i m (T : Tk) (h : Nat → Nat → Int32), f + i = 3000 → f < m → i ≤ tM T → tM T ≤ 40 * i → TW C T → CT σ h r C T → CC σ h r C → RU h r k lr ha li → ∃ h', F_X3_runThrough_6 n m r (nI i) (wI σ h) = some (endS C (min k (cJ C)) li (runS C (min k (cJ C)) li f T), wI σ h') ∧ Fr (WC σ r) h h' ∧ CT σ h' r C (runS C (min k (cJ C)) li f T) := by
    intro f
    induction f with
    | zero =>
      intro i m T h hi hm hT1 hT2 w1 w2 w3 w4
      obtain ⟨m, rfl⟩ : ∃ q, m = q + 1 := ⟨m - 1, by omega⟩
      simp only [F_X3_runThrough_6, F_X3_runThrough_32, runS]
      rw [show (3000 : Int32) = nI 3000 from rfl, if_pos (nI_le (by omega) (by omega)), qk_b2 (end_c n w3 w2 w4.1 w4.2.2.1 w4.2.2.2.2.2.2.1 w4.2.2.2.2.2.2.2 (by omega))]
      exact ⟨h, rfl, Fr.rf _ _, w2⟩
    | succ f ih =>
      intro i m T h hi hm hT1 hT2 w1 w2 w3 w4
      obtain ⟨m, rfl⟩ : ∃ q, m = q + 1 := ⟨m - 1, by omega⟩
      simp only [F_X3_runThrough_6, F_X3_runThrough_32, runS]
      have he := end_c n w3 w2 w4.1 w4.2.2.1 w4.2.2.2.2.2.2.1 w4.2.2.2.2.2.2.2 (by omega)
      rw [show (3000 : Int32) = nI 3000 from rfl, if_neg (nI_ge (by omega) (by omega)), qk_b2 he]
      by_cases c1 : endS C (min k (cJ C)) li T = -4
      · rw [if_pos c1, if_pos c1]
        obtain ⟨h', b1, b2, b3⟩ := step_c n (by omega) w3 w2 w1 (by omega)
        have hm1 := turn_m (C := C) (T := T)
        have hmm := (hW.2.2.2.2 _ w1.2.1).2
        rw [qk_b1 b1, ← nI_succ]
        obtain ⟨h2, d1, d2, d3⟩ := ih (i + 1) m (turnS C T) h' (by omega) (by omega) (by omega) (by omega) (turn_w hW w1) b3 (w3.fr b2) (w4.fr r65 (WC.t b2))
        exact ⟨h2, d1, b2.tr d2, d3⟩
      · rw [if_neg c1, if_neg c1, qk_b2 he]
        exact ⟨h, rfl, Fr.rf _ _, w2⟩
  obtain ⟨g2, b1, b2, b3⟩ := key 3000 0 n _ g1 (by omega) (by omega) (Nat.zero_le _) (Nat.le_refl _) (begin_w (ldS_lt hW.1) hs) a3 (hC.frT a2) (hU.fr r65 a2)
  refine ⟨g2, by rw [q_0]; exact b1, a2.tr (WC.t b2), b3, ?_⟩
  rw [b2 r 13 (fun w => by
    rcases w with w | w | w
    · omega
    · omega
    · exact stk_lo (by omega) w)]
  exact a4
