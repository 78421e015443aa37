/-! the model's talks: the beginning, a run with what came out when -/
theorem more_y (y i : Nat) : nI y - (nI i - nI y) + 1 = nI (y + 1) - (nI (i + 1) - nI (y + 1)) := by
  rw [nI_succ y, nI_succ i]; grind
theorem more_n (y i : Nat) : nI y - (nI i - nI y) + (-1) = nI y - (nI (i + 1) - nI y) := by
  rw [nI_succ i]; grind
def WKb (kk a j : Nat) : Prop := (a = 48 ∧ 16 ≤ j ∧ j ≤ 25) ∨ (a = kk ∧ (j < 5 ∨ j = 6 ∨ 19 ≤ j))
theorem WKb.r {kk : Nat} {g h : Nat → Nat → Int32} (a : Fr (WKb kk) g h) : Fr (WR kk) g h := a.mo fun i j w => w.elim (fun q => Or.inl ⟨q.1, q.2.1, by omega⟩) (fun q => Or.inr (Or.inl q))
theorem WK.b {kk : Nat} {g h : Nat → Nat → Int32} (a : Fr (WK kk) g h) : Fr (WKb kk) g h := a.mo fun i j w => w.elim Or.inl (fun q => Or.inr ⟨q.1, by omega⟩)
/-- members as they hold before a talk -/
def MH (g : Nat → Nat → Int32) (kk J : Nat) (hd : Nat → Int32) : Prop := ∀ i, i < J → g kk (19 + i) = hd i
theorem begins_m {σ : Hp} {g : Nat → Nat → Int32} {t kk ld : Nat} {ha : Bool} {C : Ct} {hd : Nat → Int32} {v3 : Int32} (n : Nat) (hn : 200 < n) (hB : MB σ) (hk : isT2 kk) (hC : MC g kk C) (hh : MH g kk (cJ C) hd) (hl : ld < cJ C) (hv : v3 = if ha then 1 else 0) : ∃ g' t', F_X12_begins n 48 kk (nI ld) v3 (wM σ g t) = some (wM σ g' t') ∧ Fr (WKb kk) g g' ∧ MT g' kk C (beginS C hd ld ha) ∧ g' kk 6 = 1 := by
  have hK := hB.k hk
  have hk2 : kk = 53 ∨ kk = 54 := hk
  have hJ := hC.1.2.1
  unfold F_X12_begins F_X12_sees
  rw [wM_L, hK, z_0, z_3, z_4, z_6, kq_0 (by decide), qk_lt, wM_p, wM_L, hK, kq_3 (by decide), qk_lt, wM_p, wM_L, hK, kq_4 (by decide), qk_lt, wM_p, wM_L, hK, kq_6 (by decide), qk_lt, wM_p, qk_lt, wM_p, qk_lt, wM_p, qk_lt, wM_p, qk_s1]
  generalize hg3 : up2 (up2 (up2 (up2 (up2 (up2 (up2 g kk 0 0) kk 3 0) kk 4 (nI ld)) kk 6 1) 48 23 0) 48 24 0) 48 25 0 = g3
  have f3 : Fr (WKb kk) g g3 := by
    rw [← hg3]
    exact ((((((((Fr.rf _ _).up (Or.inr ⟨rfl, by omega⟩)).up (Or.inr ⟨rfl, by omega⟩)).up (Or.inr ⟨rfl, by omega⟩)).up (Or.inr ⟨rfl, by omega⟩)).up (Or.inl ⟨rfl, by omega, by omega⟩)).up (Or.inl ⟨rfl, by omega, by omega⟩)).up (Or.inl ⟨rfl, by omega, by omega⟩))
  have y23 : g3 48 23 = 0 := by rw [← hg3, up_j (by omega), up_j (by omega), up_s]
  have y24 : g3 48 24 = 0 := by rw [← hg3, up_j (by omega), up_s]
  have y25 : g3 48 25 = 0 := by rw [← hg3, up_s]
  have yk : ∀ j, 6 < j → g3 kk j = g kk j := fun j hj => by rw [← hg3, up_i (by omega), up_i (by omega), up_i (by omega), up_j (by omega), up_j (by omega), up_j (by omega), up_j (by omega)]
  have y0 : g3 kk 0 = 0 := by rw [← hg3, up_i (by omega), up_i (by omega), up_i (by omega), up_j (by omega), up_j (by omega), up_j (by omega), up_s]
  have y3 : g3 kk 3 = 0 := by rw [← hg3, up_i (by omega), up_i (by omega), up_i (by omega), up_j (by omega), up_j (by omega), up_s]
  have y4 : g3 kk 4 = nI ld := by rw [← hg3, up_i (by omega), up_i (by omega), up_i (by omega), up_j (by omega), up_s]
  have y6 : g3 kk 6 = 1 := by rw [← hg3, up_i (by omega), up_i (by omega), up_i (by omega), up_s]
  have y5 : g3 kk 5 = nI (cJ C) := by rw [f3 kk 5 (by unfold WKb; omega)]; exact hC.2.1
  -- the second loop
  have second : ∀ g4 : Nat → Nat → Int32, Fr (fun a q => a = kk ∧ ((31 ≤ q ∧ q < 43) ∨ 55 ≤ q)) g3 g4 → (∀ i, i < cJ C → g4 kk (31 + i) = 0 ∧ g4 kk (55 + i) = 0) → ∃ ρ, F_X12_begins_63 n n 48 kk (nI ld) v3 0 (nI 0) (wM σ g4 t) = some ρ ∧ ∃ g' t', ρ = wM σ g' t' ∧ Fr (WKb kk) g g' ∧ MT g' kk C (beginS C hd ld ha) ∧ g' kk 6 = 1 := by
    intro g4 f4 z4
    have f4' : Fr (WKb kk) g3 g4 := f4.mo fun a q w => Or.inr ⟨w.1, by omega⟩
    have hC4 : MC g4 kk C := hC.fr hk (WKb.r (f3.tr f4'))
    refine q_for (fun f i (a : Int32 × (Nat → Nat → Int32) × Nat) => F_X12_begins_63 n f 48 kk (nI ld) v3 a.1 (nI i) (wM σ a.2.1 a.2.2)) (fun i a => a.1 = nI (begL C hd ld ha i).2.2 - (nI i - nI (begL C hd ld ha i).2.2) ∧ Fr (fun p q => WL p q ∨ (p = kk ∧ 31 ≤ q ∧ q < 55)) g4 a.2.1 ∧ (∀ j, j < cJ C → a.2.1 kk (31 + j) = (begL C hd ld ha i).1 j) ∧ ∀ q, q < i → a.2.1 kk (43 + (ld + q) % cJ C) = if (begL C hd ld ha i).2.1 ((ld + q) % cJ C) then 1 else 0) _ (cJ C) (fun i f a hi hp => ?_) (fun f a hp => ?_) n (0, g4, t) (by omega) ⟨(show (0 : Int32) = nI 0 - (nI 0 - nI 0) by decide), Fr.rf _ _, fun j hj => (z4 j hj).1, fun q hq => by omega⟩
    · obtain ⟨v4, h, u⟩ := a
      obtain ⟨p1, p2, p3, p4⟩ := hp
      simp only at p1 p2 p3 p4
      subst p1
      have hjl : (ld + i) % cJ C < cJ C := Nat.mod_lt _ hC.1.1
      have hne : ∀ q, q < i → (ld + q) % cJ C ≠ (ld + i) % cJ C := fun q hq h => by
        rw [wrap hl hi, wrap hl (by omega)] at h
        split at h <;> split at h <;> omega
      have fh : Fr (WKb kk) g4 h := p2.mo (fun a b w => w.elim (fun z => Or.inl ⟨z.1, z.2.1, by have := z.2.2; omega⟩) (fun z => Or.inr ⟨z.1, by omega⟩))
      have hCh : MC h kk C := hC4.fr hk (WKb.r fh)
      have pk : ∀ q, q < 31 ∨ 55 ≤ q → h kk q = g4 kk q := fun q hq => p2 kk q (by unfold WL; omega)
      have p48 : ∀ q, 22 < q → h 48 q = g4 48 q := fun q hq => p2 48 q (by unfold WL; omega)
      have p48' : ∀ q, g4 48 q = g3 48 q := fun q => f4 48 q (by omega)
      have hb : begL C hd ld ha (i + 1) = (if ha then upb (begL C hd ld ha i).1 ((ld + i) % cJ C) (cH C ((ld + i) % cJ C) * (nI (begL C hd ld ha i).2.2 - (nI i - nI (begL C hd ld ha i).2.2))) else (begL C hd ld ha i).1, upb (begL C hd ld ha i).2.1 ((ld + i) % cJ C) (saysS C hd (if ha then upb (begL C hd ld ha i).1 ((ld + i) % cJ C) (cH C ((ld + i) % cJ C) * (nI (begL C hd ld ha i).2.2 - (nI i - nI (begL C hd ld ha i).2.2))) else (begL C hd ld ha i).1) (fun _ => 0) 0 0 0 ((ld + i) % cJ C)), if saysS C hd (if ha then upb (begL C hd ld ha i).1 ((ld + i) % cJ C) (cH C ((ld + i) % cJ C) * (nI (begL C hd ld ha i).2.2 - (nI i - nI (begL C hd ld ha i).2.2))) else (begL C hd ld ha i).1) (fun _ => 0) 0 0 0 ((ld + i) % cJ C) then (begL C hd ld ha i).2.2 + 1 else (begL C hd ld ha i).2.2) := rfl
      generalize hBB : begL C hd ld ha i = B at *
      generalize hjj : (ld + i) % cJ C = j at *
      obtain ⟨w, b0, b1', b2', b3, b4, b5, b6, b7⟩ := hCh.2.2.2.2 j hjl
      have key : ∀ (h2 : Nat → Nat → Int32) (pu : Nat → Int32), pu = (if ha then upb B.1 j (cH C j * (nI B.2.2 - (nI i - nI B.2.2))) else B.1) → Fr (fun p q => WL p q ∨ (p = kk ∧ 31 ≤ q ∧ q < 55)) g4 h2 → (∀ q, q < cJ C → h2 kk (31 + q) = pu q) → (∀ q, 43 ≤ q → h2 kk q = h kk q) → ∃ a' : Int32 × (Nat → Nat → Int32) × Nat, F_X12_begins_107 n (F_X12_begins_63 n f) 48 kk (nI ld) v3 (nI B.2.2 - (nI i - nI B.2.2)) (nI i) (nI j) (wM σ h2 u) = F_X12_begins_63 n f 48 kk (nI ld) v3 a'.1 (nI (i + 1)) (wM σ a'.2.1 a'.2.2) ∧ a'.1 = nI (begL C hd ld ha (i + 1)).2.2 - (nI (i + 1) - nI (begL C hd ld ha (i + 1)).2.2) ∧ Fr (fun p q => WL p q ∨ (p = kk ∧ 31 ≤ q ∧ q < 55)) g4 a'.2.1 ∧ (∀ q, q < cJ C → a'.2.1 kk (31 + q) = (begL C hd ld ha (i + 1)).1 q) ∧ ∀ q, q < i + 1 → a'.2.1 kk (43 + (ld + q) % cJ C) = if (begL C hd ld ha (i + 1)).2.1 ((ld + q) % cJ C) then 1 else 0 := by
        intro h2 pu hpu q1 q2 q3
        have fh2 : Fr (WKb kk) g4 h2 := q1.mo (fun a b w => w.elim (fun z => Or.inl ⟨z.1, z.2.1, by have := z.2.2; omega⟩) (fun z => Or.inr ⟨z.1, by omega⟩))
        have hC2 : MC h2 kk C := hC4.fr hk (WKb.r fh2)
        have r19 : h2 kk (19 + j) = hd j := by
          rw [q1 kk _ (by unfold WL; omega), f4 kk _ (by omega), yk _ (by omega)]; exact hh j hjl
        have r55 : h2 kk (55 + j) = nI 0 := by
          rw [q1 kk _ (by unfold WL; omega)]; exact (z4 j hjl).2
        have r48 : ∀ q, 22 < q → h2 48 q = g3 48 q := fun q hq => by rw [q1 48 q (by unfold WL; omega), p48']
        obtain ⟨h3, u3, v1, v2⟩ := says_m (t := u) (hd := hd) (pu := pu) (gv := fun _ => 0) n hn hB hk hC2 hjl r19 (q2 j hjl) r55 (by decide) ((r48 23 (by omega)).trans y23) ((r48 24 (by omega)).trans y24) ((r48 25 (by omega)).trans y25)
        have vk : ∀ q, h3 kk q = h2 kk q := fun q => v2 kk q (by unfold WL; omega)
        unfold F_X12_begins_107 F_X12_begins_128 F_X12_begins_147
        rw [qk_b2 v1, l_43, wM_L, hK, qk_in (by omega) (by omega), nI_clamp (by omega), hb, ← hpu]
        have f9 : ∀ v, Fr (fun p q => WL p q ∨ (p = kk ∧ 31 ≤ q ∧ q < 55)) g4 (up2 h3 kk (43 + j) v) := fun v => (q1.tr (v2.mo fun _ _ w => Or.inl w)).up (Or.inr ⟨rfl, by omega, by omega⟩)
        have s9 : ∀ (s : Bool) (v : Int32), (v = if s then 1 else 0) → ∀ q, q < i + 1 → up2 h3 kk (43 + j) v kk (43 + (ld + q) % cJ C) = if upb B.2.1 j s ((ld + q) % cJ C) then 1 else 0 := fun s v hv q hq => by
          unfold upb
          by_cases h1 : q = i
          · subst h1; rw [hjj, up_s, if_pos rfl]; exact hv
          · have h3' := hne q (by omega)
            rw [up_j (by omega), if_neg h3', vk, q3 _ (by omega)]; exact p4 q (by omega)
        cases hs : saysS C hd pu (fun _ => 0) 0 0 0 j
        · simp only [Bool.false_eq_true, if_false]
          rw [if_pos trivial, qk_lt, wM_p, wM_L, hK, qk_i2 (by omega) (by omega), wM_I, up_s, if_neg (by decide), nI_1, more_n]
          exact ⟨(_, up2 h3 kk (43 + j) 0, u3), rfl, rfl, f9 0, fun q hq => by
            show up2 h3 kk (43 + j) 0 kk (31 + q) = pu q
            rw [up_j (by omega), vk]; exact q2 q hq, s9 false 0 rfl⟩
        · simp only [if_true]
          rw [if_neg (by decide), qk_i2 (by omega) (by omega), qk_lt, wM_p, wM_L, hK, qk_i2 (by omega) (by omega), wM_I, up_s, if_pos rfl, nI_1, more_y]
          exact ⟨(_, up2 h3 kk (43 + j) 1, u3), rfl, rfl, f9 1, fun q hq => by
            show up2 h3 kk (43 + j) 1 kk (31 + q) = pu q
            rw [up_j (by omega), vk]; exact q2 q hq, s9 true 1 rfl⟩
      simp only [F_X12_begins_63]
      rw [wM_L, hK, z_5, kq_5 (by decide), wM_I, hCh.2.1, if_neg (nI_ge hi (by omega)), kq_5 (by decide), qk_ck (nI_ne0 hC.1.1 (by omega)), nI_add, nI_mod (by omega) (by omega), hjj, qk_lt, hv]
      rw [hv] at key
      by_cases hha : ha = true
      · have e1 : ¬ (if ha = true then (1 : Int32) else 0) = 0 := by rw [if_pos hha]; decide
        have hget := get_m (σ := σ) (g := h) (t := u) (x := 1) (x' := 1) n hB rfl b0 (by omega)
        rw [b3] at hget
        rw [if_neg e1, l_7, l_31, qk_in (by omega) (by omega), nI_clamp (by omega), b1', qk_b2 hget, wM_L, hK, qk_in (by omega) (by omega), nI_clamp (by omega), qk_lt, wM_p]
        exact key (up2 h kk (31 + j) (cH C j * (nI B.2.2 - (nI i - nI B.2.2)))) (upb B.1 j (cH C j * (nI B.2.2 - (nI i - nI B.2.2)))) (if_pos hha).symm (p2.up (Or.inr ⟨rfl, by omega, by omega⟩)) (fun q hq => by
          unfold upb
          by_cases hqj : q = j
          · subst hqj; rw [up_s, if_pos rfl]
          · rw [up_j (by omega), if_neg hqj]; exact p3 q hq) (fun q hq => up_j (by omega))
      · have e1 : (if ha = true then (1 : Int32) else 0) = 0 := by rw [if_neg hha]
        rw [if_pos e1]
        exact key h B.1 (if_neg hha).symm p2 p3 (fun q hq => rfl)
    · obtain ⟨v4, h, u⟩ := a
      obtain ⟨p1, p2, p3, p4⟩ := hp
      simp only at p1 p2 p3 p4
      have fh : Fr (WKb kk) g4 h := p2.mo (fun a b w => w.elim (fun z => Or.inl ⟨z.1, z.2.1, by have := z.2.2; omega⟩) (fun z => Or.inr ⟨z.1, by omega⟩))
      have hCh : MC h kk C := hC4.fr hk (WKb.r fh)
      have pk : ∀ q, q < 31 ∨ 55 ≤ q → h kk q = g4 kk q := fun q hq => p2 kk q (by unfold WL; omega)
      have s43 : ∀ j, j < cJ C → h kk (43 + j) = if tS (beginS C hd ld ha) j then 1 else 0 := fun j hj => by
        by_cases h1 : ld ≤ j
        · have := p4 (j - ld) (by omega)
          rw [show ld + (j - ld) = j by omega, Nat.mod_eq_of_lt hj] at this
          exact this
        · have := p4 (j + cJ C - ld) (by omega)
          rw [show ld + (j + cJ C - ld) = j + cJ C by omega, Nat.add_mod_right, Nat.mod_eq_of_lt hj] at this
          exact this
      obtain ⟨h', v1, v2, v3', v4'⟩ := cnts_m (t := u) (sl := tS (beginS C hd ld ha)) n (by omega) hB hk hCh.2.1 hJ s43
      simp only [F_X12_begins_63, F_X12_begins_156]
      rw [wM_L, hK, z_5, kq_5 (by decide), wM_I, hCh.2.1, if_pos (nI_le (Nat.le_refl _) (by omega)), qk_b1 v1]
      have vk : ∀ q, q ≠ 1 → q ≠ 2 → h' kk q = h kk q := fun q h1 h2 => v2 kk q (by omega)
      refine ⟨_, rfl, h', u, rfl, ((f3.tr f4').tr fh).tr (v2.mo fun a b w => Or.inr ⟨w.1, by omega⟩), ⟨?_, v3', v4', ?_, ?_, fun i hi => ?_⟩, ?_⟩
      · rw [vk 0 (by omega) (by omega), pk 0 (by omega), f4 kk 0 (by omega), y0]; rfl
      · rw [vk 3 (by omega) (by omega), pk 3 (by omega), f4 kk 3 (by omega), y3]; rfl
      · rw [vk 4 (by omega) (by omega), pk 4 (by omega), f4 kk 4 (by omega), y4]; rfl
      · rw [vk (19 + i) (by omega) (by omega), vk (31 + i) (by omega) (by omega), vk (43 + i) (by omega) (by omega), vk (55 + i) (by omega) (by omega), pk (19 + i) (by omega), pk (55 + i) (by omega), s43 i hi, p3 i hi, (z4 i hi).2, f4 kk _ (by omega), yk _ (by omega), hh i hi]
        exact ⟨rfl, rfl, rfl, rfl⟩
      · rw [vk 6 (by omega) (by omega), pk 6 (by omega), f4 kk 6 (by omega), y6]
  -- the first loop
  have first : ∃ ρ, F_X12_begins_27 n n 48 kk (nI ld) v3 (nI 0) (wM σ g3 t) = some ρ ∧ ∃ g' t', ρ = wM σ g' t' ∧ Fr (WKb kk) g g' ∧ MT g' kk C (beginS C hd ld ha) ∧ g' kk 6 = 1 := by
    refine q_for (fun f i (h : Nat → Nat → Int32) => F_X12_begins_27 n f 48 kk (nI ld) v3 (nI i) (wM σ h t)) (fun i h => Fr (fun a q => a = kk ∧ ((31 ≤ q ∧ q < 43) ∨ 55 ≤ q)) g3 h ∧ ∀ j, j < i → h kk (31 + j) = 0 ∧ h kk (55 + j) = 0) _ (cJ C) (fun i f h hi hp => ?_) (fun f h hp => ?_) n g3 (by omega) ⟨Fr.rf _ _, fun j hj => by omega⟩
    · have c5 : h kk 5 = nI (cJ C) := by rw [hp.1 kk 5 (by omega)]; exact y5
      simp only [F_X12_begins_27]
      rw [wM_L, hK, z_5, kq_5 (by decide), wM_I, c5, if_neg (nI_ge hi (by omega)), l_31, l_55, qk_in (by omega) (by omega), nI_clamp (by omega), qk_lt, wM_p, wM_L, hK, qk_in (by omega) (by omega), nI_clamp (by omega), qk_lt, wM_p, ← nI_succ]
      refine ⟨_, rfl, (hp.1.up ⟨rfl, by omega⟩).up ⟨rfl, by omega⟩, fun j hj => ?_⟩
      by_cases h1 : j = i
      · subst h1; exact ⟨by rw [up_j (by omega), up_s], up_s _ _ _ _⟩
      · rw [up_j (show 31 + j ≠ 55 + i by omega), up_j (show 31 + j ≠ 31 + i by omega), up_j (show 55 + j ≠ 55 + i by omega), up_j (show 55 + j ≠ 31 + i by omega)]
        exact hp.2 j (by omega)
    · have c5 : h kk 5 = nI (cJ C) := by rw [hp.1 kk 5 (by omega)]; exact y5
      obtain ⟨ρ, r1, r2⟩ := second h hp.1 (fun i hi => hp.2 i hi)
      refine ⟨ρ, ?_, r2⟩
      simp only [F_X12_begins_27, F_X12_begins_57]
      rw [wM_L, hK, z_5, kq_5 (by decide), wM_I, c5, if_pos (nI_le (Nat.le_refl _) (by omega))]
      exact r1
  obtain ⟨ρ, r1, g', t', rfl, r2⟩ := first
  exact ⟨g', t', by rw [q_0]; exact r1, r2⟩
theorem slof_m {σ : Hp} {g : Nat → Nat → Int32} {t kk J : Nat} {sl : Nat → Bool} (n : Nat) (hn : 12 < n) (hB : MB σ) (hk : isT2 kk) (h5 : g kk 5 = nI J) (hJ : J ≤ 12) (hS : ∀ i, i < J → g kk (43 + i) = if sl i then 1 else 0) : ∃ x, F_X12_slipsOf n 48 kk (wM σ g t) = some (x, wM σ g t) ∧ isM J sl x := by
  have hK := hB.k hk
  obtain ⟨ρ, e1, x, e2, e3⟩ := q_for (fun f i (a : Int32) => F_X12_slipsOf_4 n f kk a (nI i) (wM σ g t)) (fun i a => isM J (fun j => decide (j < i) && sl j) a) (fun ρ => ∃ x, ρ = (x, wM σ g t) ∧ isM J sl x) J (fun i f a hi hp => by
    refine ⟨if sl i then a ||| b1s i else a, ?_, isM_st hp hi hJ⟩
    simp only [F_X12_slipsOf_4]
    rw [wM_L, hK, z_5, kq_5 (by decide), wM_I, h5, if_neg (nI_ge hi (by omega)), l_43, qk_in (by omega) (by omega), nI_clamp (by omega), hS i hi, qk_lt, ← nI_succ]
    cases sl i
    · rw [if_neg (by decide), if_neg (by decide)]
      congr 1
      apply bi_ext
      intro q hq
      have hz : (0 : Int32) <<< (nI i &&& 31) = 0 := by
        have : ∀ i : Nat, i < 12 → (0 : Int32) <<< (nI i &&& 31) = 0 := by decide +kernel
        exact this i (by omega)
      rw [hz, bi_or hq, bi_0 q hq]; simp
    · rfl) (fun f a hp => by
    refine ⟨_, ?_, a, rfl, isM_fin hp⟩
    simp only [F_X12_slipsOf_4]
    rw [wM_L, hK, z_5, kq_5 (by decide), wM_I, h5, if_pos (nI_le (Nat.le_refl _) (by omega))]) n 0 (by omega) isM_0
  subst e2
  exact ⟨x, e1, e3⟩
