/-! rooms anew: heaps that differ in references too; what stays when the heap grows; the seats taken from another room -/
def wA (σ : Hp) (g : Nat → Nat → Int32) (R : Nat → Nat → Option Nat) : Hp := (hN σ, hK σ, hL σ, g, R, hJ σ)
theorem wA_N (σ : Hp) (g : Nat → Nat → Int32) (R : Nat → Nat → Option Nat) : hN (wA σ g R) = hN σ := rfl
theorem wA_K (σ : Hp) (g : Nat → Nat → Int32) (R : Nat → Nat → Option Nat) : hK (wA σ g R) = hK σ := rfl
theorem wA_L (σ : Hp) (g : Nat → Nat → Int32) (R : Nat → Nat → Option Nat) : hL (wA σ g R) = hL σ := rfl
theorem wA_I (σ : Hp) (g : Nat → Nat → Int32) (R : Nat → Nat → Option Nat) : hI (wA σ g R) = g := rfl
theorem wA_R (σ : Hp) (g : Nat → Nat → Int32) (R : Nat → Nat → Option Nat) : hR (wA σ g R) = R := rfl
theorem wA_J (σ : Hp) (g : Nat → Nat → Int32) (R : Nat → Nat → Option Nat) : hJ (wA σ g R) = hJ σ := rfl
theorem wA_p (σ : Hp) (g : Nat → Nat → Int32) (R : Nat → Nat → Option Nat) (i j : Nat) (v : Int32) : pI (wA σ g R) i j v = wA σ (up2 g i j v) R := rfl
theorem wA_r (σ : Hp) (g : Nat → Nat → Int32) (R : Nat → Nat → Option Nat) (i j : Nat) (v : Option Nat) : pR (wA σ g R) i j v = wA σ g (up2 R i j v) := rfl
theorem wA_w (σ : Hp) (g h : Nat → Nat → Int32) (R : Nat → Nat → Option Nat) : wI (wA σ g R) h = wA σ h R := rfl
theorem wI_A (σ : Hp) (g : Nat → Nat → Int32) : wI σ g = wA σ g (hR σ) := rfl
/-- the heap grows, and what was made stays -/
def XG (σ τ : Hp) : Prop := hN σ ≤ hN τ ∧ ∀ a, a < hN σ → hK τ a = hK σ a ∧ hL τ a = hL σ a ∧ (65 ≤ a → ∀ j, hR τ a j = hR σ a j)
theorem XG.rf (σ : Hp) : XG σ σ := ⟨Nat.le_refl _, fun _ _ => ⟨rfl, rfl, fun _ _ => rfl⟩⟩
theorem XG.tr {σ τ υ : Hp} (a : XG σ τ) (b : XG τ υ) : XG σ υ := ⟨Nat.le_trans a.1 b.1, fun q hq => by
  have h1 := a.2 q hq
  have h2 := b.2 q (Nat.lt_of_lt_of_le hq a.1)
  exact ⟨h2.1.trans h1.1, h2.2.1.trans h1.2.1, fun h j => (h2.2.2 h j).trans (h1.2.2 h j)⟩⟩
theorem XG.A {σ : Hp} {g : Nat → Nat → Int32} {R : Nat → Nat → Option Nat} (h : ∀ a j, 65 ≤ a → R a j = hR σ a j) : XG σ (wA σ g R) := ⟨Nat.le_refl _, fun a _ => ⟨rfl, rfl, fun h2 j => h a j h2⟩⟩
theorem XG.I (σ : Hp) (g : Nat → Nat → Int32) : XG σ (wI σ g) := ⟨Nat.le_refl _, fun _ _ => ⟨rfl, rfl, fun _ _ => rfl⟩⟩
/-- the ints of what was made, but stacks -/
def IX (σ : Hp) (g h : Nat → Nat → Int32) : Prop := ∀ a j, 65 ≤ a → a < hN σ → ¬ isStk σ a → h a j = g a j
theorem IX.rf (σ : Hp) (g : Nat → Nat → Int32) : IX σ g g := fun _ _ _ _ _ => rfl
theorem IX.of {σ : Hp} {g h : Nat → Nat → Int32} {W : Nat → Nat → Prop} (hf : Fr W g h) (hW : WOk σ W) : IX σ g h := fun a j h1 h2 h3 => hf a j (fun w => by
  rcases hW a j w with q | q
  · omega
  · exact h3 q)
theorem stk_x {σ τ : Hp} (h : XG σ τ) {a : Nat} (ha : a < hN σ) : isStk τ a ↔ isStk σ a := by
  unfold isStk
  rw [(h.2 a ha).1]
  by_cases h3 : a - 3 < hN σ
  · rw [(h.2 (a - 3) h3).1]
  · omega
theorem LwO.ext {σ τ : Hp} {g h : Nat → Nat → Int32} {q : Nat} {e : Ev} (hX : XG σ τ) (hI : IX σ g h) (a : LwO σ g q e) : LwO τ h q e := by
  obtain ⟨h1, h2, h3, h4, h5, N, cs, h6, h7, h8, h9, h10, h11⟩ := a
  obtain ⟨s0, s2, s4, l1, l2, l3, hN'⟩ := h6
  have hle := hX.1
  have x0 := hX.2 q (by omega)
  have x1 := hX.2 (q + 1) (by omega)
  have x2 := hX.2 (q + 2) (by omega)
  have x3 := hX.2 (q + 3) (by omega)
  have xm := hX.2 (q - 1) (by omega)
  have e1 : ∀ j, h q j = g q j := fun j => hI q j (by omega) (by omega) (fun w => by have := w.1; omega)
  have e2 : ∀ j, h (q + 2) j = g (q + 2) j := fun j => hI (q + 2) j (by omega) (by omega) (fun w => h5 (by have := w.2.1; rwa [show q + 2 - 3 = q - 1 by omega] at this))
  refine ⟨⟨h1.1, by omega⟩, x0.1.trans h2, x2.1.trans h3, x3.1.trans h4, by rw [xm.1]; exact h5, N, cs, ⟨by rw [x0.2.2 h1.1]; exact s0, by rw [x0.2.2 h1.1]; exact s2, by rw [x0.2.2 h1.1]; exact s4, x1.2.1.trans l1, x2.2.1.trans l2, x3.2.1.trans l3, hN'⟩, by rw [e1]; exact h7, h8, h9, fun i hi => by rw [e2]; exact h10 i hi, h11⟩
theorem LwC.ext {σ τ : Hp} {g h : Nat → Nat → Int32} {o : Option Nat} {e : Ev} (hX : XG σ τ) (hI : IX σ g h) (a : LwC σ g o e) : LwC τ h o e := by
  rcases a with a | ⟨q, a, b⟩
  · exact Or.inl a
  · exact Or.inr ⟨q, a, b.ext hX hI⟩
theorem TR.ext {σ τ : Hp} {g h : Nat → Nat → Int32} {T k mn : Nat} {he ln pt : Int32} {e : Ev} (hX : XG σ τ) (hI : IX σ g h) (a : TR σ g T k he mn ln pt e) : TR τ h T k he mn ln pt e := by
  obtain ⟨h1, h2, h3, h4, h5, h6, h7, h8⟩ := a
  have x := hX.2 T h1.2
  have hle := hX.1
  have e1 : ∀ j, h T j = g T j := fun j => hI T j h1.1 h1.2 (fun w => kc_ne k (by rw [← h2]; exact w.1))
  refine ⟨⟨h1.1, by omega⟩, x.1.trans h2, by rw [e1]; exact h3, by rw [e1]; exact h4, by rw [e1]; exact h5, by rw [e1]; exact h6, by rw [e1]; exact h7, ?_⟩
  rw [x.2.2 h1.1]
  exact h8.ext hX hI
theorem TR.cell {σ τ : Hp} {g h : Nat → Nat → Int32} {T k mn : Nat} {he ln pt : Int32} {e : Ev} (hI : IX σ g h) (a : TR σ g T k he mn ln pt e) (j : Nat) : h T j = g T j := hI T j a.1.1 a.1.2 (fun w => kc_ne k (by rw [← a.2.1]; exact w.1))
theorem RL.ext {σ τ : Hp} {r : Nat} (hr : ∀ j, hR τ r j = hR σ r j) (hl : ∀ i, 1 ≤ i → i ≤ 9 → hL τ (r + i) = hL σ (r + i)) (a : RL σ r) : RL τ r := by
  obtain ⟨r65, ⟨R1, R3, R4, R6, R7, R15, R16, R17, R18⟩, L1, L2, L3, L4, L5, L6, L7, L8, L9⟩ := a
  unfold RL
  rw [hr, hr, hr, hr, hr, hr, hr, hr, hr, hl 1 (by omega) (by omega), hl 2 (by omega) (by omega), hl 3 (by omega) (by omega), hl 4 (by omega) (by omega), hl 5 (by omega) (by omega), hl 6 (by omega) (by omega), hl 7 (by omega) (by omega), hl 8 (by omega) (by omega), hl 9 (by omega) (by omega)]
  exact ⟨r65, ⟨R1, R3, R4, R6, R7, R15, R16, R17, R18⟩, L1, L2, L3, L4, L5, L6, L7, L8, L9⟩
theorem RL.A {σ : Hp} {g h : Nat → Nat → Int32} {R S : Nat → Nat → Option Nat} {r : Nat} (hr : ∀ j, S r j = R r j) (a : RL (wA σ g R) r) : RL (wA σ h S) r := RL.ext (σ := wA σ g R) (τ := wA σ h S) hr (fun _ _ _ => rfl) a
/-- all of a row copied -/
theorem cpy_c {σ : Hp} {g : Nat → Nat → Int32} {a b m : Nat} (n : Nat) (hn : m < n) (hm : m ≤ 200) (ha : hL σ a = m) (hb : hL σ b = m) (hab : a ≠ b) : ∃ g', F_X11_copyAll n a b (wI σ g) = some (wI σ g') ∧ Fr (fun p _ => p = b) g g' ∧ ∀ j, j < m → g' b j = g a j := by
  obtain ⟨ρ, e1, g', rfl, e2, e3⟩ := q_for (fun f i (h : Nat → Nat → Int32) => F_X11_copyAll_2 n f a b (nI i) (wI σ h)) (fun i h => Fr (fun p _ => p = b) g h ∧ ∀ j, j < i → h b j = g a j) (fun ρ => ∃ g', ρ = wI σ g' ∧ Fr (fun p _ => p = b) g g' ∧ ∀ j, j < m → g' b j = g a j) m (fun i f h hi hp => by
    simp only [F_X11_copyAll_2]
    rw [wI_L, ha, hb, if_neg (nI_ge hi (by omega)), if_neg (nI_ge hi (by omega)), qk_in hi (by omega), qk_in hi (by omega), nI_clamp (by omega), wI_I, hp.1 a i hab, qk_lt, wI_p, ← nI_succ]
    refine ⟨_, rfl, hp.1.up rfl, fun j hj => ?_⟩
    by_cases h1 : j = i
    · subst h1; exact up_s _ _ _ _
    · rw [up_j h1]; exact hp.2 j (by omega)) (fun f h hp => by
    refine ⟨_, ?_, h, rfl, hp⟩
    simp only [F_X11_copyAll_2]
    rw [wI_L, ha, if_pos (nI_le (Nat.le_refl _) (by omega))]) n g (by omega) ⟨Fr.rf _ _, fun j hj => by omega⟩
  exact ⟨g', by unfold F_X11_copyAll; rw [q_0]; exact e1, e2, e3⟩
/-- who is left, when some are left out -/
def pkn (ex : Nat → Bool) (i : Nat) : Nat := cnt i (fun q => !ex q)
def pkx (ex : Nat → Bool) : Nat → Nat → Nat
  | 0, _ => 0
  | i + 1, m => if ex i then pkx ex i m else if m = pkn ex i then i else pkx ex i m
theorem pkn_s (ex : Nat → Bool) (i : Nat) : pkn ex (i + 1) = if ex i then pkn ex i else pkn ex i + 1 := by
  show cnt i (fun q => !ex q) + (if (!ex i) = true then 1 else 0) = if ex i then cnt i (fun q => !ex q) else cnt i (fun q => !ex q) + 1
  by_cases h : ex i = true
  · rw [h]; rfl
  · rw [Bool.not_eq_true] at h
    rw [h]; rfl
theorem pkn_le (ex : Nat → Bool) (i : Nat) : pkn ex i ≤ i := cnt_le _ _
theorem pkx_lt {ex : Nat → Bool} : ∀ {i m : Nat}, m < pkn ex i → pkx ex i m < i ∧ ex (pkx ex i m) = false := by
  intro i
  induction i with
  | zero => intro m h; simp [pkn, cnt] at h
  | succ i ih =>
    intro m h
    rw [pkn_s] at h
    simp only [pkx]
    cases he : ex i
    · rw [he, if_neg (by decide)] at h
      rw [if_neg (by decide)]
      by_cases h1 : m = pkn ex i
      · rw [if_pos h1]; exact ⟨Nat.lt_succ_self _, he⟩
      · rw [if_neg h1]
        have := ih (show m < pkn ex i by omega)
        exact ⟨by omega, this.2⟩
    · rw [he, if_pos rfl] at h
      rw [if_pos rfl]
      have := ih h
      exact ⟨by omega, this.2⟩
/-- the cast of those who are left -/
def cI (C : Ct) (J : Nat) (ix : Nat → Nat) : Ct := (J, cT C, cS C, fun i => cK C (ix i), fun i => cH C (ix i), fun i => cM C (ix i), fun i => cL C (ix i), fun i => cP C (ix i), fun i => cE C (ix i))
def ldP (ex : Nat → Bool) (l : Nat) : Nat := if ex l then 0 else pkn ex l
theorem sit_c {σ : Hp} {g : Nat → Nat → Int32} {R : Nat → Nat → Option Nat} {r m : Nat} {o : Option Nat} {x : Int32} (n : Nat) (hR : RL (wA σ g R) r) (h2 : g r 2 = nI m) (hm : m < 12) : F_X3_sit n r o x (wA σ g R) = some (wA σ (up2 (up2 g (r + 3) m x) r 2 (nI (m + 1))) (up2 R (r + 2) m o)) := by
  obtain ⟨r65, ⟨R1, R3, R4, R6, R7, R15, R16, R17, R18⟩, L1, L2, L3, L4, L5, L6, L7, L8, L9⟩ := hR
  rw [wA_R] at R3 R4
  rw [wA_L] at L2 L3
  unfold F_X3_sit
  rw [wA_I, h2, if_neg (nI_pos (by omega)), wA_R, R3, qk_s1, wA_L, L2, if_neg (nI_ge hm (by omega)), qk_s1, qk_in (by omega) (by omega), nI_clamp (by omega), wA_r, qk_lt, wA_R, up_i (show r ≠ r + 2 by omega), R4, qk_s1, wA_I, h2]
  have hst := q_st (σ := wA σ g (up2 R (r + 2) m o)) (a := r + 3) (i := m) (N := 12) n x L3 hm (by omega)
  rw [qk_b1 hst, wA_p, qk_lt, wA_I, up_i (by omega), h2, nI_1, wA_p]
theorem seat_c {σ : Hp} {g : Nat → Nat → Int32} {r o th J k lr li : Nat} {ha : Bool} {hd : Nat → Int32} {ex : Nat → Bool} {wo : Int32} (n : Nat) (hn : 12 < n) (hr : RL σ r) (ho : RL σ o) (hro : r + 9 < o ∨ o + 9 < r) (h0 : g o 0 = nI th) (h2 : g o 2 = nI J) (hJ : J ≤ 12) (hU : RU g o k lr ha li) (hh : ∀ i, i < J → g (o + 3) i = hd i) (hex : ∀ i, i < J → bi wo i = ex i) (hsp : ∀ t, t < 12 → True) : ∃ g' R', F_X3_seatFrom n r o wo (wI σ g) = some (wA σ g' R') ∧ Fr (fun a j => (a = r ∧ (j = 0 ∨ j = 2)) ∨ a = r + 1 ∨ a = r + 3 ∨ a = r + 5) g g' ∧ (∀ a j, a ≠ r + 2 → R' a j = hR σ a j) ∧ g' r 0 = nI th ∧ g' r 2 = nI (pkn ex J) ∧ (∀ t, t < 12 → g' (r + 1) t = g (o + 1) t) ∧ (∀ m, m < pkn ex J → R' (r + 2) m = hR σ (o + 2) (pkx ex J m) ∧ g' (r + 3) m = hd (pkx ex J m)) ∧ g' (r + 5) 0 = nI k ∧ (0 < J → g' (r + 5) 1 = nI (ldP ex (ldS lr J))) ∧ (g' (r + 5) 2 = if ha then 1 else 0) ∧ g' (r + 5) 3 = nI li := by
  have hr0 := hr
  have ho0 := ho
  obtain ⟨r65, ⟨R1, R3, R4, R6, R7, R15, R16, R17, R18⟩, L1, L2, L3, L4, L5, L6, L7, L8, L9⟩ := hr
  obtain ⟨o65, ⟨O1, O3, O4, O6, O7, O15, O16, O17, O18⟩, P1, P2, P3, P4, P5, P6, P7, P8, P9⟩ := ho
  unfold F_X3_seatFrom
  rw [wI_I, h0, wI_p, qk_lt, wI_R, O1, qk_s1, R1, qk_s1]
  obtain ⟨g2, a1, a2, a3⟩ := cpy_c (g := up2 g r 0 (nI th)) n hn (by omega) P1 L1 (show o + 1 ≠ r + 1 by omega)
  rw [qk_b1 a1, wI_R, O7, qk_s1, R7, qk_s1]
  obtain ⟨g3, b1', b2', b3'⟩ := cpy_c (g := g2) n (by omega) (by omega) P5 L5 (show o + 5 ≠ r + 5 by omega)
  rw [qk_b1 b1', wI_R, R7, qk_s1, q_1, q_stw (by omega) (by omega), qk_s1, qk_lt, wI_p]
  generalize hg4 : up2 (up2 g3 (r + 5) 1 0) r 2 0 = g4
  have f4 : Fr (fun a j => (a = r ∧ (j = 0 ∨ j = 2)) ∨ a = r + 1 ∨ a = r + 3 ∨ a = r + 5) g g4 := by
    rw [← hg4]
    refine Fr.up (Fr.up ?_ (Or.inr (Or.inr (Or.inr rfl)))) (Or.inl ⟨rfl, Or.inr rfl⟩)
    exact (((Fr.rf _ _).up (Or.inl ⟨rfl, Or.inl rfl⟩)).tr (a2.mo fun _ _ w => Or.inr (Or.inl w))).tr (b2'.mo fun _ _ w => Or.inr (Or.inr (Or.inr w)))
  have fo : ∀ a j, o ≤ a → a ≤ o + 9 → g4 a j = g a j := fun a j h1 h2 => f4 a j (by omega)
  have c0 : g4 r 0 = nI th := by rw [← hg4, up_j (by omega), up_i (by omega), b2' r 0 (by omega), a2 r 0 (by omega), up_s]
  have c2 : g4 r 2 = nI 0 := by rw [← hg4, up_s]; rfl
  have cs : ∀ t, t < 12 → g4 (r + 1) t = g (o + 1) t := fun t ht => by rw [← hg4, up_i (by omega), up_i (by omega), b2' (r + 1) t (by omega), a3 t ht, up_i (by omega)]
  have cr : ∀ j, j < 4 → j ≠ 1 → g4 (r + 5) j = g (o + 5) j := fun j hj h1 => by rw [← hg4, up_i (by omega), up_j h1, b3' j hj, a2 (o + 5) j (by omega), up_i (by omega)]
  have cr1 : g4 (r + 5) 1 = nI 0 := by rw [← hg4, up_i (by omega), up_s]; rfl
  obtain ⟨u1, u2, u2b, u3, u4, u5, u6, u7⟩ := hU
  have hUo : ∀ h : Nat → Nat → Int32, (∀ a j, o ≤ a → a ≤ o + 9 → h a j = g a j) → RU h o k lr ha li := fun h hh => by
    unfold RU
    rw [hh (o + 5) 0 (by omega) (by omega), hh (o + 5) 1 (by omega) (by omega), hh (o + 5) 2 (by omega) (by omega), hh (o + 5) 3 (by omega) (by omega)]
    exact ⟨u1, u2, u2b, u3, u4, u5, u6, u7⟩
  have loop := q_for (fun f i (a : (Nat → Nat → Int32) × (Nat → Nat → Option Nat)) => F_X3_seatFrom_46 n f r o wo (nI i) (wA σ a.1 a.2)) (fun i a => Fr (fun a j => (a = r ∧ j = 2) ∨ a = r + 3 ∨ (a = r + 5 ∧ j = 1)) g4 a.1 ∧ (∀ b j, b ≠ r + 2 → a.2 b j = hR σ b j) ∧ a.1 r 2 = nI (pkn ex i) ∧ (∀ m, m < pkn ex i → a.2 (r + 2) m = hR σ (o + 2) (pkx ex i m) ∧ a.1 (r + 3) m = hd (pkx ex i m)) ∧ a.1 (r + 5) 1 = nI (if ldS lr J < i then ldP ex (ldS lr J) else 0)) (fun ρ => ∃ g' R', ρ = wA σ g' R' ∧ Fr (fun a j => (a = r ∧ j = 2) ∨ a = r + 3 ∨ (a = r + 5 ∧ j = 1)) g4 g' ∧ (∀ b j, b ≠ r + 2 → R' b j = hR σ b j) ∧ g' r 2 = nI (pkn ex J) ∧ (∀ m, m < pkn ex J → R' (r + 2) m = hR σ (o + 2) (pkx ex J m) ∧ g' (r + 3) m = hd (pkx ex J m)) ∧ g' (r + 5) 1 = nI (if ldS lr J < J then ldP ex (ldS lr J) else 0)) J (fun i f a hi hp => by
    obtain ⟨h, R⟩ := a
    obtain ⟨p1, p2, p3, p4, p5⟩ := hp
    simp only at p1 p2 p3 p4 p5
    have ho' : ∀ a j, o ≤ a → a ≤ o + 9 → h a j = g a j := fun a j h1 h2' => (p1 a j (by omega)).trans (fo a j h1 h2')
    have hk := pkn_le ex i
    have hRr : RL (wA σ h R) r := hr0.ext (fun j => p2 r j (by omega)) (fun _ _ _ => rfl)
    have hRo : RL (wA σ h R) o := ho0.ext (fun j => p2 o j (by omega)) (fun _ _ _ => rfl)
    have h2' : h o 2 = nI J := (ho' o 2 (by omega) (by omega)).trans h2
    have lds := lds_c (σ := wA σ h R) (g := h) n hRo (hUo h ho') h2' hJ
    rw [wA_w] at lds
    simp only [F_X3_seatFrom_46, F_X3_seatFrom_82, F_X3_seatFrom_99]
    rw [wA_I, h2', if_neg (nI_ge hi (by omega)), bi_v, hex i hi, ← nI_succ]
    have hne : (nI i = nI (ldS lr J)) ↔ i = ldS lr J := nI_eq (by omega) (by have := ldS_lt (lr := lr) (show 0 < J by omega); omega)
    cases he : ex i
    · rw [if_pos (by decide), qk_b2 lds]
      -- seated
      have key : ∀ h2x : Nat → Nat → Int32, Fr (fun a j => (a = r ∧ j = 2) ∨ a = r + 3 ∨ (a = r + 5 ∧ j = 1)) g4 h2x → h2x r 2 = nI (pkn ex i) → (∀ m, m < pkn ex i → h2x (r + 3) m = hd (pkx ex i m)) → h2x (r + 5) 1 = nI (if ldS lr J < i + 1 then ldP ex (ldS lr J) else 0) → ∃ a' : (Nat → Nat → Int32) × (Nat → Nat → Option Nat), (b2 (F_X3_turnAt n o (nI i) (wA σ h2x R)) fun r2 σ1 => b1 (hR σ1 o 4) fun i3 => b2 (F_X11_at n i3 (nI i) σ1) fun r5 σ4 => b1 (F_X3_sit n r r2 r5 σ4) fun σ6 => F_X3_seatFrom_46 n f r o wo (nI (i + 1)) σ6) = F_X3_seatFrom_46 n f r o wo (nI (i + 1)) (wA σ a'.1 a'.2) ∧ Fr (fun a j => (a = r ∧ j = 2) ∨ a = r + 3 ∨ (a = r + 5 ∧ j = 1)) g4 a'.1 ∧ (∀ b j, b ≠ r + 2 → a'.2 b j = hR σ b j) ∧ a'.1 r 2 = nI (pkn ex (i + 1)) ∧ (∀ m, m < pkn ex (i + 1) → a'.2 (r + 2) m = hR σ (o + 2) (pkx ex (i + 1) m) ∧ a'.1 (r + 3) m = hd (pkx ex (i + 1) m)) ∧ a'.1 (r + 5) 1 = nI (if ldS lr J < i + 1 then ldP ex (ldS lr J) else 0) := by
        intro h2x k1 k2 k3 k4
        have ho2 : ∀ a j, o ≤ a → a ≤ o + 9 → h2x a j = g a j := fun a j h1 h2' => (k1 a j (by omega)).trans (fo a j h1 h2')
        have tat := tat_c (σ := wA σ h2x R) (g := h2x) (r := o) (J := J) (i := i) n ((p2 o 3 (by omega)).trans O3) P2 ((ho2 o 2 (by omega) (by omega)).trans h2) hi hJ
        rw [wA_w] at tat
        have at' := q_at (σ := wA σ h2x R) (a := o + 3) (i := i) (N := 12) n P3 (by omega) (by omega)
        rw [wA_I, ho2 (o + 3) i (by omega) (by omega), hh i hi] at at'
        have st' := sit_c (σ := σ) (g := h2x) (R := R) (r := r) (m := pkn ex i) (o := R (o + 2) i) (x := hd i) n (hRr.A (fun _ => rfl)) k2 (by omega)
        rw [qk_b2 tat, wA_R, p2 o 4 (by omega), O4, qk_s1, qk_b2 at', qk_b1 st', pkn_s, he, if_neg (by decide)]
        refine ⟨(_, _), rfl, (k1.up (Or.inr (Or.inl rfl))).up (Or.inl ⟨rfl, rfl⟩), fun b j hb => ?_, ?_, fun m hm => ?_, ?_⟩
        · show up2 R (r + 2) (pkn ex i) _ b j = _
          rw [up_i hb]; exact p2 b j hb
        · show up2 _ r 2 _ r 2 = _
          rw [up_s]
        · show up2 R (r + 2) (pkn ex i) _ (r + 2) m = _ ∧ up2 (up2 h2x (r + 3) (pkn ex i) (hd i)) r 2 _ (r + 3) m = _
          rw [up_i (show r + 3 ≠ r by omega)]
          simp only [pkx, he, Bool.false_eq_true, if_false]
          by_cases h1 : m = pkn ex i
          · rw [h1, up_s, up_s, if_pos rfl, p2 (o + 2) i (by omega)]; exact ⟨rfl, rfl⟩
          · rw [up_j h1, up_j h1, if_neg h1]; exact ⟨(p4 m (by omega)).1, k3 m (by omega)⟩
        · show up2 (up2 h2x (r + 3) (pkn ex i) (hd i)) r 2 _ (r + 5) 1 = _
          rw [up_i (by omega), up_i (by omega)]; exact k4
      by_cases hl : i = ldS lr J
      · rw [if_pos (hne.mpr hl), wA_R, p2 r 7 (by omega), R7, qk_s1, wA_I, p3]
        have st1 := q_st (σ := wA σ h R) (a := r + 5) (i := 1) (N := 4) n (nI (pkn ex i)) L5 (by omega) (by omega)
        rw [q_1, qk_b1 st1, wA_p]
        refine key (up2 h (r + 5) 1 (nI (pkn ex i))) (p1.up (Or.inr (Or.inr ⟨rfl, rfl⟩))) (by rw [up_i (by omega)]; exact p3) (fun m hm => by rw [up_i (by omega)]; exact (p4 m hm).2) ?_
        rw [up_s, if_pos (by omega)]
        unfold ldP
        rw [← hl, he]; rfl
      · rw [if_neg (fun q => hl (hne.mp q))]
        refine key h p1 p3 (fun m hm => (p4 m hm).2) ?_
        rw [p5]
        by_cases h1 : ldS lr J < i
        · rw [if_pos h1, if_pos (by omega)]
        · rw [if_neg h1, if_neg (by omega)]
    · rw [if_neg (by decide), pkn_s, he, if_pos rfl]
      refine ⟨(h, R), rfl, p1, p2, p3, fun m hm => ?_, ?_⟩
      · simp only [pkx, he, if_true]
        exact p4 m hm
      · show h (r + 5) 1 = _
        rw [p5]
        by_cases h1 : ldS lr J < i
        · rw [if_pos h1, if_pos (by omega)]
        · by_cases h3 : ldS lr J = i
          · rw [if_neg h1, if_pos (by omega)]
            unfold ldP
            rw [h3, he]; rfl
          · rw [if_neg h1, if_neg (by omega)]) (fun f a hp => by
    obtain ⟨h, R⟩ := a
    obtain ⟨p1, p2, p3, p4, p5⟩ := hp
    simp only at p1 p2 p3 p4 p5
    have h2' : h o 2 = nI J := ((p1 o 2 (by omega)).trans (fo o 2 (by omega) (by omega))).trans h2
    refine ⟨_, ?_, h, R, rfl, p1, p2, p3, p4, p5⟩
    simp only [F_X3_seatFrom_46]
    rw [wA_I, h2', if_pos (nI_le (Nat.le_refl _) (by omega))]) n (g4, hR σ) (by omega) ⟨Fr.rf _ _, fun _ _ _ => rfl, by show g4 r 2 = _; rw [c2]; rfl, fun m hm => by simp [pkn, cnt] at hm, by show g4 (r + 5) 1 = _; rw [cr1, if_neg (by omega)]⟩
  obtain ⟨ρ, l1, g', R', rfl, l2, l3, l4, l5, l6⟩ := loop
  refine ⟨g', R', by rw [q_0]; exact l1, f4.tr (l2.mo fun a j w => ?_), l3, ?_, l4, fun t ht => ?_, l5, ?_, fun hJ0 => ?_, ?_, ?_⟩
  · rcases w with w | w | w
    · exact Or.inl ⟨w.1, Or.inr w.2⟩
    · exact Or.inr (Or.inr (Or.inl w))
    · exact Or.inr (Or.inr (Or.inr w.1))
  · rw [l2 r 0 (by omega)]; exact c0
  · rw [l2 (r + 1) t (by omega)]; exact cs t ht
  · rw [l2 (r + 5) 0 (by omega), cr 0 (by omega) (by omega)]; exact u1
  · rw [l6, if_pos (ldS_lt hJ0)]
  · rw [l2 (r + 5) 2 (by omega), cr 2 (by omega) (by omega)]; exact u5
  · rw [l2 (r + 5) 3 (by omega), cr 3 (by omega) (by omega)]; exact u6
