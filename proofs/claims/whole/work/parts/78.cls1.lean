/-! the class's rooms: what they hold, and the small methods -/
theorem s_neg {i : Nat} (h : i < 2 ^ 31) : (nI i < 0) = False := eq_false (nI_pos h)
theorem s_le {a b : Nat} (ha : a < 2 ^ 31) (hb : b < 2 ^ 31) : (nI a ≤ nI b) = (a ≤ b) := propext (nI_leI ha hb)
theorem s_lt {a b : Nat} (ha : a < 2 ^ 31) (hb : b < 2 ^ 31) : (nI a < nI b) = (a < b) := propext (nI_ltI ha hb)
theorem s_eq {a b : Nat} (ha : a < 2 ^ 31) (hb : b < 2 ^ 31) : (nI a = nI b) = (a = b) := propext (nI_eq ha hb)
theorem s_lz {a : Nat} (ha : a < 2 ^ 31) : (nI a ≤ 0) = (a ≤ 0) := propext (nI_leI ha (by omega : 0 < 2 ^ 31))
theorem q_atw {σ : Hp} {g : Nat → Nat → Int32} {a i : Nat} {n : Nat} (h : i < hL σ a) (h2 : hL σ a < 2 ^ 31) : F_X11_at n a (nI i) (wI σ g) = some (g a i, wI σ g) := q_at n (σ := wI σ g) rfl h h2
theorem q_stw {σ : Hp} {g : Nat → Nat → Int32} {a i : Nat} {n : Nat} {v : Int32} (h : i < hL σ a) (h2 : hL σ a < 2 ^ 31) : F_X11_store n a (nI i) v (wI σ g) = some (wI σ (up2 g a i v)) := q_st n v (σ := wI σ g) rfl h h2
def isStk (σ : Hp) (a : Nat) : Prop := hK σ a = 13 ∧ hK σ (a - 3) = 1 ∧ 65 ≤ a
def WS (σ : Hp) (a _j : Nat) : Prop := isStk σ a
def WC (σ : Hp) (r a j : Nat) : Prop := (a = r ∧ 10 ≤ j ∧ j ≤ 14 ∧ j ≠ 13) ∨ (r + 6 ≤ a ∧ a ≤ r + 9) ∨ isStk σ a
def WT (σ : Hp) (r a j : Nat) : Prop := (a = r ∧ 8 ≤ j ∧ j ≤ 14) ∨ (r + 6 ≤ a ∧ a ≤ r + 9) ∨ isStk σ a
theorem WC.t {σ : Hp} {r : Nat} {g h : Nat → Nat → Int32} (a : Fr (WC σ r) g h) : Fr (WT σ r) g h := a.mo fun _ _ w => w.elim (fun q => Or.inl ⟨q.1, by omega, by omega⟩) Or.inr
theorem WS.c {σ : Hp} {r : Nat} {g h : Nat → Nat → Int32} (a : Fr (WS σ) g h) : Fr (WC σ r) g h := a.mo fun _ _ h => Or.inr (Or.inr h)
def RL (σ : Hp) (r : Nat) : Prop := r + 9 < 65 ∧ (hR σ r 1 = some (r + 1) ∧ hR σ r 3 = some (r + 2) ∧ hR σ r 4 = some (r + 3) ∧ hR σ r 6 = some (r + 4) ∧ hR σ r 7 = some (r + 5) ∧ hR σ r 15 = some (r + 6) ∧ hR σ r 16 = some (r + 7) ∧ hR σ r 17 = some (r + 8) ∧ hR σ r 18 = some (r + 9)) ∧ hL σ (r + 1) = 12 ∧ hL σ (r + 2) = 12 ∧ hL σ (r + 3) = 12 ∧ hL σ (r + 4) = 6 ∧ hL σ (r + 5) = 4 ∧ hL σ (r + 6) = 12 ∧ hL σ (r + 7) = 12 ∧ hL σ (r + 8) = 12 ∧ hL σ (r + 9) = 12
def evP : Ev := fun t p _ _ _ => t + p
def LwO (σ : Hp) (g : Nat → Nat → Int32) (q : Nat) (e : Ev) : Prop := (65 ≤ q ∧ q + 3 < hN σ) ∧ hK σ q = 1 ∧ hK σ (q + 2) = 13 ∧ hK σ (q + 3) = 13 ∧ hK σ (q - 1) ≠ 1 ∧ LwI σ g q e
def LwC (σ : Hp) (g : Nat → Nat → Int32) (o : Option Nat) (e : Ev) : Prop := (o = none ∧ e = evP) ∨ ∃ q, o = some q ∧ LwO σ g q e
def kc (k : Nat) : Nat := match k with
  | 1 => 9
  | 2 => 0
  | 3 => 2
  | 4 => 8
  | 5 => 4
  | 6 => 6
  | 7 => 7
  | _ => 10
def TR (σ : Hp) (g : Nat → Nat → Int32) (T k : Nat) (he : Int32) (mn : Nat) (ln pt : Int32) (e : Ev) : Prop := (65 ≤ T ∧ T < hN σ) ∧ hK σ T = kc k ∧ g T 1 = nI k ∧ g T 2 = he ∧ g T 3 = nI mn ∧ g T 4 = ln ∧ g T 5 = pt ∧ LwC σ g (hR σ T 7) e
theorem kc_ne (k : Nat) : kc k ≠ 13 := by unfold kc; split <;> decide
/-- what a change may touch: nothing made later but stacks -/
def WOk (σ : Hp) (W : Nat → Nat → Prop) : Prop := ∀ a j, W a j → a < 65 ∨ isStk σ a
theorem WT.ok {σ : Hp} {r : Nat} (h : r + 9 < 65) : WOk σ (WT σ r) := by
  rintro a j (⟨h1, h2⟩ | h1 | h1)
  · exact Or.inl (by omega)
  · exact Or.inl (by omega)
  · exact Or.inr h1
theorem LwO.fr {σ : Hp} {g h : Nat → Nat → Int32} {q : Nat} {e : Ev} {W : Nat → Nat → Prop} (hW : WOk σ W) (hf : Fr W g h) (a : LwO σ g q e) : LwO σ h q e := by
  obtain ⟨h1, h2, h3, h4, h5, N, cs, h6, h7, h8, h9, h10, h11⟩ := a
  have e1 : ∀ j, h q j = g q j := fun j => hf q j (fun w => by
    rcases hW q j w with w | w
    · omega
    · have := w.1; omega)
  have e2 : ∀ j, h (q + 2) j = g (q + 2) j := fun j => hf (q + 2) j (fun w => by
    rcases hW (q + 2) j w with w | w
    · omega
    · exact h5 (by have := w.2.1; rwa [show q + 2 - 3 = q - 1 by omega] at this))
  exact ⟨h1, h2, h3, h4, h5, N, cs, h6, by rw [e1]; exact h7, h8, h9, fun i hi => by rw [e2]; exact h10 i hi, h11⟩
theorem LwC.fr {σ : Hp} {g h : Nat → Nat → Int32} {o : Option Nat} {e : Ev} {W : Nat → Nat → Prop} (hW : WOk σ W) (hf : Fr W g h) (a : LwC σ g o e) : LwC σ h o e := by
  rcases a with a | ⟨q, a, b⟩
  · exact Or.inl a
  · exact Or.inr ⟨q, a, b.fr hW hf⟩
theorem TR.fr {σ : Hp} {g h : Nat → Nat → Int32} {T k mn : Nat} {he ln pt : Int32} {e : Ev} {W : Nat → Nat → Prop} (hW : WOk σ W) (hf : Fr W g h) (a : TR σ g T k he mn ln pt e) : TR σ h T k he mn ln pt e := by
  obtain ⟨h1, h2, h3, h4, h5, h6, h7, h8⟩ := a
  have e1 : ∀ j, h T j = g T j := fun j => hf T j (fun w => by
    rcases hW T j w with w | w
    · omega
    · exact kc_ne k (by rw [← h2]; exact w.1))
  exact ⟨h1, h2, by rw [e1]; exact h3, by rw [e1]; exact h4, by rw [e1]; exact h5, by rw [e1]; exact h6, by rw [e1]; exact h7, h8.fr hW hf⟩
def CC (σ : Hp) (g : Nat → Nat → Int32) (r : Nat) (C : Ct) : Prop := RL σ r ∧ CW C ∧ g r 0 = nI (cT C) ∧ g r 2 = nI (cJ C) ∧ (∀ t, t < cT C → g (r + 1) t = cS C t) ∧ ∀ i, i < cJ C → ∃ T, hR σ (r + 2) i = some T ∧ TR σ g T (cK C i) (cH C i) (cM C i) (cL C i) (cP C i) (cE C i)
theorem stk_lo {σ : Hp} {a : Nat} (h : a < 65) : ¬ isStk σ a := fun w => by have := w.2.2; omega
theorem WT.n {σ : Hp} {r a j : Nat} (h : a < 65) (h1 : a ≠ r ∨ j < 8 ∨ 14 < j) (h2 : a < r + 6 ∨ r + 9 < a) : ¬ WT σ r a j := by
  rintro (w | w | w)
  · omega
  · omega
  · exact stk_lo h w
theorem CC.frT {σ : Hp} {g h : Nat → Nat → Int32} {r : Nat} {C : Ct} (hf : Fr (WT σ r) g h) (a : CC σ g r C) : CC σ h r C := by
  obtain ⟨h1, h2, h3, h4, h5, h6⟩ := a
  have h0 := h1.1
  refine ⟨h1, h2, ?_, ?_, fun t ht => ?_, fun i hi => ?_⟩
  · rw [hf r 0 (WT.n (by omega) (by omega) (by omega))]; exact h3
  · rw [hf r 2 (WT.n (by omega) (by omega) (by omega))]; exact h4
  · rw [hf (r + 1) t (WT.n (by omega) (by omega) (by omega))]; exact h5 t ht
  · obtain ⟨T, t1, t2⟩ := h6 i hi
    exact ⟨T, t1, t2.fr (WT.ok h0) hf⟩
theorem CC.fr {σ : Hp} {g h : Nat → Nat → Int32} {r : Nat} {C : Ct} (hf : Fr (WC σ r) g h) (a : CC σ g r C) : CC σ h r C := a.frT (WC.t hf)
theorem tat_c {σ : Hp} {g : Nat → Nat → Int32} {r J i : Nat} (n : Nat) (R3 : hR σ r 3 = some (r + 2)) (L2 : hL σ (r + 2) = 12) (h2 : g r 2 = nI J) (hi : i < J) (hJ : J ≤ 12) : F_X3_turnAt n r (nI i) (wI σ g) = some (hR σ (r + 2) i, wI σ g) := by
  unfold F_X3_turnAt F_X3_isSeat
  rw [if_neg (nI_pos (by omega)), wI_I, h2, if_neg (nI_ge hi (by omega)), qk_s2, if_neg (by decide), wI_R, R3, qk_s1, wI_L, L2, if_neg (nI_ge (b := 12) (by omega) (by decide)), qk_s1, qk_in (by omega) (by omega), nI_clamp (by omega), qk_lt]
theorem CC.tat {σ : Hp} {g : Nat → Nat → Int32} {r i : Nat} {C : Ct} (n : Nat) (hC : CC σ g r C) (hi : i < cJ C) : F_X3_turnAt n r (nI i) (wI σ g) = some (hR σ (r + 2) i, wI σ g) := by
  obtain ⟨hR, hW, h0, h2, hsp, ht⟩ := hC
  obtain ⟨r65, ⟨R1, R3, R4, R6, R7, R15, R16, R17, R18⟩, L1, L2, L3, L4, L5, L6, L7, L8, L9⟩ := hR
  exact tat_c n R3 L2 h2 hi hW.2.1
theorem lean_c {σ : Hp} {g : Nat → Nat → Int32} {r i : Nat} {C : Ct} {hd pu : Nat → Int32} {y no m : Int32} (n : Nat) (hn : 200 < n) (hC : CC σ g r C) (hi : i < cJ C) (hw : g (r + 7) i = wgh (cS C) (hd i) (cT C)) (hp : g (r + 8) i = pu i) (hm : g r 10 = m) : ∃ g', F_X3_leaning n r (nI i) y no (wI σ g) = some (leanS C hd pu y no m i, wI σ g') ∧ Fr (WS σ) g g' := by
  have hta := hC.tat n hi
  obtain ⟨hR, hW, h0, h2, hsp, ht⟩ := hC
  obtain ⟨r65, ⟨R1, R3, R4, R6, R7, R15, R16, R17, R18⟩, L1, L2, L3, L4, L5, L6, L7, L8, L9⟩ := hR
  obtain ⟨T, t1, t65, tk, t1k, the, tmn, tln, tpt, tlw⟩ := ht i hi
  have hJ := hW.2.1
  unfold F_X3_leaning
  rw [qk_b2 hta, t1]
  simp (disch := first | omega | assumption) only [qk_lt, qk_s1, qk_s2, qk_om, qk_on, wI_I, wI_R, wI_L, wI_p, R16, R17, q_atw, hw, hp]
  rcases tlw with ⟨e1, e2⟩ | ⟨q, e1, q65, k1, k2, k3, k4, lw⟩
  · simp only [e1, qk_on]
    exact ⟨g, by unfold leanS; rw [e2]; rfl, Fr.rf _ _⟩
  · simp only [e1, qk_om, qk_s1]
    obtain ⟨g', v1, v2⟩ := lw.val n hn (wgh (cS C) (hd i) (cT C)) (pu i) y no (g r 10)
    rw [qk_b2 v1]
    refine ⟨g', by unfold leanS; rw [hm], fun a j hj => ?_⟩
    rw [v2 a (fun w => hj ?_)]
    rw [w]
    exact ⟨k3, by rw [show q + 3 - 3 = q by omega]; exact k1, by omega⟩
/-- a talk in a room -/
def CT (σ : Hp) (g : Nat → Nat → Int32) (r : Nat) (C : Ct) (T : Tk) : Prop := g r 10 = nI (tM T) ∧ g r 11 = nI (tU T) ∧ isM (cJ C) (tS T) (g r 12) ∧ g r 14 = allH (cT C) (tH T) (cJ C) ∧ (∀ i, i < cJ C → g (r + 6) i = tH T i ∧ g (r + 7) i = wgh (cS C) (tH T i) (cT C) ∧ g (r + 8) i = tP T i ∧ g (r + 9) i = nI (tG T i) - 1) ∧ ∃ ld, g r 9 = nI ld ∧ ld < cJ C ∧ (ld + tU T) % cJ C = tX T
theorem CT.fr {σ : Hp} {g h : Nat → Nat → Int32} {r : Nat} {C : Ct} {T : Tk} (hr : r + 9 < 65) (hf : Fr (WS σ) g h) (a : CT σ g r C T) : CT σ h r C T := by
  have e : ∀ b j, b < 65 → h b j = g b j := fun b j hb => hf b j (stk_lo hb)
  obtain ⟨h1, h2, h3, h4, h5, ld, h6⟩ := a
  exact ⟨by rw [e _ _ (by omega)]; exact h1, by rw [e _ _ (by omega)]; exact h2, by rw [e _ _ (by omega)]; exact h3, by rw [e _ _ (by omega)]; exact h4, fun i hi => by rw [e _ _ (by omega), e _ _ (by omega), e _ _ (by omega), e _ _ (by omega)]; exact h5 i hi, ld, by rw [e _ _ (by omega)]; exact h6⟩
theorem yes_c {σ : Hp} {g : Nat → Nat → Int32} {r m : Nat} {s : Nat → Bool} (n : Nat) (h : isM m s (g r 12)) (hm : m ≤ 12) : F_X3_yes n r (wI σ g) = some (nI (cnt m s), wI σ g) := by
  unfold F_X3_yes
  rw [bc_v, qk_s2, wI_I, bc_M h hm]
theorem nI_sub {a b : Nat} (h : b ≤ a) : nI a - nI b = nI (a - b) := by
  obtain ⟨c, rfl⟩ : ∃ c, a = b + c := ⟨a - b, by omega⟩
  rw [← nI_add, show b + c - b = c by omega]
  grind
theorem no_c {σ : Hp} {g : Nat → Nat → Int32} {r m : Nat} {s : Nat → Bool} (n : Nat) (h : isM m s (g r 12)) (hm : m ≤ 12) (h2 : g r 2 = nI m) : F_X3_no n r (wI σ g) = some (nI (m - cnt m s), wI σ g) := by
  unfold F_X3_no
  rw [qk_b2 (yes_c n h hm), wI_I, h2, nI_sub (cnt_le _ _)]
theorem yln_c {σ : Hp} {g : Nat → Nat → Int32} {r m : Nat} {s : Nat → Bool} (n : Nat) (h : isM m s (g r 12)) (hm : m ≤ 12) (h2 : g r 2 = nI m) : F_X3_yesLessNo n r (wI σ g) = some (nI (cnt m s) - nI (m - cnt m s), wI σ g) := by
  unfold F_X3_yesLessNo
  rw [bc_v, qk_s2, wI_I, bc_M h hm, h2, ← nI_sub (cnt_le _ _)]
  congr 2
  grind
theorem push_c {σ : Hp} {g : Nat → Nat → Int32} {r i : Nat} {v : Int32} (n : Nat) (R17 : hR σ r 17 = some (r + 8)) (L8 : hL σ (r + 8) = 12) (hi : i < 12) : F_X3_push n r (nI i) v (wI σ g) = some (wI σ (up2 g (r + 8) i (g (r + 8) i + v))) := by
  unfold F_X3_push
  simp (disch := first | omega | assumption) only [qk_lt, qk_s1, qk_s2, qk_om, qk_on, wI_I, wI_R, wI_L, wI_p, R17, q_atw, q_stw]
theorem gin_c {σ : Hp} {g : Nat → Nat → Int32} {r i k : Nat} (n : Nat) (R18 : hR σ r 18 = some (r + 9)) (L9 : hL σ (r + 9) = 12) (hi : i < 12) (h : g (r + 9) i = nI k - 1) (hk : k ≤ 2) : F_X3_gaveIn n r (nI i) (wI σ g) = some (if k = 0 then 0 else 1, wI σ g) := by
  unfold F_X3_gaveIn
  simp (disch := first | omega | assumption) only [qk_lt, qk_s1, qk_s2, qk_om, qk_on, wI_I, wI_R, wI_L, wI_p, R18, q_atw, h]
  obtain rfl | rfl | rfl : k = 0 ∨ k = 1 ∨ k = 2 := by omega
  · rfl
  · rfl
  · rfl
theorem min_nI (a b : Nat) (ha : a < 2 ^ 31) (hb : b < 2 ^ 31) : (if nI a < nI b then nI a else nI b) = nI (min b a) := by
  by_cases h : a < b
  · rw [if_pos (nI_lt h hb), Nat.min_eq_right (by omega)]
  · rw [if_neg (nI_nlt (by omega) ha), Nat.min_eq_left (by omega)]
theorem need_c {σ : Hp} {g : Nat → Nat → Int32} {r J k : Nat} (n : Nat) (R7 : hR σ r 7 = some (r + 5)) (L5 : hL σ (r + 5) = 4) (h2 : g r 2 = nI J) (hJ : J ≤ 12) (h : g (r + 5) 0 = nI k) (hk : k ≤ 12) : F_X3_needed n r (wI σ g) = some (nI (min k J), wI σ g) := by
  unfold F_X3_needed
  rw [wI_R, R7, qk_s1, q_0, q_atw (by omega) (by omega), qk_s2, wI_I, h2, h, min_nI _ _ (by omega) (by omega), qk_lt]
theorem end_c {σ : Hp} {g : Nat → Nat → Int32} {r k li : Nat} {C : Ct} {T : Tk} (n : Nat) (hC : CC σ g r C) (hT : CT σ g r C T) (h : g (r + 5) 0 = nI k) (hk : k ≤ 12) (h3 : g (r + 5) 3 = nI li) (hli : li ≤ 3000) (hm : tM T < 2 ^ 31) : F_X3_ends n r (wI σ g) = some (endS C (min k (cJ C)) li T, wI σ g) := by
  obtain ⟨hR, hW, h0, h2, hsp, ht⟩ := hC
  obtain ⟨r65, ⟨R1, R3, R4, R6, R7, R15, R16, R17, R18⟩, L1, L2, L3, L4, L5, L6, L7, L8, L9⟩ := hR
  have hy := cnt_le (tS T) (cJ C)
  have hJ := hW.2.1
  unfold F_X3_ends
  rw [qk_b2 (yes_c n hT.2.2.1 hJ), qk_b2 (need_c n R7 L5 h2 hJ h hk)]
  unfold endS noS yesS
  by_cases c1 : min k (cJ C) ≤ cnt (cJ C) (tS T)
  · rw [if_neg (nI_nlt c1 (by omega)), if_pos c1]
  · rw [if_pos (nI_lt (by omega) (by omega)), if_neg c1, qk_b2 (no_c n hT.2.2.1 hJ h2), qk_b2 (need_c n R7 L5 h2 hJ h hk)]
    by_cases c2 : min k (cJ C) ≤ cJ C - cnt (cJ C) (tS T)
    · rw [if_neg (nI_nlt c2 (by omega)), if_pos c2]
    · rw [if_pos (nI_lt (by omega) (by omega)), if_neg c2, wI_R, R7, qk_s1, show (3 : Int32) = nI 3 from rfl, q_atw (by omega) (by omega), qk_s2, wI_I, hT.1, h3]
      by_cases c3 : li ≤ tM T
      · rw [if_neg (nI_nlt c3 hm), if_pos c3]
      · rw [if_pos (nI_lt (by omega) (by omega)), if_neg c3]
