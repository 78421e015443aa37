/-! the model: its cells, and its small methods -/
def wM (σ : Hp) (g : Nat → Nat → Int32) (t : Nat) : Hp := (hN σ, hK σ, hL σ, g, up2 (hR σ) 48 15 (some t), hJ σ)
theorem wM_N (σ : Hp) (g : Nat → Nat → Int32) (t : Nat) : hN (wM σ g t) = hN σ := rfl
theorem wM_K (σ : Hp) (g : Nat → Nat → Int32) (t : Nat) : hK (wM σ g t) = hK σ := rfl
theorem wM_L (σ : Hp) (g : Nat → Nat → Int32) (t : Nat) : hL (wM σ g t) = hL σ := rfl
theorem wM_I (σ : Hp) (g : Nat → Nat → Int32) (t : Nat) : hI (wM σ g t) = g := rfl
theorem wM_J (σ : Hp) (g : Nat → Nat → Int32) (t : Nat) : hJ (wM σ g t) = hJ σ := rfl
theorem wM_p (σ : Hp) (g : Nat → Nat → Int32) (t i j : Nat) (v : Int32) : pI (wM σ g t) i j v = wM σ (up2 g i j v) t := rfl
theorem wM_R {σ : Hp} {g : Nat → Nat → Int32} {t j : Nat} (h : j ≠ 15) : hR (wM σ g t) 48 j = hR σ 48 j := by
  show up2 (hR σ) 48 15 (some t) 48 j = _
  rw [up_j h]
theorem wM_r (σ : Hp) (g : Nat → Nat → Int32) (t u : Nat) : pR (wM σ g t) 48 15 (some u) = wM σ g u := by
  show (hN σ, hK σ, hL σ, g, up2 (up2 (hR σ) 48 15 (some t)) 48 15 (some u), hJ σ) = (hN σ, hK σ, hL σ, g, up2 (hR σ) 48 15 (some u), hJ σ)
  congr 5
  funext a b
  unfold up2
  split <;> rfl
theorem wM_o {σ : Hp} {t : Nat} (h : hR σ 48 15 = some t) : wM σ (hI σ) t = σ := by
  have e : up2 (hR σ) 48 15 (some t) = hR σ := by
    funext a b
    unfold up2
    split
    · next q => rw [q.1, q.2, h]
    · rfl
  show (hN σ, hK σ, hL σ, hI σ, up2 (hR σ) 48 15 (some t), hJ σ) = σ
  rw [e]
  rfl
theorem qk_T {ρ : Type} (x : Option ρ) : ck True x = x := if_pos trivial
theorem s_nle {a b : Nat} (h : b < a) : (a ≤ b) = False := eq_false (Nat.not_le.mpr h)
theorem z_0 : (0 : Int32).toNatClampNeg = 0 := rfl
theorem z_1 : (1 : Int32).toNatClampNeg = 1 := rfl
theorem z_2 : (2 : Int32).toNatClampNeg = 2 := rfl
theorem z_3 : (3 : Int32).toNatClampNeg = 3 := rfl
theorem z_4 : (4 : Int32).toNatClampNeg = 4 := rfl
theorem z_5 : (5 : Int32).toNatClampNeg = 5 := rfl
theorem z_6 : (6 : Int32).toNatClampNeg = 6 := rfl
theorem kq_0 {N : Nat} {ρ : Type} {x : Option ρ} (h : 0 < N) : ck (¬ ((0 : Int32) < 0 ∨ N ≤ 0)) x = x := if_pos (fun q => q.elim (by decide) (by omega))
theorem kq_1 {N : Nat} {ρ : Type} {x : Option ρ} (h : 1 < N) : ck (¬ ((1 : Int32) < 0 ∨ N ≤ 1)) x = x := if_pos (fun q => q.elim (by decide) (by omega))
theorem kq_2 {N : Nat} {ρ : Type} {x : Option ρ} (h : 2 < N) : ck (¬ ((2 : Int32) < 0 ∨ N ≤ 2)) x = x := if_pos (fun q => q.elim (by decide) (by omega))
theorem kq_3 {N : Nat} {ρ : Type} {x : Option ρ} (h : 3 < N) : ck (¬ ((3 : Int32) < 0 ∨ N ≤ 3)) x = x := if_pos (fun q => q.elim (by decide) (by omega))
theorem kq_4 {N : Nat} {ρ : Type} {x : Option ρ} (h : 4 < N) : ck (¬ ((4 : Int32) < 0 ∨ N ≤ 4)) x = x := if_pos (fun q => q.elim (by decide) (by omega))
theorem kq_5 {N : Nat} {ρ : Type} {x : Option ρ} (h : 5 < N) : ck (¬ ((5 : Int32) < 0 ∨ N ≤ 5)) x = x := if_pos (fun q => q.elim (by decide) (by omega))
theorem kq_6 {N : Nat} {ρ : Type} {x : Option ρ} (h : 6 < N) : ck (¬ ((6 : Int32) < 0 ∨ N ≤ 6)) x = x := if_pos (fun q => q.elim (by decide) (by omega))
theorem qk_i2 {i N : Nat} {ρ : Type} {x : Option ρ} (h : i < N) (hN : i < 2 ^ 31) : ck (¬ (nI i < 0 ∨ N ≤ i)) x = x := if_pos (fun q => q.elim (nI_pos hN) (by omega))
theorem l_7 (i : Nat) : (7 : Int32) + nI i = nI (7 + i) := nI_add 7 i
theorem l_19 (i : Nat) : (19 : Int32) + nI i = nI (19 + i) := nI_add 19 i
theorem l_31 (i : Nat) : (31 : Int32) + nI i = nI (31 + i) := nI_add 31 i
theorem l_43 (i : Nat) : (43 : Int32) + nI i = nI (43 + i) := nI_add 43 i
theorem l_55 (i : Nat) : (55 : Int32) + nI i = nI (55 + i) := nI_add 55 i
theorem l_103 (i : Nat) : (103 : Int32) + nI i = nI (103 + i) := nI_add 103 i
def MB (σ : Hp) : Prop := (hR σ 48 0 = some 49 ∧ hR σ 48 1 = some 50 ∧ hR σ 48 2 = some 51 ∧ hR σ 48 3 = some 52 ∧ hR σ 48 4 = some 53 ∧ hR σ 48 5 = some 54 ∧ hR σ 48 6 = some 55 ∧ hR σ 48 7 = some 56 ∧ hR σ 48 8 = some 57 ∧ hR σ 48 9 = some 58 ∧ hR σ 48 10 = some 59 ∧ hR σ 48 11 = some 60 ∧ hR σ 48 12 = some 61 ∧ hR σ 48 28 = some 62 ∧ hR σ 48 29 = some 63) ∧ hL σ 49 = 109 ∧ hL σ 50 = 109 ∧ hL σ 51 = 600 ∧ hL σ 52 = 600 ∧ hL σ 53 = 67 ∧ hL σ 54 = 67 ∧ hL σ 55 = 67 ∧ hL σ 56 = 8 ∧ hL σ 57 = 8 ∧ hL σ 58 = 8 ∧ hL σ 59 = 800 ∧ hL σ 60 = 8 ∧ hL σ 61 = 8 ∧ hL σ 62 = 12 ∧ hL σ 63 = 12
/-- a talk's array -/
def isT2 (kk : Nat) : Prop := kk = 53 ∨ kk = 54
theorem MB.k {σ : Hp} (h : MB σ) {kk : Nat} (hk : isT2 kk) : hL σ kk = 67 := by
  obtain ⟨⟨M0, M1, M2, M3, M4, M5, M6, M7, M8, M9, M10, M11, M12, M28, M29⟩, K49, K50, K51, K52, K53, K54, K55, K56, K57, K58, K59, K60, K61, K62, K63⟩ := h
  rcases hk with rfl | rfl <;> assumption
def LwM (g : Nat → Nat → Int32) (l : Int32) (e : Ev) : Prop := (l = -1 ∧ e = evP) ∨ ∃ q N x cs, l = nI q ∧ q < 6 ∧ g 49 (103 + q) = nI N ∧ N ≤ 100 ∧ (∀ i, i < N → g 51 (100 * q + i) = x i) ∧ sumS x N 8 0 0 = (N, some (cs, e))
def MC (g : Nat → Nat → Int32) (kk : Nat) (C : Ct) : Prop := CW C ∧ g kk 5 = nI (cJ C) ∧ g 49 0 = nI (cT C) ∧ (∀ t, t < cT C → g 49 (7 + t) = cS C t) ∧ ∀ i, i < cJ C → ∃ w, w < 12 ∧ g kk (7 + i) = nI w ∧ g 49 (19 + 7 * w + 0) = nI (cK C i) ∧ g 49 (19 + 7 * w + 1) = cH C i ∧ g 49 (19 + 7 * w + 2) = nI (cM C i) ∧ g 49 (19 + 7 * w + 3) = cL C i ∧ g 49 (19 + 7 * w + 4) = cP C i ∧ LwM g (g 49 (19 + 7 * w + 5)) (cE C i)
def MT (g : Nat → Nat → Int32) (kk : Nat) (C : Ct) (T : Tk) : Prop := g kk 0 = nI (tM T) ∧ g kk 1 = nI (yesS C T) ∧ g kk 2 = nI (noS C T) ∧ g kk 3 = nI (tU T) ∧ g kk 4 = nI (tX T) ∧ ∀ i, i < cJ C → g kk (19 + i) = tH T i ∧ g kk (31 + i) = tP T i ∧ (g kk (43 + i) = if tS T i then 1 else 0) ∧ g kk (55 + i) = nI (tG T i)
/-- what the model's talks may touch -/
def WL (a j : Nat) : Prop := a = 48 ∧ 16 ≤ j ∧ j ≤ 22
def WK (kk a j : Nat) : Prop := (a = 48 ∧ 16 ≤ j ∧ j ≤ 25) ∨ (a = kk ∧ (j < 5 ∨ 19 ≤ j))
def WR (kk a j : Nat) : Prop := (a = 48 ∧ 16 ≤ j ∧ j ≤ 27) ∨ (a = kk ∧ (j < 5 ∨ j = 6 ∨ 19 ≤ j)) ∨ a = 62 ∨ a = 63
theorem WL.k {kk : Nat} {g h : Nat → Nat → Int32} (a : Fr WL g h) : Fr (WK kk) g h := a.mo fun i j w => Or.inl ⟨w.1, w.2.1, by have := w.2.2; omega⟩
theorem WK.r {kk : Nat} {g h : Nat → Nat → Int32} (a : Fr (WK kk) g h) : Fr (WR kk) g h := a.mo fun i j w => w.elim (fun q => Or.inl ⟨q.1, q.2.1, by omega⟩) (fun q => Or.inr (Or.inl ⟨q.1, by omega⟩))
theorem LwM.fr {g h : Nat → Nat → Int32} {l : Int32} {e : Ev} (h1 : ∀ j, h 49 j = g 49 j) (h2 : ∀ j, h 51 j = g 51 j) (a : LwM g l e) : LwM h l e := by
  rcases a with a | ⟨q, N, x, cs, a1, a2, a3, a4, a5, a6⟩
  · exact Or.inl a
  · exact Or.inr ⟨q, N, x, cs, a1, a2, by rw [h1]; exact a3, a4, fun i hi => by rw [h2]; exact a5 i hi, a6⟩
theorem MC.fr {g h : Nat → Nat → Int32} {kk : Nat} {C : Ct} (hk : isT2 kk) (hf : Fr (WR kk) g h) (a : MC g kk C) : MC h kk C := by
  have hk2 : kk = 53 ∨ kk = 54 := hk
  have e1 : ∀ j, h 49 j = g 49 j := fun j => hf 49 j (by unfold WR; omega)
  have e2 : ∀ j, h 51 j = g 51 j := fun j => hf 51 j (by unfold WR; omega)
  have e3 : ∀ j, 5 ≤ j → j < 19 → j ≠ 6 → h kk j = g kk j := fun j q1 q2 q3 => hf kk j (by unfold WR; omega)
  obtain ⟨a0, a1, a2, a3, a4⟩ := a
  refine ⟨a0, by rw [e3 5 (by omega) (by omega) (by omega)]; exact a1, by rw [e1]; exact a2, fun t ht => by rw [e1]; exact a3 t ht, fun i hi => ?_⟩
  have hJ := a0.2.1
  obtain ⟨w, b0, b1, b2, b3, b4, b5, b6, b7⟩ := a4 i hi
  exact ⟨w, b0, by rw [e3 (7 + i) (by omega) (by omega) (by omega)]; exact b1, by rw [e1]; exact b2, by rw [e1]; exact b3, by rw [e1]; exact b4, by rw [e1]; exact b5, by rw [e1]; exact b6, by rw [e1]; exact b7.fr e1 e2⟩
theorem MT.fr {g h : Nat → Nat → Int32} {kk : Nat} {C : Ct} {T : Tk} (hf : ∀ j, h kk j = g kk j) (a : MT g kk C T) : MT h kk C T := by
  unfold MT
  obtain ⟨a1, a2, a3, a4, a5, a6⟩ := a
  exact ⟨by rw [hf]; exact a1, by rw [hf]; exact a2, by rw [hf]; exact a3, by rw [hf]; exact a4, by rw [hf]; exact a5, fun i hi => by rw [hf, hf, hf, hf]; exact a6 i hi⟩
theorem get_m {σ : Hp} {g : Nat → Nat → Int32} {t k x' : Nat} {x : Int32} (n : Nat) (hB : MB σ) (hx : x = nI x') (hk : k < 12) (hx' : x' < 7) : F_X12_get n 48 (nI k) x (wM σ g t) = some (g 49 (19 + 7 * k + x'), wM σ g t) := by
  obtain ⟨⟨M0, M1, M2, M3, M4, M5, M6, M7, M8, M9, M10, M11, M12, M28, M29⟩, K49, K50, K51, K52, K53, K54, K55, K56, K57, K58, K59, K60, K61, K62, K63⟩ := hB
  subst hx
  unfold F_X12_get
  have e : (19 + 7 * nI k) + nI x' = nI (19 + 7 * k + x') := by
    rw [← nI_add, ← nI_add, ← nI_mul]; rfl
  rw [e, wM_R (by decide), M0, qk_s1, wM_L, K49, qk_in (by omega) (by omega), nI_clamp (by omega), wM_I]
theorem spk_m {σ : Hp} {g : Nat → Nat → Int32} {t th : Nat} {sp : Nat → Int32} {x : Int32} (n : Nat) (hn : 12 < n) (hB : MB σ) (h0 : g 49 0 = nI th) (ht : th ≤ 12) (hs : ∀ t, t < th → g 49 (7 + t) = sp t) : F_X12_speaksOf n 48 x (wM σ g t) = some (wgh sp x th, wM σ g t) := by
  obtain ⟨⟨M0, M1, M2, M3, M4, M5, M6, M7, M8, M9, M10, M11, M12, M28, M29⟩, K49, K50, K51, K52, K53, K54, K55, K56, K57, K58, K59, K60, K61, K62, K63⟩ := hB
  obtain ⟨ρ, e1, e2⟩ := q_for (fun f i (a : Int32) => F_X12_speaksOf_4 n f 48 x a (nI i) (wM σ g t)) (fun i a => a = wgh sp x i) (fun ρ => ρ = (wgh sp x th, wM σ g t)) th (fun i f a hi hp => by
    refine ⟨wgh sp x (i + 1), ?_, rfl⟩
    subst hp
    simp only [F_X12_speaksOf_4, wgh]
    rw [wM_R (by decide), M0, qk_s1, wM_L, K49, z_0, kq_0 (by decide), wM_I, h0, if_neg (nI_ge hi (by omega)), qk_s1, bi_v, l_7, K49, qk_in (by omega) (by omega), nI_clamp (by omega), hs i hi, qk_lt, ← nI_succ]
    congr 1
    cases bi x i
    · show wgh sp x i + 0 * sp i = wgh sp x i
      grind
    · show wgh sp x i + 1 * sp i = wgh sp x i + sp i
      grind) (fun f a hp => by
    refine ⟨_, ?_, rfl⟩
    subst hp
    simp only [F_X12_speaksOf_4]
    rw [wM_R (by decide), M0, qk_s1, wM_L, K49, z_0, kq_0 (by decide), wM_I, h0, if_pos (nI_le (Nat.le_refl _) (by omega))]) n 0 (by omega) rfl
  subst e2
  unfold F_X12_speaksOf
  exact e1
theorem lby_m {σ : Hp} {g : Nat → Nat → Int32} {t w th : Nat} {sp : Nat → Int32} {e : Ev} {y no m held p : Int32} (n : Nat) (hn : 200 < n) (hB : MB σ) (h0 : g 49 0 = nI th) (ht : th ≤ 12) (hs : ∀ t, t < th → g 49 (7 + t) = sp t) (hw : w < 12) (hl : LwM g (g 49 (19 + 7 * w + 5)) e) (hy : g 48 23 = y) (hno : g 48 24 = no) (hm : g 48 25 = m) : ∃ g' t', F_X12_leansBy n 48 (nI w) held p (wM σ g t) = some (e (wgh sp held th) p y no m, wM σ g' t') ∧ Fr WL g g' := by
  have hB0 := hB
  obtain ⟨⟨M0, M1, M2, M3, M4, M5, M6, M7, M8, M9, M10, M11, M12, M28, M29⟩, K49, K50, K51, K52, K53, K54, K55, K56, K57, K58, K59, K60, K61, K62, K63⟩ := hB
  unfold F_X12_leansBy
  rw [qk_b2 (spk_m n (by omega) hB0 h0 ht hs), qk_lt, qk_lt, wM_p, wM_p]
  generalize hg2 : up2 (up2 g 48 21 (wgh sp held th)) 48 22 p = g2
  have f2 : Fr WL g g2 := by rw [← hg2]; exact ((Fr.rf _ _).up ⟨rfl, by omega, by omega⟩).up ⟨rfl, by omega, by omega⟩
  have e9 : ∀ a j, a ≠ 48 → g2 a j = g a j := fun a j h => f2 a j (fun w => h w.1)
  have c21 : g2 48 21 = wgh sp held th := by rw [← hg2, up_j (by omega), up_s]
  have c22 : g2 48 22 = p := by rw [← hg2, up_s]
  have c23 : g2 48 23 = y := by rw [f2 48 23 (by unfold WL; omega)]; exact hy
  have c24 : g2 48 24 = no := by rw [f2 48 24 (by unfold WL; omega)]; exact hno
  have c25 : g2 48 25 = m := by rw [f2 48 25 (by unfold WL; omega)]; exact hm
  rw [qk_b2 (get_m (x := 5) (x' := 5) n hB0 rfl hw (by omega)), e9 49 _ (by omega)]
  rcases hl with ⟨l1, l2⟩ | ⟨q, N, x, cs, l1, l2, l3, l4, l5, l6⟩
  · rw [l1, if_neg (by decide), wM_I, c21, c22, l2]
    exact ⟨g2, t, rfl, f2⟩
  · have e100 : (100 : Int32) * nI q = nI (100 * q) := nI_mul 100 q
    rw [l1, if_pos (nI_pos' (by omega)), wM_R (by decide), M2, qk_s1, wM_r, qk_lt, e100, qk_lt, wM_p, wM_R (by decide), M0, qk_s1, l_103, wM_L, K49, qk_in (by omega) (by omega), nI_clamp (by omega), wM_I, up_i (by omega), e9 49 _ (by omega), l3, qk_lt, wM_p, qk_lt, wM_p]
    have hTx : TxS (wM σ g2 51) 51 (100 * q) N := ⟨up_s (hR σ) 48 15 (some 51), by omega, by rw [wM_L, K51]; omega, by rw [wM_L, K51]; omega, l4⟩
    have hMS : MS (up2 (up2 (up2 g2 48 17 (nI (100 * q))) 48 18 (nI N)) 48 16 0) 51 (100 * q) N x 0 := by
      refine ⟨by rw [up_s]; rfl, ?_, ?_, fun i hi => ?_⟩
      · rw [up_j (by omega), up_j (by omega), up_s]
      · rw [up_j (by omega), up_s]
      · rw [up_i (by omega), up_i (by omega), up_i (by omega), e9 51 _ (by omega)]; exact l5 i hi
    obtain ⟨g3, k1, k2, k3⟩ := sum_e n hn hTx 8 0 (by omega) (by omega) 0 _ N cs e (by omega) hMS l6
    have f3 : Fr WL g g3 := by
      have f4 : Fr WL g (up2 (up2 (up2 g2 48 17 (nI (100 * q))) 48 18 (nI N)) 48 16 0) := ((f2.up ⟨rfl, by omega, by omega⟩).up ⟨rfl, by omega, by omega⟩).up ⟨rfl, by omega, by omega⟩
      refine f4.tr (fun a j hj => ?_)
      by_cases ha : a = 48
      · subst ha; exact k2.2 j (fun q => hj (by unfold J2 at q; unfold WL; omega))
      · rw [k2.1 a ha]
    refine ⟨g3, 51, ?_, f3⟩
    have k1' : F_X12_sum n 8 48 (wM σ (up2 (up2 (up2 g2 48 17 (nI (100 * q))) 48 18 (nI N)) 48 16 0) 51) = some (EV (up2 (up2 (up2 g2 48 17 (nI (100 * q))) 48 18 (nI N)) 48 16 0) e, wM σ g3 51) := k1
    have hE : EV (up2 (up2 (up2 g2 48 17 (nI (100 * q))) 48 18 (nI N)) 48 16 0) e = e (wgh sp held th) p y no m := by
      have e20 : ∀ j, 20 < j → up2 (up2 (up2 g2 48 17 (nI (100 * q))) 48 18 (nI N)) 48 16 0 48 j = g2 48 j := fun j hj => by rw [up_j (by omega), up_j (by omega), up_j (by omega)]
      unfold EV
      rw [e20 21 (by omega), e20 22 (by omega), e20 23 (by omega), e20 24 (by omega), e20 25 (by omega), c21, c22, c23, c24, c25]
    rw [qk_b2 k1', hE]
theorem lin_m {σ : Hp} {g : Nat → Nat → Int32} {t kk i : Nat} {C : Ct} {hd pu : Nat → Int32} {y no m : Int32} (n : Nat) (hn : 200 < n) (hB : MB σ) (hk : isT2 kk) (hC : MC g kk C) (hi : i < cJ C) (hH : g kk (19 + i) = hd i) (hP : g kk (31 + i) = pu i) (hy : g 48 23 = y) (hno : g 48 24 = no) (hm : g 48 25 = m) : ∃ g' t', F_X12_leansIn n 48 kk (nI i) (wM σ g t) = some (leanS C hd pu y no m i, wM σ g' t') ∧ Fr WL g g' := by
  have hK := hB.k hk
  obtain ⟨a0, a1, a2, a3, a4⟩ := hC
  have hJ := a0.2.1
  obtain ⟨w, b0, b1, b2, b3, b4, b5, b6, b7⟩ := a4 i hi
  unfold F_X12_leansIn
  rw [l_7, l_19, l_31, wM_L, hK, qk_in (by omega) (by omega), qk_in (by omega) (by omega), qk_in (by omega) (by omega), nI_clamp (by omega), nI_clamp (by omega), nI_clamp (by omega), wM_I, b1, hH, hP]
  obtain ⟨g', t', k1, k2⟩ := lby_m (t := t) (held := hd i) (p := pu i) n hn hB a2 a0.2.2.1 a3 b0 b7 hy hno hm
  exact ⟨g', t', by rw [qk_b2 k1]; rfl, k2⟩
theorem says_m {σ : Hp} {g : Nat → Nat → Int32} {t kk i : Nat} {C : Ct} {hd pu : Nat → Int32} {gv : Nat → Nat} {y no m : Int32} (n : Nat) (hn : 200 < n) (hB : MB σ) (hk : isT2 kk) (hC : MC g kk C) (hi : i < cJ C) (hH : g kk (19 + i) = hd i) (hP : g kk (31 + i) = pu i) (hG : g kk (55 + i) = nI (gv i)) (hg : gv i ≤ 2) (hy : g 48 23 = y) (hno : g 48 24 = no) (hm : g 48 25 = m) : ∃ g' t', F_X12_saysYes n 48 kk (nI i) (wM σ g t) = some (if saysS C hd pu gv y no m i then 1 else 0, wM σ g' t') ∧ Fr WL g g' := by
  have hK := hB.k hk
  have hC0 := hC
  obtain ⟨a0, a1, a2, a3, a4⟩ := hC
  have hJ := a0.2.1
  obtain ⟨w, b0, b1, b2, b3, b4, b5, b6, b7⟩ := a4 i hi
  unfold F_X12_saysYes
  rw [l_55, l_7, wM_L, hK, qk_in (by omega) (by omega), nI_clamp (by omega), wM_I, hG]
  unfold saysS
  by_cases c0 : gv i = 0
  · rw [c0, if_pos (by decide), if_pos rfl]
    obtain ⟨g', t', k1, k2⟩ := lin_m (t := t) n hn hB hk hC0 hi hH hP hy hno hm
    have hk2 : kk = 53 ∨ kk = 54 := hk
    rw [qk_b2 k1, wM_L, hK, qk_in (by omega) (by omega), nI_clamp (by omega), wM_I, k2 kk _ (by unfold WL; omega), b1, qk_b2 (get_m (x := 3) (x' := 3) n hB rfl b0 (by omega)), k2 49 _ (by unfold WL; omega), b5]
    refine ⟨g', t', ?_, k2⟩
    by_cases c1 : leanS C hd pu y no m i < cL C i
    · rw [if_pos c1, decide_eq_true c1]; rfl
    · rw [if_neg c1, decide_eq_false c1]; rfl
  · rw [if_neg c0, if_neg (nI_nle (by omega) (by omega)), qk_i2 (by omega) (by omega)]
    refine ⟨g, t, ?_, Fr.rf _ _⟩
    by_cases c1 : gv i = 2
    · rw [c1, if_pos (by decide), decide_eq_true rfl]; rfl
    · rw [if_neg (show ¬ nI (gv i) = 2 by rw [show (2 : Int32) = nI 2 from rfl, nI_eq (by omega) (by omega)]; exact c1), decide_eq_false c1]; rfl
theorem cnts_m {σ : Hp} {g : Nat → Nat → Int32} {t kk J : Nat} {sl : Nat → Bool} (n : Nat) (hn : 12 < n) (hB : MB σ) (hk : isT2 kk) (h5 : g kk 5 = nI J) (hJ : J ≤ 12) (hS : ∀ i, i < J → g kk (43 + i) = if sl i then 1 else 0) : ∃ g', F_X12_counts n 48 kk (wM σ g t) = some (wM σ g' t) ∧ Fr (fun a j => a = kk ∧ (j = 1 ∨ j = 2)) g g' ∧ g' kk 1 = nI (cnt J sl) ∧ g' kk 2 = nI (J - cnt J sl) := by
  have hK := hB.k hk
  unfold F_X12_counts
  rw [wM_L, hK, z_1, z_2, kq_1 (by decide), qk_lt, wM_p, wM_L, hK, kq_2 (by decide), qk_lt, wM_p]
  obtain ⟨ρ, e1, g', rfl, e2⟩ := q_for (fun f i (h : Nat → Nat → Int32) => F_X12_counts_10 n f kk (nI i) (wM σ h t)) (fun i h => Fr (fun a j => a = kk ∧ (j = 1 ∨ j = 2)) g h ∧ h kk 1 = nI (cnt i sl) ∧ h kk 2 = nI (i - cnt i sl)) (fun ρ => ∃ g', ρ = wM σ g' t ∧ Fr (fun a j => a = kk ∧ (j = 1 ∨ j = 2)) g g' ∧ g' kk 1 = nI (cnt J sl) ∧ g' kk 2 = nI (J - cnt J sl)) J (fun i f h hi hp => by
    have c5 : h kk 5 = nI J := by rw [hp.1 kk 5 (by omega)]; exact h5
    have c43 : h kk (43 + i) = if sl i then 1 else 0 := by rw [hp.1 kk _ (by omega)]; exact hS i hi
    have hc := cnt_le sl i
    simp only [F_X12_counts_10, F_X12_counts_44]
    rw [wM_L, hK, z_5, kq_5 (by decide), wM_I, c5, if_neg (nI_ge hi (by omega)), l_43, qk_in (by omega) (by omega), nI_clamp (by omega), c43, ← nI_succ]
    cases hs : sl i
    · rw [if_neg (by decide), z_2, kq_2 (by decide), kq_2 (by decide), qk_lt, wM_p, hp.2.2, nI_1]
      refine ⟨_, rfl, hp.1.up ⟨rfl, Or.inr rfl⟩, ?_, ?_⟩
      · rw [up_j (by omega), hp.2.1]; simp only [cnt, hs]; rfl
      · rw [up_s]; simp only [cnt, hs, Bool.false_eq_true, if_false]; congr 1; omega
    · rw [if_pos (by decide), z_1, kq_1 (by decide), kq_1 (by decide), qk_lt, wM_p, hp.2.1, nI_1]
      refine ⟨_, rfl, hp.1.up ⟨rfl, Or.inl rfl⟩, ?_, ?_⟩
      · rw [up_s]; simp only [cnt, hs]; rfl
      · rw [up_j (by omega), hp.2.2]; simp only [cnt, hs, if_true]; congr 1; omega) (fun f h hp => by
    refine ⟨_, ?_, h, rfl, hp⟩
    have c5 : h kk 5 = nI J := by rw [hp.1 kk 5 (by omega)]; exact h5
    simp only [F_X12_counts_10]
    rw [wM_L, hK, z_5, kq_5 (by decide), wM_I, c5, if_pos (nI_le (Nat.le_refl _) (by omega))]) n (up2 (up2 g kk 1 0) kk 2 0) (by omega) ⟨((Fr.rf _ _).up ⟨rfl, Or.inl rfl⟩).up ⟨rfl, Or.inr rfl⟩, by rw [up_j (by omega), up_s]; rfl, by rw [up_s]; rfl⟩
  exact ⟨g', e1, e2⟩
theorem end_m2 {σ : Hp} {g : Nat → Nat → Int32} {t kk nd li : Nat} {C : Ct} {T : Tk} (n : Nat) (hB : MB σ) (hk : isT2 kk) (hJ : cJ C ≤ 12) (hT : MT g kk C T) (hnd : nd ≤ 12) (h6 : g 49 6 = nI li) (hli : li ≤ 3000) (hm : tM T < 2 ^ 31) : F_X12_endOf n 48 kk (nI nd) (wM σ g t) = some (endS C nd li T, wM σ g t) := by
  have hK := hB.k hk
  obtain ⟨⟨M0, M1, M2, M3, M4, M5, M6, M7, M8, M9, M10, M11, M12, M28, M29⟩, K49, K50, K51, K52, K53, K54, K55, K56, K57, K58, K59, K60, K61, K62, K63⟩ := hB
  have hy := yes_le C T
  have hno : noS C T ≤ 12 := by unfold noS; omega
  unfold F_X12_endOf
  rw [wM_L, hK, z_0, z_1, z_2, z_6, kq_1 (by decide), wM_I, hT.2.1]
  unfold endS
  by_cases c1 : nd ≤ yesS C T
  · rw [if_neg (nI_nlt c1 (by omega)), if_pos c1]
  · rw [if_pos (nI_lt (by omega) (by omega)), if_neg c1, kq_2 (by decide), hT.2.2.1]
    by_cases c2 : nd ≤ noS C T
    · rw [if_neg (nI_nlt c2 (by omega)), if_pos c2]
    · rw [if_pos (nI_lt (by omega) (by omega)), if_neg c2, kq_0 (by decide), wM_R (by decide), M0, qk_s1, K49, kq_6 (by decide), hT.1, h6]
      by_cases c3 : li ≤ tM T
      · rw [if_neg (nI_nlt c3 hm), if_pos c3]
      · rw [if_pos (nI_lt (by omega) (by omega)), if_neg c3]
theorem allh_m {σ : Hp} {g : Nat → Nat → Int32} {t kk J th : Nat} {hd : Nat → Int32} (n : Nat) (hn : 12 < n) (hB : MB σ) (hk : isT2 kk) (h5 : g kk 5 = nI J) (hJ : J ≤ 12) (h0 : g 49 0 = nI th) (hH : ∀ i, i < J → g kk (19 + i) = hd i) : F_X12_allHold n 48 kk (wM σ g t) = some (allH th hd J, wM σ g t) := by
  have hK := hB.k hk
  obtain ⟨⟨M0, M1, M2, M3, M4, M5, M6, M7, M8, M9, M10, M11, M12, M28, M29⟩, K49, K50, K51, K52, K53, K54, K55, K56, K57, K58, K59, K60, K61, K62, K63⟩ := hB
  obtain ⟨ρ, e1, e2⟩ := q_for (fun f i (a : Int32) => F_X12_allHold_13 n f kk a (nI i) (wM σ g t)) (fun i a => a = allH th hd i) (fun ρ => ρ = (allH th hd J, wM σ g t)) J (fun i f a hi hp => by
    refine ⟨allH th hd (i + 1), ?_, rfl⟩
    subst hp
    simp only [F_X12_allHold_13, allH]
    rw [wM_L, hK, z_5, kq_5 (by decide), wM_I, h5, if_neg (nI_ge hi (by omega)), l_19, qk_in (by omega) (by omega), nI_clamp (by omega), hH i hi, ← nI_succ]) (fun f a hp => by
    refine ⟨_, ?_, rfl⟩
    subst hp
    simp only [F_X12_allHold_13]
    rw [wM_L, hK, z_5, kq_5 (by decide), wM_I, h5, if_pos (nI_le (Nat.le_refl _) (by omega))]) n (allH th hd 0) (by omega) rfl
  subst e2
  unfold F_X12_allHold
  rw [wM_R (by decide), M0, qk_s1, wM_L, K49, z_0, kq_0 (by decide), wM_I, h0, qk_lt]
  exact e1
