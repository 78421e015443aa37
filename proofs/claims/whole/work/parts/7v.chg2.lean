/-! SET -/
theorem RWc.fr {τ : Hp} {g : Nat → Nat → Int32} {r : Nat} {D : Dt} {lno : Nat → Int32} (hf : ∀ b j, r ≤ b → b ≤ r + 5 → (b = r → j < 8) → g b j = hI τ b j) (ix : IX τ (hI τ) g) (c : RWc τ r D lno) : RWc (wI τ g) r D lno := by
  obtain ⟨c1, c2, c3, c4, c5, c6, c7, c8⟩ := c
  refine ⟨c1, (hf r 0 (by omega) (by omega) (by omega)).trans c2, (hf r 2 (by omega) (by omega) (by omega)).trans c3, fun t ht => (hf _ t (by omega) (by omega) (by omega)).trans (c4 t ht), fun j hj => ?_, (hf r 5 (by omega) (by omega) (by omega)).trans c6, fun l hl => ?_, ?_⟩
  · obtain ⟨T, t1, t2, t3, t4, t5⟩ := c5 j hj
    exact ⟨T, t1, t2.ext (XG.I τ g) ix, (t2.cell (τ := τ) ix 0).trans t3, (t2.cell (τ := τ) ix 6).trans t4, (hf _ j (by omega) (by omega) (by omega)).trans t5⟩
  · obtain ⟨q, q1, q2⟩ := c7 l hl
    exact ⟨q, q1, q2.ext (XG.I τ g) ix⟩
  · show RU g r _ _ _ _
    unfold RU
    rw [hf (r + 5) 0 (by omega) (by omega) (by omega), hf (r + 5) 1 (by omega) (by omega) (by omega), hf (r + 5) 2 (by omega) (by omega) (by omega), hf (r + 5) 3 (by omega) (by omega) (by omega)]
    exact c8
theorem TKc.fr {τ : Hp} {g : Nat → Nat → Int32} {r : Nat} {D : Dt} {ot : Option Tk} (hf : ∀ b j, r ≤ b → b ≤ r + 9 → (b = r → 8 ≤ j) → (b = r ∨ r + 6 ≤ b) → g b j = hI τ b j) (e : TKc τ r D ot) : TKc (wI τ g) r D ot := by
  cases ot with
  | none =>
    obtain ⟨e1, e2, e3, e4, e5, e6, e7⟩ := e
    refine ⟨(hf r 8 (by omega) (by omega) (by omega) (by omega)).trans e1, (hf r 10 (by omega) (by omega) (by omega) (by omega)).trans e2, (hf r 11 (by omega) (by omega) (by omega) (by omega)).trans e3, (hf r 12 (by omega) (by omega) (by omega) (by omega)).trans e4, (hf r 13 (by omega) (by omega) (by omega) (by omega)).trans e5, e6, fun i hi => ?_⟩
    rw [wI_I, hf (r + 6) i (by omega) (by omega) (by omega) (by omega), hf (r + 7) i (by omega) (by omega) (by omega) (by omega), hf (r + 8) i (by omega) (by omega) (by omega) (by omega), hf (r + 9) i (by omega) (by omega) (by omega) (by omega)]
    exact e7 i hi
  | some T =>
    obtain ⟨e1, e2, e3, e4, e5, e6, ld, e7⟩ := e
    refine ⟨(hf r 8 (by omega) (by omega) (by omega) (by omega)).trans e1, (hf r 10 (by omega) (by omega) (by omega) (by omega)).trans e2, (hf r 11 (by omega) (by omega) (by omega) (by omega)).trans e3, ?_, (hf r 14 (by omega) (by omega) (by omega) (by omega)).trans e5, fun i hi => ?_, ld, (hf r 9 (by omega) (by omega) (by omega) (by omega)).trans e7.1, e7.2⟩
    · rw [wI_I, hf r 12 (by omega) (by omega) (by omega) (by omega)]; exact e4
    · rw [wI_I, hf (r + 6) i (by omega) (by omega) (by omega) (by omega), hf (r + 7) i (by omega) (by omega) (by omega) (by omega), hf (r + 8) i (by omega) (by omega) (by omega) (by omega), hf (r + 9) i (by omega) (by omega) (by omega) (by omega)]
      exact e6 i hi
theorem TKm.fr {g h : Nat → Nat → Int32} {tk : Nat} {D : Dt} {ot : Option Tk} (hf : ∀ j, h tk j = g tk j) (f : TKm g tk D ot) : TKm h tk D ot := by
  cases ot with
  | none => show ¬ h tk 6 = 1; rw [hf]; exact f
  | some T => exact ⟨(hf _).trans f.1, f.2.1.fr hf, (hf _).trans f.2.2.1, fun i hi => (hf _).trans (f.2.2.2 i hi)⟩
def rlD (D : Dt) (k l : Nat) (a : Bool) (i : Nat) : Dt := (dC D, dL D, dH D, dE D, k, l, a, i)
theorem inv_ru {τ : Hp} {D : Dt} {lno : Nat → Int32} {ot : Option Tk} {g : Nat → Nat → Int32} {k l i : Nat} {a : Bool} (h : Inv τ D lno ot) (hg : ∀ b j, (b = 6 ∨ (b = 49 ∧ 3 ≤ j ∧ j ≤ 6)) ∨ g b j = hI τ b j) (hU : RU g 1 k l a i) (h3 : g 49 3 = nI k) (h4 : g 49 4 = nI l) (h5 : g 49 5 = if a then 1 else 0) (h6 : g 49 6 = nI i) : Inv (wI τ g) (rlD D k l a i) lno ot := by
  obtain ⟨⟨c1, c2, c3, c4, c5, c6, c7, c8⟩, ⟨m1, m2, m3, m4, m5, m6, m7, m8, m9, m10⟩, d, e', f, w⟩ := h.2.1
  have e : ∀ b j, b ≠ 6 → (b ≠ 49 ∨ j < 3 ∨ 6 < j) → g b j = hI τ b j := fun b j h1 h2 => by
    rcases hg b j with q | q
    · omega
    · exact q
  have ix : IX τ (hI τ) g := fun b j h1 h2 h3 => e b j (by omega) (by omega)
  refine h.ni (fun b j hb => ?_) ⟨⟨c1, (e 1 0 (by omega) (by omega)).trans c2, (e 1 2 (by omega) (by omega)).trans c3, fun t ht => (e 2 t (by omega) (by omega)).trans (c4 t ht), fun j hj => ?_, (e 1 5 (by omega) (by omega)).trans c6, fun l hl => ?_, hU⟩, ⟨(e 49 0 (by omega) (by omega)).trans m1, (e 49 1 (by omega) (by omega)).trans m2, (e 49 2 (by omega) (by omega)).trans m3, fun t ht => (e 49 _ (by omega) (by omega)).trans (m4 t ht), h3, h4, h5, h6, fun j hj => ?_, fun l hl => ?_⟩, d, e'.fr (fun b j h1 h2 h3 h4 => e b j (by omega) (by omega)), f.fr (fun j => e 53 j (by omega) (by omega)), w⟩
  · exact e b j (fun q => hb (Or.inl (by unfold NW; omega))) (by
      by_cases q : b = 49
      · exact absurd (Or.inl (by unfold NW; omega)) hb
      · exact Or.inl q)
  · obtain ⟨T, t1, t2, t3, t4, t5⟩ := c5 j hj
    exact ⟨T, t1, t2.ext (XG.I τ g) ix, (t2.cell (τ := τ) ix 0).trans t3, (t2.cell (τ := τ) ix 6).trans t4, (e 4 j (by omega) (by omega)).trans t5⟩
  · obtain ⟨q, q1, q2⟩ := c7 l hl
    exact ⟨q, q1, q2.ext (XG.I τ g) ix⟩
  · rw [wI_I, e _ _ (by omega) (by omega), e _ _ (by omega) (by omega), e _ _ (by omega) (by omega), e _ _ (by omega) (by omega), e _ _ (by omega) (by omega), e _ _ (by omega) (by omega), e _ _ (by omega) (by omega)]
    exact m9 j hj
  · obtain ⟨N, x, cs, n1, n2, n3, n4⟩ := m10 l hl
    exact ⟨N, x, cs, (e _ _ (by omega) (by omega)).trans n1, n2, fun i hi => (e _ _ (by omega) (by omega)).trans (n3 i hi), n4⟩
/-- the least and the most of a rule -/
def rlo (q : Nat) : Nat := if q = 0 then 1 else if q = 3 then 1 else 0
def rhi (q : Nat) : Nat := if q = 0 then 12 else if q = 1 then 11 else if q = 2 then 1 else 3000
theorem rlo_v {q : Nat} (h : q < 4) : ruleAt rL (nI q) = nI (rlo q) := by
  have : ∀ q : Nat, q < 4 → ruleAt rL (nI q) = nI (rlo q) := by decide +kernel
  exact this q h
theorem rhi_v {q : Nat} (h : q < 4) : ruleAt rM (nI q) = nI (rhi q) := by
  have : ∀ q : Nat, q < 4 → ruleAt rM (nI q) = nI (rhi q) := by decide +kernel
  exact this q h
theorem rhi_b (q : Nat) : rhi q ≤ 3000 := by unfold rhi; split <;> (try split) <;> (try split) <;> omega
theorem st_61 {q : Nat} (n : Nat) (hq : q < 4) (v : Int32) (τ : Hp) : F_X12_set n 48 (nI q) v τ = F_X12_set_61 n 48 (nI q) v (nI (rhi q)).toInt64 (nI (rlo q)).toInt64 v.toInt64 τ := by
  unfold F_X12_set F_X12_set_23 F_X12_set_28
  obtain rfl | rfl | rfl | rfl : q = 0 ∨ q = 1 ∨ q = 2 ∨ q = 3 := by omega
  · rw [qk_b2 (isIn_v n (y := 0) (z := 3) (nI 0) 0 3 rfl rfl rfl _)]; rfl
  · rw [qk_b2 (isIn_v n (y := 0) (z := 3) (nI 1) 0 3 rfl rfl rfl _)]; rfl
  · rw [qk_b2 (isIn_v n (y := 0) (z := 3) (nI 2) 0 3 rfl rfl rfl _)]; rfl
  · rw [qk_b2 (isIn_v n (y := 0) (z := 3) (nI 3) 0 3 rfl rfl rfl _)]; rfl
theorem nI_bet {v : Int32} {a b : Nat} (hb : b < 2 ^ 31) (h1 : ¬ v < nI a) (h2 : ¬ nI b < v) (ha : a < 2 ^ 31) : ∃ x, a ≤ x ∧ x ≤ b ∧ v = nI x := by
  rw [Int32.lt_iff_toInt_lt, nI_toInt (by omega)] at h1 h2
  refine ⟨v.toInt.toNat, by omega, by omega, ?_⟩
  apply Int32.toInt_inj.mp
  rw [nI_toInt (by omega)]
  omega
theorem q_set {τ : Hp} {D : Dt} {lno : Nat → Int32} {ot : Option Tk} (n : Nat) (h : Inv τ D lno ot) (a v : Int32) : SQ τ (F_X11_set n 0 a v) (F_X12_set n 48 a v) := by
  have L := h.1.1
  obtain ⟨c, m, d, -⟩ := h.2.1
  have hB := h.1.2.2.2.1
  have hc1 := c.1
  have hh := h
  obtain ⟨⟨M0, M1, M2, M3, M4, M5, M6, M7, M8, M9, M10, M11, M12, M28, M29⟩, K49, K50, K51, K52, K53, K54, K55, K56, K57, K58, K59, K60, K61, K62, K63⟩ := hB
  obtain ⟨r65, ⟨R1, R3, R4, R6, R7, R15, R16, R17, R18⟩, L1, L2, L3, L4, L5, L6, L7, L8, L9⟩ := hc1
  by_cases h0 : a < 0 ∨ nI 3 < a
  · refine SQ.no h (-1) ?_ ?_
    · unfold F_X11_set
      by_cases c1 : a < 0
      · rw [if_pos c1]
      · rw [if_neg c1, if_pos (show 3 < a from h0.resolve_left c1)]
    · unfold F_X12_set
      rw [qk_b2 (isIn_v n (y := 0) (z := 3) a 0 3 rfl rfl rfl _), if_pos (show a < 0 ∨ 3 < a from h0), if_pos rfl]
  obtain ⟨q, hq, rfl⟩ := what_j (by omega) h0
  have w1 : ¬ nI q < 0 := fun y => h0 (Or.inl y)
  have w2 : ¬ 3 < nI q := fun y => h0 (Or.inr y)
  by_cases h1 : v < nI (rlo q) ∨ nI (rhi q) < v
  · refine SQ.no h (-1) ?_ ?_
    · unfold F_X11_set
      rw [if_neg w1, if_neg w2, qk_lt, rlo_v (by omega), rhi_v (by omega)]
      by_cases c1 : v < nI (rlo q)
      · rw [if_pos c1]
      · rw [if_neg c1, qk_lt, if_neg (Int32.not_le.mpr (h1.resolve_left c1))]
    · rw [st_61 n (by omega)]
      unfold F_X12_set_61
      rw [qk_b2 (isIn_v n v (nI (rlo q)) (nI (rhi q)) rfl rfl rfl _), if_pos h1, if_pos rfl]
  have rb := rhi_b q
  have rl : rlo q ≤ 1 := by unfold rlo; split <;> (try split) <;> omega
  obtain ⟨x, x1, x2, rfl⟩ := nI_bet (a := rlo q) (b := rhi q) (by omega) (fun y => h1 (Or.inl y)) (fun y => h1 (Or.inr y)) (by omega)
  have hU := c.2.2.2.2.2.2.2
  obtain ⟨u1, u2, u2b, u3, u4, u5, u6, u7⟩ := hU
  have eq : hI τ 6 q = hI τ 49 (3 + q) := by
    obtain rfl | rfl | rfl | rfl : q = 0 ∨ q = 1 ∨ q = 2 ∨ q = 3 := by omega
    · rw [show hI τ 6 0 = _ from u1, m.2.2.2.2.1]
    · rw [show hI τ 6 1 = _ from u3, m.2.2.2.2.2.1]
    · rw [show hI τ 6 2 = _ from u5, m.2.2.2.2.2.2.1]
    · rw [show hI τ 6 3 = _ from u6, m.2.2.2.2.2.2.2.1]
  have st := q_st (σ := τ) (a := 6) (i := q) (N := 4) n (nI x) L5 (by omega) (by omega)
  have at' := q_at (σ := τ) (a := 6) (i := q) (N := 4) n L5 (by omega) (by omega)
  have l3 : (3 : Int32) + nI q = nI (3 + q) := nI_add 3 q
  have key : ∃ D', Inv (wI τ (up2 (up2 (hI τ) 6 q (nI x)) 49 (3 + q) (nI x))) D' lno ot := by
    generalize hg : up2 (up2 (hI τ) 6 q (nI x)) 49 (3 + q) (nI x) = g
    have e : ∀ b j, (b = 6 ∨ (b = 49 ∧ 3 ≤ j ∧ j ≤ 6)) ∨ g b j = hI τ b j := fun b j => by
      by_cases y : b = 6 ∨ (b = 49 ∧ 3 ≤ j ∧ j ≤ 6)
      · exact Or.inl y
      · refine Or.inr ?_
        rw [← hg]; unfold up2; rw [if_neg (by omega), if_neg (by omega)]
    have g6 : g 6 q = nI x := by rw [← hg, up_i (by omega), up_s]
    have g6n : ∀ j, j ≠ q → g 6 j = hI τ 6 j := fun j hj => by rw [← hg, up_i (by omega), up_j hj]
    have g49 : g 49 (3 + q) = nI x := by rw [← hg, up_s]
    have g49n : ∀ j, j ≠ q → g 49 (3 + j) = hI τ 49 (3 + j) := fun j hj => by rw [← hg, up_j (by omega), up_i (by omega)]
    obtain rfl | rfl | rfl | rfl : q = 0 ∨ q = 1 ∨ q = 2 ∨ q = 3 := by omega
    · exact ⟨_, inv_ru (k := x) (l := dl D) (a := da D) (i := di D) hh e ⟨g6, x1, x2, (g6n 1 (by omega)).trans u3, u4, (g6n 2 (by omega)).trans u5, (g6n 3 (by omega)).trans u6, u7⟩ g49 ((g49n 1 (by omega)).trans m.2.2.2.2.2.1) ((g49n 2 (by omega)).trans m.2.2.2.2.2.2.1) ((g49n 3 (by omega)).trans m.2.2.2.2.2.2.2.1)⟩
    · exact ⟨_, inv_ru (k := dk D) (l := x) (a := da D) (i := di D) hh e ⟨(g6n 0 (by omega)).trans u1, u2, u2b, g6, x2, (g6n 2 (by omega)).trans u5, (g6n 3 (by omega)).trans u6, u7⟩ ((g49n 0 (by omega)).trans m.2.2.2.2.1) g49 ((g49n 2 (by omega)).trans m.2.2.2.2.2.2.1) ((g49n 3 (by omega)).trans m.2.2.2.2.2.2.2.1)⟩
    · have x2' : x ≤ 1 := x2
      have hx : nI x = if decide (x = 1) then 1 else 0 := by
        obtain rfl | rfl : x = 0 ∨ x = 1 := by omega
        · rfl
        · rfl
      exact ⟨_, inv_ru (k := dk D) (l := dl D) (a := decide (x = 1)) (i := di D) hh e ⟨(g6n 0 (by omega)).trans u1, u2, u2b, (g6n 1 (by omega)).trans u3, u4, g6.trans hx, (g6n 3 (by omega)).trans u6, u7⟩ ((g49n 0 (by omega)).trans m.2.2.2.2.1) ((g49n 1 (by omega)).trans m.2.2.2.2.2.1) (g49.trans hx) ((g49n 3 (by omega)).trans m.2.2.2.2.2.2.2.1)⟩
    · exact ⟨_, inv_ru (k := dk D) (l := dl D) (a := da D) (i := x) hh e ⟨(g6n 0 (by omega)).trans u1, u2, u2b, (g6n 1 (by omega)).trans u3, u4, (g6n 2 (by omega)).trans u5, g6, x2⟩ ((g49n 0 (by omega)).trans m.2.2.2.2.1) ((g49n 1 (by omega)).trans m.2.2.2.2.2.1) ((g49n 2 (by omega)).trans m.2.2.2.2.2.2.1) g49⟩
  obtain ⟨D', hD'⟩ := key
  refine ⟨hI τ 6 q, wI τ (up2 (hI τ) 6 q (nI x)), _, D', lno, ot, ?_, ?_, hD', rfl⟩
  · unfold F_X11_set
    rw [if_neg w1, if_neg w2, qk_lt, rlo_v (by omega), rhi_v (by omega), if_neg (fun y => h1 (Or.inl y)), qk_lt, if_pos (nle_lt fun y => h1 (Or.inr y)), L.1, qk_s1, R7, qk_s1, qk_b2 at', L.1, qk_s1, R7, qk_s1, qk_b1 st]
    rfl
  · rw [st_61 n (by omega)]
    unfold F_X12_set_61 F_X12_becomes
    rw [qk_b2 (isIn_v n (nI x) (nI (rlo q)) (nI (rhi q)) rfl rfl rfl _), if_neg h1, if_neg (by decide), wI_R, M0, qk_s1, l3, wI_L, K49, qk_in (by omega) (by omega), qk_s1, K49, qk_in (by omega) (by omega), nI_clamp (by omega), wI_p, qk_lt, qk_s2, wI_I, up_i (by omega), eq]
