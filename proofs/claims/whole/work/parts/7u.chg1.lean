/-! calls that change what is told -/
def SQ (τ : Hp) (x y : Hp → Option (Int32 × Hp)) : Prop := ∃ r τ1 τ2 D lno ot, x τ = some (r, τ1) ∧ y τ1 = some (r, τ2) ∧ Inv τ2 D lno ot ∧ hL τ2 64 = hL τ 64
theorem XG.l64 {σ τ : Hp} (h : XG σ τ) (hn : 65 ≤ hN σ) : hL τ 64 = hL σ 64 := (h.2 64 (by omega)).2.1
theorem SQ.bq {τ : Hp} {D : Dt} {lno : Nat → Int32} {ot : Option Tk} {x y : Hp → Option (Int32 × Hp)} (h : Inv τ D lno ot) (b : BQ τ D lno ot x y) : SQ τ x y := by
  obtain ⟨r, ⟨τ1, x1, x2⟩, y1⟩ := b
  have h1 := h.fq x2
  obtain ⟨τ2, z1, z2⟩ := y1 τ1 h1
  exact ⟨r, τ1, τ2, D, lno, ot, x1, z1, h1.fq z2, (z2.x.1.l64 h1.1.2.2.2.2.2.1).trans (x2.x.1.l64 h.1.2.2.2.2.2.1)⟩
theorem SQ.no {τ : Hp} {D : Dt} {lno : Nat → Int32} {ot : Option Tk} {x y : Hp → Option (Int32 × Hp)} (h : Inv τ D lno ot) (r : Int32) (hx : x τ = some (r, τ)) (hy : y τ = some (r, τ)) : SQ τ x y := ⟨r, τ, τ, D, lno, ot, hx, hy, h, rfl⟩
def NW (a j : Nat) : Prop := (1 ≤ a ∧ a ≤ 20) ∨ a = 49 ∨ a = 51 ∨ a = 53 ∨ a = 54 ∨ a = 62 ∨ a = 63 ∨ (a = 48 ∧ 14 ≤ j)
def RWr (a j : Nat) : Prop := a = 3 ∨ a = 5 ∨ a = 13 ∨ (a = 48 ∧ j = 15)
theorem Inv.nw {σ τ : Hp} {D D' : Dt} {lno lno' : Nat → Int32} {ot ot' : Option Tk} (hX : XG σ τ) (hI' : IX σ (hI σ) (hI τ)) (hf : ∀ a j, a < 65 → ¬ NW a j → hI τ a j = hI σ a j) (hr : ∀ a j, a < 65 → ¬ RWr a j → hR τ a j = hR σ a j) (ht : ∃ t, hR τ 48 15 = some t) (hk : hK τ (hN τ - 1) ≠ 1) (h : Inv σ D lno ot) (w : WOs τ 1 49 51 53 D' lno' ot') : Inv τ D' lno' ot' := by
  obtain ⟨l, -, i1, i2, s⟩ := h
  have hn := l.2.2.2.2.2.1
  have e : ∀ b j, b < 65 → (b < 1 ∨ 20 < b) → (b ≠ 48 ∨ j < 14) → (b ≠ 49 ∧ b ≠ 51 ∧ b ≠ 53 ∧ b ≠ 54 ∧ b ≠ 62 ∧ b ≠ 63) → hI τ b j = hI σ b j := fun b j h1 h2 h3 h4 => hf b j h1 (by unfold NW; omega)
  have er : ∀ b j, b < 65 → b ≠ 3 → b ≠ 5 → b ≠ 13 → (b ≠ 48 ∨ j ≠ 15) → hR τ b j = hR σ b j := fun b j h1 h2 h3 h4 h5 => hr b j h1 (by unfold RWr; omega)
  refine ⟨l.pres hX (fun b j hb => ?_) (fun j hj => er 48 j (by omega) (by omega) (by omega) (by omega) (Or.inr hj)) ht hk, w, ?_, ?_, fun d hd => Sh.pres hX hI' ⟨fun j => e _ j (by omega) (by omega) (by omega) (by omega), er _ _ (by omega) (by omega) (by omega) (by omega) (by omega)⟩ (fun j => e _ j (by omega) (by omega) (by omega) (by omega)) (fun b h1 h2 => ⟨fun _ i _ => e _ _ (by omega) (by omega) (by omega) (by omega), fun _ => e _ _ (by omega) (by omega) (by omega) (by omega)⟩) (s d hd)⟩
  · by_cases c : b = 13 ∨ b = 3 ∨ b = 5
    · omega
    · exact Or.inr (Or.inl (er b j (by omega) (by omega) (by omega) (by omega) (by omega)))
  · rw [e 48 13 (by omega) (by omega) (by omega) (by omega), e 0 3 (by omega) (by omega) (by omega) (by omega)]; exact i1
  · rw [e 0 3 (by omega) (by omega) (by omega) (by omega)]
    rcases i2 with q | ⟨q, D', l', o', w'⟩
    · exact Or.inl q
    · exact Or.inr ⟨q, D', l', o', w'.pres hX hI' (fun b h1 h2 => ⟨fun j => e b j (by omega) (by omega) (by omega) (by omega), fun j => er b j (by omega) (by omega) (by omega) (by omega) (by omega), (hX.2 b (by omega)).2.1⟩) (fun j => e _ j (by omega) (by omega) (by omega) (by omega)) (fun j => e _ j (by omega) (by omega) (by omega) (by omega)) (fun j => e _ j (by omega) (by omega) (by omega) (by omega))⟩
/-- the same, where no reference changes -/
theorem Inv.ni {σ : Hp} {g : Nat → Nat → Int32} {D D' : Dt} {lno lno' : Nat → Int32} {ot ot' : Option Tk} (hf : Fr (fun a j => NW a j ∨ isStk σ a) (hI σ) g) (h : Inv σ D lno ot) (w : WOs (wI σ g) 1 49 51 53 D' lno' ot') : Inv (wI σ g) D' lno' ot' := by
  refine Inv.nw (XG.I σ g) (fun a j h1 h2 h3 => hf a j (fun w => ?_)) (fun a j h1 h2 => hf a j (fun w => w.elim h2 (stk_lo h1))) (fun _ _ _ _ => rfl) h.1.2.2.2.2.1 h.1.2.2.2.2.2.2 h w
  rcases w with w | w
  · unfold NW at w; omega
  · exact h3 w
def upf {α : Type} (f : Nat → α) (i : Nat) (v : α) : Nat → α := fun j => if j = i then v else f j
theorem upf_s {α : Type} (f : Nat → α) (i : Nat) (v : α) : upf f i v i = v := if_pos rfl
theorem upf_n {α : Type} (f : Nat → α) {i j : Nat} (v : α) (h : j ≠ i) : upf f i v j = f j := if_neg h
/-! THING -/
def thC (C : Ct) (x : Int32) : Ct := (cJ C, cT C + 1, upf (cS C) (cT C) x, C.2.2.2)
theorem isS_m {th : Nat} {x : Int32} (h : isS th x) : isS (th + 1) x := fun i h1 h2 => h i h1 (by omega)
theorem wgh_th {sp : Nat → Int32} {th : Nat} {x y : Int32} (h : isS th y) (ht : th < 32) : wgh (upf sp th x) y (th + 1) = wgh sp y th := by
  rw [wgh, h th ht (Nat.le_refl _), if_neg (by decide)]
  exact wgh_cg fun i hi => upf_n _ _ (by omega)
theorem allH_th {th J : Nat} {hd : Nat → Int32} (ht : th < 12) (hJ : 0 < J) (h : ∀ j, j < J → isS th (hd j)) : allH (th + 1) hd J = allH th hd J := bi_ext fun i hi => by
  rw [allH_b (by omega) hi, allH_b (by omega) hi]
  by_cases c : ∀ j, j < J → bi (hd j) i = true
  · by_cases c2 : i < th
    · simp [c2, show i < th + 1 by omega]
    · have := h 0 hJ i hi (by omega)
      rw [c 0 hJ] at this
      exact absurd this (by decide)
  · simp [c]
theorem pI_w (σ : Hp) (i j : Nat) (v : Int32) : pI σ i j v = wI σ (up2 (hI σ) i j v) := rfl
theorem nI_s1 (i : Nat) : nI (i + 1) - 1 = nI i := by
  show nI (i + 1) - nI 1 = nI (i + 1 - 1)
  exact nI_sub (by omega)
theorem abS_20 {a : Int32} (h1 : ¬ a < -20) (h2 : a ≤ 20) : ¬ abS a ≤ -1 := by
  unfold abS
  rw [Int32.lt_iff_toInt_lt] at h1
  rw [Int32.le_iff_toInt_le] at h2 ⊢
  have e1 : (-20 : Int32).toInt = -20 := by decide
  have e2 : (20 : Int32).toInt = 20 := by decide
  have e3 : (-1 : Int32).toInt = -1 := by decide
  rw [e1] at h1
  rw [e2] at h2
  rw [e3]
  by_cases h : 0 ≤ a
  · rw [if_pos h]
    rw [Int32.le_iff_toInt_le] at h
    have e0 : (0 : Int32).toInt = 0 := by decide
    omega
  · rw [if_neg h]
    rw [Int32.le_iff_toInt_le] at h
    have e0 : (0 : Int32).toInt = 0 := by decide
    have en : (-a).toInt = -a.toInt := by
      rw [Int32.toInt_neg, Int.bmod_eq_of_le (by omega) (by omega)]
    omega
theorem q_thing {τ : Hp} {D : Dt} {lno : Nat → Int32} {ot : Option Tk} (n : Nat) (h : Inv τ D lno ot) (a : Int32) : SQ τ (F_X11_thing n 0 a) (F_X12_thing n 48 a) := by
  have L := h.1.1
  obtain ⟨c, m, d, e', f, w⟩ := h.2.1
  have hth := d.1.2.1
  have hB := h.1.2.2.2.1
  have hc1 := c.1
  obtain ⟨⟨M0, M1, M2, M3, M4, M5, M6, M7, M8, M9, M10, M11, M12, M28, M29⟩, K49, K50, K51, K52, K53, K54, K55, K56, K57, K58, K59, K60, K61, K62, K63⟩ := hB
  obtain ⟨r65, ⟨R1, R3, R4, R6, R7, R15, R16, R17, R18⟩, L1, L2, L3, L4, L5, L6, L7, L8, L9⟩ := hc1
  by_cases h0 : a < -20 ∨ 20 < a
  · refine SQ.no h (-1) ?_ ?_
    · unfold F_X11_thing
      by_cases c1 : a < -20
      · rw [if_pos c1]
      · rw [if_neg c1, if_neg (Int32.not_le.mpr (h0.resolve_left c1))]
    · unfold F_X12_thing
      rw [qk_b2 (isIn_v n (y := -20) (z := 20) a (-20) 20 rfl rfl rfl _), if_pos h0, if_pos rfl]
  have k1 : ¬ a < -20 := fun q => h0 (Or.inl q)
  have k2 : a ≤ 20 := nle_lt fun q => h0 (Or.inr q)
  by_cases hf : cT (dC D) = 12
  · refine SQ.no h (-2) ?_ ?_
    · unfold F_X11_thing
      rw [if_neg k1, if_pos k2, L.1, qk_s1, c.2.1, hf, if_neg (show ¬ nI 12 < 12 by decide)]
    · unfold F_X12_thing
      rw [qk_b2 (isIn_v n (y := -20) (z := 20) a (-20) 20 rfl rfl rfl _), if_neg h0, if_neg (by decide), M0, qk_s1, z_0, K49, kq_0 (by decide), m.1, hf, if_pos (show nI 12 = 12 from rfl)]
  have ht : cT (dC D) < 12 := by omega
  have hsi : ∀ i, i < cJ (dC D) → isS (cT (dC D)) (dH D i) := fun i hi => (d.2.2 i hi).1
  refine ⟨nI (cT (dC D)), wI τ (up2 (up2 (hI τ) 2 (cT (dC D)) a) 1 0 (nI (cT (dC D) + 1))), wI τ (up2 (up2 (up2 (up2 (hI τ) 2 (cT (dC D)) a) 1 0 (nI (cT (dC D) + 1))) 49 (7 + cT (dC D)) a) 49 0 (nI (cT (dC D) + 1))), (thC (dC D) a, D.2), lno, ot, ?_, ?_, ?_, rfl⟩
  · unfold F_X11_thing
    have st := q_st (σ := τ) (a := 2) (i := cT (dC D)) (N := 12) n a L1 ht (by omega)
    rw [if_neg k1, if_pos k2, L.1, qk_s1, c.2.1, if_pos (show nI (cT (dC D)) < 12 from nI_lt (b := 12) ht (by omega)), qk_s1, R1, qk_s1, qk_s1, c.2.1, qk_b1 st, pI_w, wI_R, L.1, qk_s1, wI_I, up_i (by omega), c.2.1, nI_1, wI_p, qk_lt, wI_R, L.1, qk_s1, wI_I, up_s, nI_s1]
  · unfold F_X12_thing
    generalize hg : up2 (up2 (hI τ) 2 (cT (dC D)) a) 1 0 (nI (cT (dC D) + 1)) = g
    have e49 : g 49 0 = nI (cT (dC D)) := by rw [← hg, up_i (by omega), up_i (by omega)]; exact m.1
    have hne : ¬ nI (cT (dC D)) = 12 := fun q => hf ((nI_eq (a := cT (dC D)) (b := 12) (by omega) (by omega)).mp q)
    rw [qk_b2 (isIn_v n (y := -20) (z := 20) a (-20) 20 rfl rfl rfl _), if_neg h0, if_neg (by decide), wI_R, M0, qk_s1, z_0, wI_L, K49, kq_0 (by decide), wI_I, e49, if_neg hne, qk_s1, qk_s1, K49, kq_0 (by decide), e49, l_7, qk_in (by omega) (by omega), nI_clamp (by omega), wI_p, qk_lt, wI_R, M0, qk_s1, wI_L, K49, kq_0 (by decide), kq_0 (by decide), wI_I, up_j (by omega), e49, nI_1, wI_p, qk_lt, wI_R, M0, qk_s1, wI_L, K49, kq_0 (by decide), wI_I, up_s, nI_s1]
  · generalize hg : up2 (up2 (up2 (up2 (hI τ) 2 (cT (dC D)) a) 1 0 (nI (cT (dC D) + 1))) 49 (7 + cT (dC D)) a) 49 0 (nI (cT (dC D) + 1)) = g
    have hFr : Fr (fun a j => NW a j ∨ isStk τ a) (hI τ) g := by
      rw [← hg]
      exact ((((Fr.rf _ _).up (Or.inl (by unfold NW; omega))).up (Or.inl (by unfold NW; omega))).up (Or.inl (by unfold NW; omega))).up (Or.inl (by unfold NW; omega))
    have e : ∀ b j, b ≠ 2 → (b ≠ 1 ∨ j ≠ 0) → b ≠ 49 → g b j = hI τ b j := fun b j h1 h2 h3 => by
      rw [← hg]; unfold up2; rw [if_neg (by omega), if_neg (by omega), if_neg (by omega), if_neg (by omega)]
    have e49 : ∀ j, j ≠ 0 → j ≠ 7 + cT (dC D) → g 49 j = hI τ 49 j := fun j h1 h2 => by
      rw [← hg]; unfold up2; rw [if_neg (by omega), if_neg (by omega), if_neg (by omega), if_neg (by omega)]
    have ix : IX τ (hI τ) g := fun b j h1 h2 h3 => e b j (by omega) (by omega) (by omega)
    have g490 : g 49 0 = nI (cT (dC D) + 1) := by rw [← hg, up_s]
    have g10 : g 1 0 = nI (cT (dC D) + 1) := by rw [← hg, up_i (by omega), up_i (by omega), up_s]
    have g2 : ∀ t, t < cT (dC D) + 1 → g 2 t = upf (cS (dC D)) (cT (dC D)) a t := fun t ht' => by
      rw [← hg, up_i (by omega), up_i (by omega), up_i (by omega)]
      by_cases q : t = cT (dC D)
      · rw [q, up_s, upf_s]
      · rw [up_j q, upf_n _ _ q]; exact c.2.2.2.1 t (by omega)
    have g7 : ∀ t, t < cT (dC D) + 1 → g 49 (7 + t) = upf (cS (dC D)) (cT (dC D)) a t := fun t ht' => by
      rw [← hg, up_j (by omega)]
      by_cases q : t = cT (dC D)
      · rw [q, up_s, upf_s]
      · rw [up_j (by omega), up_i (by omega), up_i (by omega), upf_n _ _ q]; exact m.2.2.2.1 t (by omega)
    refine h.ni hFr ⟨⟨c.1, g10, (e 1 2 (by omega) (by omega) (by omega)).trans c.2.2.1, g2, fun j hj => ?_, (e 1 5 (by omega) (by omega) (by omega)).trans c.2.2.2.2.2.1, fun l hl => ?_, ?_⟩, ⟨g490, (e49 1 (by omega) (by omega)).trans m.2.1, (e49 2 (by omega) (by omega)).trans m.2.2.1, g7, (e49 3 (by omega) (by omega)).trans m.2.2.2.2.1, (e49 4 (by omega) (by omega)).trans m.2.2.2.2.2.1, (e49 5 (by omega) (by omega)).trans m.2.2.2.2.2.2.1, (e49 6 (by omega) (by omega)).trans m.2.2.2.2.2.2.2.1, fun j hj => ?_, fun l hl => ?_⟩, ⟨⟨d.1.1, ht, fun t ht' => ?_, d.1.2.2.2⟩, d.2.1, fun j hj => ⟨isS_m (d.2.2 j hj).1, (d.2.2 j hj).2⟩⟩, ?_, ?_, ?_⟩
    · obtain ⟨T, t1, t2, t3, t4, t5⟩ := c.2.2.2.2.1 j hj
      exact ⟨T, t1, t2.ext (XG.I τ g) ix, (t2.cell (τ := τ) ix 0).trans t3, (t2.cell (τ := τ) ix 6).trans t4, (e 4 j (by omega) (by omega) (by omega)).trans t5⟩
    · obtain ⟨q, q1, q2⟩ := c.2.2.2.2.2.2.1 l hl
      exact ⟨q, q1, q2.ext (XG.I τ g) ix⟩
    · show RU g 1 _ _ _ _
      unfold RU
      rw [e 6 0 (by omega) (by omega) (by omega), e 6 1 (by omega) (by omega) (by omega), e 6 2 (by omega) (by omega) (by omega), e 6 3 (by omega) (by omega) (by omega)]
      exact c.2.2.2.2.2.2.2
    · show g 49 _ = _ ∧ _
      rw [wI_I, e49 _ (by omega) (by omega), e49 _ (by omega) (by omega), e49 _ (by omega) (by omega), e49 _ (by omega) (by omega), e49 _ (by omega) (by omega), e49 _ (by omega) (by omega), e49 _ (by omega) (by omega)]
      exact m.2.2.2.2.2.2.2.2.1 j hj
    · obtain ⟨N, x, cs, n1, n2, n3, n4⟩ := m.2.2.2.2.2.2.2.2.2 l hl
      exact ⟨N, x, cs, (e49 _ (by omega) (by omega)).trans n1, n2, fun i hi => (e _ _ (by omega) (by omega) (by omega)).trans (n3 i hi), n4⟩
    · show ¬ abS (upf (cS (dC D)) (cT (dC D)) a t) ≤ -1
      by_cases q : t = cT (dC D)
      · rw [q, upf_s]
        exact abS_20 k1 k2
      · rw [upf_n _ _ q]
        exact d.1.2.2.1 t (by have : t < cT (dC D) + 1 := ht'; omega)
    · cases ot with
      | none =>
        obtain ⟨e1, e2, e3, e4, e5, e6, e7⟩ := e'
        refine ⟨(e 1 8 (by omega) (by omega) (by omega)).trans e1, (e 1 10 (by omega) (by omega) (by omega)).trans e2, (e 1 11 (by omega) (by omega) (by omega)).trans e3, (e 1 12 (by omega) (by omega) (by omega)).trans e4, (e 1 13 (by omega) (by omega) (by omega)).trans e5, trivial, fun i hi => ?_⟩
        have q := e7 i hi
        refine ⟨(e _ i (by omega) (by omega) (by omega)).trans q.1, ((e _ i (by omega) (by omega) (by omega)).trans q.2.1).trans (wgh_th (hsi i hi) (by omega)).symm, (e _ i (by omega) (by omega) (by omega)).trans q.2.2.1, (e _ i (by omega) (by omega) (by omega)).trans q.2.2.2⟩
      | some T =>
        obtain ⟨e1, e2, e3, e4, e5, e6, ld, e7⟩ := e'
        refine ⟨(e 1 8 (by omega) (by omega) (by omega)).trans e1, (e 1 10 (by omega) (by omega) (by omega)).trans e2, (e 1 11 (by omega) (by omega) (by omega)).trans e3, ?_, ((e 1 14 (by omega) (by omega) (by omega)).trans e5).trans (allH_th ht w.1 w.2.1.1).symm, fun i hi => ?_, ld, (e 1 9 (by omega) (by omega) (by omega)).trans e7.1, e7.2⟩
        · rw [wI_I, e 1 12 (by omega) (by omega) (by omega)]; exact e4
        · have q := e6 i hi
          exact ⟨(e _ i (by omega) (by omega) (by omega)).trans q.1, ((e _ i (by omega) (by omega) (by omega)).trans q.2.1).trans (wgh_th (w.2.1.1 i hi) (by omega)).symm, (e _ i (by omega) (by omega) (by omega)).trans q.2.2.1, (e _ i (by omega) (by omega) (by omega)).trans q.2.2.2⟩
    · cases ot with
      | none =>
        show ¬ g 53 6 = 1
        rw [e 53 6 (by omega) (by omega) (by omega)]; exact f
      | some T => exact ⟨(e 53 6 (by omega) (by omega) (by omega)).trans f.1, f.2.1.fr fun j => e 53 j (by omega) (by omega) (by omega), (e 53 5 (by omega) (by omega) (by omega)).trans f.2.2.1, fun i hi => (e 53 _ (by omega) (by omega) (by omega)).trans (f.2.2.2 i hi)⟩
    · cases ot with
      | none => trivial
      | some T => exact ⟨w.1, ⟨fun i hi => isS_m (w.2.1.1 i hi), w.2.1.2⟩, w.2.2⟩
