/-! leftOut, on -/
theorem pc_J {s J : Nat} (h : s < 2 ^ J) (hJ : J ≤ 12) : pc s = cnt J (exQq s) := by
  unfold pc
  have h2 := cnt_13 (exQq s) (m := J) (d := 12 - J)
  rw [show J + (12 - J) = 12 by omega] at h2
  rw [← h2]
  exact cnt_cg fun i hi => by
    by_cases c : i < J
    · rw [decide_eq_true c]; rfl
    · rw [decide_eq_false c, bi_ge h hJ (by omega) (by omega)]; rfl
theorem pkn_B {s J : Nat} (h : s < 2 ^ J) (hJ : J ≤ 12) : pkn (exQq s) J + pc s = J := by
  rw [pc_J h hJ]
  exact cnt_not (exQq s) J
def ndW (D : Dt) (z : Nat) : Nat := max 1 (min (dk D) (cJ (dC D)) - z)
def rW (D : Dt) (s : Nat) : Int32 := rE D (exQq s) (rH D (exQq s)) (ndW D (pc s)) (ldP (exQq s) (ldN D)) (da D)
theorem nd_c (a b : Nat) (ha : a ≤ 12) (hb : b ≤ 12) : (if (1 : Int32) < nI a - nI b then nI a - nI b else 1) = nI (max 1 (a - b)) ∧ (if (1 : Int32) ≤ nI a - nI b then nI a - nI b else 1) = nI (max 1 (a - b)) := by
  have : ∀ a : Nat, a < 13 → ∀ b : Nat, b < 13 → (if (1 : Int32) < nI a - nI b then nI a - nI b else 1) = nI (max 1 (a - b)) ∧ (if (1 : Int32) ≤ nI a - nI b then nI a - nI b else 1) = nI (max 1 (a - b)) := by decide +kernel
  exact this a (by omega) b (by omega)
theorem ewo_c {τ : Hp} {D : Dt} {lno : Nat → Int32} {ot : Option Tk} (n : Nat) (hn : 4000 < n) (h : Inv τ D lno ot) (s : Nat) (hs : s < 2 ^ cJ (dC D)) (hz : pc s < cJ (dC D)) : ∃ τ', F_X11_endWithout n 0 (nI s) (nI (pc s)) τ = some (rW D s, τ') ∧ Fq τ τ' := by
  have hJ := h.2.1.2.2.1.1.1
  have L := h.1.1
  have hpk := pkn_B hs hJ
  have hpn : 0 < pkn (exQq s) (cJ (dC D)) := by omega
  have hp : 0 < cJ (dC D) := by omega
  obtain ⟨g, R, a1, a2⟩ := mind_c (ex := exQq s) (wo := nI s) n (by omega) h (fun i hi => rfl) hpn
  have hU := h.2.1.1.2.2.2.2.2.2.2
  have hv : ndW D (pc s) ≤ 12 := by unfold ndW; have := hU.2.2.1; omega
  have a3 := a2.needed (v := ndW D (pc s)) (by unfold ndW; omega) hv
  obtain ⟨g', b1', b2', b3', b4'⟩ := a3.run n hn (hs_r h.2.1.2.2.1)
  have hJC : cJ (rC D (exQq s)) = pkn (exQq s) (cJ (dC D)) := rfl
  have e1 : min (ndW D (pc s)) (cJ (rC D (exQq s))) = ndW D (pc s) := by rw [hJC]; unfold ndW; omega
  have hlp := ldP_lt (ex := exQq s) (ldS_lt (lr := dl D) hp) hpn
  have e2 : ldS (ldP (exQq s) (ldS (dl D) (cJ (dC D)))) (cJ (rC D (exQq s))) = ldP (exQq s) (ldN D) := by
    rw [hJC]
    unfold ldS at hlp ⊢
    unfold ldN ldS
    rw [if_pos hlp]
  rw [e1, e2] at b1'
  refine ⟨wA τ g' R, ?_, b2'.q⟩
  have r11 := h.1.2.2.1.2.1
  have r1 := h.2.1.1.1
  have r0 := r11
  obtain ⟨r65, ⟨R1, R3, R4, R6, R7, R15, R16, R17, R18⟩, L1, L2, L3, L4, L5, L6, L7, L8, L9⟩ := r0
  obtain ⟨-, ⟨-, -, -, -, O7, -⟩, -, -, -, -, P5, -⟩ := r1
  have hst := q_st (σ := wA τ g R) (a := 16) (i := 0) (N := 4) n (nI (ndW D (pc s))) L5 (by omega) (by omega)
  have fr0 : ∀ a j, a < 11 → g a j = hI τ a j := fun a j hh => a2.2.2.2.1 a j (fun w => by
    rcases w with w | w
    · omega
    · exact stk_lo (by omega) w)
  have hnd := need_c (σ := wA τ g R) (g := g) (r := 1) (J := cJ (dC D)) (k := dk D) n ((a2.2.2.2.2 1 7 (by omega)).trans O7) P5 ((fr0 1 2 (by omega)).trans h.2.1.1.2.2.1) hJ ((fr0 6 0 (by omega)).trans hU.1) hU.2.2.1
  have hnd' : F_X3_needed n 1 (wA τ g R) = some (nI (min (dk D) (cJ (dC D))), wA τ g R) := hnd
  unfold F_X11_endWithout
  rw [L.2.1, qk_s1, L.1, qk_s1, qk_b1 a1, wA_R, a2.2.2.2.2 0 1 (by omega), L.2.1, qk_s1, a2.2.2.2.2 11 7 (by omega), R7, qk_s1, a2.2.2.2.2 0 0 (by omega), L.1, qk_s1, qk_b2 hnd', (nd_c _ _ (by omega) (by omega)).1, qk_lt]
  have hst' : F_X11_store n (11 + 5) 0 (nI (max 1 (min (dk D) (cJ (dC D)) - pc s))) (wA τ g R) = some (pI (wA τ g R) 16 0 (nI (ndW D (pc s)))) := hst
  rw [qk_b1 hst', wA_p, wA_R, a2.2.2.2.2 0 1 (by omega), L.2.1, qk_s1, qk_b2 b1']
  rfl
theorem rwo_m {τ : Hp} {D : Dt} {lno : Nat → Int32} {ot : Option Tk} (n : Nat) (hn : 4000 < n) (h : Inv τ D lno ot) (s : Nat) (hs : s < 2 ^ cJ (dC D)) (hz : pc s < cJ (dC D)) : ∃ τ', F_X12_runWithout n 48 (nI s) τ = some (rW D s, τ') ∧ Fq τ τ' := by
  obtain ⟨t, ht⟩ := at_m h
  have hJ := h.2.1.2.2.1.1.1
  have hpk := pkn_B hs hJ
  have hpn : 0 < pkn (exQq s) (cJ (dC D)) := by omega
  have hp : 0 < cJ (dC D) := by omega
  have hU := h.2.1.1.2.2.2.2.2.2.2
  have hB := h.1.2.2.2.1
  have hB0 := hB
  have m := h.2.1.2.1
  have d := h.2.1.2.2.1
  have hl : ldS (dl D) (cJ (dC D)) < cJ (dC D) := ldS_lt hp
  have hs4 : s < 4096 := Nat.lt_of_lt_of_le hs (by
    have : 2 ^ cJ (dC D) ≤ 2 ^ 12 := Nat.pow_le_pow_right (by omega) hJ
    omega)
  obtain ⟨⟨M0, M1, M2, M3, M4, M5, M6, M7, M8, M9, M10, M11, M12, M28, M29⟩, K49, K50, K51, K52, K53, K54, K55, K56, K57, K58, K59, K60, K61, K62, K63⟩ := hB
  have loop := q_for (fun f i (a : Int32 × Int32 × (Nat → Nat → Int32)) => F_X12_runWithout_7 n f 48 (nI s) a.1 a.2.1 (nI i) (wM τ a.2.2 t)) (fun i a => a.1 = nI (pkn (exQq s) i) ∧ a.2.1 = nI (if ldS (dl D) (cJ (dC D)) < i then ldP (exQq s) (ldS (dl D) (cJ (dC D))) else 0) ∧ (∀ p j, p ≠ 54 → a.2.2 p j = hI τ p j) ∧ ∀ q, q < pkn (exQq s) i → a.2.2 54 (7 + q) = nI (pkx (exQq s) i q) ∧ a.2.2 54 (19 + q) = dH D (pkx (exQq s) i q)) (fun ρ => ∃ τ', ρ = (rW D s, τ') ∧ Fq τ τ') (cJ (dC D)) (fun i f a hi hp' => by
    obtain ⟨v2, v3, g⟩ := a
    obtain ⟨p1, p2, p3, p4⟩ := hp'
    simp only at p1 p2 p3 p4
    subst p1 p2
    have hk := pkn_le (exQq s) i
    have e49 : ∀ j, g 49 j = hI τ 49 j := fun j => p3 49 j (by omega)
    have m' := rwm_fr (h := g) e49 (fun j => p3 51 j (by omega)) m
    have hne : (nI i = nI (ldS (dl D) (cJ (dC D)))) ↔ i = ldS (dl D) (cJ (dC D)) := nI_eq (by omega) (by omega)
    simp only [F_X12_runWithout_7, F_X12_runWithout_48, F_X12_runWithout_79]
    rw [wM_R (by decide), M0, qk_s1, wM_L, K49, z_1, kq_1 (by decide), wM_I, m'.2.1, if_neg (nI_ge hi (by omega)), bi_v, ← nI_succ]
    cases he : exQq s i
    · have he' : bi (nI s) i = false := he
      rw [he', if_neg (by decide), qk_s1, K49, kq_1 (by decide), m'.2.1, qk_b2 (ldo_m n hB0 m'.2.2.2.2.2.1 hU.2.2.2.2.1 hJ)]
      have seat : ∀ (v3 : Int32), (v3 = nI (if ldS (dl D) (cJ (dC D)) < i + 1 then ldP (exQq s) (ldS (dl D) (cJ (dC D))) else 0)) → ∃ a' : Int32 × Int32 × (Nat → Nat → Int32), (b1 (hR (wM τ g t) 48 5) fun i10 => ck (¬ ((7 + nI (pkn (exQq s) i)) < 0 ∨ hL (wM τ g t) i10 ≤ (7 + nI (pkn (exQq s) i)).toNatClampNeg)) (lt (pI (wM τ g t) i10 (7 + nI (pkn (exQq s) i)).toNatClampNeg (nI i)) fun σ11 => b1 (hR σ11 48 5) fun i12 => b2 (F_X12_get n 48 (nI i) 6 σ11) fun r14 σ13 => ck (¬ ((19 + nI (pkn (exQq s) i)) < 0 ∨ hL σ13 i12 ≤ (19 + nI (pkn (exQq s) i)).toNatClampNeg)) (lt (pI σ13 i12 (19 + nI (pkn (exQq s) i)).toNatClampNeg r14) fun σ15 => F_X12_runWithout_7 n f 48 (nI s) (nI (pkn (exQq s) i) + 1) v3 (nI (i + 1)) σ15))) = F_X12_runWithout_7 n f 48 (nI s) a'.1 a'.2.1 (nI (i + 1)) (wM τ a'.2.2 t) ∧ a'.1 = nI (pkn (exQq s) (i + 1)) ∧ a'.2.1 = nI (if ldS (dl D) (cJ (dC D)) < i + 1 then ldP (exQq s) (ldS (dl D) (cJ (dC D))) else 0) ∧ (∀ p j, p ≠ 54 → a'.2.2 p j = hI τ p j) ∧ ∀ q, q < pkn (exQq s) (i + 1) → a'.2.2 54 (7 + q) = nI (pkx (exQq s) (i + 1) q) ∧ a'.2.2 54 (19 + q) = dH D (pkx (exQq s) (i + 1) q) := by
        intro v3 hv
        have hget := get_m (σ := τ) (g := up2 g 54 (7 + pkn (exQq s) i) (nI i)) (t := t) (k := i) (x := 6) (x' := 6) n hB0 rfl (by omega) (by omega)
        rw [up_i (by omega), e49, (m.2.2.2.2.2.2.2.2.1 i hi).2.2.2.2.2.2] at hget
        rw [wM_R (by decide), M5, qk_s1, l_7, l_19, wM_L, K54, qk_in (by omega) (by omega), nI_clamp (by omega), qk_lt, wM_p, wM_R (by decide), M5, qk_s1, qk_b2 hget, wM_L, K54, qk_in (by omega) (by omega), nI_clamp (by omega), qk_lt, wM_p, nI_1, pkn_s, he, if_neg (by decide)]
        refine ⟨(_, _, _), rfl, rfl, hv, fun p j hp2 => ?_, fun q hq => ?_⟩
        · show up2 (up2 g 54 _ _) 54 _ _ p j = _
          rw [up_i hp2, up_i hp2]; exact p3 p j hp2
        · show up2 (up2 g 54 (7 + pkn (exQq s) i) (nI i)) 54 (19 + pkn (exQq s) i) (dH D i) 54 (7 + q) = _ ∧ up2 (up2 g 54 (7 + pkn (exQq s) i) (nI i)) 54 (19 + pkn (exQq s) i) (dH D i) 54 (19 + q) = _
          simp only [pkx, he, Bool.false_eq_true, if_false]
          by_cases h1 : q = pkn (exQq s) i
          · rw [h1, up_j (by omega), up_s, up_s, if_pos rfl]; exact ⟨rfl, rfl⟩
          · rw [up_j (show 7 + q ≠ 19 + pkn (exQq s) i by omega), up_j (by omega), up_j (by omega), up_j (show 19 + q ≠ 7 + pkn (exQq s) i by omega), if_neg h1]
            exact p4 q (by omega)
      by_cases hll : i = ldS (dl D) (cJ (dC D))
      · rw [if_pos (hne.mpr hll)]
        refine seat _ ?_
        rw [if_pos (by omega)]
        unfold ldP
        rw [← hll, he]; rfl
      · rw [if_neg (fun q => hll (hne.mp q))]
        refine seat _ ?_
        by_cases h1 : ldS (dl D) (cJ (dC D)) < i
        · rw [if_pos h1, if_pos (by omega)]
        · rw [if_neg h1, if_neg (by omega)]
    · have he' : bi (nI s) i = true := he
      rw [he', if_pos (by decide)]
      refine ⟨(nI (pkn (exQq s) i), nI (if ldS (dl D) (cJ (dC D)) < i then ldP (exQq s) (ldS (dl D) (cJ (dC D))) else 0), g), rfl, ?_, ?_, p3, fun q hq => ?_⟩
      · rw [pkn_s, he]; rfl
      · show nI (if ldS (dl D) (cJ (dC D)) < i then ldP (exQq s) (ldS (dl D) (cJ (dC D))) else 0) = nI (if ldS (dl D) (cJ (dC D)) < i + 1 then ldP (exQq s) (ldS (dl D) (cJ (dC D))) else 0)
        by_cases h1 : ldS (dl D) (cJ (dC D)) < i
        · rw [if_pos h1, if_pos (by omega)]
        · by_cases h3 : ldS (dl D) (cJ (dC D)) = i
          · rw [if_neg h1, if_pos (by omega)]
            unfold ldP
            rw [h3, he]; rfl
          · rw [if_neg h1, if_neg (by omega)]
      · rw [pkn_s, he, if_pos rfl] at hq
        simp only [pkx, he, if_true]
        exact p4 q hq) (fun f a hp' => by
    obtain ⟨v2, v3, g⟩ := a
    obtain ⟨p1, p2, p3, p4⟩ := hp'
    simp only at p1 p2 p3 p4
    subst p1 p2
    rw [if_pos hl]
    have e49 : ∀ j, g 49 j = hI τ 49 j := fun j => p3 49 j (by omega)
    have m' := rwm_fr (h := g) e49 (fun j => p3 51 j (by omega)) m
    have m5 : RWm (up2 g 54 5 (nI (pkn (exQq s) (cJ (dC D))))) 49 51 D lno := rwm_fr (fun j => up_i (by omega)) (fun j => up_i (by omega)) m'
    have hC : MC (up2 g 54 5 (nI (pkn (exQq s) (cJ (dC D))))) 54 (rC D (exQq s)) := mc_m m5 d hpn (up_s _ _ _ _) (fun i hi => by rw [up_j (by omega)]; exact (p4 i hi).1)
    have hH : MH (up2 g 54 5 (nI (pkn (exQq s) (cJ (dC D))))) 54 (cJ (rC D (exQq s))) (rH D (exQq s)) := fun i hi => by rw [up_j (by omega)]; exact (p4 i hi).2
    obtain ⟨g2, t2, r1, r2⟩ := run_m (t := t) (nd := ndW D (pc s)) (ld := ldP (exQq s) (ldN D)) (ha := da D) n hn hB0 m5 hC hH (hs_r d) (ldP_lt hl hpn) rfl (by unfold ndW; have := hU.2.2.1; omega) hU.2.2.2.2.2.2.2
    refine ⟨_, ?_, wM τ g2 t2, rfl, fq_m (fun a j h1 h2 h3 h4 => by rw [r2.1 a j (by omega) h2 h3 h4, up_i h2]; exact p3 a j h2)⟩
    have r1' : F_X12_runs n 48 (nI (ldP (exQq s) (ldS (dl D) (cJ (dC D))))) (nI (max 1 (min (dk D) (cJ (dC D)) - pc s))) (if da D then 1 else 0) (wM τ (up2 g 54 5 (nI (pkn (exQq s) (cJ (dC D))))) t) = some (rW D s, wM τ g2 t2) := r1
    have fin : ∀ x : Int32, x = nI (max 1 (min (dk D) (cJ (dC D)) - pc s)) → F_X12_runWithout_117 n 48 x (nI (ldP (exQq s) (ldS (dl D) (cJ (dC D))))) 48 (wM τ (up2 g 54 5 (nI (pkn (exQq s) (cJ (dC D))))) t) = some (rW D s, wM τ g2 t2) := by
      intro x hx
      subst hx
      unfold F_X12_runWithout_117 F_X12_runWithout_132
      rw [wM_R (by decide), M0, qk_s1, z_5, wM_L, K49, kq_5 (by decide), wM_I, v3_m m5]
      by_cases hda : da D = true
      · rw [if_pos hda] at r1' ⊢
        rw [qk_b2 r1']
      · rw [if_neg hda] at r1' ⊢
        rw [qk_b2 r1']
    simp only [F_X12_runWithout_7, F_X12_runWithout_85]
    rw [wM_R (by decide), M0, qk_s1, wM_L, K49, z_1, kq_1 (by decide), wM_I, m'.2.1, if_pos (nI_le (Nat.le_refl _) (by omega)), wM_R (by decide), M5, qk_s1, z_5, K54, kq_5 (by decide), qk_lt, wM_p, qk_b2 (nn_m n hB0 m5.2.2.2.2.1 m5.2.1 hU.2.2.1 hJ), qk_b2 (bits_m n (by omega) s hs4 _)]
    have nd2 := (nd_c (min (dk D) (cJ (dC D))) (pc s) (by omega) (by omega)).2
    by_cases c : (1 : Int32) ≤ nI (min (dk D) (cJ (dC D))) - nI (pc s)
    · rw [if_pos c] at nd2 ⊢
      exact fin _ nd2
    · rw [if_neg c] at nd2 ⊢
      exact fin _ nd2) n (0, 0, hI τ) (by omega) ⟨rfl, by rw [if_neg (by omega)]; rfl, fun _ _ _ => rfl, fun q hq => by simp [pkn, cnt] at hq⟩
  obtain ⟨ρ, l1, τ', rfl, l2⟩ := loop
  refine ⟨τ', ?_, l2⟩
  conv => lhs; rw [ht]
  exact l1
def inS (D : Dt) (e : Int32) (z : Nat) : Nat → Nat → Option Nat
  | 0, _ => none
  | d + 1, s => if pc s = z then (if rW D s = e then some s else inS D e z d (s + 1)) else inS D e z d (s + 1)
def outS (D : Dt) (e : Int32) : Nat → Nat → Int32
  | 0, _ => -4
  | d + 1, z => if 3 < z then -4 else if cJ (dC D) ≤ z then -4 else match inS D e z (2 ^ cJ (dC D)) 0 with
    | some s => nI s
    | none => outS D e d (z + 1)
theorem q_left {τ : Hp} {D : Dt} {lno : Nat → Int32} {ot : Option Tk} (n : Nat) (hn : 4200 < n) (h : Inv τ D lno ot) (a : Int32) : BQ τ D lno ot (F_X11_leftOut n 0 a) (F_X12_leftOut n 48 a) := by
  have hJ := h.2.1.2.2.1.1.1
  have hP : 2 ^ cJ (dC D) ≤ 4096 := by
    have : 2 ^ cJ (dC D) ≤ 2 ^ 12 := Nat.pow_le_pow_right (by omega) hJ
    omega
  by_cases h0 : a < 0 ∨ nI 2 < a
  · refine BQ.of (-1) ?_ (fun τ1 h1 => ?_)
    · unfold F_X11_leftOut
      rw [qk_b2 (isE_c n a τ), if_pos h0, if_pos rfl]
    · unfold F_X12_leftOut
      rw [qk_b2 (isIn_v n (y := 0) (z := 2) a 0 2 rfl rfl rfl _), if_pos (show a < 0 ∨ 2 < a from h0), if_pos rfl]
  · by_cases hz : cJ (dC D) = 0
    · refine BQ.of (-3) ?_ (fun τ1 h1 => ?_)
      · unfold F_X11_leftOut
        rw [qk_b2 (isE_c n a τ), if_neg h0, if_neg (by decide), j0_c h, if_pos hz]
      · unfold F_X12_leftOut
        rw [qk_b2 (isIn_v n (y := 0) (z := 2) a 0 2 rfl rfl rfl _), if_neg (show ¬ (a < 0 ∨ 2 < a) from h0), if_neg (by decide), j0_m h1, if_pos hz]
    · have hp : 0 < cJ (dC D) := by omega
      refine ⟨outS D a 5 0, ?_, fun τ1 h1 => ?_⟩
      · have inner : ∀ (K : Nat → Int32 → Int32 → Hp → Option (Int32 × Hp)) (z : Nat), z < cJ (dC D) → ∀ d s f τ2, s + d = 2 ^ cJ (dC D) → d < f → Fq τ τ2 → ∃ τ3, Fq τ τ3 ∧ F_X11_leftOut_42 n K f 0 a (nI z) (nI s) τ2 = match inS D a z d s with
            | some s' => some (nI s', τ3)
            | none => K 0 a (nI z + 1) τ3 := by
          intro K z hzJ d
          induction d with
          | zero =>
            intro s f τ2 hs hf h2'
            obtain ⟨f, rfl⟩ : ∃ q, f = q + 1 := ⟨f - 1, by omega⟩
            have h2 := h.fq h2'
            refine ⟨τ2, h2', ?_⟩
            simp only [F_X11_leftOut_42, F_X11_leftOut_81, inS]
            rw [h2.1.1.1, qk_s1, h2.2.1.1.2.2.1, pow_sh _ (by omega), if_pos (nI_le (by omega) (by omega))]
          | succ d ih =>
            intro s f τ2 hs hf h2'
            obtain ⟨f, rfl⟩ : ∃ q, f = q + 1 := ⟨f - 1, by omega⟩
            have h2 := h.fq h2'
            have hpcl : pc s ≤ 12 := cnt_le _ _
            simp only [F_X11_leftOut_42, F_X11_leftOut_75, inS]
            rw [h2.1.1.1, qk_s1, h2.2.1.1.2.2.1, pow_sh _ (by omega), if_neg (nI_ge (by omega) (by omega)), bc_v, qk_s2, bc_pc s (by omega), ← nI_succ]
            by_cases c1 : pc s = z
            · rw [if_pos (by rw [c1]), if_pos c1]
              obtain ⟨τ3, e1, e2⟩ := ewo_c n (by omega) h2 s (by omega) (by omega)
              rw [c1] at e1
              rw [qk_b2 e1]
              by_cases c2 : rW D s = a
              · rw [if_pos c2, if_pos c2]; exact ⟨τ3, h2'.tr e2, rfl⟩
              · rw [if_neg c2, if_neg c2]; exact ih (s + 1) f τ3 (by omega) (by omega) (h2'.tr e2)
            · rw [if_neg (show ¬ nI (pc s) = nI z by rw [nI_eq (by omega) (by omega)]; exact c1), if_neg c1]
              exact ih (s + 1) f τ2 (by omega) (by omega) h2'
        have outer : ∀ d z f τ2, z + d = 5 → d < f → Fq τ τ2 → ∃ τ3, Fq τ τ3 ∧ F_X11_leftOut_24 n f 0 a (nI z) τ2 = some (outS D a d z, τ3) := by
          intro d
          induction d with
          | zero =>
            intro z f τ2 hzd hf h2'
            obtain ⟨f, rfl⟩ : ∃ q, f = q + 1 := ⟨f - 1, by omega⟩
            refine ⟨τ2, h2', ?_⟩
            obtain rfl : z = 5 := by omega
            simp only [F_X11_leftOut_24, outS]
            rw [if_pos (show (3 : Int32) < nI 5 by decide)]
          | succ d ih =>
            intro z f τ2 hzd hf h2'
            obtain ⟨f, rfl⟩ : ∃ q, f = q + 1 := ⟨f - 1, by omega⟩
            have h2 := h.fq h2'
            simp only [F_X11_leftOut_24, outS]
            by_cases c1 : 3 < z
            · rw [if_pos (show (3 : Int32) < nI z from nI_lt (a := 3) c1 (by omega)), if_pos c1]; exact ⟨τ2, h2', rfl⟩
            · rw [if_neg (show ¬ (3 : Int32) < nI z from nI_nlt (b := z) (a := 3) (by omega) (by omega)), if_neg c1, h2.1.1.1, qk_s1, h2.2.1.1.2.2.1]
              by_cases c2 : cJ (dC D) ≤ z
              · rw [if_pos (nI_le c2 (by omega)), if_pos c2]; exact ⟨τ2, h2', rfl⟩
              · rw [if_neg (nI_ge (by omega) (by omega)), if_neg c2]
                obtain ⟨τ3, e1, e2⟩ := inner (F_X11_leftOut_24 n f) z (by omega) (2 ^ cJ (dC D)) 0 n τ2 (by omega) (by omega) h2'
                rw [q_0, e2]
                cases hi : inS D a z (2 ^ cJ (dC D)) 0 with
                | some s => exact ⟨τ3, e1, rfl⟩
                | none =>
                  simp only
                  rw [nI_1]
                  exact ih (z + 1) f τ3 (by omega) (by omega) e1
        obtain ⟨τ3, e1, e2⟩ := outer 5 0 n τ (by omega) (by omega) (Fq.rf τ)
        refine ⟨τ3, ?_, e1⟩
        unfold F_X11_leftOut
        rw [qk_b2 (isE_c n a τ), if_neg h0, if_neg (by decide), j0_c h, if_neg hz]
        exact e2
      · have inner : ∀ (K : Nat → Int32 → Int32 → Hp → Option (Int32 × Hp)) (z : Nat), z < cJ (dC D) → ∀ d s f τ2, s + d = 2 ^ cJ (dC D) → d < f → Fq τ1 τ2 → ∃ τ3, Fq τ1 τ3 ∧ F_X12_leftOut_45 n K f 48 a (nI z) (nI s) τ2 = match inS D a z d s with
            | some s' => some (nI s', τ3)
            | none => K 48 a (nI z + 1) τ3 := by
          intro K z hzJ d
          induction d with
          | zero =>
            intro s f τ2 hs hf h2'
            obtain ⟨f, rfl⟩ : ∃ q, f = q + 1 := ⟨f - 1, by omega⟩
            have h2 := h1.fq h2'
            have hB := h2.1.2.2.2.1
            obtain ⟨⟨M0, M1, M2, M3, M4, M5, M6, M7, M8, M9, M10, M11, M12, M28, M29⟩, K49, K50, K51, K52, K53, K54, K55, K56, K57, K58, K59, K60, K61, K62, K63⟩ := hB
            refine ⟨τ2, h2', ?_⟩
            simp only [F_X12_leftOut_45, F_X12_leftOut_82, inS]
            rw [M0, qk_s1, K49, z_1, kq_1 (by decide), h2.2.1.2.1.2.1, pow_sh _ (by omega), if_pos (nI_le (by omega) (by omega))]
          | succ d ih =>
            intro s f τ2 hs hf h2'
            obtain ⟨f, rfl⟩ : ∃ q, f = q + 1 := ⟨f - 1, by omega⟩
            have h2 := h1.fq h2'
            have hB := h2.1.2.2.2.1
            obtain ⟨⟨M0, M1, M2, M3, M4, M5, M6, M7, M8, M9, M10, M11, M12, M28, M29⟩, K49, K50, K51, K52, K53, K54, K55, K56, K57, K58, K59, K60, K61, K62, K63⟩ := hB
            have hpcl : pc s ≤ 12 := cnt_le _ _
            simp only [F_X12_leftOut_45, F_X12_leftOut_76, inS]
            rw [M0, qk_s1, K49, z_1, kq_1 (by decide), h2.2.1.2.1.2.1, pow_sh _ (by omega), if_neg (nI_ge (by omega) (by omega)), qk_b2 (bits_m n (by omega) s (by omega) _), ← nI_succ]
            by_cases c1 : pc s = z
            · rw [if_pos (by rw [c1]), if_pos c1]
              obtain ⟨τ3, e1, e2⟩ := rwo_m n (by omega) h2 s (by omega) (by omega)
              rw [qk_b2 e1]
              by_cases c2 : rW D s = a
              · rw [if_pos c2, if_pos c2]; exact ⟨τ3, h2'.tr e2, rfl⟩
              · rw [if_neg c2, if_neg c2]; exact ih (s + 1) f τ3 (by omega) (by omega) (h2'.tr e2)
            · rw [if_neg (show ¬ nI (pc s) = nI z by rw [nI_eq (by omega) (by omega)]; exact c1), if_neg c1]
              exact ih (s + 1) f τ2 (by omega) (by omega) h2'
        have outer : ∀ d z f τ2, z + d = 5 → d < f → Fq τ1 τ2 → ∃ τ3, Fq τ1 τ3 ∧ F_X12_leftOut_28 n f 48 a (nI z) τ2 = some (outS D a d z, τ3) := by
          intro d
          induction d with
          | zero =>
            intro z f τ2 hzd hf h2'
            obtain ⟨f, rfl⟩ : ∃ q, f = q + 1 := ⟨f - 1, by omega⟩
            refine ⟨τ2, h2', ?_⟩
            obtain rfl : z = 5 := by omega
            simp only [F_X12_leftOut_28, outS]
            rw [if_pos (show (4 : Int32) ≤ nI 5 by decide)]
          | succ d ih =>
            intro z f τ2 hzd hf h2'
            obtain ⟨f, rfl⟩ : ∃ q, f = q + 1 := ⟨f - 1, by omega⟩
            have h2 := h1.fq h2'
            have hB := h2.1.2.2.2.1
            obtain ⟨⟨M0, M1, M2, M3, M4, M5, M6, M7, M8, M9, M10, M11, M12, M28, M29⟩, K49, K50, K51, K52, K53, K54, K55, K56, K57, K58, K59, K60, K61, K62, K63⟩ := hB
            simp only [F_X12_leftOut_28, outS]
            by_cases c1 : 3 < z
            · rw [if_pos (show (4 : Int32) ≤ nI z from nI_le (a := 4) (by omega) (by omega)), if_pos c1]; exact ⟨τ2, h2', rfl⟩
            · rw [if_neg (show ¬ (4 : Int32) ≤ nI z from nI_ge (b := 4) (by omega) (by omega)), if_neg c1, M0, qk_s1, K49, z_1, kq_1 (by decide), h2.2.1.2.1.2.1]
              by_cases c2 : cJ (dC D) ≤ z
              · rw [if_pos (nI_le c2 (by omega)), if_pos c2]; exact ⟨τ2, h2', rfl⟩
              · rw [if_neg (nI_ge (by omega) (by omega)), if_neg c2]
                obtain ⟨τ3, e1, e2⟩ := inner (F_X12_leftOut_28 n f) z (by omega) (2 ^ cJ (dC D)) 0 n τ2 (by omega) (by omega) h2'
                rw [q_0, e2]
                cases hi : inS D a z (2 ^ cJ (dC D)) 0 with
                | some s => exact ⟨τ3, e1, rfl⟩
                | none =>
                  simp only
                  rw [nI_1]
                  exact ih (z + 1) f τ3 (by omega) (by omega) e1
        obtain ⟨τ3, e1, e2⟩ := outer 5 0 n τ1 (by omega) (by omega) (Fq.rf τ1)
        refine ⟨τ3, ?_, e1⟩
        unfold F_X12_leftOut
        rw [qk_b2 (isIn_v n (y := 0) (z := 2) a 0 2 rfl rfl rfl _), if_neg (show ¬ (a < 0 ∨ 2 < a) from h0), if_neg (by decide), j0_m h1, if_neg hz]
        exact e2
