theorem q_juror {τ : Hp} {D : Dt} {lno : Nat → Int32} {ot : Option Tk} (n : Nat) (hn : 12 < n) (h : Inv τ D lno ot) (a b c d : Int32) : SQ τ (F_X11_juror n 0 a b c d) (F_X12_juror n 48 a b c d) := by
  have L := h.1.1
  obtain ⟨cc, m, dw, -⟩ := h.2.1
  have hB := h.1.2.2.2.1
  have hL := dw.2.1
  have n65 := h.1.2.2.2.2.2.1
  obtain ⟨J, hJJ⟩ : ∃ J, cJ (dC D) = J := ⟨_, rfl⟩
  have hJ : J ≤ 12 := by rw [← hJJ]; exact dw.1.1
  have c2 : hI τ 1 2 = nI J := by rw [← hJJ]; exact cc.2.2.1
  have m1 : hI τ 49 1 = nI J := by rw [← hJJ]; exact m.2.1
  by_cases bad : jB (dL D) a b c d
  · exact SQ.no h (-1) (jc_no n L.1 cc.2.2.2.2.2.1 bad) (jm_no n hB m.2.2.1 hL bad)
  by_cases hf : J = 12
  · refine SQ.no h (-2) (jc_ok n L.1 cc.2.2.2.2.2.1 bad ?_) ?_
    · rw [c2, hf, if_neg (show ¬ nI 12 < 12 by decide)]
    · rw [jm_ok n hB m.2.2.1 hL m1 hJ bad, if_pos hf]
  have bad' := bad
  unfold jB at bad'
  obtain ⟨o, e, lo, lc, lw⟩ := law_o n cc hL (fun q => bad' (Or.inr (Or.inr (Or.inr q))))
  obtain ⟨w, -, w2, rfl⟩ := nI_bet (v := a) (a := 0) (b := 7999) (by omega) (fun q => bad' (Or.inl (Or.inl (Or.inl q)))) (fun q => bad' (Or.inl (Or.inl (Or.inr q)))) (by omega)
  have x1 : nI w / 1000 = nI (w / 1000) := nI_div (b := 1000) (by omega) (by omega)
  have x2 : nI w / 100 - nI w / 100 / 10 * 10 = nI (w / 100 % 10) := by
    rw [show nI w / 100 = nI (w / 100) from nI_div (b := 100) (by omega) (by omega)]
    exact nI_mod (b := 10) (by omega) (by omega)
  have x3 : nI w - nI w / 100 * 100 = nI (w % 100) := nI_mod (b := 100) (by omega) (by omega)
  have k1 : 1 ≤ w % 100 := Nat.le_of_not_lt fun q => bad' (Or.inl (Or.inr (Or.inl (by rw [x3]; exact nI_lt (b := 1) (by omega) (by omega)))))
  have k30 : w % 100 ≤ 30 := Nat.le_of_not_lt fun q => bad' (Or.inl (Or.inr (Or.inr (by rw [x3]; exact (nI_ltI (a := 30) (by omega) (by omega)).mpr q))))
  have nt := nt_c (no := nI J) (ln := b) (pt := c) n L.1 lo x1 (by omega)
  have U := tuH_u τ (kc (w / 1000)) (nI J) (nI w) b c d o
  obtain ⟨υ, hυ⟩ : ∃ υ, tuH τ (kc (w / 1000)) (nI J) (nI w) b c d o = υ := ⟨_, rfl⟩
  rw [hυ] at nt U
  rw [x1, x2, x3] at U
  obtain ⟨u1, uK, uA, uV, u7⟩ := U
  obtain ⟨g1, R1, r1, r2, r3, r4, r5, r6, r7, r8⟩ := jr_c (th := cT (dC D)) (sp := cS (dC D)) (hd := dH D) n hn L.1 cc.1 cc.2.2.2.2.2.1 cc.2.1 dw.1.2.1 c2 (by omega) cc.2.2.2.1 (fun t ht => by
    obtain ⟨T', t1, t2, t3, t4, t5⟩ := cc.2.2.2.2.1 t (by omega)
    exact t5) bad nt (fun x hx => (uA x (by omega)).2)
  have hB1 : MB (wA υ g1 R1) := by
    unfold MB at hB ⊢
    rw [wA_R, wA_L, show R1 48 = hR τ 48 from funext fun j => (r2 48 j (by omega)).trans ((uA 48 (by omega)).2.2.2 j), (uA 49 (by omega)).2.1, (uA 50 (by omega)).2.1, (uA 51 (by omega)).2.1, (uA 52 (by omega)).2.1, (uA 53 (by omega)).2.1, (uA 54 (by omega)).2.1, (uA 55 (by omega)).2.1, (uA 56 (by omega)).2.1, (uA 57 (by omega)).2.1, (uA 58 (by omega)).2.1, (uA 59 (by omega)).2.1, (uA 60 (by omega)).2.1, (uA 61 (by omega)).2.1, (uA 62 (by omega)).2.1, (uA 63 (by omega)).2.1]
    exact hB
  have o49 : ∀ k, g1 49 k = hI τ 49 k := fun k => (r4 49 k (by omega) (by omega) (by omega)).trans ((uA 49 (by omega)).2.2.1 k)
  have jm := jm_ok (τ := wA υ g1 R1) (L := dL D) (J := J) (a := nI w) (b := b) (c := c) (d := d) n hB1 ((o49 2).trans m.2.2.1) hL ((o49 1).trans m1) hJ bad
  rw [if_neg hf, wA_I, wA_w] at jm
  have jo := @jG_o g1 J (nI w) b c d
  have jv := @jG_v g1 J (nI w) b c d
  obtain ⟨g2, hg2⟩ : ∃ g2, jG g1 J (nI w) b c d = g2 := ⟨_, rfl⟩
  rw [hg2] at jm jo jv
  rw [x1, x2, x3] at jv
  have oT : ∀ k, g2 (hN τ) k = hI υ (hN τ) k := fun k => (jo (by omega) (by omega)).trans (r4 _ k (by omega) (by omega) (by omega))
  have o1 : ∀ b k, b < 49 → g2 b k = g1 b k := fun b k hb => jo (by omega) (by omega)
  refine ⟨nI J, wA υ g1 R1, wA υ g2 R1, joD D (w / 1000) (nI (w / 100 % 10)) (w % 100) b c e, upf lno J d, none, r1, jm, ?_, (uA 64 (by omega)).2.1⟩
  refine jr_inv hJJ (by omega) h (by omega) ⟨k1, k30⟩ (nI_pos (by omega)) lc lw u1 uK (fun a ha => ⟨(uA a ha).1, (uA a ha).2.1⟩) ⟨(oT 0).trans uV.1, (oT 1).trans uV.2.1, (oT 2).trans uV.2.2.1, (oT 3).trans uV.2.2.2.1, (oT 4).trans uV.2.2.2.2.1, (oT 5).trans uV.2.2.2.2.2.1, (oT 6).trans uV.2.2.2.2.2.2⟩ (fun b k h1 h2 h3 h4 h5 h6 => ((jo h5 h6).trans (r4 b k h2 h3 h4)).trans ((uA b h1).2.2.1 k)) (fun b k h1 h2 => (r2 b k h2).trans ((uA b h1).2.2.2 k)) r3 ((r2 _ _ (by omega)).trans u7) ((o1 1 2 (by omega)).trans r5) ((o1 1 8 (by omega)).trans r6) (fun t ht => (o1 4 t (by omega)).trans (r7 t ht)) ?_ jv
  obtain ⟨q1, q2, q3, q4, q5, q6⟩ := r8
  exact ⟨(o1 _ _ (by omega)).trans q1, (o1 _ _ (by omega)).trans q2, (o1 _ _ (by omega)).trans q3, (o1 _ _ (by omega)).trans q4, (o1 _ _ (by omega)).trans q5, fun i hi => ⟨(o1 _ _ (by omega)).trans (q6 i hi).1, (o1 _ _ (by omega)).trans (q6 i hi).2.1, (o1 _ _ (by omega)).trans (q6 i hi).2.2.1, (o1 _ _ (by omega)).trans (q6 i hi).2.2.2⟩⟩
