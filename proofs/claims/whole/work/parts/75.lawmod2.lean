/-! the model's reader of a text, whole; and what it works out of one -/
theorem many_m {σ : Hp} {a bs N : Nat} {x : Nat → Int32} (n : Nat) (hS : TxS σ a bs N) {A : Nat → Rz} {u w : Int32} (hu : u ≠ 1000 ∧ u ≠ -1000) (hw : w ≠ 1000 ∧ w ≠ -1000) (hO : ∀ p, OkR N p (A p)) (B : Nat → Hp → Option (Int32 × Hp)) {d : Nat}
    (hB : ∀ p g, p ≤ N → MS g a bs N x p → g 48 19 = nI d → ∃ g', B 48 (wI σ g) = some (if (A p).2.isSome then 1 else 0, wI σ g') ∧ MF g g' J3 ∧ MS g' a bs N x (A p).1 ∧ ((A p).2.isSome → g' 48 19 = nI d))
    (F : Nat → Nat → Hp → Option (Int32 × Hp))
    (hF : ∀ f v0 τ, F (f + 1) v0 τ = b2 (B v0 τ) fun r2 σ1 => if r2 = 0 then some (0, σ1) else (b2 (F_X12_takes n v0 u σ1) fun r4 σ3 => if r4 = 0 then (b2 (F_X12_takes n v0 w σ3) fun r6 σ5 => if r6 = 0 then some (1, σ5) else F f v0 σ5) else F f v0 σ3)) :
    ∀ fs p f g (k1 : List Int32 → List Int32) (k2 : List Int32 → Ev → Ev), N - p ≤ fs → N - p < f → p ≤ N → MS g a bs N x p → g 48 19 = nI d → ∀ R : Rz, R = (match A p with
      | (p1, none) => (p1, none)
      | (p1, some (cs, e)) => manyS x N A u w fs p1 (k1 cs) (k2 cs e)) → ∃ g', F f 48 (wI σ g) = some (if R.2.isSome then 1 else 0, wI σ g') ∧ MF g g' J3 ∧ MS g' a bs N x R.1 ∧ (R.2.isSome → g' 48 19 = nI d) := by
  have ha := hS.2.1
  intro fs
  induction fs with
  | zero =>
    intro p f g k1 k2 h1 h2 hp h h19 R hR
    obtain ⟨f, rfl⟩ : ∃ q, f = q + 1 := ⟨f - 1, by omega⟩
    obtain ⟨g1, b1', b2', b3', b4'⟩ := hB p g hp h h19
    have o1 := hO p
    rw [hF, qk_b2 b1']
    cases hk : A p with
    | mk p1 r =>
      rw [hk] at hR o1 b3' b4'
      cases r with
      | none =>
        subst hR
        simp only [Option.isSome_none, Bool.false_eq_true, if_false]
        exact ⟨g1, by rw [if_pos trivial], b2', b3', fun h => by cases h⟩
      | some q =>
        obtain ⟨cs, e⟩ := q
        have := (o1.2.2 cs e rfl).2.2
        have := o1.2.1 hp
        simp only at *
        omega
  | succ fs ih =>
    intro p f g k1 k2 h1 h2 hp h h19 R hR
    obtain ⟨f, rfl⟩ : ∃ q, f = q + 1 := ⟨f - 1, by omega⟩
    obtain ⟨g1, c1, c2, c3, c4⟩ := hB p g hp h h19
    have o1 := hO p
    rw [hF, qk_b2 c1]
    cases hk : A p with
    | mk p1 r =>
      rw [hk] at hR o1 c3 c4
      cases r with
      | none =>
        subst hR
        simp only [Option.isSome_none, Bool.false_eq_true, if_false]
        exact ⟨g1, by rw [if_pos trivial], c2, c3, fun h => by cases h⟩
      | some q =>
        obtain ⟨cs, e⟩ := q
        have o2 := (o1.2.2 cs e rfl).2.2
        have o3 := o1.2.1 hp
        simp only at o2 o3 c3
        simp only [Option.isSome_some, if_true, true_implies] at c4 ⊢
        rw [if_neg (by decide)]
        simp only [manyS] at hR
        rw [c3.tk n hu.1 hu.2 hS o3]
        by_cases h5 : nx x N p1 = u
        · have hp1 := nx_lt h5 hu.1
          rw [if_pos h5, qk_s2, if_neg (by decide)]
          rw [if_pos (Or.inl h5)] at hR
          obtain ⟨g2, e1, e2, e3, e4⟩ := ih (p1 + 1) f _ (fun cs1 => k1 cs ++ cs1 ++ [nx x N p1]) (fun _ e1 t q y n m => jnd (nx x N p1) (k2 cs e t q y n m) (e1 t q y n m)) (by omega) (by omega) hp1 (c3.on ha) (by rw [up_j (by omega)]; exact c4) R hR
          exact ⟨g2, e1, c2.tr ((MF.up (Or.inl rfl)).tr e2), e3, e4⟩
        · rw [if_neg h5, qk_s2, if_pos rfl, c3.tk n hw.1 hw.2 hS o3]
          by_cases h6 : nx x N p1 = w
          · have hp1 := nx_lt h6 hw.1
            rw [if_pos h6, qk_s2, if_neg (by decide)]
            rw [if_pos (Or.inr h6)] at hR
            obtain ⟨g2, e1, e2, e3, e4⟩ := ih (p1 + 1) f _ (fun cs1 => k1 cs ++ cs1 ++ [nx x N p1]) (fun _ e1 t q y n m => jnd (nx x N p1) (k2 cs e t q y n m) (e1 t q y n m)) (by omega) (by omega) hp1 (c3.on ha) (by rw [up_j (by omega)]; exact c4) R hR
            exact ⟨g2, e1, c2.tr ((MF.up (Or.inl rfl)).tr e2), e3, e4⟩
          · rw [if_neg h6, qk_s2, if_pos rfl]
            rw [if_neg (fun q => q.elim h5 h6)] at hR
            subst hR
            exact ⟨g1, rfl, c2, c3, fun _ => c4⟩
theorem prd_m {σ : Hp} {a bs N : Nat} {x : Nat → Int32} {K : Nat → Hp → Option (Int32 × Hp)} {KS : Nat → Nat → Rz} {dm : Nat} (n : Nat) (hn : 200 < n) (hS : TxS σ a bs N) (hO : ∀ d p, OkR N p (KS d p)) (hK : MK σ a bs N x K KS dm) {d : Nat} (hd : dm ≤ d + 1) (hd6 : d ≤ 6) {p : Nat} {g : Nat → Nat → Int32} (hp : p ≤ N) (h : MS g a bs N x p) (h19 : g 48 19 = nI d) : ∃ g', F_X12_readsProduct K n 48 (wI σ g) = some (if (prdS x N KS d p).2.isSome then 1 else 0, wI σ g') ∧ MF g g' J3 ∧ MS g' a bs N x (prdS x N KS d p).1 ∧ ((prdS x N KS d p).2.isSome → g' 48 19 = nI d) := by
  have hN := hS.2.2.2.2
  exact many_m n hS (A := atmS x N KS d) (u := 42) (w := 47) (by decide) (by decide) (fun p => atmS_ok hO d p) (F_X12_readsAtom K n) (fun p g a b c => atm_m n (by omega) hS hO hK hd hd6 a b c) (F_X12_readsProduct_0 K n) (fun f v0 τ => rfl) 200 p n g (fun cs => cs) (fun _ e => e) (by omega) (by omega) hp h h19 _ rfl
theorem smB_m {σ : Hp} {a bs N : Nat} {x : Nat → Int32} {K : Nat → Hp → Option (Int32 × Hp)} {KS : Nat → Nat → Rz} {dm : Nat} (n : Nat) (hn : 200 < n) (hS : TxS σ a bs N) (hO : ∀ d p, OkR N p (KS d p)) (hK : MK σ a bs N x K KS dm) {d : Nat} (hd : dm ≤ d + 1) (hd6 : d ≤ 6) {p : Nat} {g : Nat → Nat → Int32} (hp : p ≤ N) (h : MS g a bs N x p) (h19 : g 48 19 = nI d) : ∃ g', F_X12_readsSumB K n 48 (wI σ g) = some (if (smBS x N KS d p).2.isSome then 1 else 0, wI σ g') ∧ MF g g' J3 ∧ MS g' a bs N x (smBS x N KS d p).1 ∧ ((smBS x N KS d p).2.isSome → g' 48 19 = nI d) := by
  have hN := hS.2.2.2.2
  exact many_m n hS (A := prdS x N KS d) (u := 43) (w := 45) (by decide) (by decide) (fun p => prdS_ok hO d p) (F_X12_readsProduct K n) (fun p g a b c => prd_m n hn hS hO hK hd hd6 a b c) (F_X12_readsSum_0 K n) (fun f v0 τ => rfl) 200 p n g (fun cs => cs) (fun _ e => e) (by omega) (by omega) hp h h19 _ rfl
theorem sum_m {σ : Hp} {a bs N : Nat} {x : Nat → Int32} (n : Nat) (hn : 200 < n) (hS : TxS σ a bs N) : ∀ k, MK σ a bs N x (F_X12_readsSum n k) (sumS x N k) (7 - k) := by
  intro k
  induction k with
  | zero => intro d h1 h2; omega
  | succ k ih =>
    intro d h1 h2 p g hp h h19
    exact smB_m n hn hS (fun d p => sumS_ok k d p) ih (by omega) h2 hp h h19
/-! what the model works out -/
def EV (g : Nat → Nat → Int32) (e : Ev) : Int32 := e (g 48 21) (g 48 22) (g 48 23) (g 48 24) (g 48 25)
theorem EV.mf {g h : Nat → Nat → Int32} (a : MF g h J2) (e : Ev) : EV h e = EV g e := by
  unfold EV
  rw [a.2 21 (by unfold J2; omega), a.2 22 (by unfold J2; omega), a.2 23 (by unfold J2; omega), a.2 24 (by unfold J2; omega), a.2 25 (by unfold J2; omega)]
def EK (σ : Hp) (a bs N : Nat) (x : Nat → Int32) (K : Nat → Hp → Option (Int32 × Hp)) (KS : Nat → Nat → Rz) (dm : Nat) : Prop := ∀ d, dm ≤ d → d ≤ 6 → ∀ p g p1 cs e, p ≤ N → MS g a bs N x p → KS d p = (p1, some (cs, e)) → ∃ g', K 48 (wI σ g) = some (EV g e, wI σ g') ∧ MF g g' J2 ∧ MS g' a bs N x p1
theorem atm_e {σ : Hp} {a bs N : Nat} {x : Nat → Int32} {K : Nat → Hp → Option (Int32 × Hp)} {KS : Nat → Nat → Rz} {dm : Nat} (n : Nat) (hn : 4 < n) (hS : TxS σ a bs N) (hO : ∀ d p, OkR N p (KS d p)) (hK : EK σ a bs N x K KS dm) {d : Nat} (hd : dm ≤ d + 1) (hd6 : d ≤ 6) {p p0 : Nat} {g : Nat → Nat → Int32} {cs : List Int32} {e : Ev} (hp : p ≤ N) (h : MS g a bs N x p) (hR : atmS x N KS d p = (p0, some (cs, e))) : ∃ g', F_X12_atom K n 48 (wI σ g) = some (EV g e, wI σ g') ∧ MF g g' J2 ∧ MS g' a bs N x p0 := by
  have ha := hS.2.1
  have hN := hS.2.2.2.2
  unfold F_X12_atom
  rw [qk_b2 (h.sg n hS hp)]
  unfold atmS at hR
  dsimp only at hR
  by_cases h1 : nx x N p = 40 ∨ nx x N p = 91
  · have hpN : p < N := by rcases h1 with h | h <;> exact nx_lt h (by decide)
    rw [if_pos h1] at hR
    have hdg : sgA x N p < 48 ∨ 57 < sgA x N p := by rw [sg_in hpN]; rcases h1 with q | q <;> rw [q] <;> decide
    rw [qk_b2 (isIn_f n (y := 48) (z := 57) (a := sgA x N p) (lo := 48) (hi := 57) rfl rfl rfl hdg _), if_pos rfl, qk_lt, wI_I, wI_p, sg_in hpN]
    have e1 : ∀ (c : Int32) (z : Option (Int32 × Hp)), c = 40 ∨ c = 91 → (if c = 40 then F_X12_atom_51 K n 48 c (wI σ (up2 g 48 16 (g 48 16 + 1))) else if c = 91 then F_X12_atom_51 K n 48 c (wI σ (up2 g 48 16 (g 48 16 + 1))) else z) = F_X12_atom_51 K n 48 c (wI σ (up2 g 48 16 (g 48 16 + 1))) := by
      intro c z hc
      by_cases h2 : c = 40
      · rw [if_pos h2]
      · rw [if_neg h2, if_pos (hc.resolve_left h2)]
    rw [e1 _ _ h1]
    by_cases h2 : 6 ≤ d
    · rw [if_pos h2] at hR; cases hR
    · rw [if_neg h2] at hR
      unfold F_X12_atom_51
      have f1 : MF g (up2 g 48 16 (g 48 16 + 1)) J2 := MF.up (Or.inl rfl)
      have o1 := hO (d + 1) (p + 1)
      cases hk : KS (d + 1) (p + 1) with
      | mk p1 r =>
        rw [hk] at hR o1
        cases r with
        | none => simp only at hR; cases hR
        | some q =>
          obtain ⟨cs1, e1'⟩ := q
          simp only at hR
          have o2 := o1.2.1 hpN
          simp only at o2
          obtain ⟨g1, k1, k2, k3⟩ := hK (d + 1) hd (by omega) (p + 1) _ p1 cs1 e1' hpN (h.on ha) hk
          have f2 := f1.tr k2
          rw [qk_b2 k1, qk_lt, wI_I, wI_p, EV.mf f1]
          by_cases h3 : nx x N p = 40
          · rw [if_pos h3] at hR ⊢
            by_cases h4 : nx x N p1 = 41
            · rw [if_pos h4] at hR
              cases hR
              exact ⟨_, rfl, f2.tr (MF.up (Or.inl rfl)), k3.on ha⟩
            · rw [if_neg h4] at hR; cases hR
          · rw [if_neg h3] at hR ⊢
            by_cases h4 : nx x N p1 = 44
            · have hp1 := nx_lt h4 (by decide)
              rw [if_pos h4] at hR
              cases hk2 : KS (d + 1) (p1 + 1) with
              | mk p2 r2 =>
                rw [hk2] at hR
                cases r2 with
                | none => simp only at hR; cases hR
                | some q2 =>
                  obtain ⟨cs2, e2⟩ := q2
                  simp only at hR
                  have f3 : MF g (up2 g1 48 16 (g1 48 16 + 1)) J2 := f2.tr (MF.up (Or.inl rfl))
                  obtain ⟨g2, t1, t2, t3⟩ := hK (d + 1) hd (by omega) (p1 + 1) _ p2 cs2 e2 hp1 (k3.on ha) hk2
                  rw [qk_b2 t1, qk_lt, wI_I, wI_p, EV.mf f3]
                  by_cases h5 : nx x N p2 = 93
                  · rw [if_pos h5] at hR
                    cases hR
                    refine ⟨up2 g2 48 16 (g2 48 16 + 1), ?_, (f3.tr t2).tr (MF.up (Or.inl rfl)), t3.on ha⟩
                    show _ = some (if EV g e1' ≤ EV g e2 then EV g e2 else EV g e1', _)
                    split <;> rfl
                  · rw [if_neg h5] at hR; cases hR
            · rw [if_neg h4] at hR; cases hR
  · rw [if_neg h1] at hR
    have nm := rn_m n hn hS hp h
    by_cases h2 : nx x N p < 48 ∨ 57 < nx x N p
    · rw [if_neg (show ¬ (¬ nx x N p < 48 ∧ ¬ 57 < nx x N p) from fun q => h2.elim q.1 q.2)] at hR
      by_cases h3 : fld (nx x N p) = true
      · rw [if_pos h3] at hR
        cases hR
        have hpN := nx_lt rfl (fld_1000 h3)
        rw [qk_b2 (isIn_f n (y := 48) (z := 57) (a := sgA x N p) (lo := 48) (hi := 57) rfl rfl rfl (sg_d.mpr h2) _), if_pos rfl, qk_lt, wI_I, wI_p, sg_in hpN]
        refine ⟨_, ?_, MF.up (Or.inl rfl), h.on ha⟩
        have e5 : ∀ j, 20 < j → up2 g 48 16 (g 48 16 + 1) 48 j = g 48 j := fun j hj => up_j (by omega)
        unfold EV
        unfold fld at h3
        simp only [Bool.or_eq_true, beq_iff_eq] at h3
        rw [wI_I, e5 21 (by omega), e5 22 (by omega), e5 23 (by omega), e5 24 (by omega), e5 25 (by omega)]
        rcases h3 with (((e | e) | e) | e) | e <;> rw [e] <;> rfl
      · rw [if_neg h3] at hR; cases hR
    · rw [if_pos (show ¬ nx x N p < 48 ∧ ¬ 57 < nx x N p from ⟨fun q => h2 (Or.inl q), fun q => h2 (Or.inr q)⟩)] at hR
      cases hR
      obtain ⟨g', k1, k2, k3, k4⟩ := nm.2 h2
      have h3 : ¬ (sgA x N p < 48 ∨ 57 < sgA x N p) := fun q => h2 (sg_d.mp q)
      rw [qk_b2 (isIn_t n (y := 48) (z := 57) (a := sgA x N p) (lo := 48) (hi := 57) rfl rfl rfl (fun q => h3 (Or.inl q)) (fun q => h3 (Or.inr q)) _), if_neg (by decide), qk_b2 k1, wI_I, k4]
      exact ⟨g', rfl, k2, k3⟩
theorem many_e {σ : Hp} {a bs N : Nat} {x : Nat → Int32} (n : Nat) (hS : TxS σ a bs N) {A : Nat → Rz} {u w : Int32} (hu : u ≠ 1000 ∧ u ≠ -1000) (hw : w ≠ 1000 ∧ w ≠ -1000) (hO : ∀ p, OkR N p (A p)) (B : Nat → Hp → Option (Int32 × Hp))
    (hB : ∀ p g p1 cs e, p ≤ N → MS g a bs N x p → A p = (p1, some (cs, e)) → ∃ g', B 48 (wI σ g) = some (EV g e, wI σ g') ∧ MF g g' J2 ∧ MS g' a bs N x p1)
    (F : Nat → Nat → Int32 → Hp → Option (Int32 × Hp)) (G : (Nat → Int32 → Hp → Option (Int32 × Hp)) → Nat → Int32 → Int32 → Int32 → Hp → Option (Int32 × Hp))
    (hF : ∀ f v0 v1 τ, F (f + 1) v0 v1 τ = b2 (F_X12_sign n v0 τ) fun r7 σ6 => if r7 = u then (b2 (F_X12_sign n v0 σ6) fun r2 σ1 => lt (pI σ1 v0 16 ((hI σ1 v0 16) + 1)) fun σ3 => b2 (B v0 σ3) fun r5 σ4 => G (F f) v0 r2 v1 r5 σ4) else (b2 (F_X12_sign n v0 σ6) fun r9 σ8 => if r9 = w then (b2 (F_X12_sign n v0 σ8) fun r2 σ1 => lt (pI σ1 v0 16 ((hI σ1 v0 16) + 1)) fun σ3 => b2 (B v0 σ3) fun r5 σ4 => G (F f) v0 r2 v1 r5 σ4) else some (v1, σ8)))
    (hG : ∀ Kf v0 c y z τ, (c = u ∨ c = w) → G Kf v0 c y z τ = Kf v0 (jnd c y z) τ) :
    ∀ fs p cs e f g v p1 cs' e', N - p < fs → N - p < f → p ≤ N → MS g a bs N x p → v = EV g e → manyS x N A u w fs p cs e = (p1, some (cs', e')) → ∃ g', F f 48 v (wI σ g) = some (EV g e', wI σ g') ∧ MF g g' J2 ∧ MS g' a bs N x p1 := by
  have ha := hS.2.1
  intro fs
  induction fs with
  | zero => intro p cs e f g v p1 cs' e' h; omega
  | succ fs ih =>
    intro p cs e f g v p1 cs' e' hfs hf hp h hv hR
    obtain ⟨f, rfl⟩ : ∃ q, f = q + 1 := ⟨f - 1, by omega⟩
    simp only [manyS] at hR
    have hsg := h.sg n hS hp
    rw [hF, qk_b2 hsg]
    by_cases h5 : nx x N p = u ∨ nx x N p = w
    · rw [if_pos h5] at hR
      have hk : nx x N p ≠ 1000 := by rcases h5 with q | q <;> rw [q]; exact hu.1; exact hw.1
      have hpN := nx_lt rfl hk
      rw [sg_in hpN] at hsg ⊢
      have key : ∃ g', (b2 (F_X12_sign n 48 (wI σ g)) fun r2 σ1 => lt (pI σ1 48 16 ((hI σ1 48 16) + 1)) fun σ3 => b2 (B 48 σ3) fun r5 σ4 => G (F f) 48 r2 v r5 σ4) = some (EV g e', wI σ g') ∧ MF g g' J2 ∧ MS g' a bs N x p1 := by
        rw [qk_b2 hsg, qk_lt, wI_I, wI_p]
        have f1 : MF g (up2 g 48 16 (g 48 16 + 1)) J2 := MF.up (Or.inl rfl)
        have o1 := hO (p + 1)
        cases hk1 : A (p + 1) with
        | mk p2 r =>
          rw [hk1] at hR o1
          cases r with
          | none => simp only at hR; cases hR
          | some q =>
            obtain ⟨cs1, e1⟩ := q
            simp only at hR
            have o2 := o1.2.1 hpN
            have o3 := (o1.2.2 cs1 e1 rfl).2.2
            simp only at o2 o3
            obtain ⟨g1, k1, k2, k3⟩ := hB (p + 1) _ p2 cs1 e1 hpN (h.on ha) hk1
            have f2 := f1.tr k2
            rw [qk_b2 k1, hG _ _ _ _ _ _ h5, EV.mf f1]
            obtain ⟨g2, t1, t2, t3⟩ := ih p2 _ _ f g1 (jnd (nx x N p) v (EV g e1)) p1 cs' e' (by omega) (by omega) o2 k3 (by rw [EV.mf f2, hv]; rfl) hR
            exact ⟨g2, by rw [t1, EV.mf f2], f2.tr t2, t3⟩
      by_cases h6 : nx x N p = u
      · rw [if_pos h6]; exact key
      · rw [if_neg h6, qk_b2 hsg, if_pos (h5.resolve_left h6)]; exact key
    · rw [if_neg h5] at hR
      cases hR
      have h6 : ¬ sgA x N p = u := fun q => h5 (Or.inl ((sg_c hu.1 hu.2).mp q))
      have h7 : ¬ sgA x N p = w := fun q => h5 (Or.inr ((sg_c hw.1 hw.2).mp q))
      rw [if_neg h6, qk_b2 hsg, if_neg h7, hv]
      exact ⟨g, rfl, MF.rf g _, h⟩
theorem prd_e {σ : Hp} {a bs N : Nat} {x : Nat → Int32} {K : Nat → Hp → Option (Int32 × Hp)} {KS : Nat → Nat → Rz} {dm : Nat} (n : Nat) (hn : 200 < n) (hS : TxS σ a bs N) (hO : ∀ d p, OkR N p (KS d p)) (hK : EK σ a bs N x K KS dm) {d : Nat} (hd : dm ≤ d + 1) (hd6 : d ≤ 6) {p p0 : Nat} {g : Nat → Nat → Int32} {cs : List Int32} {e : Ev} (hp : p ≤ N) (h : MS g a bs N x p) (hR : prdS x N KS d p = (p0, some (cs, e))) : ∃ g', F_X12_product K n 48 (wI σ g) = some (EV g e, wI σ g') ∧ MF g g' J2 ∧ MS g' a bs N x p0 := by
  have hN := hS.2.2.2.2
  unfold prdS oneS at hR
  have o1 := atmS_ok (x := x) hO d p
  cases hk : atmS x N KS d p with
  | mk p1 r =>
    rw [hk] at hR o1
    cases r with
    | none => simp only at hR; cases hR
    | some q =>
      obtain ⟨cs1, e1⟩ := q
      simp only at hR
      have o2 := o1.2.1 hp
      simp only at o2
      obtain ⟨g1, k1, k2, k3⟩ := atm_e n (by omega) hS hO hK hd hd6 hp h hk
      unfold F_X12_product
      rw [qk_b2 k1]
      obtain ⟨g2, t1, t2, t3⟩ := many_e n hS (A := atmS x N KS d) (u := 42) (w := 47) (by decide) (by decide) (fun p => atmS_ok hO d p) (F_X12_atom K n) (fun p g p1 cs e q1 q2 q3 => atm_e n (by omega) hS hO hK hd hd6 q1 q2 q3) (F_X12_product_5 K n) (fun Kf v0 c y z τ => if c = 42 then F_X12_product_66 K n Kf v0 (y * z) τ else if z = 0 then F_X12_product_66 K n Kf v0 0 τ else ck (¬ z = 0) (F_X12_product_66 K n Kf v0 (y / z) τ)) (fun f v0 v1 τ => rfl) (fun Kf v0 c y z τ hc => by
        unfold F_X12_product_66
        rcases hc with rfl | rfl
        · rfl
        · show (if (47 : Int32) = 42 then _ else _) = Kf v0 (if z = 0 then 0 else y / z) τ
          rw [if_neg (by decide)]
          by_cases hz : z = 0
          · rw [if_pos hz, if_pos hz]
          · rw [if_neg hz, if_neg hz, qk_ck hz]) 200 p1 cs1 e1 n g1 (EV g e1) p0 cs e (by omega) (by omega) o2 k3 (EV.mf k2 e1).symm hR
      exact ⟨g2, by rw [t1, EV.mf k2], k2.tr t2, t3⟩
theorem smB_e {σ : Hp} {a bs N : Nat} {x : Nat → Int32} {K : Nat → Hp → Option (Int32 × Hp)} {KS : Nat → Nat → Rz} {dm : Nat} (n : Nat) (hn : 200 < n) (hS : TxS σ a bs N) (hO : ∀ d p, OkR N p (KS d p)) (hK : EK σ a bs N x K KS dm) {d : Nat} (hd : dm ≤ d + 1) (hd6 : d ≤ 6) {p p0 : Nat} {g : Nat → Nat → Int32} {cs : List Int32} {e : Ev} (hp : p ≤ N) (h : MS g a bs N x p) (hR : smBS x N KS d p = (p0, some (cs, e))) : ∃ g', F_X12_sumB K n 48 (wI σ g) = some (EV g e, wI σ g') ∧ MF g g' J2 ∧ MS g' a bs N x p0 := by
  have hN := hS.2.2.2.2
  unfold smBS oneS at hR
  have o1 := prdS_ok (x := x) hO d p
  cases hk : prdS x N KS d p with
  | mk p1 r =>
    rw [hk] at hR o1
    cases r with
    | none => simp only at hR; cases hR
    | some q =>
      obtain ⟨cs1, e1⟩ := q
      simp only at hR
      have o2 := o1.2.1 hp
      simp only at o2
      obtain ⟨g1, k1, k2, k3⟩ := prd_e n hn hS hO hK hd hd6 hp h hk
      unfold F_X12_sumB
      rw [qk_b2 k1]
      obtain ⟨g2, t1, t2, t3⟩ := many_e n hS (A := prdS x N KS d) (u := 43) (w := 45) (by decide) (by decide) (fun p => prdS_ok hO d p) (F_X12_product K n) (fun p g p1 cs e q1 q2 q3 => prd_e n hn hS hO hK hd hd6 q1 q2 q3) (F_X12_sum_5 K n) (fun Kf v0 c y z τ => if c = 43 then F_X12_sum_58 K n Kf v0 (y + z) τ else F_X12_sum_58 K n Kf v0 (y - z) τ) (fun f v0 v1 τ => rfl) (fun Kf v0 c y z τ hc => by
        unfold F_X12_sum_58
        rcases hc with rfl | rfl
        · rfl
        · rfl) 200 p1 cs1 e1 n g1 (EV g e1) p0 cs e (by omega) (by omega) o2 k3 (EV.mf k2 e1).symm hR
      exact ⟨g2, by rw [t1, EV.mf k2], k2.tr t2, t3⟩
theorem sum_e {σ : Hp} {a bs N : Nat} {x : Nat → Int32} (n : Nat) (hn : 200 < n) (hS : TxS σ a bs N) : ∀ k, EK σ a bs N x (F_X12_sum n k) (sumS x N k) (7 - k) := by
  intro k
  induction k with
  | zero => intro d h1 h2; omega
  | succ k ih =>
    intro d h1 h2 p g p1 cs e hp h hR
    exact smB_e n hn hS (fun d p => sumS_ok k d p) ih (by omega) h2 hp h hR
