/-! the model's readers of a text, against the reading of 71 -/
theorem lgc_lt (a b : Int32) : (lg_cmp a.toInt64 b.toInt64 < 0) ↔ a < b := by
  unfold lg_cmp
  by_cases h1 : a.toInt64 > b.toInt64
  · rw [if_pos h1]
    have h2 := Int32.toInt64_lt.mp h1
    exact ⟨fun h => absurd h (by decide), fun h => absurd h (Int32.lt_asymm h2)⟩
  · rw [if_neg h1]
    by_cases h3 : a.toInt64 = b.toInt64
    · rw [if_pos h3]
      have h4 : a = b := Int32.toInt_inj.mp (by rw [← Int32.toInt_toInt64, ← Int32.toInt_toInt64, h3])
      subst h4
      exact ⟨fun h => absurd h (by decide), fun h => (Int32.lt_irrefl h).elim⟩
    · rw [if_neg h3]
      refine ⟨fun _ => ?_, fun _ => by decide⟩
      have h5 : ¬ b < a := fun h => h1 (Int32.toInt64_lt.mpr h)
      have h6 : ¬ a = b := fun h => h3 (by rw [h])
      rcases Int32.lt_or_le a b with h | h
      · exact h
      · exact absurd (Int32.lt_of_le_of_ne h (fun q => h6 q.symm)) h5
theorem lgc_gt (a b : Int32) : (0 < lg_cmp a.toInt64 b.toInt64) ↔ b < a := by
  unfold lg_cmp
  by_cases h1 : a.toInt64 > b.toInt64
  · rw [if_pos h1]
    exact ⟨fun _ => Int32.toInt64_lt.mp h1, fun _ => by decide⟩
  · rw [if_neg h1]
    have h5 : ¬ b < a := fun h => h1 (Int32.toInt64_lt.mpr h)
    split
    · exact ⟨fun h => absurd h (by decide), fun h => absurd h h5⟩
    · exact ⟨fun h => absurd h (by decide), fun h => absurd h h5⟩
/-- the model's isIn, of ints -/
theorem isIn_v (n : Nat) {x y z : Int64} (a lo hi : Int32) (hx : x = a.toInt64) (hy : y = lo.toInt64) (hz : z = hi.toInt64) (τ : Hp) : F_X12_isIn n x y z τ = some (if a < lo ∨ hi < a then 0 else 1, τ) := by
  subst hx hy hz
  unfold F_X12_isIn
  by_cases h1 : a < lo
  · rw [if_pos ((lgc_lt a lo).mpr h1), if_pos (Or.inl h1)]
  · rw [if_neg (fun h => h1 ((lgc_lt a lo).mp h))]
    by_cases h2 : hi < a
    · rw [if_pos ((lgc_gt a hi).mpr h2), if_pos (Or.inr h2)]
    · rw [if_neg (fun h => h2 ((lgc_gt a hi).mp h)), if_neg (fun h => h.elim h1 h2)]
theorem isIn_t (n : Nat) {x y z : Int64} {a lo hi : Int32} (hx : x = a.toInt64) (hy : y = lo.toInt64) (hz : z = hi.toInt64) (h1 : ¬ a < lo) (h2 : ¬ hi < a) (τ : Hp) : F_X12_isIn n x y z τ = some (1, τ) := by
  rw [isIn_v n a lo hi hx hy hz, if_neg (fun h => h.elim h1 h2)]
theorem isIn_f (n : Nat) {x y z : Int64} {a lo hi : Int32} (hx : x = a.toInt64) (hy : y = lo.toInt64) (hz : z = hi.toInt64) (h : a < lo ∨ hi < a) (τ : Hp) : F_X12_isIn n x y z τ = some (0, τ) := by
  rw [isIn_v n a lo hi hx hy hz, if_pos h]
/-- the text that the model reads -/
def TxS (σ : Hp) (a bs N : Nat) : Prop := hR σ 48 15 = some a ∧ a ≠ 48 ∧ bs + N ≤ hL σ a ∧ hL σ a ≤ 1000 ∧ N ≤ 100
def MS (g : Nat → Nat → Int32) (a bs N : Nat) (x : Nat → Int32) (p : Nat) : Prop := g 48 16 = nI p ∧ g 48 17 = nI bs ∧ g 48 18 = nI N ∧ ∀ i, i < N → g a (bs + i) = x i
def sgA (x : Nat → Int32) (N p : Nat) : Int32 := if p < N then x p else -1000
theorem sg_c {x : Nat → Int32} {N p : Nat} {c : Int32} (h1 : c ≠ 1000) (h2 : c ≠ -1000) : sgA x N p = c ↔ nx x N p = c := by
  unfold sgA nx
  by_cases h : p < N
  · rw [if_pos h, if_pos h]
  · rw [if_neg h, if_neg h]; exact ⟨fun q => absurd q.symm h2, fun q => absurd q.symm h1⟩
theorem sg_d {x : Nat → Int32} {N p : Nat} : (sgA x N p < 48 ∨ 57 < sgA x N p) ↔ (nx x N p < 48 ∨ 57 < nx x N p) := by
  unfold sgA nx
  by_cases h : p < N
  · rw [if_pos h, if_pos h]
  · rw [if_neg h, if_neg h]; decide
theorem sg_in {x : Nat → Int32} {N p : Nat} (h : p < N) : sgA x N p = nx x N p := by unfold sgA nx; rw [if_pos h, if_pos h]
theorem MS.sg {σ : Hp} {g : Nat → Nat → Int32} {a bs N p : Nat} {x : Nat → Int32} (n : Nat) (hS : TxS σ a bs N) (h : MS g a bs N x p) (hp : p ≤ N) : F_X12_sign n 48 (wI σ g) = some (sgA x N p, wI σ g) := by
  obtain ⟨s0, s1, s2, s3, s4⟩ := hS
  unfold F_X12_sign
  rw [wI_I, wI_R, wI_L, h.1, h.2.1, h.2.2.1]
  unfold sgA
  by_cases h1 : p < N
  · rw [if_neg (nI_ge h1 (by omega)), qk_b1 s0, nI_add, qk_in (by omega) (by omega), nI_clamp (by omega), if_pos h1, h.2.2.2 p h1]
  · rw [if_pos (nI_le (by omega) (by omega)), if_neg h1]
theorem MS.on {g : Nat → Nat → Int32} {a bs N p : Nat} {x : Nat → Int32} (ha : a ≠ 48) (h : MS g a bs N x p) : MS (up2 g 48 16 (g 48 16 + 1)) a bs N x (p + 1) :=
  ⟨by rw [up_s, h.1, nI_succ], by rw [up_j (by omega)]; exact h.2.1, by rw [up_j (by omega)]; exact h.2.2.1, fun i hi => by rw [up_i ha]; exact h.2.2.2 i hi⟩
theorem MS.set {g : Nat → Nat → Int32} {a bs N p j : Nat} {v : Int32} {x : Nat → Int32} (ha : a ≠ 48) (hj : 18 < j) (h : MS g a bs N x p) : MS (up2 g 48 j v) a bs N x p :=
  ⟨by rw [up_j (by omega)]; exact h.1, by rw [up_j (by omega)]; exact h.2.1, by rw [up_j (by omega)]; exact h.2.2.1, fun i hi => by rw [up_i ha]; exact h.2.2.2 i hi⟩
theorem MS.tk {σ : Hp} {g : Nat → Nat → Int32} {a bs N p : Nat} {x : Nat → Int32} (n : Nat) {c : Int32} (h1 : c ≠ 1000) (h2 : c ≠ -1000) (hS : TxS σ a bs N) (h : MS g a bs N x p) (hp : p ≤ N) : F_X12_takes n 48 c (wI σ g) = if nx x N p = c then some (1, wI σ (up2 g 48 16 (g 48 16 + 1))) else some (0, wI σ g) := by
  unfold F_X12_takes
  rw [qk_b2 (h.sg n hS hp)]
  by_cases h3 : nx x N p = c
  · rw [if_pos ((sg_c h1 h2).mpr h3), if_pos h3, qk_lt, wI_I, wI_p]
  · rw [if_neg (fun q => h3 ((sg_c h1 h2).mp q)), if_neg h3]
/-- what changes in the model while it reads: its own cells from 16 on, but 17 and 18 and those of j -/
def MF (g g' : Nat → Nat → Int32) (J : Nat → Prop) : Prop := (∀ a, a ≠ 48 → g' a = g a) ∧ ∀ j, ¬ J j → g' 48 j = g 48 j
theorem MF.rf (g : Nat → Nat → Int32) (J : Nat → Prop) : MF g g J := ⟨fun _ _ => rfl, fun _ _ => rfl⟩
theorem MF.tr {g h k : Nat → Nat → Int32} {J : Nat → Prop} (a : MF g h J) (b : MF h k J) : MF g k J := ⟨fun i hi => (b.1 i hi).trans (a.1 i hi), fun j hj => (b.2 j hj).trans (a.2 j hj)⟩
theorem MF.up {g : Nat → Nat → Int32} {J : Nat → Prop} {j : Nat} {v : Int32} (h : J j) : MF g (up2 g 48 j v) J := ⟨fun a ha => up_r ha, fun i hi => up_j (fun q => hi (by rw [q]; exact h))⟩
theorem MF.wk {g h : Nat → Nat → Int32} {J K : Nat → Prop} (a : MF g h J) (b : ∀ j, J j → K j) : MF g h K := ⟨a.1, fun j hj => a.2 j (fun q => hj (b j q))⟩
def J2 : Nat → Prop := fun j => j = 16 ∨ j = 20
def J3 : Nat → Prop := fun j => j = 16 ∨ j = 19 ∨ j = 20
theorem MS.mf {g g' : Nat → Nat → Int32} {a bs N p : Nat} {x : Nat → Int32} {J : Nat → Prop} (ha : a ≠ 48) (h : MS g a bs N x p) (hJ : MF g g' J) (h17 : ¬ J 17) (h18 : ¬ J 18) {q : Nat} (hq : g' 48 16 = nI q) : MS g' a bs N x q :=
  ⟨hq, by rw [hJ.2 17 h17]; exact h.2.1, by rw [hJ.2 18 h18]; exact h.2.2.1, fun i hi => by rw [hJ.1 a ha]; exact h.2.2.2 i hi⟩
theorem num_m {σ : Hp} {a bs N : Nat} {x : Nat → Int32} (n : Nat) (hS : TxS σ a bs N) : ∀ k p v i f g, k + i = 3 → k < f → p ≤ N → 0 < v → v < 10 ^ i → MS g a bs N x p → g 48 20 = nI v → ∃ g', F_X12_readsNumber_42 n f 48 (nI i) (wI σ g) = some (1, wI σ g') ∧ MF g g' J2 ∧ MS g' a bs N x (numS x N k p v).1 ∧ g' 48 20 = nI (numS x N k p v).2 := by
  intro k
  induction k with
  | zero =>
    intro p v i f g hi hf hp hv0 hv h h20
    obtain ⟨f, rfl⟩ : ∃ q, f = q + 1 := ⟨f - 1, by omega⟩
    obtain rfl : i = 3 := by omega
    simp only [numS, F_X12_readsNumber_42]
    rw [if_pos (show (3 : Int32) ≤ nI 3 by decide)]
    exact ⟨g, rfl, MF.rf g _, h, h20⟩
  | succ k ih =>
    intro p v i f g hi hf hp hv0 hv h h20
    obtain ⟨f, rfl⟩ : ∃ q, f = q + 1 := ⟨f - 1, by omega⟩
    have ha := hS.2.1
    have hN := hS.2.2.2.2
    have hv9 : v < 1000 := Nat.lt_of_lt_of_le hv (by
      have : 10 ^ i ≤ 10 ^ 3 := Nat.pow_le_pow_right (by omega) (by omega)
      omega)
    simp only [numS, F_X12_readsNumber_42]
    rw [if_neg (show ¬ (3 : Int32) ≤ nI i from nI_ge (a := i) (b := 3) (by omega) (by decide)), wI_I, h20, if_neg (nI_nle hv0 (by omega)), qk_b2 (h.sg n hS hp)]
    by_cases h1 : nx x N p < 48 ∨ 57 < nx x N p
    · rw [qk_b2 (isIn_f n (y := 48) (z := 57) (a := sgA x N p) (lo := 48) (hi := 57) rfl rfl rfl (sg_d.mpr h1) _), if_pos rfl]
      have e1 : (if nx x N p < 48 then (p, v) else if 57 < nx x N p then (p, v) else if 10 * v + ((nx x N p).toNatClampNeg - 48) = 0 then (p + 1, 10 * v + ((nx x N p).toNatClampNeg - 48)) else numS x N k (p + 1) (10 * v + ((nx x N p).toNatClampNeg - 48))) = (p, v) := by
        by_cases h2 : nx x N p < 48
        · rw [if_pos h2]
        · rw [if_neg h2, if_pos (h1.resolve_left h2)]
      rw [e1]
      exact ⟨g, rfl, MF.rf g _, h, h20⟩
    · have h2 : ¬ nx x N p < 48 := fun q => h1 (Or.inl q)
      have h3 : ¬ 57 < nx x N p := fun q => h1 (Or.inr q)
      have hpN := nx_dig h3
      obtain ⟨j, hj, h4⟩ := dig_n h2 h3
      rw [qk_b2 (isIn_t n (y := 48) (z := 57) (a := sgA x N p) (lo := 48) (hi := 57) rfl rfl rfl (fun q => h1 (sg_d.mp (Or.inl q))) (fun q => h1 (sg_d.mp (Or.inr q))) _), if_neg (by decide), qk_b2 (h.sg n hS hp), qk_lt, qk_lt, wI_I, wI_p, wI_I, wI_p, h20, sg_in hpN, if_neg h2, if_neg h3, h4, dg_n, nI_clamp (by omega), show 48 + j - 48 = j by omega, if_neg (by omega)]
      have h5 := (h.set (j := 20) (v := nI (10 * v + j)) ha (by omega)).on ha
      obtain ⟨g', k1, k2, k3, k4⟩ := ih (p + 1) (10 * v + j) (i + 1) f _ (by omega) (by omega) (by omega) (by omega) (by rw [Nat.pow_succ]; omega) h5 (by rw [up_j (by omega), up_s])
      rw [← nI_succ]
      exact ⟨g', k1, ((MF.up (Or.inr rfl)).tr (MF.up (Or.inl rfl))).tr k2, k3, k4⟩
theorem rn_m {σ : Hp} {a bs N : Nat} {x : Nat → Int32} (n : Nat) (hn : 4 < n) (hS : TxS σ a bs N) {p : Nat} {g : Nat → Nat → Int32} (hp : p ≤ N) (h : MS g a bs N x p) : (nx x N p < 48 ∨ 57 < nx x N p → F_X12_readsNumber n 48 (wI σ g) = some (0, wI σ g)) ∧ (¬ (nx x N p < 48 ∨ 57 < nx x N p) → ∃ g', F_X12_readsNumber n 48 (wI σ g) = some (1, wI σ g') ∧ MF g g' J2 ∧ MS g' a bs N x (numS x N 3 p 0).1 ∧ g' 48 20 = nI (numS x N 3 p 0).2) := by
  have ha := hS.2.1
  have hN := hS.2.2.2.2
  unfold F_X12_readsNumber
  rw [qk_b2 (h.sg n hS hp)]
  refine ⟨fun h1 => ?_, fun h1 => ?_⟩
  · rw [qk_b2 (isIn_f n (y := 48) (z := 57) (a := sgA x N p) (lo := 48) (hi := 57) rfl rfl rfl (sg_d.mpr h1) _), if_pos rfl]
  · have h2 : ¬ nx x N p < 48 := fun q => h1 (Or.inl q)
    have h3 : ¬ 57 < nx x N p := fun q => h1 (Or.inr q)
    have hpN := nx_dig h3
    obtain ⟨j, hj, h4⟩ := dig_n h2 h3
    have e48 : nI (48 + j) - 48 = nI j := by
      have := dg_n 0 j
      rw [show (10 : Int32) * nI 0 = 0 from rfl] at this
      rw [show (0 : Int32) + nI (48 + j) = nI (48 + j) by grind, show 10 * 0 + j = j by omega] at this
      exact this
    rw [qk_b2 (isIn_t n (y := 48) (z := 57) (a := sgA x N p) (lo := 48) (hi := 57) rfl rfl rfl (fun q => h1 (sg_d.mp (Or.inl q))) (fun q => h1 (sg_d.mp (Or.inr q))) _), if_neg (by decide), qk_b2 (h.sg n hS hp), qk_lt, qk_lt, wI_p, wI_I, wI_p, sg_in hpN, h4, e48]
    have h5 := (h.set (j := 20) (v := nI j) ha (by omega)).on ha
    have e3 : numS x N 3 p 0 = if j = 0 then (p + 1, j) else numS x N 2 (p + 1) j := by
      simp only [numS]
      rw [if_neg h2, if_neg h3, h4, nI_clamp (by omega), show 48 + j - 48 = j by omega, show 10 * 0 + j = j by omega]
    have hf : MF g (up2 (up2 g 48 20 (nI j)) 48 16 (up2 g 48 20 (nI j) 48 16 + 1)) J2 := (MF.up (Or.inr rfl)).tr (MF.up (Or.inl rfl))
    rw [e3]
    by_cases h6 : j = 0
    · rw [if_pos h6]
      obtain ⟨q, rfl⟩ : ∃ q, n = q + 1 := ⟨n - 1, by omega⟩
      refine ⟨_, ?_, hf, h5, by rw [up_j (by omega), up_s]⟩
      simp only [F_X12_readsNumber_42]
      rw [if_neg (by decide), wI_I, up_j (by omega), up_s, h6, if_pos (by decide)]
    · rw [if_neg h6]
      obtain ⟨g', k1, k2, k3, k4⟩ := num_m n hS 2 (p + 1) j 1 n _ (by omega) (by omega) (by omega) (by omega) (by omega) h5 (by rw [up_j (by omega), up_s])
      exact ⟨g', by rw [q_1]; exact k1, hf.tr k2, k3, k4⟩
/-- what the model's reader of a sum owes -/
def MK (σ : Hp) (a bs N : Nat) (x : Nat → Int32) (K : Nat → Hp → Option (Int32 × Hp)) (KS : Nat → Nat → Rz) (dm : Nat) : Prop := ∀ d, dm ≤ d → d ≤ 6 → ∀ p g, p ≤ N → MS g a bs N x p → g 48 19 = nI d → ∃ g', K 48 (wI σ g) = some (if (KS d p).2.isSome then 1 else 0, wI σ g') ∧ MF g g' J3 ∧ MS g' a bs N x (KS d p).1 ∧ ((KS d p).2.isSome → g' 48 19 = nI d)
theorem atm_m {σ : Hp} {a bs N : Nat} {x : Nat → Int32} {K : Nat → Hp → Option (Int32 × Hp)} {KS : Nat → Nat → Rz} {dm : Nat} (n : Nat) (hn : 4 < n) (hS : TxS σ a bs N) (hO : ∀ d p, OkR N p (KS d p)) (hK : MK σ a bs N x K KS dm) {d : Nat} (hd : dm ≤ d + 1) (hd6 : d ≤ 6) {p : Nat} {g : Nat → Nat → Int32} (hp : p ≤ N) (h : MS g a bs N x p) (h19 : g 48 19 = nI d) : ∃ g', F_X12_readsAtom K n 48 (wI σ g) = some (if (atmS x N KS d p).2.isSome then 1 else 0, wI σ g') ∧ MF g g' J3 ∧ MS g' a bs N x (atmS x N KS d p).1 ∧ ((atmS x N KS d p).2.isSome → g' 48 19 = nI d) := by
  have ha := hS.2.1
  have hN := hS.2.2.2.2
  generalize hR : atmS x N KS d p = R
  unfold atmS at hR
  dsimp only at hR
  unfold F_X12_readsAtom
  rw [qk_b2 (h.sg n hS hp)]
  by_cases h1 : nx x N p = 40 ∨ nx x N p = 91
  · have hpN : p < N := by rcases h1 with h | h <;> exact nx_lt h (by decide)
    rw [sg_in hpN]
    have e1 : ∀ (c : Int32) (z : Option (Int32 × Hp)), c = 40 ∨ c = 91 → (if c = 40 then F_X12_readsAtom_17 K n 48 c (wI σ g) else if c = 91 then F_X12_readsAtom_17 K n 48 c (wI σ g) else z) = F_X12_readsAtom_17 K n 48 c (wI σ g) := by
      intro c z hc
      by_cases h2 : c = 40
      · rw [if_pos h2]
      · rw [if_neg h2, if_pos (hc.resolve_left h2)]
    rw [e1 _ _ h1]
    unfold F_X12_readsAtom_17 F_X12_readsAtom_77 F_X12_readsAtom_91
    rw [if_pos h1] at hR
    rw [wI_I, h19]
    by_cases h2 : 6 ≤ d
    · obtain rfl : d = 6 := by omega
      rw [if_pos h2] at hR
      subst hR
      rw [if_pos (show nI 6 = 6 from rfl)]
      exact ⟨g, rfl, MF.rf g _, h, fun h => by cases h⟩
    · rw [if_neg h2] at hR
      rw [if_neg (show ¬ nI d = 6 by rw [show (6 : Int32) = nI 6 from rfl, nI_eq (by omega) (by omega)]; omega), qk_lt, wI_p, qk_lt, wI_I, wI_p, up_j (show (19 : Nat) ≠ 16 by omega), h19, ← nI_succ]
      have hg1 := (h.on ha).set (j := 19) (v := nI (d + 1)) ha (by omega)
      have f1 : MF g (up2 (up2 g 48 16 (g 48 16 + 1)) 48 19 (nI (d + 1))) J3 := (MF.up (Or.inl rfl)).tr (MF.up (Or.inr (Or.inl rfl)))
      obtain ⟨g1, k1, k2, k3, k4⟩ := hK (d + 1) hd (by omega) (p + 1) _ (by omega) hg1 (up_s _ _ _ _)
      rw [qk_b2 k1]
      have o1 := hO (d + 1) (p + 1)
      cases hk : KS (d + 1) (p + 1) with
      | mk p1 r =>
        rw [hk] at k3 k4 o1 hR
        have o2 := o1.2.1 hpN
        simp only at o2 k3 k4 hR
        cases r with
        | none =>
          simp only at hR
          subst hR
          simp only [Option.isSome_none, Bool.false_eq_true, if_false]
          rw [if_pos trivial]
          exact ⟨g1, rfl, f1.tr k2, k3, fun h => by cases h⟩
        | some q =>
          obtain ⟨cs, e⟩ := q
          simp only [Option.isSome_some, if_true] at k4 hR ⊢
          have k4 := k4 trivial
          rw [if_neg (by decide)]
          by_cases h3 : nx x N p = 40
          · have h91 : ¬ nx x N p = 91 := by rw [h3]; decide
            rw [if_pos h3] at hR
            rw [if_neg h91, if_neg h91, k3.tk n (by decide) (by decide) hS o2]
            by_cases h4 : nx x N p1 = 41
            · rw [if_pos h4] at hR
              subst hR
              rw [if_pos h4, qk_s2, if_neg (by decide), qk_lt, wI_I, wI_p]
              refine ⟨_, rfl, (f1.tr k2).tr ((MF.up (Or.inl rfl)).tr (MF.up (Or.inr (Or.inl rfl)))), (k3.on ha).set ha (by omega), fun _ => ?_⟩
              rw [up_s, up_j (by omega), k4, nI_pred]
            · rw [if_neg h4] at hR
              subst hR
              rw [if_neg h4, qk_s2, if_pos rfl]
              exact ⟨g1, rfl, f1.tr k2, k3, fun h => by cases h⟩
          · have h91 : nx x N p = 91 := h1.resolve_left h3
            rw [if_neg h3] at hR
            rw [if_pos h91, k3.tk n (by decide) (by decide) hS o2]
            by_cases h4 : nx x N p1 = 44
            · have hp1 := nx_lt h4 (by decide)
              rw [if_pos h4] at hR
              rw [if_pos h4, qk_s2, if_neg (by decide)]
              obtain ⟨g2, t1, t2, t3, t4⟩ := hK (d + 1) hd (by omega) (p1 + 1) _ (by omega) (k3.on ha) (by rw [up_j (by omega)]; exact k4)
              rw [qk_b2 t1]
              have f2 := (f1.tr k2).tr ((MF.up (J := J3) (v := g1 48 16 + 1) (Or.inl rfl)).tr t2)
              have o3 := hO (d + 1) (p1 + 1)
              cases hk2 : KS (d + 1) (p1 + 1) with
              | mk p2 r2 =>
                rw [hk2] at t3 t4 o3 hR
                have o4 := o3.2.1 hp1
                simp only at o4 t3 t4 hR
                cases r2 with
                | none =>
                  simp only at hR
                  subst hR
                  simp only [Option.isSome_none, Bool.false_eq_true, if_false]
                  rw [if_pos trivial]
                  exact ⟨g2, rfl, f2, t3, fun h => by cases h⟩
                | some q2 =>
                  obtain ⟨cs2, e2⟩ := q2
                  simp only [Option.isSome_some, if_true] at t4 hR ⊢
                  have t4 := t4 trivial
                  rw [if_neg (by decide), if_pos h91, t3.tk n (by decide) (by decide) hS o4]
                  by_cases h5 : nx x N p2 = 93
                  · rw [if_pos h5] at hR
                    subst hR
                    rw [if_pos h5, qk_s2, if_neg (by decide), qk_lt, wI_I, wI_p]
                    refine ⟨_, rfl, f2.tr ((MF.up (Or.inl rfl)).tr (MF.up (Or.inr (Or.inl rfl)))), (t3.on ha).set ha (by omega), fun _ => ?_⟩
                    rw [up_s, up_j (by omega), t4, nI_pred]
                  · rw [if_neg h5] at hR
                    subst hR
                    rw [if_neg h5, qk_s2, if_pos rfl]
                    exact ⟨g2, rfl, f2, t3, fun h => by cases h⟩
            · rw [if_neg h4] at hR
              subst hR
              rw [if_neg h4, qk_s2, if_pos rfl]
              exact ⟨g1, rfl, f1.tr k2, k3, fun h => by cases h⟩
  · have h40 : ¬ nx x N p = 40 := fun h => h1 (Or.inl h)
    have h91 : ¬ nx x N p = 91 := fun h => h1 (Or.inr h)
    rw [if_neg h1] at hR
    rw [if_neg (fun q => h40 ((sg_c (by decide) (by decide)).mp q)), if_neg (fun q => h91 ((sg_c (by decide) (by decide)).mp q))]
    unfold F_X12_isField F_X12_isField_30
    have nm := rn_m n hn hS hp h
    by_cases h3 : fld (nx x N p) = true
    · have hpN := nx_lt rfl (fld_1000 h3)
      have h2 : ¬ (¬ nx x N p < 48 ∧ ¬ 57 < nx x N p) := by
        unfold fld at h3
        simp only [Bool.or_eq_true, beq_iff_eq] at h3
        rcases h3 with (((e | e) | e) | e) | e <;> rw [e] <;> decide
      rw [if_neg h2, if_pos h3] at hR
      subst hR
      rw [sg_in hpN]
      refine ⟨_, ?_, MF.up (Or.inl rfl), h.on ha, fun _ => by rw [up_j (by omega)]; exact h19⟩
      unfold fld at h3
      simp only [Bool.or_eq_true, beq_iff_eq] at h3
      rcases h3 with (((e | e) | e) | e) | e <;> rw [e] <;> rfl
    · have e5 : ∀ c : Int32, fld c = false → (if c = 116 then some ((1 : Int32), wI σ g) else if c = 112 then some (1, wI σ g) else if c = 121 then some (1, wI σ g) else if c = 110 then some (1, wI σ g) else if c = 109 then some (1, wI σ g) else some (0, wI σ g)) = some (0, wI σ g) := by
        intro c hc
        unfold fld at hc
        simp only [Bool.or_eq_false_iff, beq_eq_false_iff_ne] at hc
        obtain ⟨⟨⟨⟨q1, q2⟩, q3⟩, q4⟩, q5⟩ := hc
        rw [if_neg q1, if_neg q2, if_neg q3, if_neg q4, if_neg q5]
      have e6 : fld (sgA x N p) = false := by
        by_cases hpN : p < N
        · rw [sg_in hpN]; exact Bool.eq_false_iff.mpr h3
        · unfold sgA; rw [if_neg hpN]; decide
      rw [if_neg h3] at hR
      rw [e5 _ e6, qk_s2, if_pos rfl]
      by_cases h2 : nx x N p < 48 ∨ 57 < nx x N p
      · rw [if_neg (show ¬ (¬ nx x N p < 48 ∧ ¬ 57 < nx x N p) from fun q => h2.elim q.1 q.2)] at hR
        subst hR
        rw [qk_b2 (nm.1 h2), qk_ck (Or.inl rfl)]
        exact ⟨g, rfl, MF.rf g _, h, fun h => by cases h⟩
      · obtain ⟨g', k1, k2, k3, k4⟩ := nm.2 h2
        rw [if_pos (show ¬ nx x N p < 48 ∧ ¬ 57 < nx x N p from ⟨fun q => h2 (Or.inl q), fun q => h2 (Or.inr q)⟩)] at hR
        subst hR
        rw [qk_b2 k1, qk_ck (Or.inr rfl)]
        exact ⟨g', rfl, k2.wk (fun j hj => hj.elim Or.inl (fun q => Or.inr (Or.inr q))), k3, fun _ => by rw [k2.2 19 (by unfold J2; omega)]; exact h19⟩
