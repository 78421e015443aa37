/-! the loops of the class's reader, its start, and what a Law answers -/
theorem many_c {σ : Hp} {o N : Nat} {x : Nat → Int32} (n : Nat) (hS : LyL σ o N) {A : Nat → Rz} {u w : Int32} (hu : isK u = true ∧ u ≠ 1000) (hw : isK w = true ∧ w ≠ 1000) (hO : ∀ p, OkR N p (A p)) (B : Nat → Int32 → Hp → Option Hp) {d : Nat}
    (hB : ∀ p ws g, p ≤ N → ws.length ≤ p → PS g o N x p ws → ∃ g', B o (nI d) (wI σ g) = some (wI σ g') ∧ Pst g g' o N x ws (A p))
    (F : Nat → Nat → Int32 → Int32 → Hp → Option Hp)
    (hF : ∀ f v0 v1 v2 τ, F (f + 1) v0 v1 v2 τ = b1 (hR τ v0 0) fun i6 => if (nI (hL τ i6)) ≤ v2 then some τ else (if 0 ≤ (hI τ v0 5) then some τ else (b2 (F_X1_next n v0 τ) fun r8 σ7 => if r8 = u then (b2 (F_X1_next n v0 σ7) fun r2 σ1 => lt (pI σ1 v0 1 ((hI σ1 v0 1) + 1)) fun σ3 => b1 (B v0 v1 σ3) fun σ4 => b1 (F_X1_write n v0 r2 σ4) fun σ5 => F f v0 v1 (v2 + 1) σ5) else (b2 (F_X1_next n v0 σ7) fun r10 σ9 => if r10 = w then (b2 (F_X1_next n v0 σ9) fun r2 σ1 => lt (pI σ1 v0 1 ((hI σ1 v0 1) + 1)) fun σ3 => b1 (B v0 v1 σ3) fun σ4 => b1 (F_X1_write n v0 r2 σ4) fun σ5 => F f v0 v1 (v2 + 1) σ5) else some σ9)))) :
    ∀ fs p ws cs e i f g, N - p < fs → N - p < f → i ≤ p → p ≤ N → ws.length + cs.length ≤ p → PS g o N x p (ws ++ cs) → ∃ g', F f o (nI d) (nI i) (wI σ g) = some (wI σ g') ∧ Pst g g' o N x ws (manyS x N A u w fs p cs e) := by
  have hN := hS.2.2.2.2.2.2
  intro fs
  induction fs with
  | zero => intro p ws cs e i f g h; omega
  | succ fs ih =>
    intro p ws cs e i f g hfs hf hi hp hl h
    obtain ⟨f, rfl⟩ : ∃ q, f = q + 1 := ⟨f - 1, by omega⟩
    have hnx := h.rd n hS hp
    rw [hF, wI_R, qk_b1 hS.1, wI_L, hS.2.2.2.1, wI_I, h.2.1]
    simp only [manyS]
    by_cases h5 : nx x N p = u ∨ nx x N p = w
    · rw [if_pos h5]
      have hk : isK (nx x N p) = true ∧ nx x N p ≠ 1000 := by rcases h5 with h | h <;> rw [h] <;> assumption
      have hpN := nx_lt rfl hk.2
      obtain ⟨g1, k1, k2, k3⟩ := hB (p + 1) (ws ++ cs) _ (by omega) (by rw [List.length_append]; omega) h.on
      have o1 := hO (p + 1)
      have kf : ∀ a, a ≠ o → a ≠ o + 2 → g1 a = g a := fun a h1 h2 => by rw [k2 a h1 h2, up_r h1]
      have key : ∃ g', (b2 (F_X1_next n o (wI σ g)) fun r2 σ1 => lt (pI σ1 o 1 ((hI σ1 o 1) + 1)) fun σ3 => b1 (B o (nI d) σ3) fun σ4 => b1 (F_X1_write n o r2 σ4) fun σ5 => F f o (nI d) (nI i + 1) σ5) = some (wI σ g') ∧ Pst g g' o N x ws (match A (p + 1) with
          | (p1, none) => (p1, none)
          | (p1, some (cs1, e1)) => manyS x N A u w fs p1 (cs ++ cs1 ++ [nx x N p]) (fun t q y n m => jnd (nx x N p) (e t q y n m) (e1 t q y n m))) := by
        rw [qk_b2 hnx, qk_lt, wI_I, wI_p, qk_b1 k1, ← nI_succ]
        cases hk1 : A (p + 1) with
        | mk p1 r =>
          rw [hk1] at k3 o1
          have o2 := o1.2.1 hpN
          have o3 := o1.1
          simp only at o2 o3
          cases r with
          | none =>
            simp only at k3 ⊢
            obtain ⟨g2, v1, v2, v3⟩ := wr_any (g := g1) n (nx x N p) hS
            rw [qk_b1 v1]
            obtain ⟨q, rfl⟩ : ∃ q, f = q + 1 := ⟨f - 1, by omega⟩
            rw [hF, wI_R, qk_b1 hS.1, wI_L, hS.2.2.2.1, wI_I, v3, k3]
            refine ⟨g2, ?_, fun a a1 a2 => by rw [v2 a a1 a2, kf a a1 a2], by simp only; rw [v3]; exact k3⟩
            split
            · rfl
            · rw [if_pos (nI_pos' (by omega))]
          | some q =>
            obtain ⟨cs1, e1⟩ := q
            simp only at k3 ⊢
            obtain ⟨s1, s2, s3⟩ := o1.2.2 cs1 e1 rfl
            simp only at s2 s3
            obtain ⟨g2, v1, v2, v3⟩ := k3.wr n (nx x N p) hS (by simp only [List.length_append]; omega)
            rw [qk_b1 v1]
            obtain ⟨g3, t1, t2, t3⟩ := ih p1 ws (cs ++ cs1 ++ [nx x N p]) (fun t q y n m => jnd (nx x N p) (e t q y n m) (e1 t q y n m)) (i + 1) f g2 (by omega) (by omega) (by omega) o2 (by simp only [List.length_append, List.length_singleton]; omega) (by simp only [← List.append_assoc] at v3 ⊢; exact v3)
            exact ⟨g3, t1, fun a a1 a2 => by rw [t2 a a1 a2, v2 a a1 a2, kf a a1 a2], t3⟩
      rw [if_neg (nI_ge (by omega) (by omega)), if_neg (by decide), qk_b2 hnx]
      by_cases h6 : nx x N p = u
      · rw [if_pos h6]; exact key
      · rw [if_neg h6, qk_b2 hnx, if_pos (h5.resolve_left h6)]; exact key
    · rw [if_neg h5]
      have h6 : ¬ nx x N p = u := fun h => h5 (Or.inl h)
      have h7 : ¬ nx x N p = w := fun h => h5 (Or.inr h)
      refine ⟨g, ?_, fun _ _ _ => rfl, h⟩
      split
      · rfl
      · rw [if_neg (by decide), qk_b2 hnx, if_neg h6, qk_b2 hnx, if_neg h7]
theorem prd_c {σ : Hp} {o N : Nat} {x : Nat → Int32} {K : Nat → Int32 → Hp → Option Hp} {KS : Nat → Nat → Rz} {dm : Nat} (n : Nat) (hn : 200 < n) (hS : LyL σ o N) (hO : ∀ d p, OkR N p (KS d p)) (hK : CK σ o N x K KS dm) {d : Nat} (hd : dm ≤ d + 1) (hd6 : d ≤ 6) {p : Nat} {ws : List Int32} {g : Nat → Nat → Int32} (hp : p ≤ N) (hw : ws.length ≤ p) (h : PS g o N x p ws) : ∃ g', F_X1_readProduct K n o (nI d) (wI σ g) = some (wI σ g') ∧ Pst g g' o N x ws (prdS x N KS d p) := by
  have hN := hS.2.2.2.2.2.2
  obtain ⟨g1, k1, k2, k3⟩ := atm_c n (by omega) hS hO hK hd hd6 hp hw h
  have o1 := atmS_ok (x := x) hO d p
  unfold F_X1_readProduct prdS oneS
  rw [qk_b1 k1]
  have hB : ∀ p ws g, p ≤ N → ws.length ≤ p → PS g o N x p ws → ∃ g', F_X1_readAtom K n o (nI d) (wI σ g) = some (wI σ g') ∧ Pst g g' o N x ws (atmS x N KS d p) := fun p ws g a b c => atm_c n (by omega) hS hO hK hd hd6 a b c
  have hM := many_c n hS (A := atmS x N KS d) (u := 42) (w := 47) (by decide) (by decide) (fun p => atmS_ok hO d p) (F_X1_readAtom K n) hB (F_X1_readProduct_7 K n) (fun f v0 v1 v2 τ => rfl)
  cases hk : atmS x N KS d p with
  | mk p1 r =>
    rw [hk] at k3 o1
    have o2 := o1.2.1 hp
    simp only at o2
    cases r with
    | none =>
      simp only at k3 ⊢
      obtain ⟨q, rfl⟩ : ∃ q, n = q + 1 := ⟨n - 1, by omega⟩
      refine ⟨g1, ?_, k2, k3⟩
      simp only [F_X1_readProduct_7]
      rw [wI_R, qk_b1 hS.1, wI_L, wI_I, k3]
      split
      · rfl
      · rw [if_pos (nI_pos' (by omega))]
    | some q =>
      obtain ⟨cs, e⟩ := q
      simp only at k3 ⊢
      obtain ⟨s1, s2, s3⟩ := o1.2.2 cs e rfl
      simp only at s2 s3
      obtain ⟨g2, t1, t2, t3⟩ := hM 200 p1 ws cs e 0 n g1 (by omega) (by omega) (by omega) o2 (by omega) k3
      exact ⟨g2, t1, fun a a1 a2 => by rw [t2 a a1 a2, k2 a a1 a2], t3⟩
theorem smB_c {σ : Hp} {o N : Nat} {x : Nat → Int32} {K : Nat → Int32 → Hp → Option Hp} {KS : Nat → Nat → Rz} {dm : Nat} (n : Nat) (hn : 200 < n) (hS : LyL σ o N) (hO : ∀ d p, OkR N p (KS d p)) (hK : CK σ o N x K KS dm) {d : Nat} (hd : dm ≤ d + 1) (hd6 : d ≤ 6) {p : Nat} {ws : List Int32} {g : Nat → Nat → Int32} (hp : p ≤ N) (hw : ws.length ≤ p) (h : PS g o N x p ws) : ∃ g', F_X1_readSumB K n o (nI d) (wI σ g) = some (wI σ g') ∧ Pst g g' o N x ws (smBS x N KS d p) := by
  have hN := hS.2.2.2.2.2.2
  obtain ⟨g1, k1, k2, k3⟩ := prd_c n (by omega) hS hO hK hd hd6 hp hw h
  have o1 := prdS_ok (x := x) hO d p
  unfold F_X1_readSumB smBS oneS
  rw [qk_b1 k1]
  have hB : ∀ p ws g, p ≤ N → ws.length ≤ p → PS g o N x p ws → ∃ g', F_X1_readProduct K n o (nI d) (wI σ g) = some (wI σ g') ∧ Pst g g' o N x ws (prdS x N KS d p) := fun p ws g a b c => prd_c n (by omega) hS hO hK hd hd6 a b c
  have hM := many_c n hS (A := prdS x N KS d) (u := 43) (w := 45) (by decide) (by decide) (fun p => prdS_ok hO d p) (F_X1_readProduct K n) hB (F_X1_readSum_7 K n) (fun f v0 v1 v2 τ => rfl)
  cases hk : prdS x N KS d p with
  | mk p1 r =>
    rw [hk] at k3 o1
    have o2 := o1.2.1 hp
    simp only at o2
    cases r with
    | none =>
      simp only at k3 ⊢
      obtain ⟨q, rfl⟩ : ∃ q, n = q + 1 := ⟨n - 1, by omega⟩
      refine ⟨g1, ?_, k2, k3⟩
      simp only [F_X1_readSum_7]
      rw [wI_R, qk_b1 hS.1, wI_L, wI_I, k3]
      split
      · rfl
      · rw [if_pos (nI_pos' (by omega))]
    | some q =>
      obtain ⟨cs, e⟩ := q
      simp only at k3 ⊢
      obtain ⟨s1, s2, s3⟩ := o1.2.2 cs e rfl
      simp only at s2 s3
      obtain ⟨g2, t1, t2, t3⟩ := hM 200 p1 ws cs e 0 n g1 (by omega) (by omega) (by omega) o2 (by omega) k3
      exact ⟨g2, t1, fun a a1 a2 => by rw [t2 a a1 a2, k2 a a1 a2], t3⟩
theorem sum_c {σ : Hp} {o N : Nat} {x : Nat → Int32} (n : Nat) (hn : 200 < n) (hS : LyL σ o N) : ∀ k, CK σ o N x (F_X1_readSum n k) (sumS x N k) (7 - k) := by
  intro k
  induction k with
  | zero => intro d h1 h2; omega
  | succ k ih =>
    intro d h1 h2 p ws g hp hw h
    exact smB_c n hn hS (fun d p => sumS_ok k d p) ih (by omega) h2 hp hw h
/-! a Law's value -/
def SA (a : Nat → Int32) : List Int32 → Prop
  | [] => True
  | v :: r => a r.length = v ∧ SA a r
theorem SA_up {a : Nat → Int32} {v : Int32} {j : Nat} : ∀ {s : List Int32}, SA a s → s.length ≤ j → SA (fun b => if b = j then v else a b) s := by
  intro s
  induction s with
  | nil => intro _ _; trivial
  | cons c s ih =>
    intro h hl
    rw [List.length_cons] at hl
    exact ⟨by simp only; rw [if_neg (by omega)]; exact h.1, ih h.2 (by omega)⟩
theorem SA_cg {a b : Nat → Int32} : ∀ {s : List Int32}, SA a s → (∀ i, i < s.length → b i = a i) → SA b s := by
  intro s
  induction s with
  | nil => intro _ _; trivial
  | cons c s ih =>
    intro h hl
    rw [List.length_cons] at hl
    exact ⟨by rw [hl _ (by omega)]; exact h.1, ih h.2 (fun i hi => hl i (by omega))⟩
/-- a Law that has been read: its signs, and what they answer -/
def LwI (σ : Hp) (g : Nat → Nat → Int32) (o : Nat) (e : Ev) : Prop := ∃ N cs, LyL σ o N ∧ g o 3 = nI cs.length ∧ cs.length ≤ N ∧ 0 < N ∧ (∀ i, i < cs.length → g (o + 2) i = cs.getD i 0) ∧ Seg cs e
theorem mk_c (n : Nat) (c : Int32) (σ : Hp) : F_X1_isMark n c σ = some (if isK c then 1 else 0, σ) := by
  unfold F_X1_isMark F_X1_isMark_30 isK
  by_cases h1 : c = 43 <;> by_cases h2 : c = 45 <;> by_cases h3 : c = 42 <;> by_cases h4 : c = 47 <;> by_cases h5 : c = 44 <;> simp [h1, h2, h3, h4, h5]
theorem sgl_c (n : Nat) (c t p y nn m : Int32) (σ : Hp) : F_X1_single n c t p y nn m σ = some (sgl c t p y nn m, σ) := by
  unfold F_X1_single sgl
  by_cases h1 : c = 116
  · subst h1; rfl
  by_cases h2 : c = 112
  · subst h2; rfl
  by_cases h3 : c = 121
  · subst h3; rfl
  by_cases h4 : c = 110
  · subst h4; rfl
  by_cases h5 : c = 109
  · subst h5; rfl
  simp only [if_neg h1, if_neg h2, if_neg h3, if_neg h4, if_neg h5, ite_self]
theorem jnd_c (n : Nat) {c : Int32} (a b : Int32) (hc : isK c = true) (σ : Hp) : F_X1_joined n c a b σ = some (jnd c a b, σ) := by
  unfold F_X1_joined F_X1_joined_64 jnd
  unfold isK at hc
  simp only [Bool.or_eq_true, beq_iff_eq] at hc
  rcases hc with (((rfl | rfl) | rfl) | rfl) | rfl
  · simp
  · simp
  · simp
  · by_cases h : b = 0 <;> simp [h, ck]
  · by_cases h : a ≤ b <;> simp [h]
theorem val_loop {σ : Hp} {o N : Nat} {cs : List Int32} {e : Ev} (n : Nat) (t p y nn m : Int32) (hS : LyL σ o N) (h0 : 0 < N) (hl : cs.length ≤ N) (hg : Seg cs e) : ∀ d i f st g, i + d = cs.length → d < f → st.length ≤ i → g o 3 = nI cs.length → (∀ i, i < cs.length → g (o + 2) i = cs.getD i 0) → SA (g (o + 3)) st → runR t p y nn m st (cs.drop i) = [e t p y nn m] → ∃ g', F_X1_value_6 n f o t p y nn m (nI st.length) (nI i) (wI σ g) = some (e t p y nn m, wI σ g') ∧ ∀ a, a ≠ o + 3 → g' a = g a := by
  obtain ⟨s0, s2, s4, l1, l2, l3, hN⟩ := hS
  intro d
  induction d with
  | zero =>
    intro i f st g hi hf hs hc hw ha hr
    obtain ⟨f, rfl⟩ : ∃ q, f = q + 1 := ⟨f - 1, by omega⟩
    obtain rfl : i = cs.length := by omega
    rw [List.drop_length] at hr
    simp only [runR] at hr
    subst hr
    refine ⟨g, ?_, fun _ _ => rfl⟩
    simp only [F_X1_value_6, F_X1_value_139]
    rw [wI_I, hc, if_pos (nI_le (Nat.le_refl _) (by omega)), wI_R, qk_b1 s4, q_0, qk_b2 (q_at n (by rw [wI_L]; exact l3) h0 (by omega)), wI_I]
    have := ha.1
    simp only [List.length_nil] at this
    rw [this]
  | succ d ih =>
    intro i f st g hi hf hs hc hw ha hr
    obtain ⟨f, rfl⟩ : ∃ q, f = q + 1 := ⟨f - 1, by omega⟩
    have hil : i < cs.length := by omega
    rw [List.drop_eq_getElem_cons hil] at hr
    simp only [runR] at hr
    have hwi : g (o + 2) i = cs[i] := by rw [hw i hil, List.getD_eq_getElem?_getD, List.getElem?_eq_getElem hil, Option.getD_some]
    simp only [F_X1_value_6, F_X1_value_139, F_X1_value_133]
    rw [wI_I, hc, if_neg (nI_ge hil (by omega)), wI_R, qk_b1 s2, wI_L, l2, if_neg (nI_ge (by omega) (by omega)), qk_b1 s2, l2, qk_in (by omega) (by omega), nI_clamp (by omega), hwi, qk_b2 (mk_c n _ _)]
    unfold stepR at hr
    by_cases hk : isK cs[i] = true
    · rw [hk] at hr ⊢
      rw [if_pos rfl] at hr
      rw [if_neg (show ¬ (if true = true then (1 : Int32) else 0) = 0 by decide)]
      match st, hs, ha, hr with
      | [], hs, ha, hr =>
        rw [if_pos (show nI ([] : List Int32).length < 2 by decide), ← nI_succ]
        exact ih (i + 1) f [] g (by omega) (by omega) (by simp) hc hw ha hr
      | [b], hs, ha, hr =>
        rw [if_pos (show nI [b].length < 2 from (by decide : nI 1 < 2)), ← nI_succ]
        exact ih (i + 1) f [b] g (by omega) (by omega) (by simp only [List.length_cons] at hs ⊢; omega) hc hw ha hr
      | b :: a :: r, hs, ha, hr =>
        simp only [List.length_cons] at hs ha hr ⊢
        have e2 : nI (r.length + 1 + 1) - 2 = nI r.length := by
          rw [nI_succ, nI_succ]; grind
        have e1 : nI (r.length + 1 + 1) - 1 = nI (r.length + 1) := nI_pred _
        have e3 : nI (r.length + 1 + 1) + (-1) = nI (r.length + 1) := by rw [nI_succ (r.length + 1)]; grind
        rw [if_neg (show ¬ nI (r.length + 1 + 1) < 2 from nI_nlt (a := r.length + 1 + 1) (b := 2) (by omega) (by omega)), wI_R, qk_b1 s4, wI_L, l3, if_neg (nI_nlt (by omega) (by omega)), qk_b1 s4, qk_b1 s4]
        simp only [e2, e1, e3]
        rw [l3, qk_in (by omega) (by omega), qk_b1 s4, l3, qk_in (by omega) (by omega), wI_I, nI_clamp (by omega), nI_clamp (by omega)]
        obtain ⟨a1, a2, a3⟩ := ha
        simp only [List.length_cons] at a1 a2
        rw [a1, a2, qk_b2 (jnd_c n _ _ hk _), wI_L, l3, qk_ck (show ¬ (nI r.length < 0 ∨ N ≤ r.length) from fun q => q.elim (nI_pos (by omega)) (by omega)), wI_p, qk_lt, ← nI_succ]
        obtain ⟨g', k1, k2⟩ := ih (i + 1) f (jnd cs[i] a b :: r) (up2 g (o + 3) r.length (jnd cs[i] a b)) (by omega) (by omega) (by simp only [List.length_cons]; omega) (by rw [up_i (by omega)]; exact hc) (fun j hj => by rw [up_i (by omega)]; exact hw j hj) ⟨up_s _ _ _ _, SA_cg a3 (fun j hj => up_j (by omega))⟩ hr
        exact ⟨g', k1, fun a ha => by rw [k2 a ha, up_r ha]⟩
    · rw [Bool.not_eq_true] at hk
      rw [hk] at hr ⊢
      rw [if_neg (by decide)] at hr
      rw [if_pos (show (if false = true then (1 : Int32) else 0) = 0 by decide), if_neg (nI_pos (by omega)), wI_R, qk_b1 s4, wI_L, l3, if_neg (nI_ge (by omega) (by omega)), qk_b1 s4, qk_b2 (sgl_c n _ _ _ _ _ _ _), wI_L, l3, qk_in (by omega) (by omega), nI_clamp (by omega), wI_p, qk_lt, ← nI_succ, ← nI_succ]
      obtain ⟨g', k1, k2⟩ := ih (i + 1) f (sgl cs[i] t p y nn m :: st) (up2 g (o + 3) st.length (sgl cs[i] t p y nn m)) (by omega) (by omega) (by simp only [List.length_cons]; omega) (by rw [up_i (by omega)]; exact hc) (fun j hj => by rw [up_i (by omega)]; exact hw j hj) ⟨up_s _ _ _ _, SA_cg ha (fun j hj => up_j (by omega))⟩ hr
      exact ⟨g', k1, fun a ha => by rw [k2 a ha, up_r ha]⟩
theorem LwI.val {σ : Hp} {g : Nat → Nat → Int32} {o : Nat} {e : Ev} (n : Nat) (hn : 200 < n) (t p y nn m : Int32) (h : LwI σ g o e) : ∃ g', F_X1_value n o t p y nn m (wI σ g) = some (e t p y nn m, wI σ g') ∧ ∀ a, a ≠ o + 3 → g' a = g a := by
  obtain ⟨N, cs, hS, h3, hl, h0, hw, hg⟩ := h
  have hN := hS.2.2.2.2.2.2
  exact val_loop n t p y nn m hS h0 hl hg cs.length 0 n [] g (by omega) (by omega) (by simp) h3 hw trivial (by rw [List.drop_zero]; exact hg t p y nn m [])
