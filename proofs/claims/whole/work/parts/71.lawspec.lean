/-! LAWS: the reading of a text, the signs in a stack's order, and what they answer. -/
abbrev Ev : Type := Int32 → Int32 → Int32 → Int32 → Int32 → Int32
abbrev Rz : Type := Nat × Option (List Int32 × Ev)
def isK (c : Int32) : Bool := c == 43 || c == 45 || c == 42 || c == 47 || c == 44
def jnd (c a b : Int32) : Int32 := if c = 43 then a + b else if c = 45 then a - b else if c = 42 then a * b else if c = 47 then (if b = 0 then 0 else a / b) else if a ≤ b then b else a
def sgl (c t p y n m : Int32) : Int32 := if c = 116 then t else if c = 112 then p else if c = 121 then y else if c = 110 then n else if c = 109 then m else (-1) - c
def stepR (t p y n m : Int32) (s : List Int32) (c : Int32) : List Int32 := if isK c then (match s with
  | b :: a :: r => jnd c a b :: r
  | _ => s) else sgl c t p y n m :: s
def runR (t p y n m : Int32) : List Int32 → List Int32 → List Int32
  | s, [] => s
  | s, c :: cs => runR t p y n m (stepR t p y n m s c) cs
def Seg (cs : List Int32) (e : Ev) : Prop := ∀ t p y n m s, runR t p y n m s cs = e t p y n m :: s
theorem runR_app (t p y n m : Int32) : ∀ (as bs s : List Int32), runR t p y n m s (as ++ bs) = runR t p y n m (runR t p y n m s as) bs := by
  intro as
  induction as with
  | nil => intro bs s; rfl
  | cons c as ih => intro bs s; exact ih bs _
theorem Seg.two {as bs : List Int32} {e f : Ev} {c : Int32} (h : Seg as e) (g : Seg bs f) (hc : isK c = true) : Seg (as ++ bs ++ [c]) (fun t p y n m => jnd c (e t p y n m) (f t p y n m)) := by
  intro t p y n m s
  rw [runR_app, runR_app, h, g]
  simp only [runR, stepR, hc, if_true]
theorem Seg.one {c : Int32} (hc : isK c = false) : Seg [c] (fun t p y n m => sgl c t p y n m) := by
  intro t p y n m s
  simp only [runR, stepR, hc]
  rfl
/-- the sign at a place, 1000 at the end -/
def nx (x : Nat → Int32) (N p : Nat) : Int32 := if p < N then x p else 1000
/-- a number of up to k digits more -/
def numS (x : Nat → Int32) (N : Nat) : Nat → Nat → Nat → Nat × Nat
  | 0, p, a => (p, a)
  | k + 1, p, a => if nx x N p < 48 then (p, a) else if 57 < nx x N p then (p, a) else
    let v := 10 * a + ((nx x N p).toNatClampNeg - 48)
    if v = 0 then (p + 1, v) else numS x N k (p + 1) v
def fld (c : Int32) : Bool := c == 116 || c == 112 || c == 121 || c == 110 || c == 109
def atmS (x : Nat → Int32) (N : Nat) (KS : Nat → Nat → Rz) (d p : Nat) : Rz :=
  let c := nx x N p
  if c = 40 ∨ c = 91 then
    if 6 ≤ d then (p, none) else
    match KS (d + 1) (p + 1) with
    | (p1, none) => (p1, none)
    | (p1, some (cs, e)) =>
      if c = 40 then (if nx x N p1 = 41 then (p1 + 1, some (cs, e)) else (p1, none))
      else if nx x N p1 = 44 then
        match KS (d + 1) (p1 + 1) with
        | (p2, none) => (p2, none)
        | (p2, some (cs2, e2)) => if nx x N p2 = 93 then (p2 + 1, some (cs ++ cs2 ++ [44], fun t p y n m => jnd 44 (e t p y n m) (e2 t p y n m))) else (p2, none)
      else (p1, none)
  else if ¬ c < 48 ∧ ¬ 57 < c then ((numS x N 3 p 0).1, some ([(-1) - nI (numS x N 3 p 0).2], fun _ _ _ _ _ => nI (numS x N 3 p 0).2))
  else if fld c then (p + 1, some ([c], fun t q y n m => sgl c t q y n m))
  else (p, none)
/-- on and on while one of two marks follows -/
def manyS (x : Nat → Int32) (N : Nat) (A : Nat → Rz) (u w : Int32) : Nat → Nat → List Int32 → Ev → Rz
  | 0, p, cs, e => (p, some (cs, e))
  | f + 1, p, cs, e =>
    let c := nx x N p
    if c = u ∨ c = w then
      match A (p + 1) with
      | (p1, none) => (p1, none)
      | (p1, some (cs1, e1)) => manyS x N A u w f p1 (cs ++ cs1 ++ [c]) (fun t q y n m => jnd c (e t q y n m) (e1 t q y n m))
    else (p, some (cs, e))
def oneS (x : Nat → Int32) (N : Nat) (A : Nat → Rz) (u w : Int32) (p : Nat) : Rz := match A p with
  | (p1, none) => (p1, none)
  | (p1, some (cs, e)) => manyS x N A u w 200 p1 cs e
def prdS (x : Nat → Int32) (N : Nat) (KS : Nat → Nat → Rz) (d p : Nat) : Rz := oneS x N (atmS x N KS d) 42 47 p
def smBS (x : Nat → Int32) (N : Nat) (KS : Nat → Nat → Rz) (d p : Nat) : Rz := oneS x N (prdS x N KS d) 43 45 p
def sumS (x : Nat → Int32) (N : Nat) : Nat → Nat → Nat → Rz
  | 0, _, p => (p, none)
  | k + 1, d, p => smBS x N (sumS x N k) d p
/-- a reading gets on, and what it answers is what its signs do -/
def OkR (N p : Nat) (R : Rz) : Prop := p ≤ R.1 ∧ (p ≤ N → R.1 ≤ N) ∧ ∀ cs e, R.2 = some (cs, e) → Seg cs e ∧ p + cs.length ≤ R.1 ∧ p < R.1
theorem nx_lt {x : Nat → Int32} {N p : Nat} {c : Int32} (h : nx x N p = c) (hc : c ≠ 1000) : p < N := by
  unfold nx at h
  by_cases hp : p < N
  · exact hp
  · rw [if_neg hp] at h; exact absurd h.symm hc
theorem nx_dig {x : Nat → Int32} {N p : Nat} (h2 : ¬ 57 < nx x N p) : p < N := by
  by_cases hp : p < N
  · exact hp
  · exfalso; apply h2; unfold nx; rw [if_neg hp]; decide
theorem numS_ok {x : Nat → Int32} {N : Nat} : ∀ k p a, p ≤ (numS x N k p a).1 ∧ (p ≤ N → (numS x N k p a).1 ≤ N) := by
  intro k
  induction k with
  | zero => intro p a; exact ⟨Nat.le_refl _, id⟩
  | succ k ih =>
    intro p a
    simp only [numS]
    by_cases h1 : nx x N p < 48
    · rw [if_pos h1]; exact ⟨Nat.le_refl _, id⟩
    · rw [if_neg h1]
      by_cases h2 : 57 < nx x N p
      · rw [if_pos h2]; exact ⟨Nat.le_refl _, id⟩
      · rw [if_neg h2]
        have h3 := nx_dig h2
        split
        · exact ⟨Nat.le_succ _, fun _ => h3⟩
        · exact ⟨Nat.le_trans (Nat.le_succ _) (ih _ _).1, fun _ => (ih _ _).2 h3⟩
theorem dig_n {c : Int32} (h1 : ¬ c < 48) (h2 : ¬ 57 < c) : ∃ k : Nat, k ≤ 9 ∧ c = nI (48 + k) := by
  have h3 : ¬ c < 0 := by
    intro h; apply h1
    rw [Int32.lt_iff_toInt_lt] at h ⊢
    have : (48 : Int32).toInt = 48 := rfl
    have : (0 : Int32).toInt = 0 := rfl
    omega
  obtain ⟨j, hj, rfl⟩ := nI_of h3
  have h4 : ¬ nI j < nI 48 := h1
  have h5 : ¬ nI 57 < nI j := h2
  rw [nI_ltI (by omega) (by omega)] at h4 h5
  exact ⟨j - 48, by omega, by congr 1; omega⟩
theorem numS_b {x : Nat → Int32} {N : Nat} : ∀ k p a, (numS x N k p a).2 < (a + 1) * 10 ^ k := by
  intro k
  induction k with
  | zero => intro p a; simp [numS]
  | succ k ih =>
    intro p a
    have h0 : a < (a + 1) * 10 ^ (k + 1) := by
      have : 1 ≤ 10 ^ (k + 1) := Nat.pow_pos (by omega)
      calc a < (a + 1) * 1 := by omega
        _ ≤ _ := Nat.mul_le_mul_left _ this
    simp only [numS]
    by_cases h1 : nx x N p < 48
    · rw [if_pos h1]; exact h0
    · rw [if_neg h1]
      by_cases h2 : 57 < nx x N p
      · rw [if_pos h2]; exact h0
      · rw [if_neg h2]
        obtain ⟨j, hj, h3⟩ := dig_n h1 h2
        rw [h3, nI_clamp (by omega)]
        split
        · next h4 => rw [h4]; exact Nat.lt_of_le_of_lt (Nat.zero_le _) h0
        · refine Nat.lt_of_lt_of_le (ih _ _) ?_
          rw [Nat.pow_succ, Nat.mul_comm (10 ^ k) 10, ← Nat.mul_assoc]
          exact Nat.mul_le_mul_right _ (by omega)
theorem numS_1 {x : Nat → Int32} {N p : Nat} (h1 : ¬ nx x N p < 48) (h2 : ¬ 57 < nx x N p) : p + 1 ≤ (numS x N 3 p 0).1 := by
  simp only [numS, if_neg h1, if_neg h2]
  split
  · exact Nat.le_refl _
  · exact (numS_ok 2 _ _).1
theorem num_mark : ∀ v : Nat, v < 1000 → isK ((-1) - nI v) = false ∧ fld ((-1) - nI v) = false := by decide +kernel
theorem num_sgl {v : Nat} (h : v < 1000) (t p y n m : Int32) : sgl ((-1) - nI v) t p y n m = nI v := by
  have h2 := (num_mark v h).2
  unfold fld at h2
  simp only [Bool.or_eq_false_iff, beq_eq_false_iff_ne] at h2
  obtain ⟨⟨⟨⟨a, b⟩, c⟩, d⟩, e⟩ := h2
  unfold sgl
  rw [if_neg a, if_neg b, if_neg c, if_neg d, if_neg e]
  grind
theorem fld_K {c : Int32} (h : fld c = true) : isK c = false := by
  unfold fld at h
  simp only [Bool.or_eq_true, beq_iff_eq] at h
  rcases h with (((rfl | rfl) | rfl) | rfl) | rfl <;> decide
theorem fld_1000 {c : Int32} (h : fld c = true) : c ≠ 1000 := by
  unfold fld at h
  simp only [Bool.or_eq_true, beq_iff_eq] at h
  rcases h with (((rfl | rfl) | rfl) | rfl) | rfl <;> decide
theorem atmS_ok {x : Nat → Int32} {N : Nat} {KS : Nat → Nat → Rz} (hK : ∀ d p, OkR N p (KS d p)) (d p : Nat) : OkR N p (atmS x N KS d p) := by
  unfold atmS
  dsimp only
  by_cases h1 : nx x N p = 40 ∨ nx x N p = 91
  · rw [if_pos h1]
    have hp : p < N := by rcases h1 with h | h <;> exact nx_lt h (by decide)
    by_cases h2 : 6 ≤ d
    · rw [if_pos h2]; exact ⟨Nat.le_refl _, id, fun cs e h => by cases h⟩
    · rw [if_neg h2]
      have k1 := hK (d + 1) (p + 1)
      cases hk : KS (d + 1) (p + 1) with
      | mk p1 r =>
        rw [hk] at k1
        cases r with
        | none => exact ⟨by have := k1.1; simp only at this ⊢; omega, fun _ => k1.2.1 hp, fun cs e h => by cases h⟩
        | some q =>
          obtain ⟨cs, e⟩ := q
          obtain ⟨s1, s2, s3⟩ := k1.2.2 cs e rfl
          have s4 := k1.2.1 hp
          simp only at s2 s3 s4 ⊢
          by_cases h3 : nx x N p = 40
          · rw [if_pos h3]
            by_cases h4 : nx x N p1 = 41
            · rw [if_pos h4]
              have := nx_lt h4 (by decide)
              exact ⟨by simp only; omega, fun _ => by simp only; omega, fun cs' e' h => by cases h; exact ⟨s1, by simp only; omega, by simp only; omega⟩⟩
            · rw [if_neg h4]; exact ⟨by simp only; omega, fun _ => by simp only; omega, fun cs e h => by cases h⟩
          · rw [if_neg h3]
            by_cases h4 : nx x N p1 = 44
            · rw [if_pos h4]
              have hp1 := nx_lt h4 (by decide)
              have k2 := hK (d + 1) (p1 + 1)
              cases hk2 : KS (d + 1) (p1 + 1) with
              | mk p2 r2 =>
                rw [hk2] at k2
                cases r2 with
                | none => exact ⟨by have := k2.1; simp only at this ⊢; omega, fun _ => k2.2.1 hp1, fun cs e h => by cases h⟩
                | some q2 =>
                  obtain ⟨cs2, e2⟩ := q2
                  obtain ⟨u1, u2, u3⟩ := k2.2.2 cs2 e2 rfl
                  have u4 := k2.2.1 hp1
                  simp only at u2 u3 u4 ⊢
                  by_cases h5 : nx x N p2 = 93
                  · rw [if_pos h5]
                    have := nx_lt h5 (by decide)
                    exact ⟨by simp only; omega, fun _ => by simp only; omega, fun cs' e' h => by cases h; exact ⟨s1.two u1 (by decide), by simp only [List.length_append, List.length_singleton]; omega, by simp only; omega⟩⟩
                  · rw [if_neg h5]; exact ⟨by simp only; omega, fun _ => by simp only; omega, fun cs e h => by cases h⟩
            · rw [if_neg h4]; exact ⟨by simp only; omega, fun _ => by simp only; omega, fun cs e h => by cases h⟩
  · rw [if_neg h1]
    by_cases h2 : ¬ nx x N p < 48 ∧ ¬ 57 < nx x N p
    · rw [if_pos h2]
      have n1 := numS_ok (x := x) (N := N) 3 p 0
      have n2 := numS_b (x := x) (N := N) 3 p 0
      have n3 := numS_1 h2.1 h2.2
      have hp := nx_dig h2.2
      refine ⟨n1.1, n1.2, fun cs e h => ?_⟩
      cases h
      refine ⟨?_, by simp only [List.length_singleton]; exact n3, by simp only; omega⟩
      intro t q y n m s
      have n4 : (numS x N 3 p 0).2 < 1000 := by omega
      rw [Seg.one (num_mark _ n4).1]
      show sgl _ t q y n m :: s = _
      rw [num_sgl n4]
    · rw [if_neg h2]
      by_cases h3 : fld (nx x N p) = true
      · rw [if_pos h3]
        have hp := nx_lt rfl (fld_1000 h3)
        exact ⟨by simp only; omega, fun _ => by simp only; omega, fun cs e h => by cases h; exact ⟨Seg.one (fld_K h3), by simp only [List.length_singleton]; omega, by simp only; omega⟩⟩
      · rw [if_neg h3]; exact ⟨Nat.le_refl _, id, fun cs e h => by cases h⟩
theorem manyS_ok {x : Nat → Int32} {N : Nat} {A : Nat → Rz} {u w : Int32} (hu : isK u = true ∧ u ≠ 1000) (hw : isK w = true ∧ w ≠ 1000) (hA : ∀ p, OkR N p (A p)) {p0 : Nat} : ∀ f p cs e, p0 < p → p0 + cs.length ≤ p → (p0 ≤ N → p ≤ N) → Seg cs e → OkR N p0 (manyS x N A u w f p cs e) := by
  intro f
  induction f with
  | zero => intro p cs e h1 h2 h3 h4; exact ⟨by simp only [manyS]; omega, h3, fun cs' e' h => by cases h; exact ⟨h4, h2, h1⟩⟩
  | succ f ih =>
    intro p cs e h1 h2 h3 h4
    simp only [manyS]
    by_cases h5 : nx x N p = u ∨ nx x N p = w
    · rw [if_pos h5]
      have hk : isK (nx x N p) = true ∧ nx x N p ≠ 1000 := by rcases h5 with h | h <;> rw [h] <;> assumption
      have hp := nx_lt rfl hk.2
      have k1 := hA (p + 1)
      cases hk1 : A (p + 1) with
      | mk p1 r =>
        rw [hk1] at k1
        cases r with
        | none => exact ⟨by have := k1.1; simp only at this ⊢; omega, fun _ => k1.2.1 hp, fun cs e h => by cases h⟩
        | some q =>
          obtain ⟨cs1, e1⟩ := q
          obtain ⟨s1, s2, s3⟩ := k1.2.2 cs1 e1 rfl
          have s4 := k1.2.1 hp
          simp only at s2 s3 s4 ⊢
          exact ih p1 _ _ (by omega) (by simp only [List.length_append, List.length_singleton]; omega) (fun _ => s4) (h4.two s1 hk.1)
    · rw [if_neg h5]
      exact ⟨by simp only; omega, h3, fun cs' e' h => by cases h; exact ⟨h4, h2, h1⟩⟩
theorem oneS_ok {x : Nat → Int32} {N : Nat} {A : Nat → Rz} {u w : Int32} (hu : isK u = true ∧ u ≠ 1000) (hw : isK w = true ∧ w ≠ 1000) (hA : ∀ p, OkR N p (A p)) (p : Nat) : OkR N p (oneS x N A u w p) := by
  unfold oneS
  have k1 := hA p
  cases hk1 : A p with
  | mk p1 r =>
    rw [hk1] at k1
    cases r with
    | none => exact ⟨k1.1, k1.2.1, fun cs e h => by cases h⟩
    | some q =>
      obtain ⟨cs1, e1⟩ := q
      obtain ⟨s1, s2, s3⟩ := k1.2.2 cs1 e1 rfl
      exact manyS_ok hu hw hA 200 p1 cs1 e1 s3 s2 k1.2.1 s1
theorem prdS_ok {x : Nat → Int32} {N : Nat} {KS : Nat → Nat → Rz} (hK : ∀ d p, OkR N p (KS d p)) (d p : Nat) : OkR N p (prdS x N KS d p) := oneS_ok (by decide) (by decide) (fun p => atmS_ok hK d p) p
theorem sumS_ok {x : Nat → Int32} {N : Nat} : ∀ k d p, OkR N p (sumS x N k d p) := by
  intro k
  induction k with
  | zero => intro d p; exact ⟨Nat.le_refl _, id, fun cs e h => by cases h⟩
  | succ k ih => intro d p; exact oneS_ok (by decide) (by decide) (fun p => prdS_ok ih d p) p
