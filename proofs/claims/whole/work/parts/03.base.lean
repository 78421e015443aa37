/-! The heap as numbers: each object and array has a number (in the order in which they are made); hI its ints, hR its references (numbers), hJ its longs; ad the addresses. -/
abbrev Hp : Type := Nat × (Nat → Nat) × (Nat → Nat) × (Nat → Nat → Int32) × (Nat → Nat → Option Nat) × (Nat → Nat → Int64)
def hN (σ : Hp) : Nat := σ.1
def hK (σ : Hp) : Nat → Nat := σ.2.1
def hL (σ : Hp) : Nat → Nat := σ.2.2.1
def hI (σ : Hp) : Nat → Nat → Int32 := σ.2.2.2.1
def hR (σ : Hp) : Nat → Nat → Option Nat := σ.2.2.2.2.1
def hJ (σ : Hp) : Nat → Nat → Int64 := σ.2.2.2.2.2
def up2 {α : Type} (f : Nat → Nat → α) (i j : Nat) (v : α) : Nat → Nat → α := fun a b => if a = i ∧ b = j then v else f a b
def up1 {α : Type} (f : Nat → α) (i : Nat) (v : α) : Nat → α := fun a => if a = i then v else f a
def pI (σ : Hp) (i j : Nat) (v : Int32) : Hp := (hN σ, hK σ, hL σ, up2 (hI σ) i j v, hR σ, hJ σ)
def pR (σ : Hp) (i j : Nat) (v : Option Nat) : Hp := (hN σ, hK σ, hL σ, hI σ, up2 (hR σ) i j v, hJ σ)
def pJ (σ : Hp) (i j : Nat) (v : Int64) : Hp := (hN σ, hK σ, hL σ, hI σ, hR σ, up2 (hJ σ) i j v)
def nw (σ : Hp) (k n : Nat) : Hp := (hN σ + 1, up1 (hK σ) (hN σ) k, up1 (hL σ) (hN σ) n, up1 (hI σ) (hN σ) (fun _ => 0), up1 (hR σ) (hN σ) (fun _ => none), up1 (hJ σ) (hN σ) (fun _ => 0))
/-- the pieces of the functions that a method is turned into -/
def lt {α ρ : Type} (a : α) (f : α → Option ρ) : Option ρ := f a
def ck {ρ : Type} (c : Prop) [Decidable c] (x : Option ρ) : Option ρ := if c then x else none
def b1 {α ρ : Type} (x : Option α) (f : α → Option ρ) : Option ρ := x.bind f
def b2 {α β ρ : Type} (x : Option (α × β)) (f : α → β → Option ρ) : Option ρ := x.bind fun w => f w.1 w.2
def om {ρ : Type} (x : Option Nat) (a : Option ρ) (f : Nat → Option ρ) : Option ρ := match x with
  | none => a
  | some i => f i
theorem lt_ex {α ρ : Type} {a : α} {f : α → Option ρ} {r : ρ} (h : lt a f = some r) : ∃ x, x = a ∧ f x = some r := ⟨a, rfl, h⟩
theorem ck_ex {ρ : Type} {c : Prop} [Decidable c] {x : Option ρ} {r : ρ} (h : ck c x = some r) : c ∧ x = some r := by
  unfold ck at h
  by_cases hc : c
  · rw [if_pos hc] at h; exact ⟨hc, h⟩
  · rw [if_neg hc] at h; cases h
theorem b1_ex {α ρ : Type} {x : Option α} {f : α → Option ρ} {r : ρ} (h : b1 x f = some r) : ∃ a, x = some a ∧ f a = some r := Option.bind_eq_some_iff.mp h
theorem b2_ex {α β ρ : Type} {x : Option (α × β)} {f : α → β → Option ρ} {r : ρ} (h : b2 x f = some r) : ∃ a b, x = some (a, b) ∧ f a b = some r := by
  obtain ⟨⟨a, b⟩, h1, h2⟩ := Option.bind_eq_some_iff.mp h
  exact ⟨a, b, h1, h2⟩
theorem it_t {ρ : Type} {c : Prop} [Decidable c] {a b : Option ρ} {r : ρ} (h : (if c then a else b) = some r) (k : c) : a = some r := by rw [if_pos k] at h; exact h
theorem it_f {ρ : Type} {c : Prop} [Decidable c] {a b : Option ρ} {r : ρ} (h : (if c then a else b) = some r) (k : ¬ c) : b = some r := by rw [if_neg k] at h; exact h
/-- which of a class's fields are references, and of what kind: 13 int[], 14 Law[], 15 Shelf[], 16 Turn[], 17 long[]; 100 any TURN -/
def fR (c : Nat) : List Bool := match c with
  | 1 => [true, false, true, false, true, false]
  | 3 => [false, true, false, true, true, false, true, true, false, false, false, false, false, false, false, true, true, true, true]
  | 5 => [true, false, false, false, true]
  | 11 => [true, true, true, false, true]
  | 12 => [true, true, true, true, true, true, true, true, true, true, true, true, true, false, false, true, false, false, false, false, false, false, false, false, false, false, false, false, true, true]
  | _ => [false, false, false, false, false, false, false, true]
def rT (c j : Nat) : Nat := match c with
  | 1 => 13
  | 3 => if j = 3 then 16 else if j = 6 then 14 else 13
  | 5 => if j = 0 then 100 else 13
  | 11 => if j = 4 then 15 else 3
  | 12 => 13
  | 14 => 1
  | 15 => 5
  | 16 => 100
  | _ => 1
def isT (t k : Nat) : Bool := match t with
  | 100 => k == 0 || k == 2 || k == 4 || k == 6 || k == 7 || k == 8 || k == 9 || k == 10
  | 101 => k == 0 || k == 2
  | 102 => k == 8 || k == 9
  | 103 => k == 6 || k == 7
  | _ => k == t
/-- a number names an object of that kind -/
def hT (σ : Hp) (i t : Nat) : Prop := i < hN σ ∧ isT t (hK σ i) = true
def oT (σ : Hp) (r : Option Nat) (t : Nat) : Prop := ∀ i, r = some i → hT σ i t
def wT (σ : Hp) : Prop := ∀ i, i < hN σ → ∀ j, oT σ (hR σ i j) (rT (hK σ i) j)
/-- nothing that there was has another kind or length -/
def xT (σ τ : Hp) : Prop := hN σ ≤ hN τ ∧ ∀ i, i < hN σ → hK τ i = hK σ i ∧ hL τ i = hL σ i
theorem xT.rf (σ : Hp) : xT σ σ := ⟨Nat.le_refl _, fun _ _ => ⟨rfl, rfl⟩⟩
theorem xT.trans {σ τ υ : Hp} (h : xT σ τ) (g : xT τ υ) : xT σ υ := ⟨Nat.le_trans h.1 g.1, fun i hi => ⟨(g.2 i (Nat.lt_of_lt_of_le hi h.1)).1.trans (h.2 i hi).1, (g.2 i (Nat.lt_of_lt_of_le hi h.1)).2.trans (h.2 i hi).2⟩⟩
theorem xT.T {σ τ : Hp} (h : xT σ τ) {i t : Nat} (g : hT σ i t) : hT τ i t := ⟨Nat.lt_of_lt_of_le g.1 h.1, by rw [(h.2 i g.1).1]; exact g.2⟩
theorem xT.O {σ τ : Hp} (h : xT σ τ) {r : Option Nat} {t : Nat} (g : oT σ r t) : oT τ r t := fun i hi => h.T (g i hi)
theorem xT.K {σ τ : Hp} (h : xT σ τ) {i k : Nat} (hi : i < hN σ) (g : hK σ i = k) : hK τ i = k := (h.2 i hi).1.trans g
theorem xT.I (σ : Hp) (i j : Nat) (v : Int32) : xT σ (pI σ i j v) := xT.rf σ
theorem xT.R (σ : Hp) (i j : Nat) (v : Option Nat) : xT σ (pR σ i j v) := xT.rf σ
theorem xT.J (σ : Hp) (i j : Nat) (v : Int64) : xT σ (pJ σ i j v) := xT.rf σ
theorem xT.N (σ : Hp) (k n : Nat) : xT σ (nw σ k n) := ⟨Nat.le_succ _, fun i hi => by
  have h : ¬ i = hN σ := by omega
  exact ⟨by show up1 _ _ _ i = _; rw [up1, if_neg h], by show up1 _ _ _ i = _; rw [up1, if_neg h]⟩⟩
theorem hT.eq {σ : Hp} {i t : Nat} (h : hT σ i t) (ht : t < 100) : hK σ i = t := by
  have h2 := h.2
  unfold isT at h2
  split at h2 <;> first | omega | exact eq_of_beq h2
theorem oT.none {σ : Hp} {t : Nat} : oT σ none t := fun i h => by cases h
theorem oT.some {σ : Hp} {i t : Nat} (h : hT σ i t) : oT σ (some i) t := fun j e => by cases e; exact h
/-! the cells -/
def fv (ad : Nat → Nat) (σ : Hp) (i j : Nat) (b : Bool) : Value := match b with
  | true => va_rf ((hR σ i j).map ad)
  | false => .int (hI σ i j)
def flds (ad : Nat → Nat) (σ : Hp) (i : Nat) : Nat → List Bool → List Value
  | _, [] => []
  | j, b :: bs => fv ad σ i j b :: flds ad σ i (j + 1) bs
def cellE (cA : Nat → ClassId) (ad : Nat → Nat) (σ : Hp) (i : Nat) : va_E :=
  if hK σ i < 13 then .inr (hK σ i, flds ad σ i 0 (fR (hK σ i)))
  else if hK σ i = 13 then .inl (cA 13, hL σ i, .inl (hI σ i))
  else if hK σ i = 17 then .inl (cA 17, hL σ i, .inr (.inl (hJ σ i)))
  else .inl (cA (hK σ i), hL σ i, .inr (.inr (.inr (.inr (fun j => (hR σ i j).map ad)))))
def tyl (cA : Nat → ClassId) : List (ClassId × FieldType) := [(cA 13, .int), (cA 14, .object "ElevenOne$Law"), (cA 15, .object "ElevenOne$Shelf"), (cA 16, .object "ElevenOne$Turn"), (cA 17, .long)]
def GW (D : va_G) (cA : Nat → ClassId) (base : Nat) (ad : Nat → Nat) (σ : Hp) (H : Heap) : Prop :=
  (∀ i, i < hN σ → va_at D vwCl (ad i, cellE cA ad σ i) H) ∧ (∀ i, i < hN σ → base ≤ ad i) ∧ (∀ i j, i < hN σ → j < hN σ → ad i = ad j → i = j) ∧ wT σ
def wl (cA : Nat → ClassId) (ad : Nat → Nat) (σ : Hp) : va_W := (List.range (hN σ)).map fun i => (ad i, cellE cA ad σ i)
theorem wl_at {cA : Nat → ClassId} {ad : Nat → Nat} {σ : Hp} {i : Nat} (h : i < hN σ) : (wl cA ad σ)[i]? = some (ad i, cellE cA ad σ i) := by
  unfold wl
  rw [List.getElem?_map, List.getElem?_range h]
  rfl
theorem wl_in {cA : Nat → ClassId} {ad : Nat → Nat} {σ : Hp} {k : Nat} {q : Nat × va_E} (h : (wl cA ad σ)[k]? = some q) : k < hN σ ∧ q = (ad k, cellE cA ad σ k) := by
  have h1 : k < (wl cA ad σ).length := (List.getElem?_eq_some_iff.mp h).1
  have h2 : k < hN σ := by unfold wl at h1; rw [List.length_map, List.length_range] at h1; exact h1
  exact ⟨h2, Option.some.inj (h.symm.trans (wl_at h2))⟩
theorem GW.P {D : va_G} {cA : Nat → ClassId} {base : Nat} {ad : Nat → Nat} {σ : Hp} {H : Heap} (h : GW D cA base ad σ H) : va_P D vwCl (wl cA ad σ) H := fun k q hq => by
  obtain ⟨h1, rfl⟩ := wl_in hq
  exact h.1 k h1
theorem GW.D {D : va_G} {cA : Nat → ClassId} {base : Nat} {ad : Nat → Nat} {σ : Hp} {H : Heap} (h : GW D cA base ad σ H) : va_D (fun q => base ≤ q) (wl cA ad σ) := by
  refine ⟨fun i j p q hp hq e => ?_, fun k q hq => ?_⟩
  · obtain ⟨h1, rfl⟩ := wl_in hp
    obtain ⟨h2, rfl⟩ := wl_in hq
    exact h.2.2.1 i j h1 h2 e
  · obtain ⟨h1, rfl⟩ := wl_in hq
    exact h.2.1 k h1
theorem GW.set {D : va_G} {cA : Nat → ClassId} {base : Nat} {ad : Nat → Nat} {σ τ : Hp} {H H1 : Heap} {i : Nat} {e : va_E} (h : GW D cA base ad σ H) (hi : i < hN σ) (hP : va_P D vwCl ((wl cA ad σ).set i (ad i, e)) H1) (hn : hN τ = hN σ) (he : cellE cA ad τ i = e) (ho : ∀ j, j ≠ i → cellE cA ad τ j = cellE cA ad σ j) (hw : wT τ) : GW D cA base ad τ H1 := by
  refine ⟨fun k hk => ?_, fun k hk => h.2.1 k (hn ▸ hk), fun a b ha hb e2 => h.2.2.1 a b (hn ▸ ha) (hn ▸ hb) e2, hw⟩
  have hk2 : k < hN σ := hn ▸ hk
  by_cases hki : k = i
  · subst hki
    have hl : k < (wl cA ad σ).length := (List.getElem?_eq_some_iff.mp (wl_at (cA := cA) (ad := ad) hk2)).1
    have h2 := hP k (ad k, e) (by rw [List.getElem?_set_self hl])
    rw [he]
    exact h2
  · have h2 := hP k (ad k, cellE cA ad σ k) (by rw [List.getElem?_set_ne (Ne.symm hki)]; exact wl_at hk2)
    rw [ho k hki]
    exact h2
theorem fv_other {ad : Nat → Nat} {σ τ : Hp} {i j : Nat} {b : Bool} (h1 : hI τ i j = hI σ i j) (h2 : hR τ i j = hR σ i j) : fv ad τ i j b = fv ad σ i j b := by
  cases b <;> simp [fv, h1, h2]
theorem flds_other {ad : Nat → Nat} {σ τ : Hp} {i : Nat} (bs : List Bool) : ∀ j0 : Nat, (∀ j, j0 ≤ j → hI τ i j = hI σ i j ∧ hR τ i j = hR σ i j) → flds ad τ i j0 bs = flds ad σ i j0 bs := by
  induction bs with
  | nil => intro _ _; rfl
  | cons b bs ih =>
    intro j0 h
    simp only [flds]
    rw [fv_other (h j0 (Nat.le_refl _)).1 (h j0 (Nat.le_refl _)).2, ih (j0 + 1) (fun j hj => h j (by omega))]
theorem cell_other {cA : Nat → ClassId} {ad : Nat → Nat} {σ τ : Hp} {i : Nat} (h1 : hI τ i = hI σ i) (h2 : hR τ i = hR σ i) (h3 : hJ τ i = hJ σ i) (h4 : hK τ i = hK σ i) (h5 : hL τ i = hL σ i) : cellE cA ad τ i = cellE cA ad σ i := by
  have h6 : ∀ bs, flds ad τ i 0 bs = flds ad σ i 0 bs := fun bs => flds_other bs 0 (fun j _ => ⟨by rw [h1], by rw [h2]⟩)
  unfold cellE
  rw [h4, h5, h1, h3, h2, h6]
theorem up2_ne {α : Type} {f : Nat → Nat → α} {i j a : Nat} {v : α} (h : a ≠ i) : up2 f i j v a = f a := by
  funext b
  simp [up2, h]
theorem up2_row {α : Type} {f : Nat → Nat → α} {i j : Nat} {v : α} : up2 f i j v i = fun b => if b = j then v else f i b := by
  funext b
  simp [up2]
theorem flds_setI {ad : Nat → Nat} {σ : Hp} {i : Nat} (x : Int32) (bs : List Bool) : ∀ (j0 k : Nat), bs[k]? = some false → flds ad (pI σ i (j0 + k) x) i j0 bs = (flds ad σ i j0 bs).set k (.int x) := by
  induction bs with
  | nil => intro j0 k h; simp at h
  | cons b bs ih =>
    intro j0 k h
    cases k with
    | zero =>
      have hb : b = false := by simpa using h
      subst hb
      simp only [flds, List.set_cons_zero]
      congr 1
      · simp [fv, pI, hI, up2]
      · refine flds_other bs (j0 + 1) fun j hj => ⟨?_, rfl⟩
        show up2 (hI σ) i (j0 + 0) x i j = _
        rw [up2, if_neg (by omega)]
    | succ k =>
      simp only [flds, List.set_cons_succ]
      congr 1
      · refine fv_other ?_ rfl
        show up2 (hI σ) i (j0 + (k + 1)) x i j0 = _
        rw [up2, if_neg (by omega)]
      · have h2 := ih (j0 + 1) k (by simpa using h)
        rw [show j0 + 1 + k = j0 + (k + 1) by omega] at h2
        exact h2
theorem flds_setR {ad : Nat → Nat} {σ : Hp} {i : Nat} (x : Option Nat) (bs : List Bool) : ∀ (j0 k : Nat), bs[k]? = some true → flds ad (pR σ i (j0 + k) x) i j0 bs = (flds ad σ i j0 bs).set k (va_rf (x.map ad)) := by
  induction bs with
  | nil => intro j0 k h; simp at h
  | cons b bs ih =>
    intro j0 k h
    cases k with
    | zero =>
      have hb : b = true := by simpa using h
      subst hb
      simp only [flds, List.set_cons_zero]
      congr 1
      · simp [fv, pR, hR, up2]
      · refine flds_other bs (j0 + 1) fun j hj => ⟨rfl, ?_⟩
        show up2 (hR σ) i (j0 + 0) x i j = _
        rw [up2, if_neg (by omega)]
    | succ k =>
      simp only [flds, List.set_cons_succ]
      congr 1
      · refine fv_other rfl ?_
        show up2 (hR σ) i (j0 + (k + 1)) x i j0 = _
        rw [up2, if_neg (by omega)]
      · have h2 := ih (j0 + 1) k (by simpa using h)
        rw [show j0 + 1 + k = j0 + (k + 1) by omega] at h2
        exact h2
theorem cell_obj {cA : Nat → ClassId} {ad : Nat → Nat} {σ : Hp} {i c : Nat} (h : hK σ i = c) (hc : c < 13) : cellE cA ad σ i = .inr (c, flds ad σ i 0 (fR c)) := by
  unfold cellE
  rw [h, if_pos hc]
theorem cell_13 {cA : Nat → ClassId} {ad : Nat → Nat} {σ : Hp} {i : Nat} (h : hK σ i = 13) : cellE cA ad σ i = .inl (cA 13, hL σ i, .inl (hI σ i)) := by
  simp only [cellE, h]
  rfl
theorem cell_17 {cA : Nat → ClassId} {ad : Nat → Nat} {σ : Hp} {i : Nat} (h : hK σ i = 17) : cellE cA ad σ i = .inl (cA 17, hL σ i, .inr (.inl (hJ σ i))) := by
  simp only [cellE, h]
  rfl
theorem cell_q {cA : Nat → ClassId} {ad : Nat → Nat} {σ : Hp} {i c : Nat} (h : hK σ i = c) (h1 : 13 < c) (h2 : c < 17) : cellE cA ad σ i = .inl (cA c, hL σ i, .inr (.inr (.inr (.inr (fun j => (hR σ i j).map ad))))) := by
  unfold cellE
  rw [h, if_neg (by omega), if_neg (by omega), if_neg (by omega)]
theorem wT.I {σ : Hp} (h : wT σ) (i j : Nat) (v : Int32) : wT (pI σ i j v) := h
theorem wT.J {σ : Hp} (h : wT σ) (i j : Nat) (v : Int64) : wT (pJ σ i j v) := h
theorem wT.R {σ : Hp} (h : wT σ) {i j : Nat} {v : Option Nat} (hv : oT σ v (rT (hK σ i) j)) : wT (pR σ i j v) := by
  intro a ha b k hk
  have hk2 : up2 (hR σ) i j v a b = some k := hk
  unfold up2 at hk2
  by_cases hc : a = i ∧ b = j
  · rw [if_pos hc] at hk2
    obtain ⟨rfl, rfl⟩ := hc
    exact hv k hk2
  · rw [if_neg hc] at hk2
    exact h a ha b k hk2
theorem GW_pI {D : va_G} {cA : Nat → ClassId} {base : Nat} {ad : Nat → Nat} {σ : Hp} {H H1 : Heap} {i j c : Nat} {x : Int32} (h : GW D cA base ad σ H) (hi : i < hN σ) (hk : hK σ i = c) (hc : c < 13) (hj : (fR c)[j]? = some false) (hP : va_P D vwCl ((wl cA ad σ).set i (ad i, .inr (c, (flds ad σ i 0 (fR c)).set j (.int x)))) H1) : GW D cA base ad (pI σ i j x) H1 := by
  refine h.set hi hP rfl ?_ (fun a ha => cell_other (up2_ne ha) rfl rfl rfl rfl) (h.2.2.2.I i j x)
  rw [cell_obj (σ := pI σ i j x) (show hK (pI σ i j x) i = c from hk) hc]
  have h2 := flds_setI (ad := ad) (σ := σ) (i := i) x (fR c) 0 j hj
  rw [Nat.zero_add] at h2
  rw [h2]
theorem GW_pR {D : va_G} {cA : Nat → ClassId} {base : Nat} {ad : Nat → Nat} {σ : Hp} {H H1 : Heap} {i j c : Nat} {x : Option Nat} (h : GW D cA base ad σ H) (hi : i < hN σ) (hk : hK σ i = c) (hc : c < 13) (hj : (fR c)[j]? = some true) (hx : oT σ x (rT c j)) (hP : va_P D vwCl ((wl cA ad σ).set i (ad i, .inr (c, (flds ad σ i 0 (fR c)).set j (va_rf (x.map ad))))) H1) : GW D cA base ad (pR σ i j x) H1 := by
  refine h.set hi hP rfl ?_ (fun a ha => cell_other rfl (up2_ne ha) rfl rfl rfl) (h.2.2.2.R (by rw [hk]; exact hx))
  rw [cell_obj (σ := pR σ i j x) (show hK (pR σ i j x) i = c from hk) hc]
  have h2 := flds_setR (ad := ad) (σ := σ) (i := i) x (fR c) 0 j hj
  rw [Nat.zero_add] at h2
  rw [h2]
theorem GW_pA {D : va_G} {cA : Nat → ClassId} {base : Nat} {ad : Nat → Nat} {σ : Hp} {H H1 : Heap} {i j : Nat} {x : Int32} (h : GW D cA base ad σ H) (hi : i < hN σ) (hk : hK σ i = 13) (hP : va_P D vwCl ((wl cA ad σ).set i (ad i, .inl (cA 13, hL σ i, .inl (upd (hI σ i) j x)))) H1) : GW D cA base ad (pI σ i j x) H1 := by
  refine h.set hi hP rfl ?_ (fun a ha => cell_other (up2_ne ha) rfl rfl rfl rfl) (h.2.2.2.I i j x)
  rw [cell_13 (σ := pI σ i j x) (show hK (pI σ i j x) i = 13 from hk)]
  have h2 : hI (pI σ i j x) i = upd (hI σ i) j x := by
    show up2 (hI σ) i j x i = _
    rw [up2_row]
    funext b
    simp [upd]
  rw [h2]
  rfl
theorem GW_pL {D : va_G} {cA : Nat → ClassId} {base : Nat} {ad : Nat → Nat} {σ : Hp} {H H1 : Heap} {i j : Nat} {x : Int64} (h : GW D cA base ad σ H) (hi : i < hN σ) (hk : hK σ i = 17) (hP : va_P D vwCl ((wl cA ad σ).set i (ad i, .inl (cA 17, hL σ i, .inr (.inl (vp_updL (hJ σ i) j x))))) H1) : GW D cA base ad (pJ σ i j x) H1 := by
  refine h.set hi hP rfl ?_ (fun a ha => cell_other rfl rfl (up2_ne ha) rfl rfl) (h.2.2.2.J i j x)
  rw [cell_17 (σ := pJ σ i j x) (show hK (pJ σ i j x) i = 17 from hk)]
  have h2 : hJ (pJ σ i j x) i = vp_updL (hJ σ i) j x := by
    show up2 (hJ σ) i j x i = _
    rw [up2_row]
    funext b
    simp [vp_updL]
  rw [h2]
  rfl
theorem GW_pQ {D : va_G} {cA : Nat → ClassId} {base : Nat} {ad : Nat → Nat} {σ : Hp} {H H1 : Heap} {i j c : Nat} {x : Option Nat} (h : GW D cA base ad σ H) (hi : i < hN σ) (hk : hK σ i = c) (h1 : 13 < c) (h2 : c < 17) (hx : oT σ x (rT c j)) (hP : va_P D vwCl ((wl cA ad σ).set i (ad i, .inl (cA c, hL σ i, .inr (.inr (.inr (.inr (va_up (fun j => (hR σ i j).map ad) j (x.map ad)))))))) H1) : GW D cA base ad (pR σ i j x) H1 := by
  refine h.set hi hP rfl ?_ (fun a ha => cell_other rfl (up2_ne ha) rfl rfl rfl) (h.2.2.2.R (by rw [hk]; exact hx))
  rw [cell_q (σ := pR σ i j x) (show hK (pR σ i j x) i = c from hk) h1 h2]
  have h3 : (fun b => (hR (pR σ i j x) i b).map ad) = va_up (fun j => (hR σ i j).map ad) j (x.map ad) := by
    funext b
    show (up2 (hR σ) i j x i b).map ad = _
    rw [up2_row]
    by_cases hb : b = j <;> simp [va_up, hb]
  rw [h3]
  rfl
