/-! TALKS: what a turn, a beginning, a run does, with no machine. A cast: jurors, things, what they speak, and of each juror its kind, heeds, minutes, line, patience, law. -/
abbrev Ct : Type := Nat × Nat × (Nat → Int32) × (Nat → Nat) × (Nat → Int32) × (Nat → Nat) × (Nat → Int32) × (Nat → Int32) × (Nat → Ev)
def cJ (C : Ct) : Nat := C.1
def cT (C : Ct) : Nat := C.2.1
def cS (C : Ct) : Nat → Int32 := C.2.2.1
def cK (C : Ct) : Nat → Nat := C.2.2.2.1
def cH (C : Ct) : Nat → Int32 := C.2.2.2.2.1
def cM (C : Ct) : Nat → Nat := C.2.2.2.2.2.1
def cL (C : Ct) : Nat → Int32 := C.2.2.2.2.2.2.1
def cP (C : Ct) : Nat → Int32 := C.2.2.2.2.2.2.2.1
def cE (C : Ct) : Nat → Ev := C.2.2.2.2.2.2.2.2
/-- a talk: what each holds, is pushed, says, gave in to; the minute, the turns, who is next -/
abbrev Tk : Type := (Nat → Int32) × (Nat → Int32) × (Nat → Bool) × (Nat → Nat) × Nat × Nat × Nat
def tH (T : Tk) : Nat → Int32 := T.1
def tP (T : Tk) : Nat → Int32 := T.2.1
def tS (T : Tk) : Nat → Bool := T.2.2.1
def tG (T : Tk) : Nat → Nat := T.2.2.2.1
def tM (T : Tk) : Nat := T.2.2.2.2.1
def tU (T : Tk) : Nat := T.2.2.2.2.2.1
def tX (T : Tk) : Nat := T.2.2.2.2.2.2
def yesS (C : Ct) (T : Tk) : Nat := cnt (cJ C) (tS T)
def noS (C : Ct) (T : Tk) : Nat := cJ C - yesS C T
def moreS (C : Ct) (T : Tk) : Int32 := nI (yesS C T) - nI (noS C T)
def leanS (C : Ct) (hd pu : Nat → Int32) (y n m : Int32) (i : Nat) : Int32 := cE C i (wgh (cS C) (hd i) (cT C)) (pu i) y n m
def saysS (C : Ct) (hd pu : Nat → Int32) (gv : Nat → Nat) (y n m : Int32) (i : Nat) : Bool := if gv i = 0 then !(decide (leanS C hd pu y n m i < cL C i)) else decide (gv i = 2)
def endS (C : Ct) (nd li : Nat) (T : Tk) : Int32 := if nd ≤ yesS C T then 1 else if nd ≤ noS C T then 0 else if li ≤ tM T then 2 else -4
def abS (x : Int32) : Int32 := if 0 ≤ x then x else -x
def bestS (sp : Nat → Int32) (op : Int32) : Nat → Option Nat
  | 0 => none
  | t + 1 => if bi op t then (match bestS sp op t with
    | none => some t
    | some b => if abS (sp t) ≤ abS (sp b) then some b else some t) else bestS sp op t
def nearS (r l : Int32) : Bool := if lg_cmp (r.toInt64 - l.toInt64) (-5) ≤ 0 then false else if 0 ≤ lg_cmp (r.toInt64 - l.toInt64) 5 then false else true
def openS (C : Ct) (T : Tk) (i : Nat) : Int32 := tH T i &&& (allH (cT C) (tH T) (cJ C) ^^^ (-1))
def thingS (C : Ct) (T : Tk) (i : Nat) : Tk := match bestS (cS C) (openS C T i) (cT C) with
  | none => T
  | some b => (fun j => tH T j ||| b1s b, T.2)
def storyS (C : Ct) (T : Tk) (i : Nat) : Tk := (tH T, fun j => if nearS (leanS C (tH T) (tP T) (nI (yesS C T)) (nI (noS C T)) (nI (tM T)) j) (cL C j) then tP T j + (if tS T i then 2 else -2) else tP T j, T.2.2)
def countS (C : Ct) (T : Tk) : Tk := (tH T, fun j => tP T j + cH C j * moreS C T / 4, T.2.2)
def pressS (C : Ct) (T : Tk) : Tk := (tH T, fun j => if moreS C T ≤ 0 then (if 0 ≤ moreS C T then tP T j else if tS T j then tP T j + (-2) * cH C j else tP T j) else if tS T j then tP T j else tP T j + 2 * cH C j, T.2.2)
def ruleS (_ : Ct) (T : Tk) : Tk := (tH T, fun j => tP T j / 2, T.2.2)
def sleepS (C : Ct) (T : Tk) (i : Nat) : Tk := if nI (tM T) < cP C i then T else if tG T i = 0 then (tH T, tP T, tS T, upb (tG T) i (if noS C T ≤ yesS C T then 2 else 1), T.2.2.2.2) else T
def actS (C : Ct) (T : Tk) (i : Nat) : Tk := match cK C i with
  | 1 => thingS C T i
  | 2 => countS C T
  | 3 => pressS C (countS C T)
  | 4 => storyS C (thingS C T i) i
  | 5 => ruleS C T
  | 7 => sleepS C T i
  | _ => T
def takeS (C : Ct) (T : Tk) : Tk := (tH T, tP T, fun j => saysS C (tH T) (tP T) (tG T) (nI (yesS C T)) (nI (noS C T)) (nI (tM T)) j, tG T, tM T, tU T, tX T)
def turnS (C : Ct) (T : Tk) : Tk :=
  let A := actS C T (tX T)
  takeS C (tH A, tP A, tS A, tG A, tM A + cM C (tX T), tU A + 1, (tX T + 1) % cJ C)
/-- the first show: of i seats, from one on -/
def begL (C : Ct) (hd : Nat → Int32) (ld : Nat) (ha : Bool) : Nat → (Nat → Int32) × (Nat → Bool) × Nat
  | 0 => (fun _ => 0, fun _ => false, 0)
  | i + 1 =>
    let B := begL C hd ld ha i
    let j := (ld + i) % cJ C
    let pu := if ha then upb B.1 j (cH C j * (nI B.2.2 - (nI i - nI B.2.2))) else B.1
    let s := saysS C hd pu (fun _ => 0) 0 0 0 j
    (pu, upb B.2.1 j s, if s then B.2.2 + 1 else B.2.2)
def beginS (C : Ct) (hd : Nat → Int32) (ld : Nat) (ha : Bool) : Tk :=
  let B := begL C hd ld ha (cJ C)
  (hd, B.1, B.2.1, fun _ => 0, 0, 0, ld)
def runS (C : Ct) (nd li : Nat) : Nat → Tk → Tk
  | 0, T => T
  | f + 1, T => if endS C nd li T = -4 then runS C nd li f (turnS C T) else T
/-- a cast as it must be -/
def CW (C : Ct) : Prop := 0 < cJ C ∧ cJ C ≤ 12 ∧ cT C ≤ 12 ∧ (∀ t, t < cT C → ¬ abS (cS C t) ≤ -1) ∧ (∀ i, i < cJ C → cK C i ≤ 7 ∧ 1 ≤ cM C i ∧ cM C i ≤ 30)
def TW (C : Ct) (T : Tk) : Prop := (∀ i, i < cJ C → isS (cT C) (tH T i)) ∧ tX T < cJ C ∧ tU T ≤ tM T ∧ ∀ i, i < cJ C → tG T i ≤ 2
theorem yes_le (C : Ct) (T : Tk) : yesS C T ≤ cJ C := cnt_le _ _
theorem act_s (C : Ct) (T : Tk) (i : Nat) : tS (actS C T i) = tS T ∧ tM (actS C T i) = tM T ∧ tU (actS C T i) = tU T ∧ tX (actS C T i) = tX T := by
  have h1 : tS (thingS C T i) = tS T ∧ tM (thingS C T i) = tM T ∧ tU (thingS C T i) = tU T ∧ tX (thingS C T i) = tX T := by
    unfold thingS; split <;> exact ⟨rfl, rfl, rfl, rfl⟩
  unfold actS
  split
  · exact h1
  · exact ⟨rfl, rfl, rfl, rfl⟩
  · exact ⟨rfl, rfl, rfl, rfl⟩
  · exact h1
  · exact ⟨rfl, rfl, rfl, rfl⟩
  · unfold sleepS
    split
    · exact ⟨rfl, rfl, rfl, rfl⟩
    · split <;> exact ⟨rfl, rfl, rfl, rfl⟩
  · exact ⟨rfl, rfl, rfl, rfl⟩
theorem best_lt {sp : Nat → Int32} {op : Int32} : ∀ {t b : Nat}, bestS sp op t = some b → b < t ∧ bi op b = true := by
  intro t
  induction t with
  | zero => intro b h; cases h
  | succ t ih =>
    intro b h
    unfold bestS at h
    by_cases h1 : bi op t = true
    · rw [if_pos h1] at h
      cases h2 : bestS sp op t with
      | none => rw [h2] at h; cases h; exact ⟨Nat.lt_succ_self _, h1⟩
      | some c =>
        rw [h2] at h
        simp only at h
        split at h
        · cases h; have := ih h2; exact ⟨by omega, this.2⟩
        · cases h; exact ⟨Nat.lt_succ_self _, h1⟩
    · rw [if_neg h1] at h
      have := ih h
      exact ⟨by omega, this.2⟩
theorem isS_or {th b : Nat} {x : Int32} (h : isS th x) (hb : b < th) (ht : th ≤ 12) : isS th (x ||| b1s b) := by
  intro i hi h2
  rw [bi_or hi, h i hi h2, bi_1 b (by omega) i hi]
  simp; omega
theorem thing_w {C : Ct} {T : Tk} (hC : CW C) (h : TW C T) (i : Nat) : TW C (thingS C T i) := by
  unfold thingS
  split
  · exact h
  · next b hb => exact ⟨fun j hj => isS_or (h.1 j hj) (best_lt hb).1 hC.2.2.1, h.2⟩
theorem act_w {C : Ct} {T : Tk} (hC : CW C) (h : TW C T) (i : Nat) : TW C (actS C T i) := by
  unfold actS
  split
  · exact thing_w hC h i
  · exact h
  · exact h
  · exact thing_w hC h i
  · exact h
  · unfold sleepS
    split
    · exact h
    · split
      · refine ⟨h.1, h.2.1, h.2.2.1, fun j hj => ?_⟩
        show upb _ _ _ j ≤ 2
        unfold upb
        split
        · split <;> decide
        · exact h.2.2.2 j hj
      · exact h
  · exact h
theorem turn_w {C : Ct} {T : Tk} (hC : CW C) (h : TW C T) : TW C (turnS C T) := by
  have h2 := act_w hC h (tX T)
  have h3 := act_s C T (tX T)
  refine ⟨h2.1, Nat.mod_lt _ hC.1, ?_, h2.2.2.2⟩
  have h4 := (hC.2.2.2.2 (tX T) h.2.1).2.1
  show tU (actS C T (tX T)) + 1 ≤ tM (actS C T (tX T)) + cM C (tX T)
  rw [h3.2.1, h3.2.2.1]
  have := h.2.2.1
  omega
theorem turn_m {C : Ct} {T : Tk} : tM (turnS C T) = tM T + cM C (tX T) := by
  show tM (actS C T (tX T)) + cM C (tX T) = _
  rw [(act_s C T (tX T)).2.1]
theorem begin_w {C : Ct} {hd : Nat → Int32} {ld : Nat} {ha : Bool} (hl : ld < cJ C) (hs : ∀ i, i < cJ C → isS (cT C) (hd i)) : TW C (beginS C hd ld ha) :=
  ⟨hs, hl, Nat.le_refl _, fun _ _ => by show 0 ≤ 2; omega⟩
theorem run_w {C : Ct} {nd li : Nat} (hC : CW C) : ∀ f T, TW C T → TW C (runS C nd li f T) := by
  intro f
  induction f with
  | zero => intro T h; exact h
  | succ f ih =>
    intro T h
    unfold runS
    split
    · exact ih _ (turn_w hC h)
    · exact h
theorem end_m {C : Ct} {nd li : Nat} {T : Tk} (h : endS C nd li T = -4) : tM T < li := by
  unfold endS at h
  split at h
  · exact absurd h (by decide)
  · split at h
    · exact absurd h (by decide)
    · split at h
      · exact absurd h (by decide)
      · omega
theorem run_e {C : Ct} {nd li : Nat} (hC : CW C) : ∀ f T, TW C T → li ≤ tM T + f → endS C nd li (runS C nd li f T) ≠ -4 := by
  intro f
  induction f with
  | zero => intro T h h2 h3; have := end_m h3; simp only [runS] at this; omega
  | succ f ih =>
    intro T h h2
    unfold runS
    split
    · refine ih _ (turn_w hC h) ?_
      rw [turn_m]
      have := (hC.2.2.2.2 (tX T) h.2.1).2.1
      omega
    · assumption
/-- cells that may change -/
def Fr (W : Nat → Nat → Prop) (g h : Nat → Nat → Int32) : Prop := ∀ a j, ¬ W a j → h a j = g a j
theorem Fr.rf (W : Nat → Nat → Prop) (g : Nat → Nat → Int32) : Fr W g g := fun _ _ _ => rfl
theorem Fr.tr {W : Nat → Nat → Prop} {g h k : Nat → Nat → Int32} (a : Fr W g h) (b : Fr W h k) : Fr W g k := fun i j hj => (b i j hj).trans (a i j hj)
theorem Fr.up {W : Nat → Nat → Prop} {g h : Nat → Nat → Int32} (a : Fr W g h) {i j : Nat} {v : Int32} (hw : W i j) : Fr W g (up2 h i j v) := by
  intro p q hq
  rw [← a p q hq]
  unfold up2
  rw [if_neg]
  rintro ⟨rfl, rfl⟩
  exact hq hw
theorem Fr.mo {W V : Nat → Nat → Prop} {g h : Nat → Nat → Int32} (a : Fr W g h) (b : ∀ i j, W i j → V i j) : Fr V g h := fun i j hj => a i j (fun k => hj (b i j k))
theorem up2_e {α : Type} (g : Nat → Nat → α) (i j a b : Nat) (v : α) : up2 g i j v a b = if a = i ∧ b = j then v else g a b := rfl
/-- a for loop over i < m -/
theorem q_for {α ρ : Type} (F : Nat → Nat → α → Option ρ) (P : Nat → α → Prop) (Q : ρ → Prop) (m : Nat) (hs : ∀ i f a, i < m → P i a → ∃ a', F (f + 1) i a = F f (i + 1) a' ∧ P (i + 1) a') (he : ∀ f a, P m a → ∃ r, F (f + 1) m a = some r ∧ Q r) : ∀ n a, m < n → P 0 a → ∃ r, F n 0 a = some r ∧ Q r := by
  intro n a hn h0
  refine q_loop F P Q m (fun i f a hi hp => ?_) m 0 n a (by omega) hn h0
  by_cases h : i < m
  · exact Or.inr ⟨h, hs i f a h hp⟩
  · obtain rfl : i = m := by omega
    exact Or.inl (he f a hp)
