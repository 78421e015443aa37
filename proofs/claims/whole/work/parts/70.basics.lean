/-! LAYER B: no machine from here on. The functions F_.. over heaps that differ in their ints alone. -/
theorem qk_lt {α ρ : Type} (a : α) (f : α → Option ρ) : lt a f = f a := rfl
theorem qk_b1 {α ρ : Type} {x : Option α} {a : α} (h : x = some a) (f : α → Option ρ) : b1 x f = f a := by rw [h]; rfl
theorem qk_b2 {α β ρ : Type} {x : Option (α × β)} {a : α} {b : β} (h : x = some (a, b)) (f : α → β → Option ρ) : b2 x f = f a b := by rw [h]; rfl
theorem qk_s1 {α ρ : Type} (a : α) (f : α → Option ρ) : b1 (some a) f = f a := rfl
theorem qk_s2 {α β ρ : Type} (a : α) (b : β) (f : α → β → Option ρ) : b2 (some (a, b)) f = f a b := rfl
theorem qk_om {ρ : Type} (i : Nat) (a : Option ρ) (f : Nat → Option ρ) : om (some i) a f = f i := rfl
theorem qk_on {ρ : Type} (a : Option ρ) (f : Nat → Option ρ) : om none a f = a := rfl
theorem qk_ck {ρ : Type} {c : Prop} [Decidable c] (h : c) (x : Option ρ) : ck c x = x := if_pos h
theorem qk_in {ρ : Type} {i N : Nat} (h : i < N) (hN : N < 2 ^ 31) (x : Option ρ) : ck (¬ (nI i < 0 ∨ N ≤ (nI i).toNatClampNeg)) x = x := if_pos (nI_in h hN)
/-! heaps that differ in their ints alone -/
def wI (σ : Hp) (g : Nat → Nat → Int32) : Hp := (hN σ, hK σ, hL σ, g, hR σ, hJ σ)
theorem wI_N (σ : Hp) (g : Nat → Nat → Int32) : hN (wI σ g) = hN σ := rfl
theorem wI_K (σ : Hp) (g : Nat → Nat → Int32) : hK (wI σ g) = hK σ := rfl
theorem wI_L (σ : Hp) (g : Nat → Nat → Int32) : hL (wI σ g) = hL σ := rfl
theorem wI_R (σ : Hp) (g : Nat → Nat → Int32) : hR (wI σ g) = hR σ := rfl
theorem wI_J (σ : Hp) (g : Nat → Nat → Int32) : hJ (wI σ g) = hJ σ := rfl
theorem wI_I (σ : Hp) (g : Nat → Nat → Int32) : hI (wI σ g) = g := rfl
theorem wI_W (σ : Hp) (g h : Nat → Nat → Int32) : wI (wI σ g) h = wI σ h := rfl
theorem wI_S (σ : Hp) : wI σ (hI σ) = σ := rfl
theorem wI_p (σ : Hp) (g : Nat → Nat → Int32) (i j : Nat) (v : Int32) : pI (wI σ g) i j v = wI σ (up2 g i j v) := rfl
theorem up_s {α : Type} (f : Nat → Nat → α) (i j : Nat) (v : α) : up2 f i j v i j = v := by simp [up2]
theorem up_i {α : Type} {f : Nat → Nat → α} {i j a b : Nat} {v : α} (h : a ≠ i) : up2 f i j v a b = f a b := by simp [up2, h]
theorem up_j {α : Type} {f : Nat → Nat → α} {i j b : Nat} {v : α} (h : b ≠ j) : up2 f i j v i b = f i b := by simp [up2, h]
theorem up_r {α : Type} {f : Nat → Nat → α} {i j a : Nat} {v : α} (h : a ≠ i) : up2 f i j v a = f a := by funext b; simp [up2, h]
/-- an array's places, read and written -/
theorem q_at {σ : Hp} {a i N : Nat} (n : Nat) (hl : hL σ a = N) (h : i < N) (hN : N < 2 ^ 31) : F_X11_at n a (nI i) σ = some (hI σ a i, σ) := by
  unfold F_X11_at
  rw [hl, if_neg (nI_pos (by omega)), if_neg (nI_ge h hN), qk_in h hN, nI_clamp (by omega)]
theorem q_st {σ : Hp} {a i N : Nat} (n : Nat) (v : Int32) (hl : hL σ a = N) (h : i < N) (hN : N < 2 ^ 31) : F_X11_store n a (nI i) v σ = some (pI σ a i v) := by
  unfold F_X11_store
  rw [hl, if_neg (nI_pos (by omega)), if_neg (nI_ge h hN), qk_in h hN, nI_clamp (by omega), qk_lt]
/-- a loop over i < m, of any state -/
theorem q_loop {α ρ : Type} (F : Nat → Nat → α → Option ρ) (P : Nat → α → Prop) (Q : ρ → Prop) (m : Nat) (h : ∀ i f a, i ≤ m → P i a → (∃ r, F (f + 1) i a = some r ∧ Q r) ∨ (i < m ∧ ∃ a', F (f + 1) i a = F f (i + 1) a' ∧ P (i + 1) a')) : ∀ d i f a, i + d = m → d < f → P i a → ∃ r, F f i a = some r ∧ Q r := by
  intro d
  induction d with
  | zero =>
    intro i f a hi hf hp
    obtain ⟨f, rfl⟩ : ∃ k, f = k + 1 := ⟨f - 1, by omega⟩
    rcases h i f a (by omega) hp with h1 | ⟨h1, _⟩
    · exact h1
    · omega
  | succ d ih =>
    intro i f a hi hf hp
    obtain ⟨f, rfl⟩ : ∃ k, f = k + 1 := ⟨f - 1, by omega⟩
    rcases h i f a (by omega) hp with h1 | ⟨h1, a', h2, h3⟩
    · exact h1
    · rw [h2]; exact ih (i + 1) f a' (by omega) (by omega) h3
theorem q_0 : (0 : Int32) = nI 0 := rfl
theorem q_1 : (1 : Int32) = nI 1 := rfl
theorem q_2 : (2 : Int32) = nI 2 := rfl
/-- a bit of an int -/
def bi (x : Int32) (i : Nat) : Bool := decide (((x >>> (nI i &&& 31)) &&& 1) = 1)
def b1s (i : Nat) : Int32 := 1 <<< (nI i &&& 31)
theorem sh_31 : ∀ i : Nat, i < 32 → nI i &&& 31 = nI i := by decide +kernel
theorem sh_smod : ∀ i : Nat, i < 32 → ((nI i &&& 31).toBitVec.smod 32).toNat = i := by decide +kernel
theorem and_1 (y : Int32) : y &&& 1 = if y.toBitVec.getLsbD 0 then 1 else 0 := by
  apply Int32.toBitVec_inj.1
  rw [Int32.toBitVec_and]
  show _ &&& 1#32 = _
  rw [BitVec.and_one_eq_setWidth_ofBool_getLsbD]
  cases y.toBitVec.getLsbD 0 <;> rfl
theorem bi_b {x : Int32} {i : Nat} (h : i < 32) : bi x i = x.toBitVec.getLsbD i := by
  have h1 : (x >>> (nI i &&& 31)).toBitVec = x.toBitVec.sshiftRight i := by
    show x.toBitVec.sshiftRight' (((nI i &&& 31).toBitVec).smod 32) = _
    rw [BitVec.sshiftRight_eq', sh_smod i h]
  have h3 : (x.toBitVec.sshiftRight i).getLsbD 0 = x.toBitVec.getLsbD i := by
    rw [BitVec.getLsbD_sshiftRight]
    simp [h]
  unfold bi
  rw [and_1, h1, h3]
  cases x.toBitVec.getLsbD i <;> decide
theorem bi_ext {x y : Int32} (h : ∀ i, i < 32 → bi x i = bi y i) : x = y := by
  apply Int32.toBitVec_inj.1
  apply BitVec.eq_of_getLsbD_eq
  intro i hi
  rw [← bi_b hi, ← bi_b hi]
  exact h i hi
theorem bi_or {x y : Int32} {i : Nat} (h : i < 32) : bi (x ||| y) i = (bi x i || bi y i) := by
  rw [bi_b h, bi_b h, bi_b h, Int32.toBitVec_or, BitVec.getLsbD_or]
theorem bi_and {x y : Int32} {i : Nat} (h : i < 32) : bi (x &&& y) i = (bi x i && bi y i) := by
  rw [bi_b h, bi_b h, bi_b h, Int32.toBitVec_and, BitVec.getLsbD_and]
theorem bi_xor {x : Int32} {i : Nat} (h : i < 32) : bi (x ^^^ (-1)) i = !(bi x i) := by
  rw [bi_b h, bi_b h, Int32.toBitVec_xor, BitVec.getLsbD_xor]
  have h2 : (-1 : Int32).toBitVec.getLsbD i = true := by
    have h3 : ∀ i : Nat, i < 32 → (-1 : Int32).toBitVec.getLsbD i = true := by decide +kernel
    exact h3 i h
  rw [h2]; simp
theorem bi_1 : ∀ j : Nat, j < 32 → ∀ i : Nat, i < 32 → bi (b1s j) i = decide (i = j) := by decide +kernel
theorem bi_all : ∀ t : Nat, t < 13 → ∀ i : Nat, i < 32 → bi ((1 <<< (nI t &&& 31)) - 1) i = decide (i < t) := by decide +kernel
theorem bi_m1 : ∀ i : Nat, i < 32 → bi (-1) i = true := by decide +kernel
theorem bi_0 : ∀ i : Nat, i < 32 → bi 0 i = false := by decide +kernel
theorem bi_out : ∀ n : Nat, n < 13 → ∀ i : Nat, i < 32 → bi ((-1) <<< (nI n &&& 31)) i = decide (n ≤ i) := by decide +kernel
theorem bi_v (x : Int32) (i : Nat) : ((x >>> (nI i &&& 31)) &&& 1) = if bi x i then 1 else 0 := by
  unfold bi
  rw [and_1]
  cases (x >>> (nI i &&& 31)).toBitVec.getLsbD 0 <;> decide
theorem bi_t {x : Int32} {i : Nat} (h : bi x i = true) : ((x >>> (nI i &&& 31)) &&& 1) = 1 := of_decide_eq_true h
theorem bi_f {x : Int32} {i : Nat} (h : bi x i = false) : ¬ ((x >>> (nI i &&& 31)) &&& 1) = 1 := of_decide_eq_false h
theorem bi_z {x : Int32} {i : Nat} (h : bi x i = false) : ((x >>> (nI i &&& 31)) &&& 1) = 0 := by rw [bi_v, h]; rfl
theorem bi_nz {x : Int32} {i : Nat} (h : bi x i = true) : ¬ ((x >>> (nI i &&& 31)) &&& 1) = 0 := by rw [bi_v, h]; decide
/-- how many of i < m -/
def cnt : Nat → (Nat → Bool) → Nat
  | 0, _ => 0
  | m + 1, f => cnt m f + (if f m then 1 else 0)
theorem cnt_le (f : Nat → Bool) : ∀ m, cnt m f ≤ m := by
  intro m
  induction m with
  | zero => exact Nat.le_refl _
  | succ m ih => simp only [cnt]; split <;> omega
theorem cnt_cg {f g : Nat → Bool} : ∀ {m : Nat}, (∀ i, i < m → f i = g i) → cnt m f = cnt m g := by
  intro m
  induction m with
  | zero => intro _; rfl
  | succ m ih => intro h; simp only [cnt]; rw [ih (fun i hi => h i (by omega)), h m (by omega)]
/-- an int that is a set of i < m -/
def isM (m : Nat) (s : Nat → Bool) (x : Int32) : Prop := ∀ i, i < 32 → bi x i = (decide (i < m) && s i)
theorem isM_eq {m : Nat} {s : Nat → Bool} {x y : Int32} (h : isM m s x) (g : isM m s y) : x = y := bi_ext fun i hi => by rw [h i hi, g i hi]
theorem isM_cg {m : Nat} {s u : Nat → Bool} {x : Int32} (h : isM m s x) (g : ∀ i, i < m → s i = u i) : isM m u x := by
  intro i hi
  rw [h i hi]
  by_cases hm : i < m
  · rw [g i hm]
  · simp [hm]
/-- a set of i < 12 is a number below 4096 -/
theorem isM_n {m : Nat} {s : Nat → Bool} {x : Int32} (h : isM m s x) (hm : m ≤ 12) : ∃ k : Nat, k < 4096 ∧ x = nI k := by
  refine ⟨x.toBitVec.toNat, ?_, ?_⟩
  · show x.toBitVec.toNat < 2 ^ 12
    apply Nat.lt_pow_two_of_testBit
    intro i hi
    rw [BitVec.testBit_toNat]
    by_cases h2 : i < 32
    · rw [← bi_b h2, h i h2]
      have h3 : ¬ i < m := by omega
      simp [h3]
    · exact BitVec.getLsbD_of_ge _ _ (by omega)
  · apply Int32.toBitVec_inj.1
    show x.toBitVec = BitVec.ofNat 32 x.toBitVec.toNat
    rw [BitVec.ofNat_toNat, BitVec.setWidth_eq]
/-- the count of the bits below 12, and the JDK's -/
def pc (k : Nat) : Nat := cnt 12 (fun i => bi (nI k) i)
def bcv (a0 : Int32) : Int32 :=
  let x1 : Int32 := a0 - (((a0.toUInt32 >>> ((1 : Int32).toUInt32 &&& Int32.toUInt32 31)).toInt32) &&& 1431655765)
  let x2 : Int32 := (x1 &&& 858993459) + (((x1.toUInt32 >>> ((2 : Int32).toUInt32 &&& Int32.toUInt32 31)).toInt32) &&& 858993459)
  let x3 : Int32 := (x2 + ((x2.toUInt32 >>> ((4 : Int32).toUInt32 &&& Int32.toUInt32 31)).toInt32)) &&& 252645135
  let x4 : Int32 := x3 + ((x3.toUInt32 >>> ((8 : Int32).toUInt32 &&& Int32.toUInt32 31)).toInt32)
  let x5 : Int32 := x4 + ((x4.toUInt32 >>> ((16 : Int32).toUInt32 &&& Int32.toUInt32 31)).toInt32)
  x5 &&& 63
theorem bc_v (n : Nat) (x : Int32) (σ : Hp) : F_J6_bitCount_0f7a4 n x σ = some (bcv x, σ) := rfl
theorem bc_pc0 : ∀ k : Nat, k < 64 → ∀ j : Nat, j < 64 → bcv (nI (64 * k + j)) = nI (pc (64 * k + j)) := by decide +kernel
theorem bc_pc (k : Nat) (h : k < 4096) : bcv (nI k) = nI (pc k) := by
  have h2 := bc_pc0 (k / 64) (by omega) (k % 64) (by omega)
  rwa [Nat.div_add_mod] at h2
theorem cnt_13 (s : Nat → Bool) : ∀ {m d : Nat}, cnt (m + d) (fun i => decide (i < m) && s i) = cnt m s := by
  intro m d
  induction d with
  | zero => exact cnt_cg fun i hi => by simp [show i < m from hi]
  | succ d ih => rw [Nat.add_succ, cnt, ih]; simp; intro h; omega
theorem bc_M {m : Nat} {s : Nat → Bool} {x : Int32} (h : isM m s x) (hm : m ≤ 12) : bcv x = nI (cnt m s) := by
  obtain ⟨k, hk, rfl⟩ := isM_n h hm
  rw [bc_pc k hk]
  congr 1
  unfold pc
  rw [cnt_cg (g := fun i => decide (i < m) && s i) (fun i hi => h i (by omega))]
  have h2 := cnt_13 s (m := m) (d := 12 - m)
  rw [show m + (12 - m) = 12 by omega] at h2
  exact h2
theorem isM_z (m : Nat) : isM m (fun _ => false) 0 := fun i hi => by rw [bi_0 i hi]; simp
/-- one more put in -/
def upb {α : Type} (f : Nat → α) (i : Nat) (v : α) : Nat → α := fun a => if a = i then v else f a
theorem isM_up {m : Nat} {s : Nat → Bool} {x : Int32} (h : isM m s x) {j : Nat} (hj : j < m) (hm : m ≤ 12) : isM m (upb s j true) (x ||| b1s j) := by
  intro i hi
  rw [bi_or hi, h i hi, bi_1 j (by omega) i hi]
  unfold upb
  by_cases h2 : i = j
  · subst h2; simp [hj]
  · simp [h2]
theorem isM_no {m : Nat} {s : Nat → Bool} {x : Int32} (h : isM m s x) {j : Nat} (hs : s j = false) : isM m (upb s j false) x := by
  intro i hi
  rw [h i hi]
  unfold upb
  by_cases h2 : i = j
  · subst h2; simp [hs]
  · simp [h2]
/-- what is in all of i < m -/
def allH (th : Nat) (hd : Nat → Int32) : Nat → Int32
  | 0 => (1 <<< (nI th &&& 31)) - 1
  | m + 1 => allH th hd m &&& hd m
theorem allH_b {th : Nat} {hd : Nat → Int32} (ht : th ≤ 12) {i : Nat} (hi : i < 32) : ∀ m, bi (allH th hd m) i = (decide (i < th) && decide (∀ j, j < m → bi (hd j) i = true)) := by
  intro m
  induction m with
  | zero => rw [allH, bi_all th (by omega) i hi]; simp
  | succ m ih =>
    rw [allH, bi_and hi, ih]
    have key : decide (∀ j, j < m + 1 → bi (hd j) i = true) = (decide (∀ j, j < m → bi (hd j) i = true) && bi (hd m) i) := by
      rw [Bool.eq_iff_iff]
      simp only [decide_eq_true_eq, Bool.and_eq_true]
      constructor
      · intro h; exact ⟨fun j hj => h j (by omega), h m (by omega)⟩
      · rintro ⟨a, b⟩ j hj
        by_cases h4 : j < m
        · exact a j h4
        · rw [show j = m by omega]; exact b
    rw [key, Bool.and_assoc]
theorem allH_cg {th : Nat} {f g : Nat → Int32} : ∀ {m : Nat}, (∀ i, i < m → f i = g i) → allH th f m = allH th g m := by
  intro m
  induction m with
  | zero => intro _; rfl
  | succ m ih => intro h; rw [allH, allH, ih (fun i hi => h i (by omega)), h m (by omega)]
/-- what a set of things speaks -/
def wgh (sp : Nat → Int32) (x : Int32) : Nat → Int32
  | 0 => 0
  | t + 1 => if bi x t then wgh sp x t + sp t else wgh sp x t
theorem wgh_cg {sp sq : Nat → Int32} {x : Int32} : ∀ {t : Nat}, (∀ i, i < t → sp i = sq i) → wgh sp x t = wgh sq x t := by
  intro t
  induction t with
  | zero => intro _; rfl
  | succ t ih => intro h; rw [wgh, wgh, ih (fun i hi => h i (by omega)), h t (by omega)]
theorem wgh_bg {sp : Nat → Int32} {x y : Int32} : ∀ {t : Nat}, (∀ i, i < t → bi x i = bi y i) → wgh sp x t = wgh sp y t := by
  intro t
  induction t with
  | zero => intro _; rfl
  | succ t ih => intro h; rw [wgh, wgh, ih (fun i hi => h i (by omega)), h t (by omega)]
theorem wgh_or {sp : Nat → Int32} {x : Int32} {j : Nat} (hx : bi x j = false) (hj : j < 32) : ∀ {t : Nat}, t ≤ 32 → wgh sp (x ||| b1s j) t = if j < t then wgh sp x t + sp j else wgh sp x t := by
  intro t
  induction t with
  | zero => intro _; rfl
  | succ t ih =>
    intro ht
    rw [wgh, wgh, ih (by omega), bi_or (by omega), bi_1 j hj t (by omega)]
    by_cases h1 : t = j
    · subst h1
      simp [hx]
    · by_cases h2 : j < t
      · have h3 : j < t + 1 := by omega
        simp only [h1, h2, h3, decide_false, Bool.or_false, if_true]
        split
        · grind
        · rfl
      · have h3 : ¬ j < t + 1 := by omega
        simp only [h1, h2, h3, decide_false, Bool.or_false, if_false]
/-- a set of the th things -/
def isS (th : Nat) (x : Int32) : Prop := ∀ i, i < 32 → th ≤ i → bi x i = false
