/-! what is made: a new number, its address; the old addresses stay -/
def adE (σ : Hp) (ad u : Nat → Nat) : Prop := ∀ k, k < hN σ → u k = ad k
theorem adE.rf (σ : Hp) (ad : Nat → Nat) : adE σ ad ad := fun _ _ => rfl
theorem adE.trans {σ τ : Hp} {a b c : Nat → Nat} (h : adE σ a b) (hx : hN σ ≤ hN τ) (g : adE τ b c) : adE σ a c := fun k hk => (g k (Nat.lt_of_lt_of_le hk hx)).trans (h k hk)
theorem adE.O {σ : Hp} {a b : Nat → Nat} (h : adE σ a b) {r : Option Nat} {t : Nat} (g : oT σ r t) : Option.map b r = Option.map a r := by
  cases r with
  | none => rfl
  | some i => exact congrArg some (h i (g i rfl).1)
def nb {ρ : Type} (σ : Hp) (k n : Nat) (f : Nat → Hp → Option ρ) : Option ρ := f (hN σ) (nw σ k n)
def dfl (bs : List Bool) : List Value := bs.map fun b => if b then .null else .int 0
theorem flds_ad {ad u : Nat → Nat} {σ : Hp} {i : Nat} (h : ∀ j k, hR σ i j = some k → u k = ad k) (bs : List Bool) : ∀ j0, flds u σ i j0 bs = flds ad σ i j0 bs := by
  induction bs with
  | nil => intro _; rfl
  | cons b bs ih =>
    intro j0
    simp only [flds, ih]
    congr 1
    cases b with
    | false => rfl
    | true =>
      simp only [fv]
      cases hr : hR σ i j0 with
      | none => rfl
      | some k => simp [h j0 k hr]
theorem cell_ad {cA : Nat → ClassId} {ad u : Nat → Nat} {σ : Hp} {i : Nat} (h : ∀ j k, hR σ i j = some k → u k = ad k) : cellE cA u σ i = cellE cA ad σ i := by
  have h2 : (fun j => (hR σ i j).map u) = (fun j => (hR σ i j).map ad) := by
    funext j
    cases hr : hR σ i j with
    | none => rfl
    | some k => simp [h j k hr]
  unfold cellE
  rw [flds_ad h, h2]
theorem flds_dfl {ad : Nat → Nat} {σ : Hp} {i : Nat} (h1 : ∀ j, hI σ i j = 0) (h2 : ∀ j, hR σ i j = none) (bs : List Bool) : ∀ j0, flds ad σ i j0 bs = dfl bs := by
  induction bs with
  | nil => intro _; rfl
  | cons b bs ih =>
    intro j0
    show fv ad σ i j0 b :: flds ad σ i (j0 + 1) bs = _ :: dfl bs
    rw [ih]
    congr 1
    cases b <;> simp [fv, h1, h2, va_rf]
theorem nw_old {σ : Hp} {k n i : Nat} (h : i < hN σ) : hK (nw σ k n) i = hK σ i ∧ hL (nw σ k n) i = hL σ i ∧ hI (nw σ k n) i = hI σ i ∧ hR (nw σ k n) i = hR σ i ∧ hJ (nw σ k n) i = hJ σ i := by
  have h2 : ¬ i = hN σ := by omega
  refine ⟨?_, ?_, ?_, ?_, ?_⟩ <;> (show up1 _ _ _ i = _; rw [up1, if_neg h2])
theorem nw_new {σ : Hp} {k n : Nat} : hK (nw σ k n) (hN σ) = k ∧ hL (nw σ k n) (hN σ) = n ∧ hI (nw σ k n) (hN σ) = (fun _ => 0) ∧ hR (nw σ k n) (hN σ) = (fun _ => none) ∧ hJ (nw σ k n) (hN σ) = (fun _ => 0) := by
  refine ⟨?_, ?_, ?_, ?_, ?_⟩ <;> (show up1 _ _ _ (hN σ) = _; rw [up1, if_pos rfl])
theorem wT.N {σ : Hp} (h : wT σ) (k n : Nat) : wT (nw σ k n) := by
  intro i hi j
  have hi2 : i < hN σ + 1 := hi
  by_cases hc : i = hN σ
  · subst hc
    rw [nw_new.2.2.2.1]
    exact oT.none
  · have hl : i < hN σ := by omega
    obtain ⟨e1, -, -, e4, -⟩ := nw_old (k := k) (n := n) hl
    rw [e1, e4]
    exact (xT.N σ k n).O (h i hl j)
/-- the world with a new cell at the end of the heap -/
theorem GW.new {D : va_G} {cA : Nat → ClassId} {base : Nat} {ad : Nat → Nat} {σ : Hp} {H H1 : Heap} {k n : Nat} (h : GW D cA base ad σ H) (hb : base ≤ H.size) (ho : ∀ q, q < H.size → H1[q]? = H[q]?) (hc : va_at D vwCl (H.size, cellE cA (up1 ad (hN σ) H.size) (nw σ k n) (hN σ)) H1) : GW D cA base (up1 ad (hN σ) H.size) (nw σ k n) H1 := by
  have hadl : ∀ i, i < hN σ → up1 ad (hN σ) H.size i = ad i := fun i hi => by rw [up1, if_neg (by omega)]
  have hlt : ∀ i, i < hN σ → ad i < H.size := fun i hi => (h.1 i hi).lt
  refine ⟨fun i hi => ?_, fun i hi => ?_, fun i j hi hj e => ?_, h.2.2.2.N k n⟩
  · have hi2 : i < hN σ + 1 := hi
    by_cases hc2 : i = hN σ
    · subst hc2
      have h2 : up1 ad (hN σ) H.size (hN σ) = H.size := by rw [up1, if_pos rfl]
      rw [h2]
      exact hc
    · have hl : i < hN σ := by omega
      obtain ⟨e1, e2, e3, e4, e5⟩ := nw_old (k := k) (n := n) hl
      rw [hadl i hl, cell_other (σ := σ) e3 e4 e5 e1 e2, cell_ad (ad := ad) (fun j k2 hr => hadl k2 (h.2.2.2 i hl j k2 hr).1)]
      exact (h.1 i hl).kept (ho _ (hlt i hl))
  · have hi2 : i < hN σ + 1 := hi
    by_cases hc2 : i = hN σ
    · subst hc2
      rw [up1, if_pos rfl]
      exact hb
    · rw [hadl i (by omega)]
      exact h.2.1 i (by omega)
  · have hi2 : i < hN σ + 1 := hi
    have hj2 : j < hN σ + 1 := hj
    by_cases ci : i = hN σ <;> by_cases cj : j = hN σ
    · omega
    · subst ci
      rw [up1, if_pos rfl, hadl j (by omega)] at e
      have := hlt j (by omega)
      omega
    · subst cj
      rw [hadl i (by omega), up1, if_pos rfl] at e
      have := hlt i (by omega)
      omega
    · rw [hadl i (by omega), hadl j (by omega)] at e
      exact h.2.2.1 i j (by omega) (by omega) e
section ALLOC
variable {p : Program} {l : Launch} {e : Env} {R : Room} {s : State} {m : MethodId} {args : Array Value} {below : List Frame} {meth : Method} {c : Code} {H : Heap} {locs : List Loc} {cells slots : Nat} {Q : State → Prop}
variable {D : va_G} {cA : Nat → ClassId} {base : Nat} {ad : Nat → Nat} {σ : Hp} {cc : ByteArray} {nL : Nat} {ret : Option FieldType} {own : String}
variable {pc : Nat} {ls : Array Slot} {rest st0 : List Value} {ρ : Type} {rr : ρ}
theorem base_le (X : SX D cA base p s m args meth c cc nL ret own) (hS : va_S (bA base) s.heap H locs) : base ≤ H.size := Nat.le_trans X.2.2.2.2.2.2.2.2.2 hS.1
theorem s_new {H1 : Heap} (hS : va_S (bA base) s.heap H locs) (hz : H1.size = H.size + 1) (ho : ∀ q, q < H.size → H1[q]? = H[q]?) : va_S (bA base) s.heap H1 locs :=
  ⟨Nat.le_trans hS.1 (by omega), fun q h1 h2 => (ho q (Nat.lt_of_lt_of_le h1 hS.1)).trans (hS.2.1 q h1 h2), hS.2.2⟩
theorem gx_new {C : String} {T : u_T} {N ci index : Nat} {ty0 : Nat → FieldType} {f : Nat → Hp → Option ρ} (X : SX D cA base p s m args meth c cc nL ret own) (hG : GW D cA base ad σ H) (hS : va_S (bA base) s.heap H locs) (h13 : ci < 13) (hc : vwCl[ci]? = some (C, T, N)) (hin : ∀ w ∈ u_ws C T N, w ∈ TB) (hty : ∀ k, k < N → parseFieldDescriptor (T k).2.2.1 = some (ty0 k)) (hdf : ∀ j, j < N → defaultValue (ty0 j) = vp_V (dfl (fR ci)) j) (hcl : Cond.classLink own index C ∈ TB) (hinst : Cond.instantiable C N ∈ TB) (hini : Cond.initialized C ∈ TB) (hi2 : isT ci ci = true) (hcells : cells + 1 ≤ R.cells) (hslots : slots + N ≤ R.slots) (hdg : decode cc pc = .ok (.new index, 3)) (hF : nb σ ci 0 f = some rr)
    (kk : ∀ (i : Nat) (τ : Hp) (u : Nat → Nat) (H1 : Heap), GW D cA base u τ H1 → va_S (bA base) s.heap H1 locs → xT σ τ → adE σ ad u → hT τ i ci → f i τ = some rr → W p l e R s m args below meth c H1 locs (cells + 1) (slots + N) Q (F0 m (pc + 3) ls (.ref (u i) :: rest))) : W p l e R s m args below meth c H locs cells slots Q (F0 m pc ls rest) := by
  have hKn := X.2.2.2.2.2.2.2.1.1 ci _ hc
  refine W.newcK X.1 X.2.1 X.2.2.2.2.2.1 (X.w hcl) (X.w hinst) (X.w hini) rfl hdg hcells hslots hKn.2.1 rfl fun H1 kC hkC e1 z1 o1 => ?_
  have hu : up1 ad (hN σ) H.size (hN σ) = H.size := by rw [up1, if_pos rfl]
  have k2 := kk (hN σ) (nw σ ci 0) (up1 ad (hN σ) H.size) H1 (hG.new (base_le X hS) o1 ?_) (s_new hS z1 o1) (xT.N σ ci 0) (fun k hk => by rw [up1, if_neg (by omega)]) ⟨Nat.lt_succ_self _, by rw [nw_new.1]; exact hi2⟩ hF
  · rw [hu] at k2
    exact k2
  · rw [cell_obj (nw_new (σ := σ) (k := ci) (n := 0)).1 h13, flds_dfl (fun j => by rw [nw_new.2.2.1]) (fun j => by rw [nw_new.2.2.2.1])]
    exact ⟨_, hc, (u_born ty0 X.2.2.2.2.1 hin hKn hkC e1 hty).to hdf⟩
theorem gx_newI {x : Int32} {M : Nat} {f : Nat → Hp → Option ρ} (X : SX D cA base p s m args meth c cc nL ret own) (hG : GW D cA base ad σ H) (hS : va_S (bA base) s.heap H locs) (harr : Cond.arrayClass .int ∈ TB) (hcells : cells + 1 ≤ R.cells) (hslots : slots + M ≤ R.slots) (hM : M ≤ 100000) (hdg : decode cc pc = .ok (.newarray .int, 2)) (hF : ck (¬ x < 0 ∧ x.toNatClampNeg ≤ M) (nb σ 13 x.toNatClampNeg f) = some rr)
    (kk : ∀ (i : Nat) (τ : Hp) (u : Nat → Nat) (H1 : Heap), GW D cA base u τ H1 → va_S (bA base) s.heap H1 locs → xT σ τ → adE σ ad u → hT τ i 13 → f i τ = some rr → W p l e R s m args below meth c H1 locs (cells + 1) (slots + M) Q (F0 m (pc + 2) ls (.ref (u i) :: rest))) : W p l e R s m args below meth c H locs cells slots Q (F0 m pc ls (.int x :: rest)) := by
  obtain ⟨⟨hn, hx⟩, hF⟩ := ck_ex hF
  refine va_newaK (atype := .int) X.1 X.2.1 (X.w harr) rfl hdg rfl hn rfl (by show x.toNatClampNeg * 4 ≤ _; omega) hcells (Nat.le_trans (Nat.add_le_add_left hx _) hslots) rfl fun H1 cA2 e1 z1 o1 hAr hNm => ?_
  have hu : up1 ad (hN σ) H.size (hN σ) = H.size := by rw [up1, if_pos rfl]
  have hcA : cA2 = cA 13 := by
    have h0 := (X.2.2.2.2.2.2.2.1.2 0 (cA 13, .int) rfl).2
    exact Option.some.inj (hNm.symm.trans h0)
  refine W.widen (k := cells + 1) (n := slots + M) (Nat.le_refl _) (Nat.add_le_add_left hx _) ?_
  have k2 := kk (hN σ) (nw σ 13 x.toNatClampNeg) (up1 ad (hN σ) H.size) H1 (hG.new (base_le X hS) o1 ?_) (s_new hS z1 o1) (xT.N σ 13 _) (fun k hk => by rw [up1, if_neg (by omega)]) ⟨Nat.lt_succ_self _, by rw [nw_new.1]; rfl⟩ hF
  · rw [hu] at k2
    exact k2
  · rw [cell_13 (nw_new (σ := σ) (k := 13) (n := x.toNatClampNeg)).1]
    show H1[H.size]? = some (vp_cell _ _)
    rw [nw_new.2.1, nw_new.2.2.1, vp_cell_i, ← hcA]
    exact e1
theorem gx_newQ {C : String} {x : Int32} {M k0 t0 index : Nat} {f : Nat → Hp → Option ρ} (X : SX D cA base p s m args meth c cc nL ret own) (hG : GW D cA base ad σ H) (hS : va_S (bA base) s.heap H locs) (h1 : 13 < k0) (h2 : k0 < 17) (ht : (tyl cA)[t0]? = some (cA k0, .object C)) (hi2 : isT k0 k0 = true) (hcl : Cond.classLink own index C ∈ TB) (hover : va_AO C s) (hcells : cells + 1 ≤ R.cells) (hslots : slots + M ≤ R.slots) (hM : M ≤ 100000) (hdg : decode cc pc = .ok (.anewarray index, 3)) (hF : ck (¬ x < 0 ∧ x.toNatClampNeg ≤ M) (nb σ k0 x.toNatClampNeg f) = some rr)
    (kk : ∀ (i : Nat) (τ : Hp) (u : Nat → Nat) (H1 : Heap), GW D cA base u τ H1 → va_S (bA base) s.heap H1 locs → xT σ τ → adE σ ad u → hT τ i k0 → f i τ = some rr → W p l e R s m args below meth c H1 locs (cells + 1) (slots + M) Q (F0 m (pc + 3) ls (.ref (u i) :: rest))) : W p l e R s m args below meth c H locs cells slots Q (F0 m pc ls (.int x :: rest)) := by
  obtain ⟨⟨hn, hx⟩, hF⟩ := ck_ex hF
  refine W.anew X.1 X.2.1 X.2.2.2.2.2.1 (X.w hcl) (va_AO.use hover) rfl hdg rfl hn (by omega) hcells (Nat.le_trans (Nat.add_le_add_left hx _) hslots) fun cA2 kA comp f1 f2 f3 f4 => ?_
  generalize hH1 : H.push ({ cls := cA2, slots := Array.replicate x.toNatClampNeg .null, vm := .none } : Cell) = H1
  have z1 : H1.size = H.size + 1 := by rw [← hH1, Array.size_push]
  have e1 : H1[H.size]? = some (arrV cA2 x.toNatClampNeg (fun _ => .null)) := by rw [← hH1, Array.getElem?_push_size, ← arrV_new]
  have o1 : ∀ q : Nat, q < H.size → H1[q]? = H[q]? := fun q hq => by rw [← hH1, Array.getElem?_push, if_neg (Nat.ne_of_lt hq)]
  have hu : up1 ad (hN σ) H.size (hN σ) = H.size := by rw [up1, if_pos rfl]
  have hcA : cA2 = cA k0 := by
    obtain ⟨kA', comp', g1, g2, g3, g4⟩ := (X.2.2.2.2.2.2.2.1.2 t0 _ ht).2
    exact Option.some.inj (f1.symm.trans g4)
  refine W.widen (k := cells + 1) (n := slots + M) (Nat.le_refl _) (Nat.add_le_add_left hx _) ?_
  have k2 := kk (hN σ) (nw σ k0 x.toNatClampNeg) (up1 ad (hN σ) H.size) H1 (hG.new (base_le X hS) o1 ?_) (s_new hS z1 o1) (xT.N σ k0 _) (fun k hk => by rw [up1, if_neg (by omega)]) ⟨Nat.lt_succ_self _, by rw [nw_new.1]; exact hi2⟩ hF
  · rw [hu] at k2
    exact k2
  · rw [cell_q (nw_new (σ := σ) (k := k0) (n := x.toNatClampNeg)).1 h1 h2]
    show H1[H.size]? = some (vp_cell _ _)
    rw [nw_new.2.1, nw_new.2.2.2.1, vp_cell_q, ← hcA]
    exact e1
def MVa (l : Launch) (y : MethodName) (b : ByteArray) (maxL : Nat) (rm : Room) (D : va_G) (cA : Nat → ClassId) (base : Nat) (ad : Nat → Nat) (σ : Hp) (av : List Value) (τ : Hp) (mc ms : Nat) : Prop :=
  Met l y (.code y b maxL none :: TB) rm (va_Pc av (GS D cA base ad σ)) (va_Qv (fun u => xT σ τ ∧ adE σ ad u) (fun u t => GS D cA base u τ t) (bA base)) mc ms (bA base)
def MIa (l : Launch) (y : MethodName) (b : ByteArray) (maxL : Nat) (ret : Option FieldType) (rm : Room) (D : va_G) (cA : Nat → ClassId) (base : Nat) (ad : Nat → Nat) (σ : Hp) (av : List Value) (r : Int32) (τ : Hp) (mc ms : Nat) : Prop :=
  Met l y (.code y b maxL ret :: TB) rm (va_Pc av (GS D cA base ad σ)) (va_Qi (fun v u => v = r ∧ xT σ τ ∧ adE σ ad u) (fun u t => GS D cA base u τ t) (bA base)) mc ms (bA base)
def MQa (l : Launch) (y : MethodName) (b : ByteArray) (maxL : Nat) (ret : Option FieldType) (rm : Room) (D : va_G) (cA : Nat → ClassId) (base : Nat) (ad : Nat → Nat) (σ : Hp) (av : List Value) (r : Option Nat) (τ : Hp) (t mc ms : Nat) : Prop :=
  Met l y (.code y b maxL ret :: TB) rm (va_Pc av (GS D cA base ad σ)) (va_Qq (fun v (u : Nat → Nat) => v = r.map u ∧ xT σ τ ∧ oT τ r t ∧ adE σ ad u) (fun u t => GS D cA base u τ t) (bA base)) mc ms (bA base)
abbrev YV (below : List Frame) (s : State) (args : Array Value) (D : va_G) (cA : Nat → ClassId) (base : Nat) (ad : Nat → Nat) (σ : Hp) (τ : Hp) (mc ms : Nat) : State → Prop := MQ below (va_Qv (fun u => xT σ τ ∧ adE σ ad u) (fun u t => GS D cA base u τ t) (bA base)) args s mc ms (bA base)
abbrev YI (below : List Frame) (s : State) (args : Array Value) (D : va_G) (cA : Nat → ClassId) (base : Nat) (ad : Nat → Nat) (σ : Hp) (r : Int32) (τ : Hp) (mc ms : Nat) : State → Prop := MQ below (va_Qi (fun v u => v = r ∧ xT σ τ ∧ adE σ ad u) (fun u t => GS D cA base u τ t) (bA base)) args s mc ms (bA base)
abbrev YQ (below : List Frame) (s : State) (args : Array Value) (D : va_G) (cA : Nat → ClassId) (base : Nat) (ad : Nat → Nat) (σ : Hp) (r : Option Nat) (τ : Hp) (t mc ms : Nat) : State → Prop := MQ below (va_Qq (fun v (u : Nat → Nat) => v = r.map u ∧ xT σ τ ∧ oT τ r t ∧ adE σ ad u) (fun u t => GS D cA base u τ t) (bA base)) args s mc ms (bA base)
theorem gx_vretA {σ0 τ : Hp} {ad0 : Nat → Nat} (X : SX D cA base p s m args meth c cc nL none own) (hG : GW D cA base ad σ H) (hS : va_S (bA base) s.heap H locs) (hE : xT σ0 σ) (hA : adE σ0 ad0 ad) (hF : (some σ : Option Hp) = some τ) (hdg : decode cc pc = .ok (.return_, 1)) : W p l e R s m args below meth c H locs cells slots (YV below s args D cA base ad0 σ0 τ cells slots) (F0 m pc ls []) := by
  have hF := Option.some.inj hF
  subst hF
  exact W.vret X.1 X.2.1 X.2.2.2.1 (fun t ht hW => ⟨⟨ad, rfl, ⟨hE, hA⟩, gs_end X hG hS ht hW⟩, hS.F ht⟩) hS.2.2 hdg X.2.2.2.2.2.2.1
theorem gx_iretA {σ0 τ : Hp} {ad0 : Nat → Nat} {r v : Int32} (X : SX D cA base p s m args meth c cc nL (some .int) own) (hG : GW D cA base ad σ H) (hS : va_S (bA base) s.heap H locs) (hE : xT σ0 σ) (hA : adE σ0 ad0 ad) (hF : (some (v, σ) : Option (Int32 × Hp)) = some (r, τ)) (hdg : decode cc pc = .ok (.ireturn, 1)) : W p l e R s m args below meth c H locs cells slots (YI below s args D cA base ad0 σ0 r τ cells slots) (F0 m pc ls [.int v]) := by
  have hF := Option.some.inj hF
  cases hF
  exact W.iret X.1 X.2.1 X.2.2.2.1 (fun t ht hW => ⟨⟨r, ad, rfl, ⟨rfl, hE, hA⟩, gs_end X hG hS ht hW⟩, hS.F ht⟩) hS.2.2 hdg X.2.2.2.2.2.2.1
theorem gx_qretA {σ0 τ : Hp} {ad0 : Nat → Nat} {r v : Option Nat} {C : String} {t0 : Nat} (X : SX D cA base p s m args meth c cc nL (some (.object C)) own) (hG : GW D cA base ad σ H) (hS : va_S (bA base) s.heap H locs) (hE : xT σ0 σ) (hA : adE σ0 ad0 ad) (ho : oT σ v t0) (hF : (some (v, σ) : Option (Option Nat × Hp)) = some (r, τ)) (hdg : decode cc pc = .ok (.areturn, 1)) : W p l e R s m args below meth c H locs cells slots (YQ below s args D cA base ad0 σ0 r τ t0 cells slots) (F0 m pc ls [va_rf (v.map ad)]) := by
  have hF := Option.some.inj hF
  cases hF
  exact W.aret X.1 X.2.1 X.2.2.2.1 (Or.inl ⟨C, rfl⟩) (va_rf_or _) (fun t ht hW => ⟨⟨r.map ad, ad, rfl, ⟨rfl, hE, ho, hA⟩, gs_end X hG hS ht hW⟩, hS.F ht⟩) hS.2.2 hdg X.2.2.2.2.2.2.1
theorem gx_rVa {a : Array Value} {τ : Hp} {mc ms : Nat} (hr : va_Run p l e R s m args below meth c H locs cells slots mc ms (F0 m pc ls st0) rest (va_Qv (fun u => xT σ τ ∧ adE σ ad u) (fun u t => GS D cA base u τ t) (bA base) a) (bA base)) (hS : va_S (bA base) s.heap H locs)
    (kk : ∀ (u : Nat → Nat) (H1 : Heap) (locs1 : List Loc), GW D cA base u τ H1 → va_S (bA base) s.heap H1 locs1 → xT σ τ → adE σ ad u → W p l e R s m args below meth c H1 locs1 (cells + mc) (slots + ms) Q (F0 m (pc + 3) ls rest)) : W p l e R s m args below meth c H locs cells slots Q (F0 m pc ls st0) := by
  refine va_callv hr hS (fun _ _ h => h) (fun _ h => h) (fun u t H1 locs1 ht hvm hp hB hz hk hS1 => ?_)
  exact kk u H1 locs1 (by rw [← ht]; exact hB.1) hS1 hp.1 hp.2
theorem gx_rIa {a : Array Value} {r : Int32} {τ : Hp} {mc ms : Nat} (hr : va_Run p l e R s m args below meth c H locs cells slots mc ms (F0 m pc ls st0) rest (va_Qi (fun v u => v = r ∧ xT σ τ ∧ adE σ ad u) (fun u t => GS D cA base u τ t) (bA base) a) (bA base)) (hS : va_S (bA base) s.heap H locs)
    (kk : ∀ (u : Nat → Nat) (H1 : Heap) (locs1 : List Loc), GW D cA base u τ H1 → va_S (bA base) s.heap H1 locs1 → xT σ τ → adE σ ad u → W p l e R s m args below meth c H1 locs1 (cells + mc) (slots + ms) Q (F0 m (pc + 3) ls (.int r :: rest))) : W p l e R s m args below meth c H locs cells slots Q (F0 m pc ls st0) := by
  refine va_calli hr hS (fun _ _ h => h) (fun _ h => h) (fun r1 u t H1 locs1 ht hvm hp hB hz hk hS1 => ?_)
  obtain ⟨rfl, hx, ha⟩ := hp
  exact kk u H1 locs1 (by rw [← ht]; exact hB.1) hS1 hx ha
theorem gx_rQa {a : Array Value} {r : Option Nat} {τ : Hp} {t0 mc ms : Nat} (hr : va_Run p l e R s m args below meth c H locs cells slots mc ms (F0 m pc ls st0) rest (va_Qq (fun v (u : Nat → Nat) => v = r.map u ∧ xT σ τ ∧ oT τ r t0 ∧ adE σ ad u) (fun u t => GS D cA base u τ t) (bA base) a) (bA base)) (hS : va_S (bA base) s.heap H locs)
    (kk : ∀ (u : Nat → Nat) (H1 : Heap) (locs1 : List Loc), GW D cA base u τ H1 → va_S (bA base) s.heap H1 locs1 → xT σ τ → adE σ ad u → oT τ r t0 → W p l e R s m args below meth c H1 locs1 (cells + mc) (slots + ms) Q (F0 m (pc + 3) ls (va_rf (r.map u) :: rest))) : W p l e R s m args below meth c H locs cells slots Q (F0 m pc ls st0) := by
  refine va_callq hr hS (fun _ _ h => h) (fun _ h => h) (fun r1 u t H1 locs1 ht hvm hp hB hz hk hS1 => ?_)
  obtain ⟨rfl, hx, ho, ha⟩ := hp
  exact kk u H1 locs1 (by rw [← ht]; exact hB.1) hS1 hx ha ho
/-- the TURNS' own final fields, in Turn's constructor -/
theorem gx_putFTI {i index : Nat} (j : Nat) {x : Int32} {f : Hp → Option ρ} (X : SX D cA base p s m args meth c cc nL ret "ElevenOne$Turn") (hG : GW D cA base ad σ H) (hS : va_S (bA base) s.heap H locs) (h : hT σ i 100) (hj : j < 7) (hlink : Cond.fieldLink "ElevenOne$Turn" index "ElevenOne$Turn" (TX10 j).2.1 (TX10 j).2.2.1 ∈ TB) (hm : meth.name = "<init>") (hty : tyX10 j = .int) (hn : narrow .int (.int x) = .int x) (hfit : fits .int (.int x) = true) (hd1 : (TX10 j).1 = "ElevenOne$Turn") (hf1 : (TX10 j).2.2.2 = true) (hr1 : ([false, false, false, false, false, false, false, true] : List Bool)[j]? = some false) (hdg : decode cc pc = .ok (.putfield index, 3)) (hF : lt (pI σ i j x) f = some rr)
    (kk : ∀ (τ : Hp) (H1 : Heap) (locs1 : List Loc), GW D cA base ad τ H1 → va_S (bA base) s.heap H1 locs1 → xT σ τ → f τ = some rr → W p l e R s m args below meth c H1 locs1 cells slots Q (F0 m (pc + 3) ls rest)) : W p l e R s m args below meth c H locs cells slots Q (F0 m pc ls (.int x :: .ref (ad i) :: rest)) := by
  obtain ⟨C, T, h1, h2, rfl, h3, h4, -⟩ := turnK (isT_100 h.2 (Or.inl rfl))
  exact gx_putFI (ty0 := tyX10) j X hG hS h.1 rfl h3 h1 h2 tyX10_ok nmX10 (by omega) (by rw [hd1]; exact hlink) hf1 hm hd1 (by rw [hty]; exact hn) (by rw [hty]; exact hfit) (by rw [h4]; exact hr1) (by rw [h4]; show j < 8; omega) hdg hF kk
theorem gx_putFTR {i index : Nat} {x : Option Nat} {f : Hp → Option ρ} (X : SX D cA base p s m args meth c cc nL ret "ElevenOne$Turn") (hG : GW D cA base ad σ H) (hS : va_S (bA base) s.heap H locs) (h : hT σ i 100) (hlink : Cond.fieldLink "ElevenOne$Turn" index "ElevenOne$Turn" "law" "LElevenOne$Law;" ∈ TB) (hm : meth.name = "<init>") (ho : oT σ x 1) (hdg : decode cc pc = .ok (.putfield index, 3)) (hF : lt (pR σ i 7 x) f = some rr)
    (kk : ∀ (τ : Hp) (H1 : Heap) (locs1 : List Loc), GW D cA base ad τ H1 → va_S (bA base) s.heap H1 locs1 → xT σ τ → f τ = some rr → W p l e R s m args below meth c H1 locs1 cells slots Q (F0 m (pc + 3) ls rest)) : W p l e R s m args below meth c H locs cells slots Q (F0 m pc ls (va_rf (x.map ad) :: .ref (ad i) :: rest)) := by
  obtain ⟨C, T, h1, h2, rfl, h3, h4, h5⟩ := turnK (isT_100 h.2 (Or.inl rfl))
  exact gx_putFR (ty0 := tyX10) 7 X hG hS h.1 rfl h3 h1 h2 tyX10_ok nmX10 (by decide) hlink rfl hm rfl (by cases x <;> rfl) (by cases x <;> rfl) (by rw [h4]; rfl) (by rw [h5]; exact ho) (by rw [h4]; exact (by decide : (7 : Nat) < 8)) hdg hF kk
end ALLOC
