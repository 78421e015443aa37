/-! references that may be null; the TURNS' kinds; Math -/
theorem gw_T {D : va_G} {cA : Nat → ClassId} {base : Nat} {ad : Nat → Nat} {σ : Hp} {H : Heap} {i j t k : Nat} (hG : GW D cA base ad σ H) (h : hT σ i t) (ht : t < 100) (hr : hR σ i j = some k) : hT σ k (rT t j) := by
  have h2 := hG.2.2.2 i h.1 j k hr
  rw [h.eq ht] at h2
  exact h2
theorem gw_O {D : va_G} {cA : Nat → ClassId} {base : Nat} {ad : Nat → Nat} {σ : Hp} {H : Heap} {i j t : Nat} (hG : GW D cA base ad σ H) (h : hT σ i t) (ht : t < 100) : oT σ (hR σ i j) (rT t j) := fun k hr => gw_T hG h ht hr
theorem nz_b {v : Int32} (h : v = 0 ∨ v = 1) : narrow .boolean (.int v) = .int v := by rcases h with rfl | rfl <;> rfl
theorem fz_b {v : Int32} (h : v = 0 ∨ v = 1) : fits .boolean (.int v) = true := by rcases h with rfl | rfl <;> rfl
theorem ne_lit {x k : Int32} {z : Int} (h : ¬ x = k) (hk : k.toInt = z) : x.toInt ≠ z := fun e => h (Int32.toInt_inj.mp (e.trans hk.symm))
theorem isT_100 {t k : Nat} (h : isT t k = true) (ht : t = 100 ∨ t = 101 ∨ t = 102 ∨ t = 103) : k = 0 ∨ k = 2 ∨ k = 4 ∨ k = 6 ∨ k = 7 ∨ k = 8 ∨ k = 9 ∨ k = 10 := by
  rcases ht with rfl | rfl | rfl | rfl <;> simp only [isT, Bool.or_eq_true, beq_iff_eq] at h <;> omega
theorem hT.up {σ : Hp} {i t : Nat} (h : hT σ i t) (ht : t = 0 ∨ t = 2 ∨ t = 4 ∨ t = 6 ∨ t = 7 ∨ t = 8 ∨ t = 9 ∨ t = 10 ∨ t = 100 ∨ t = 101 ∨ t = 102 ∨ t = 103) : hT σ i 100 := by
  refine ⟨h.1, ?_⟩
  have h2 := h.2
  rcases ht with rfl | rfl | rfl | rfl | rfl | rfl | rfl | rfl | rfl | rfl | rfl | rfl <;> simp only [isT, Bool.or_eq_true, beq_iff_eq] at h2 ⊢ <;> omega
theorem hT.of {σ : Hp} {i t k : Nat} (h : hT σ i t) (hk : hK σ i = k) (ht : isT k k = true) : hT σ i k := ⟨h.1, by rw [hk]; exact ht⟩
/-- what all TURNS have alike -/
theorem turnK {k : Nat} (h : k = 0 ∨ k = 2 ∨ k = 4 ∨ k = 6 ∨ k = 7 ∨ k = 8 ∨ k = 9 ∨ k = 10) : ∃ (C : String) (T : u_T), vwCl[k]? = some (C, T, 8) ∧ (∀ w ∈ u_ws C T 8, w ∈ TB) ∧ T = TX10 ∧ k < 13 ∧ fR k = [false, false, false, false, false, false, false, true] ∧ rT k 7 = 1 := by
  rcases h with rfl | rfl | rfl | rfl | rfl | rfl | rfl | rfl
  · exact ⟨_, _, rfl, inX0, by funext j; unfold TX0 TX10; split <;> rfl, by decide, rfl, rfl⟩
  · exact ⟨_, _, rfl, inX2, by funext j; unfold TX2 TX10; split <;> rfl, by decide, rfl, rfl⟩
  · exact ⟨_, _, rfl, inX4, by funext j; unfold TX4 TX10; split <;> rfl, by decide, rfl, rfl⟩
  · exact ⟨_, _, rfl, inX6, by funext j; unfold TX6 TX10; split <;> rfl, by decide, rfl, rfl⟩
  · exact ⟨_, _, rfl, inX7, by funext j; unfold TX7 TX10; split <;> rfl, by decide, rfl, rfl⟩
  · exact ⟨_, _, rfl, inX8, by funext j; unfold TX8 TX10; split <;> rfl, by decide, rfl, rfl⟩
  · exact ⟨_, _, rfl, inX9, by funext j; unfold TX9 TX10; split <;> rfl, by decide, rfl, rfl⟩
  · exact ⟨_, _, rfl, inX10, rfl, by decide, rfl, rfl⟩
section MORE
variable {p : Program} {l : Launch} {e : Env} {R : Room} {s : State} {m : MethodId} {args : Array Value} {below : List Frame} {meth : Method} {c : Code} {H : Heap} {locs : List Loc} {cells slots : Nat} {Q : State → Prop}
variable {D : va_G} {cA : Nat → ClassId} {base : Nat} {ad : Nat → Nat} {σ : Hp} {cc : ByteArray} {nL : Nat} {ret : Option FieldType} {own : String}
variable {pc : Nat} {ls : Array Slot} {rest : List Value} {ρ : Type} {rr : ρ}
/-- a field of a TURN of any kind: the int fields, and its LAW -/
theorem gx_getT {ref : String} {index i : Nat} (j : Nat) {v : Value} (X : SX D cA base p s m args meth c cc nL ret own) (hG : GW D cA base ad σ H) (h : hT σ i 100) (hj : j < 8) (hlink : Cond.fieldLink own index ref (TX10 j).2.1 (TX10 j).2.2.1 ∈ TB) (hsame : ∀ x, s.fieldFound? (TX10 j).1 (TX10 j).2.1 (TX10 j).2.2.1 = some x → s.fieldFound? ref (TX10 j).2.1 (TX10 j).2.2.1 = some x) (hv : (flds ad σ i 0 [false, false, false, false, false, false, false, true])[j]? = some v) (hdg : decode cc pc = .ok (.getfield index, 3))
    (kk : W p l e R s m args below meth c H locs cells slots Q (F0 m (pc + 3) ls (v :: rest))) : W p l e R s m args below meth c H locs cells slots Q (F0 m pc ls (.ref (ad i) :: rest)) := by
  obtain ⟨C, T, h1, h2, rfl, h3, h4, -⟩ := turnK (isT_100 h.2 (Or.inl rfl))
  exact gx_get j X hG h.1 rfl h3 h1 h2 hj hlink hsame (by rw [h4]; exact hv) hdg kk
theorem gw_law {i : Nat} (hG : GW D cA base ad σ H) (h : hT σ i 100) : oT σ (hR σ i 7) 1 := by
  obtain ⟨C, T, h1, h2, rfl, h3, h4, h5⟩ := turnK (isT_100 h.2 (Or.inl rfl))
  have h6 := hG.2.2.2 i h.1 7
  rw [h5] at h6
  exact h6
theorem gx_aload_n {k : Fin 4} {i : Nat} {r : Option Nat} (hexec : p.tables.exec = Jvm.exec) (hb : c.code = cc) (hdg : decode cc pc = .ok (.aload_n k, 1)) (hi : (k : Nat) = i) (hl : ls[i]? = some (.val (va_rf r)))
    (kk : W p l e R s m args below meth c H locs cells slots Q (F0 m (pc + 1) ls (va_rf r :: rest))) : W p l e R s m args below meth c H locs cells slots Q (F0 m pc ls rest) := by
  cases r with
  | none => exact lv_aload_nN hexec hb hdg hi hl kk
  | some a => exact lv_aload_n hexec hb hdg hi hl kk
theorem gx_aload {i : Nat} {r : Option Nat} (hexec : p.tables.exec = Jvm.exec) (hb : c.code = cc) (hdg : decode cc pc = .ok (.aload i, 2)) (hl : ls[i]? = some (.val (va_rf r)))
    (kk : W p l e R s m args below meth c H locs cells slots Q (F0 m (pc + 2) ls (va_rf r :: rest))) : W p l e R s m args below meth c H locs cells slots Q (F0 m pc ls rest) := by
  cases r with
  | none => exact lv_aloadN hexec hb hdg hl kk
  | some a => exact lv_aload hexec hb hdg hl kk
theorem gx_astore_n {k : Fin 4} {i : Nat} {r : Option Nat} {lv lv' : List (Nat × Value)} (hexec : p.tables.exec = Jvm.exec) (hb : c.code = cc) (hdg : decode cc pc = .ok (.astore_n k, 1)) (hi : (k : Nat) = i) (h : lv_has ls nL lv) (hn : i < nL) (hl : (i, va_rf r) :: lv.filter (fun q => !(q.1 == i) && !(q.1 + 1 == i && q.2.category == 2)) = lv')
    (kk : ∀ ls', lv_has ls' nL lv' → W p l e R s m args below meth c H locs cells slots Q (F0 m (pc + 1) ls' rest)) : W p l e R s m args below meth c H locs cells slots Q (F0 m pc ls (va_rf r :: rest)) := by
  cases r with
  | none => exact lv_astore_nN hexec hb hdg hi h hn hl kk
  | some a => exact lv_astore_n hexec hb hdg hi h hn hl kk
theorem gx_astore {i : Nat} {r : Option Nat} {lv lv' : List (Nat × Value)} (hexec : p.tables.exec = Jvm.exec) (hb : c.code = cc) (hdg : decode cc pc = .ok (.astore i, 2)) (h : lv_has ls nL lv) (hn : i < nL) (hl : (i, va_rf r) :: lv.filter (fun q => !(q.1 == i) && !(q.1 + 1 == i && q.2.category == 2)) = lv')
    (kk : ∀ ls', lv_has ls' nL lv' → W p l e R s m args below meth c H locs cells slots Q (F0 m (pc + 2) ls' rest)) : W p l e R s m args below meth c H locs cells slots Q (F0 m pc ls (va_rf r :: rest)) := by
  cases r with
  | none => exact lv_astoreN hexec hb hdg h hn hl kk
  | some a => exact lv_astore hexec hb hdg h hn hl kk
theorem gx_ifnull {off : Int} {tgt : Nat} {r : Option Nat} {a : Option ρ} {f : Nat → Option ρ} (hexec : p.tables.exec = Jvm.exec) (hb : c.code = cc) (hdg : decode cc pc = .ok (.ifnull off, 3)) (ht : (pc : Int) + off = (tgt : Int)) (hF : om r a f = some rr)
    (kn : r = none → a = some rr → W p l e R s m args below meth c H locs cells slots Q (F0 m tgt ls rest)) (ks : ∀ i, r = some i → f i = some rr → W p l e R s m args below meth c H locs cells slots Q (F0 m (pc + 3) ls rest)) : W p l e R s m args below meth c H locs cells slots Q (F0 m pc ls (va_rf (Option.map ad r) :: rest)) := by
  cases r with
  | none => exact lv_ifnullN hexec hb hdg ht (kn rfl hF)
  | some i => exact lv_ifnull hexec hb hdg (ks i rfl hF)
theorem gx_ifnonnull {off : Int} {tgt : Nat} {r : Option Nat} {a : Option ρ} {f : Nat → Option ρ} (hexec : p.tables.exec = Jvm.exec) (hb : c.code = cc) (hdg : decode cc pc = .ok (.ifnonnull off, 3)) (ht : (pc : Int) + off = (tgt : Int)) (hF : om r a f = some rr)
    (kn : r = none → a = some rr → W p l e R s m args below meth c H locs cells slots Q (F0 m (pc + 3) ls rest)) (ks : ∀ i, r = some i → f i = some rr → W p l e R s m args below meth c H locs cells slots Q (F0 m tgt ls rest)) : W p l e R s m args below meth c H locs cells slots Q (F0 m pc ls (va_rf (Option.map ad r) :: rest)) := by
  cases r with
  | none => exact lv_ifnonnullN hexec hb hdg (kn rfl hF)
  | some i => exact lv_ifnonnull hexec hb hdg ht (ks i rfl hF)
theorem qa_row {σ : Hp} {i j : Nat} {ad : Nat → Nat} {x : Option Nat} {f : Nat → Option Nat} (hf : f = fun j => (hR σ i j).map ad) : va_up f j (x.map ad) = va_up (fun j => (hR σ i j).map ad) j (x.map ad) := by rw [hf]
/-- into a row of references: null, or one whose class is the row's own -/
theorem gx_qast {i t0 k0 ci : Nat} {r : vw_C} {x : Int32} {v : Option Nat} {f : Hp → Option ρ} (X : SX D cA base p s m args meth c cc nL ret own) (hG : GW D cA base ad σ H) (hS : va_S (bA base) s.heap H locs) (h : hT σ i k0) (h1 : 13 < k0) (h2 : k0 < 17) (ht : (tyl cA)[t0]? = some (cA k0, .object r.1)) (hc : vwCl[ci]? = some r) (hci : ci < 13) (hv : oT σ v ci) (hrt : rT k0 x.toNatClampNeg = ci) (hF : ck (¬ (x < 0 ∨ hL σ i ≤ x.toNatClampNeg)) (lt (pR σ i x.toNatClampNeg v) f) = some rr) (hdg : decode cc pc = .ok (.aastore, 1))
    (kk : ∀ (τ : Hp) (H1 : Heap) (locs1 : List Loc), GW D cA base ad τ H1 → va_S (bA base) s.heap H1 locs1 → xT σ τ → f τ = some rr → W p l e R s m args below meth c H1 locs1 cells slots Q (F0 m (pc + 1) ls rest)) : W p l e R s m args below meth c H locs cells slots Q (F0 m pc ls (va_rf (v.map ad) :: .int x :: .ref (ad i) :: rest)) := by
  have hk := h.eq (show k0 < 100 by omega)
  cases v with
  | none => exact va_astqN X.1 X.2.1 X.2.2.2.2.2.2.2.1 hG.P hG.D hS i t0 (by rw [wl_at h.1, cell_q hk h1 h2]) ht (ck_ex hF).1 hdg (fun H1 locs1 hP _ hS1 => kk _ H1 locs1 (GW_pQ hG h.1 hk h1 h2 oT.none hP) hS1 (xT.R σ i _ none) (ck_ex hF).2)
  | some a =>
    have ha := hv a rfl
    exact va_astq X.1 X.2.1 X.2.2.2.2.2.2.2.1 hG.P hG.D hS i t0 a ci (by rw [wl_at h.1, cell_q hk h1 h2]) ht (by rw [wl_at ha.1, cell_obj (ha.eq (show ci < 100 by omega)) hci]) hc (ck_ex hF).1 hdg (fun H1 locs1 hP _ hS1 => kk _ H1 locs1 (GW_pQ (x := some a) hG h.1 hk h1 h2 (by rw [hrt]; exact hv) hP) hS1 (xT.R σ i _ (some a)) (ck_ex hF).2)
/-- a TURN of any kind into a row of TURNS -/
theorem gx_qastT {i : Nat} {x : Int32} {v : Option Nat} {f : Hp → Option ρ} (X : SX D cA base p s m args meth c cc nL ret own) (hG : GW D cA base ad σ H) (hS : va_S (bA base) s.heap H locs) (h : hT σ i 16) (hv : oT σ v 100) (hF : ck (¬ (x < 0 ∨ hL σ i ≤ x.toNatClampNeg)) (lt (pR σ i x.toNatClampNeg v) f) = some rr) (hdg : decode cc pc = .ok (.aastore, 1))
    (kk : ∀ (τ : Hp) (H1 : Heap) (locs1 : List Loc), GW D cA base ad τ H1 → va_S (bA base) s.heap H1 locs1 → xT σ τ → f τ = some rr → W p l e R s m args below meth c H1 locs1 cells slots Q (F0 m (pc + 1) ls rest)) : W p l e R s m args below meth c H locs cells slots Q (F0 m pc ls (va_rf (v.map ad) :: .int x :: .ref (ad i) :: rest)) := by
  have hk := h.eq (show 16 < 100 by decide)
  cases v with
  | none => exact va_astqN X.1 X.2.1 X.2.2.2.2.2.2.2.1 hG.P hG.D hS i 3 (by rw [wl_at h.1, cell_q hk (by decide) (by decide)]) rfl (ck_ex hF).1 hdg (fun H1 locs1 hP _ hS1 => kk _ H1 locs1 (GW_pQ hG h.1 hk (by decide) (by decide) oT.none hP) hS1 (xT.R σ i _ none) (ck_ex hF).2)
  | some a =>
    have ha := hv a rfl
    have go : ∀ H1 locs1, va_P D vwCl ((wl cA ad σ).set i (ad i, .inl (cA 16, hL σ i, .inr (.inr (.inr (.inr (va_up (fun j => (hR σ i j).map ad) x.toNatClampNeg (some (ad a))))))))) H1 → va_D (bA base) ((wl cA ad σ).set i (ad i, .inl (cA 16, hL σ i, .inr (.inr (.inr (.inr (va_up (fun j => (hR σ i j).map ad) x.toNatClampNeg (some (ad a))))))))) → va_S (bA base) s.heap H1 locs1 → W p l e R s m args below meth c H1 locs1 cells slots Q (F0 m (pc + 1) ls rest) := fun H1 locs1 hP _ hS1 => kk _ H1 locs1 (GW_pQ (x := some a) hG h.1 hk (by decide) (by decide) hv hP) hS1 (xT.R σ i _ (some a)) (ck_ex hF).2
    have hq : (wl cA ad σ)[i]? = some (ad i, .inl (cA 16, hL σ i, .inr (.inr (.inr (.inr (fun j => (hR σ i j).map ad)))))) := by rw [wl_at h.1, cell_q hk (by decide) (by decide)]
    have hcx : ∀ w ∈ CXL, va_Nw w s := X.2.2.2.2.2.2.2.2.1.2.1
    generalize hka : hK σ a = k
    have hkk := isT_100 ha.2 (Or.inl rfl)
    rw [hka] at hkk
    rcases hkk with rfl | rfl | rfl | rfl | rfl | rfl | rfl | rfl
    · exact va_astqO X.1 X.2.1 X.2.2.2.2.2.2.2.1 hG.P hG.D hS i 3 a 0 hq rfl (r := (RX0, TX0, 8)) (hcx _ (by decide +kernel)) (by rw [wl_at ha.1, cell_obj hka (by decide)]) rfl (ck_ex hF).1 hdg go
    · exact va_astqO X.1 X.2.1 X.2.2.2.2.2.2.2.1 hG.P hG.D hS i 3 a 2 hq rfl (r := (RX2, TX2, 8)) (hcx _ (by decide +kernel)) (by rw [wl_at ha.1, cell_obj hka (by decide)]) rfl (ck_ex hF).1 hdg go
    · exact va_astqO X.1 X.2.1 X.2.2.2.2.2.2.2.1 hG.P hG.D hS i 3 a 4 hq rfl (r := (RX4, TX4, 8)) (hcx _ (by decide +kernel)) (by rw [wl_at ha.1, cell_obj hka (by decide)]) rfl (ck_ex hF).1 hdg go
    · exact va_astqO X.1 X.2.1 X.2.2.2.2.2.2.2.1 hG.P hG.D hS i 3 a 6 hq rfl (r := (RX6, TX6, 8)) (hcx _ (by decide +kernel)) (by rw [wl_at ha.1, cell_obj hka (by decide)]) rfl (ck_ex hF).1 hdg go
    · exact va_astqO X.1 X.2.1 X.2.2.2.2.2.2.2.1 hG.P hG.D hS i 3 a 7 hq rfl (r := (RX7, TX7, 8)) (hcx _ (by decide +kernel)) (by rw [wl_at ha.1, cell_obj hka (by decide)]) rfl (ck_ex hF).1 hdg go
    · exact va_astqO X.1 X.2.1 X.2.2.2.2.2.2.2.1 hG.P hG.D hS i 3 a 8 hq rfl (r := (RX8, TX8, 8)) (hcx _ (by decide +kernel)) (by rw [wl_at ha.1, cell_obj hka (by decide)]) rfl (ck_ex hF).1 hdg go
    · exact va_astqO X.1 X.2.1 X.2.2.2.2.2.2.2.1 hG.P hG.D hS i 3 a 9 hq rfl (r := (RX9, TX9, 8)) (hcx _ (by decide +kernel)) (by rw [wl_at ha.1, cell_obj hka (by decide)]) rfl (ck_ex hF).1 hdg go
    · exact va_astq X.1 X.2.1 X.2.2.2.2.2.2.2.1 hG.P hG.D hS i 3 a 10 hq (r := (RX10, TX10, 8)) rfl (by rw [wl_at ha.1, cell_obj hka (by decide)]) rfl (ck_ex hF).1 hdg go
end MORE
