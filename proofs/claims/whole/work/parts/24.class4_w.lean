/-! class4: printed by wip/whole/gen.py -/
section W_class4
variable {p : Program} {l : Launch} {e : Env} {s : State} {m : MethodId} {args : Array Value} {below : List Frame} {meth : Method} {c : Code} {D : va_G} {cA : Nat → ClassId} {base : Nat} {ad : Nat → Nat}
abbrev rm_X1_next : Room := { frames := 0, cells := 0, slots := 0, locals := 0 }
theorem h_X1_next : yX1_next.cls = RX1 ∧ yX1_next.cls ≠ "java/lang/invoke/MethodHandle" ∧ yX1_next.cls ≠ "java/lang/invoke/VarHandle" ∧ (parseMethodDescriptor yX1_next.desc).map (fun d => d.parameters.length) = some 0 := by decide +kernel
def F_X1_next (n : Nat) (a0 : Nat) (σ : Hp) : Option (Int32 × Hp) := if (hI σ a0 1) < 0 then (some (1000, σ)) else (b1 (hR σ a0 0) fun (i1 : Nat) => if (nI (hL σ i1)) ≤ (hI σ a0 1) then (some (1000, σ)) else (b1 (hR σ a0 0) fun (i2 : Nat) => ck (¬ ((hI σ a0 1) < 0 ∨ hL σ i2 ≤ (hI σ a0 1).toNatClampNeg)) (some (hI σ i2 (hI σ a0 1).toNatClampNeg, σ))))
abbrev rm_X1_findFault : Room := { frames := 0, cells := 0, slots := 0, locals := 0 }
theorem h_X1_findFault : yX1_findFault.cls = RX1 ∧ yX1_findFault.cls ≠ "java/lang/invoke/MethodHandle" ∧ yX1_findFault.cls ≠ "java/lang/invoke/VarHandle" ∧ (parseMethodDescriptor yX1_findFault.desc).map (fun d => d.parameters.length) = some 0 := by decide +kernel
def F_X1_findFault (n : Nat) (a0 : Nat) (σ : Hp) : Option Hp := if 0 ≤ (hI σ a0 5) then (some σ) else (lt (pI σ a0 5 (hI σ a0 1)) fun (σ1 : Hp) => some σ1)
abbrev rm_X1_take : Room := { frames := 1, cells := 0, slots := 0, locals := 20 }
theorem h_X1_take : yX1_take.cls = RX1 ∧ yX1_take.cls ≠ "java/lang/invoke/MethodHandle" ∧ yX1_take.cls ≠ "java/lang/invoke/VarHandle" ∧ (parseMethodDescriptor yX1_take.desc).map (fun d => d.parameters.length) = some 1 := by decide +kernel
def F_X1_take_28 (n : Nat)  (v0 : Nat) (σ : Hp) : Option Hp := b1 (F_X1_findFault n v0 σ) fun (σ1 : Hp) => some σ1
def F_X1_take (n : Nat) (a0 : Nat) (a1 : Int32) (σ : Hp) : Option Hp := if 0 ≤ (hI σ a0 5) then (F_X1_take_28 n  a0 σ) else (b2 (F_X1_next n a0 σ) fun (r3 : Int32) (σ2 : Hp) => if r3 = a1 then (lt (pI σ2 a0 1 ((hI σ2 a0 1) + 1)) fun (σ4 : Hp) => some σ4) else (F_X1_take_28 n  a0 σ2))
abbrev rm_X1_write : Room := { frames := 1, cells := 0, slots := 0, locals := 22 }
theorem h_X1_write : yX1_write.cls = RX1 ∧ yX1_write.cls ≠ "java/lang/invoke/MethodHandle" ∧ yX1_write.cls ≠ "java/lang/invoke/VarHandle" ∧ (parseMethodDescriptor yX1_write.desc).map (fun d => d.parameters.length) = some 1 := by decide +kernel
def F_X1_write (n : Nat) (a0 : Nat) (a1 : Int32) (σ : Hp) : Option Hp := b1 (hR σ a0 2) fun (i1 : Nat) => b1 (F_X11_store n i1 (hI σ a0 3) a1 σ) fun (σ2 : Hp) => lt (pI σ2 a0 3 ((hI σ2 a0 3) + 1)) fun (σ3 : Hp) => some σ3
abbrev rmr_X1_readSum (d : Nat) : Room := { frames := 4 * d + 6, cells := 0, slots := 0, locals := 90 * d + 160 }
theorem h_X1_readSum : yX1_readSum.cls = RX1 ∧ yX1_readSum.cls ≠ "java/lang/invoke/MethodHandle" ∧ yX1_readSum.cls ≠ "java/lang/invoke/VarHandle" ∧ (parseMethodDescriptor yX1_readSum.desc).map (fun d => d.parameters.length) = some 1 := by decide +kernel
abbrev rmr_X1_readBracket (d : Nat) : Room := { frames := 4 * d + 7, cells := 0, slots := 0, locals := 90 * d + 183 }
theorem h_X1_readBracket : yX1_readBracket.cls = RX1 ∧ yX1_readBracket.cls ≠ "java/lang/invoke/MethodHandle" ∧ yX1_readBracket.cls ≠ "java/lang/invoke/VarHandle" ∧ (parseMethodDescriptor yX1_readBracket.desc).map (fun d => d.parameters.length) = some 2 := by decide +kernel
def F_X1_readBracket (KS : Nat → Int32 → Hp → Option Hp) (n : Nat) (a0 : Nat) (a1 : Int32) (a2 : Int32) (σ : Hp) : Option Hp := if a2 < 6 then (lt (pI σ a0 1 ((hI σ a0 1) + 1)) fun (σ1 : Hp) => b1 (KS a0 (a2 + 1) σ1) fun (σ2 : Hp) => if a1 = 40 then (b1 (F_X1_take n a0 41 σ2) fun (σ7 : Hp) => some σ7) else (b1 (F_X1_take n a0 44 σ2) fun (σ3 : Hp) => if 0 ≤ (hI σ3 a0 5) then (some σ3) else (b1 (KS a0 (a2 + 1) σ3) fun (σ4 : Hp) => b1 (F_X1_take n a0 93 σ4) fun (σ5 : Hp) => b1 (F_X1_write n a0 44 σ5) fun (σ6 : Hp) => some σ6))) else (b1 (F_X1_findFault n a0 σ) fun (σ8 : Hp) => some σ8)
abbrev rm_X1_readNumber : Room := { frames := 2, cells := 0, slots := 0, locals := 43 }
theorem h_X1_readNumber : yX1_readNumber.cls = RX1 ∧ yX1_readNumber.cls ≠ "java/lang/invoke/MethodHandle" ∧ yX1_readNumber.cls ≠ "java/lang/invoke/VarHandle" ∧ (parseMethodDescriptor yX1_readNumber.desc).map (fun d => d.parameters.length) = some 0 := by decide +kernel
def F_X1_readNumber_63 (n : Nat)  (v0 : Nat) (v1 : Int32) (σ : Hp) : Option Hp := b1 (F_X1_write n v0 ((-1) - v1) σ) fun (σ1 : Hp) => some σ1
def F_X1_readNumber_54 (n : Nat)  (v0 : Nat) (v1 : Int32) (σ : Hp) : Option Hp := F_X1_readNumber_63 n  v0 v1 σ
def F_X1_readNumber_4 (n : Nat)  : Nat → Nat → Int32 → Int32 → Hp → Option Hp
  | 0, _, _, _, _ => none
  | f + 1, v0, v1, v2, σ => if 3 ≤ v2 then (F_X1_readNumber_63 n  v0 v1 σ) else (b2 (F_X1_next n v0 σ) fun (r3 : Int32) (σ2 : Hp) => if r3 < 48 then (F_X1_readNumber_63 n  v0 v1 σ2) else (b2 (F_X1_next n v0 σ2) fun (r5 : Int32) (σ4 : Hp) => if 57 < r5 then (F_X1_readNumber_63 n  v0 v1 σ4) else (b2 (F_X1_next n v0 σ4) fun (r7 : Int32) (σ6 : Hp) => lt (pI σ6 v0 1 ((hI σ6 v0 1) + 1)) fun (σ8 : Hp) => if (((10 * v1) + r7) - 48) = 0 then (F_X1_readNumber_54 n  v0 (((10 * v1) + r7) - 48) σ8) else ((F_X1_readNumber_4 n  f) v0 (((10 * v1) + r7) - 48) (v2 + 1) σ8))))
def F_X1_readNumber (n : Nat) (a0 : Nat) (σ : Hp) : Option Hp := F_X1_readNumber_4 n  n a0 0 0 σ
abbrev rmr_X1_readAtom (d : Nat) : Room := { frames := 4 * d + 8, cells := 0, slots := 0, locals := 90 * d + 205 }
theorem h_X1_readAtom : yX1_readAtom.cls = RX1 ∧ yX1_readAtom.cls ≠ "java/lang/invoke/MethodHandle" ∧ yX1_readAtom.cls ≠ "java/lang/invoke/VarHandle" ∧ (parseMethodDescriptor yX1_readAtom.desc).map (fun d => d.parameters.length) = some 1 := by decide +kernel
def F_X1_readAtom_17 (KS : Nat → Int32 → Hp → Option Hp) (n : Nat)  (v0 : Nat) (v1 : Int32) (v2 : Int32) (σ : Hp) : Option Hp := b1 (F_X1_readBracket KS n v0 v2 v1 σ) fun (σ1 : Hp) => some σ1
def F_X1_readAtom_75 (KS : Nat → Int32 → Hp → Option Hp) (n : Nat)  (v0 : Nat) (v2 : Int32) (σ : Hp) : Option Hp := lt (pI σ v0 1 ((hI σ v0 1) + 1)) fun (σ2 : Hp) => b1 (F_X1_write n v0 v2 σ2) fun (σ3 : Hp) => some σ3
def F_X1_readAtom_45 (KS : Nat → Int32 → Hp → Option Hp) (n : Nat)  (v0 : Nat) (v2 : Int32) (σ : Hp) : Option Hp := if v2 = 116 then (F_X1_readAtom_75 KS n  v0 v2 σ) else (if v2 = 112 then (F_X1_readAtom_75 KS n  v0 v2 σ) else (if v2 = 121 then (F_X1_readAtom_75 KS n  v0 v2 σ) else (if v2 = 110 then (F_X1_readAtom_75 KS n  v0 v2 σ) else (if v2 = 109 then (F_X1_readAtom_75 KS n  v0 v2 σ) else (b1 (F_X1_findFault n v0 σ) fun (σ4 : Hp) => some σ4)))))
def F_X1_readAtom (KS : Nat → Int32 → Hp → Option Hp) (n : Nat) (a0 : Nat) (a1 : Int32) (σ : Hp) : Option Hp := b2 (F_X1_next n a0 σ) fun (r6 : Int32) (σ5 : Hp) => if r6 = 40 then (F_X1_readAtom_17 KS n  a0 a1 r6 σ5) else (if r6 = 91 then (F_X1_readAtom_17 KS n  a0 a1 r6 σ5) else (if r6 < 48 then (F_X1_readAtom_45 KS n  a0 r6 σ5) else (if 57 < r6 then (F_X1_readAtom_45 KS n  a0 r6 σ5) else (b1 (F_X1_readNumber n a0 σ5) fun (σ7 : Hp) => some σ7))))
abbrev rmr_X1_readProduct (d : Nat) : Room := { frames := 4 * d + 9, cells := 0, slots := 0, locals := 90 * d + 227 }
theorem h_X1_readProduct : yX1_readProduct.cls = RX1 ∧ yX1_readProduct.cls ≠ "java/lang/invoke/MethodHandle" ∧ yX1_readProduct.cls ≠ "java/lang/invoke/VarHandle" ∧ (parseMethodDescriptor yX1_readProduct.desc).map (fun d => d.parameters.length) = some 1 := by decide +kernel
def F_X1_readProduct_41 (KS : Nat → Int32 → Hp → Option Hp) (n : Nat) (K_7 : Nat → Int32 → Int32 → Hp → Option Hp) (v0 : Nat) (v1 : Int32) (v2 : Int32) (σ : Hp) : Option Hp := b2 (F_X1_next n v0 σ) fun (r2 : Int32) (σ1 : Hp) => lt (pI σ1 v0 1 ((hI σ1 v0 1) + 1)) fun (σ3 : Hp) => b1 (F_X1_readAtom KS n v0 v1 σ3) fun (σ4 : Hp) => b1 (F_X1_write n v0 r2 σ4) fun (σ5 : Hp) => K_7 v0 v1 (v2 + 1) σ5
def F_X1_readProduct_7 (KS : Nat → Int32 → Hp → Option Hp) (n : Nat)  : Nat → Nat → Int32 → Int32 → Hp → Option Hp
  | 0, _, _, _, _ => none
  | f + 1, v0, v1, v2, σ => b1 (hR σ v0 0) fun (i6 : Nat) => if (nI (hL σ i6)) ≤ v2 then (some σ) else (if 0 ≤ (hI σ v0 5) then (some σ) else (b2 (F_X1_next n v0 σ) fun (r8 : Int32) (σ7 : Hp) => if r8 = 42 then (F_X1_readProduct_41 KS n (F_X1_readProduct_7 KS n  f) v0 v1 v2 σ7) else (b2 (F_X1_next n v0 σ7) fun (r10 : Int32) (σ9 : Hp) => if r10 = 47 then (F_X1_readProduct_41 KS n (F_X1_readProduct_7 KS n  f) v0 v1 v2 σ9) else (some σ9))))
def F_X1_readProduct (KS : Nat → Int32 → Hp → Option Hp) (n : Nat) (a0 : Nat) (a1 : Int32) (σ : Hp) : Option Hp := b1 (F_X1_readAtom KS n a0 a1 σ) fun (σ11 : Hp) => F_X1_readProduct_7 KS n  n a0 a1 0 σ11
theorem c_X1_next (l : Launch) (D : va_G) (cA : Nat → ClassId) (base : Nat) (ad : Nat → Nat) (σ : Hp) (n : Nat) (a0 : Nat) (hT_a0 : hT σ a0 1) {τ : Hp} {r : Int32} (hF : F_X1_next n a0 σ = some (r, τ)) : MI l yX1_next cX1_next 1 (some .int) rm_X1_next D cA base ad σ [.ref (ad a0)] r τ := by
  refine Met.ofW (cc := cX1_next) (maxL := 1) (ret := (some .int)) (by decide) rfl ?_
  intro p e s m args below meth c s₁ B hml hv
  obtain ⟨rfl, hv⟩ := hv
  have X : SX D cA base p s m ([.ref (ad a0)] : List Value).toArray meth c cX1_next 1 (some .int) RX1 := sx_of B hml hv
  have hG := hv.1
  have hS : va_S (bA base) s.heap s.heap [] := va_S.rf
  have hE := xT.rf σ
  have hl := lv_entry ([.ref (ad a0)]) (n := 1) (Nat.le_of_ble_eq_true rfl)
  rw [lg_entry_eq]
  generalize (lg_sl ([.ref (ad a0)]) ++ List.replicate (1 - (lg_sl ([.ref (ad a0)])).length) Slot.unset).toArray = ls at hl ⊢
  have hl : lv_has ls 1 [(0, .ref (ad a0))] := hl
  unfold F_X1_next at hF
  refine lv_aload_n X.1 X.2.1 dX1_next_0 rfl (lv_at hl 0 rfl) ?_
  refine gx_get 1 (v := .int (hI σ a0 1)) X hG hT_a0.1 (hT_a0.eq (by decide)) (by decide) rfl inX1 (by decide) k_497 (fun _ h => h) rfl dX1_next_1 ?_
  refine lv_if_lt (tgt := 31) X.1 X.2.1 dX1_next_4 (by decide) (fun hc => ?_) (fun hc => ?_)
  · replace hF := it_t hF hc
    refine lv_sipush (v := 1000) X.1 X.2.1 dX1_next_31 (by decide) ?_
    exact gx_iret X hG hS hE hF dX1_next_34
  · replace hF := it_f hF hc
    refine lv_aload_n X.1 X.2.1 dX1_next_7 rfl (lv_at hl 0 rfl) ?_
    refine gx_get 1 (v := .int (hI σ a0 1)) X hG hT_a0.1 (hT_a0.eq (by decide)) (by decide) rfl inX1 (by decide) k_497 (fun _ h => h) rfl dX1_next_8 ?_
    refine lv_aload_n X.1 X.2.1 dX1_next_11 rfl (lv_at hl 0 rfl) ?_
    obtain ⟨i1, hr, hF⟩ := b1_ex hF
    have hT_i1 : hT σ i1 13 := gw_T hG hT_a0 (by decide) hr
    refine gx_get 0 (v := .ref (ad i1)) X hG hT_a0.1 (hT_a0.eq (by decide)) (by decide) rfl inX1 (by decide) k_496 (fun _ h => h) (gx_rfv hr) dX1_next_12 ?_
    refine gx_alen (t0 := 0) X hG hT_i1 (by decide) (by decide) rfl dX1_next_15 ?_
    refine lv_icmp_ge (tgt := 31) X.1 X.2.1 dX1_next_16 (by decide) (fun hc => ?_) (fun hc => ?_)
    · replace hF := it_t hF hc
      refine lv_sipush (v := 1000) X.1 X.2.1 dX1_next_31 (by decide) ?_
      exact gx_iret X hG hS hE hF dX1_next_34
    · replace hF := it_f hF hc
      refine lv_aload_n X.1 X.2.1 dX1_next_19 rfl (lv_at hl 0 rfl) ?_
      obtain ⟨i2, hr, hF⟩ := b1_ex hF
      have hT_i2 : hT σ i2 13 := gw_T hG hT_a0 (by decide) hr
      refine gx_get 0 (v := .ref (ad i2)) X hG hT_a0.1 (hT_a0.eq (by decide)) (by decide) rfl inX1 (by decide) k_496 (fun _ h => h) (gx_rfv hr) dX1_next_20 ?_
      refine lv_aload_n X.1 X.2.1 dX1_next_23 rfl (lv_at hl 0 rfl) ?_
      refine gx_get 1 (v := .int (hI σ a0 1)) X hG hT_a0.1 (hT_a0.eq (by decide)) (by decide) rfl inX1 (by decide) k_497 (fun _ h => h) rfl dX1_next_24 ?_
      refine gx_iald X hG hT_i2 hF dX1_next_27 (fun hF => ?_)
      refine lv_goto (tgt := 34) X.1 X.2.1 dX1_next_28 (by decide) ?_
      exact gx_iret X hG hS hE hF dX1_next_34
theorem c_X1_findFault (l : Launch) (D : va_G) (cA : Nat → ClassId) (base : Nat) (ad : Nat → Nat) (σ : Hp) (n : Nat) (a0 : Nat) (hT_a0 : hT σ a0 1) {τ : Hp} (hF : F_X1_findFault n a0 σ = some τ) : MV l yX1_findFault cX1_findFault 1 rm_X1_findFault D cA base ad σ [.ref (ad a0)] τ := by
  refine Met.ofW (cc := cX1_findFault) (maxL := 1) (ret := none) (by decide) rfl ?_
  intro p e s m args below meth c s₁ B hml hv
  obtain ⟨rfl, hv⟩ := hv
  have X : SX D cA base p s m ([.ref (ad a0)] : List Value).toArray meth c cX1_findFault 1 none RX1 := sx_of B hml hv
  have hG := hv.1
  have hS : va_S (bA base) s.heap s.heap [] := va_S.rf
  have hE := xT.rf σ
  have hl := lv_entry ([.ref (ad a0)]) (n := 1) (Nat.le_of_ble_eq_true rfl)
  rw [lg_entry_eq]
  generalize (lg_sl ([.ref (ad a0)]) ++ List.replicate (1 - (lg_sl ([.ref (ad a0)])).length) Slot.unset).toArray = ls at hl ⊢
  have hl : lv_has ls 1 [(0, .ref (ad a0))] := hl
  unfold F_X1_findFault at hF
  refine lv_aload_n X.1 X.2.1 dX1_findFault_0 rfl (lv_at hl 0 rfl) ?_
  refine gx_get 5 (v := .int (hI σ a0 5)) X hG hT_a0.1 (hT_a0.eq (by decide)) (by decide) rfl inX1 (by decide) k_501 (fun _ h => h) rfl dX1_findFault_1 ?_
  refine lv_if_ge (tgt := 15) X.1 X.2.1 dX1_findFault_4 (by decide) (fun hc => ?_) (fun hc => ?_)
  · replace hF := it_t hF hc
    exact gx_vret X hG hS hE hF dX1_findFault_15
  · replace hF := it_f hF hc
    refine lv_aload_n X.1 X.2.1 dX1_findFault_7 rfl (lv_at hl 0 rfl) ?_
    refine lv_aload_n X.1 X.2.1 dX1_findFault_8 rfl (lv_at hl 0 rfl) ?_
    refine gx_get 1 (v := .int (hI σ a0 1)) X hG hT_a0.1 (hT_a0.eq (by decide)) (by decide) rfl inX1 (by decide) k_497 (fun _ h => h) rfl dX1_findFault_9 ?_
    refine gx_putI 5  X hG hS hT_a0.1 (hT_a0.eq (by decide)) (by decide) rfl inX1 tyX1_ok nmX1 (by decide) k_501 (fun _ h => h) rfl rfl rfl rfl (Nat.le_of_ble_eq_true rfl) dX1_findFault_12 hF (fun σ1 H locs hG hS hX hF => ?_)
    have hT_a0 := hX.T hT_a0
    replace hE := hE.trans hX
    exact gx_vret X hG hS hE hF dX1_findFault_15
theorem w_X1_take_28 {σ0 τ : Hp} (X : SX D cA base p s m args meth c cX1_take 2 none RX1) (n : Nat)  : ∀ (v0 : Nat) (σ : Hp) (H : Heap) (locs : List Loc) (ls : Array Slot), hT σ v0 1 → GW D cA base ad σ H → va_S (bA base) s.heap H locs → xT σ0 σ → lv_has ls 2 [(0, .ref (ad v0))] → F_X1_take_28 n  v0 σ = some τ → W p l e rm_X1_take s m args below meth c H locs 0 0 (ZV below s args D cA base ad σ0 τ) (F0 m 28 ls []) := by
  intro v0 σ H locs ls hT_v0 hG hS hE hl hF
  unfold F_X1_take_28 at hF
  refine lv_aload_n X.1 X.2.1 dX1_take_28 rfl (lv_at hl 0 rfl) ?_
  obtain ⟨σ1, hz, hF⟩ := b1_ex hF
  refine gx_rV (gx_runV (As := []) (rest := []) X hG hS hT_v0.1 (hT_v0.eq (by decide)) (by decide) rfl (c_X1_findFault l D cA base ad σ n v0 hT_v0 hz) k_482 k_479 k_481 ks_7 k_14 (h_X1_findFault) rfl rfl ⟨by decide, by decide⟩ rfl hl.1 rfl (Nat.le_of_ble_eq_true rfl) dX1_take_29 ⟨Nat.zero_le _, Nat.zero_le _⟩) hS (fun H locs hG hS hX => ?_)
  have hT_v0 := hX.T hT_v0
  replace hE := hE.trans hX
  exact gx_vret X hG hS hE hF dX1_take_32
theorem c_X1_take (l : Launch) (D : va_G) (cA : Nat → ClassId) (base : Nat) (ad : Nat → Nat) (σ : Hp) (n : Nat) (a0 : Nat) (a1 : Int32) (hT_a0 : hT σ a0 1) {τ : Hp} (hF : F_X1_take n a0 a1 σ = some τ) : MV l yX1_take cX1_take 2 rm_X1_take D cA base ad σ [.ref (ad a0), .int a1] τ := by
  refine Met.ofW (cc := cX1_take) (maxL := 2) (ret := none) (by decide) rfl ?_
  intro p e s m args below meth c s₁ B hml hv
  obtain ⟨rfl, hv⟩ := hv
  have X : SX D cA base p s m ([.ref (ad a0), .int a1] : List Value).toArray meth c cX1_take 2 none RX1 := sx_of B hml hv
  have hG := hv.1
  have hS : va_S (bA base) s.heap s.heap [] := va_S.rf
  have hE := xT.rf σ
  have hl := lv_entry ([.ref (ad a0), .int a1]) (n := 2) (Nat.le_of_ble_eq_true rfl)
  rw [lg_entry_eq]
  generalize (lg_sl ([.ref (ad a0), .int a1]) ++ List.replicate (2 - (lg_sl ([.ref (ad a0), .int a1])).length) Slot.unset).toArray = ls at hl ⊢
  have hl : lv_has ls 2 [(0, .ref (ad a0)), (1, .int a1)] := hl
  unfold F_X1_take at hF
  refine lv_aload_n X.1 X.2.1 dX1_take_0 rfl (lv_at hl 0 rfl) ?_
  refine gx_get 5 (v := .int (hI σ a0 5)) X hG hT_a0.1 (hT_a0.eq (by decide)) (by decide) rfl inX1 (by decide) k_501 (fun _ h => h) rfl dX1_take_1 ?_
  refine lv_if_ge (tgt := 28) X.1 X.2.1 dX1_take_4 (by decide) (fun hc => ?_) (fun hc => ?_)
  · replace hF := it_t hF hc
    exact w_X1_take_28 X n  a0 σ _ _ ls hT_a0 hG hS hE (lv_sub hl [0] rfl) hF
  · replace hF := it_f hF hc
    refine lv_aload_n X.1 X.2.1 dX1_take_7 rfl (lv_at hl 0 rfl) ?_
    obtain ⟨r3, σ2, hz, hF⟩ := b2_ex hF
    refine gx_rI (gx_runV (As := []) (rest := []) X hG hS hT_a0.1 (hT_a0.eq (by decide)) (by decide) rfl (c_X1_next l D cA base ad σ n a0 hT_a0 hz) k_474 k_471 k_473 ks_5 k_14 (h_X1_next) rfl rfl ⟨by decide, by decide⟩ rfl hl.1 rfl (Nat.le_of_ble_eq_true rfl) dX1_take_8 ⟨Nat.zero_le _, Nat.zero_le _⟩) hS (fun H locs hG hS hX => ?_)
    have hT_a0 := hX.T hT_a0
    replace hE := hE.trans hX
    refine lv_iload_n X.1 X.2.1 dX1_take_11 rfl (lv_at hl 1 rfl) ?_
    refine lv_icmp_ne (tgt := 28) X.1 X.2.1 dX1_take_12 (by decide) (fun hc => ?_) (fun hc => ?_)
    · replace hF := it_f hF hc
      exact w_X1_take_28 X n  a0 σ2 _ _ ls hT_a0 hG hS hE (lv_sub hl [0] rfl) hF
    · replace hF := it_t hF hc
      refine lv_aload_n X.1 X.2.1 dX1_take_15 rfl (lv_at hl 0 rfl) ?_
      refine lv_dup X.1 X.2.1 dX1_take_16 rfl ?_
      refine gx_get 1 (v := .int (hI σ2 a0 1)) X hG hT_a0.1 (hT_a0.eq (by decide)) (by decide) rfl inX1 (by decide) k_497 (fun _ h => h) rfl dX1_take_17 ?_
      refine lv_iconst (v := 1) X.1 X.2.1 dX1_take_20 (by decide) ?_
      refine lv_iadd X.1 X.2.1 dX1_take_21 ?_
      refine gx_putI 1  X hG hS hT_a0.1 (hT_a0.eq (by decide)) (by decide) rfl inX1 tyX1_ok nmX1 (by decide) k_497 (fun _ h => h) rfl rfl rfl rfl (Nat.le_of_ble_eq_true rfl) dX1_take_22 hF (fun σ4 H locs hG hS hX hF => ?_)
      have hT_a0 := hX.T hT_a0
      replace hE := hE.trans hX
      refine lv_goto (tgt := 32) X.1 X.2.1 dX1_take_25 (by decide) ?_
      exact gx_vret X hG hS hE hF dX1_take_32
theorem c_X1_write (l : Launch) (D : va_G) (cA : Nat → ClassId) (base : Nat) (ad : Nat → Nat) (σ : Hp) (n : Nat) (a0 : Nat) (a1 : Int32) (hT_a0 : hT σ a0 1) {τ : Hp} (hF : F_X1_write n a0 a1 σ = some τ) : MV l yX1_write cX1_write 2 rm_X1_write D cA base ad σ [.ref (ad a0), .int a1] τ := by
  refine Met.ofW (cc := cX1_write) (maxL := 2) (ret := none) (by decide) rfl ?_
  intro p e s m args below meth c s₁ B hml hv
  obtain ⟨rfl, hv⟩ := hv
  have X : SX D cA base p s m ([.ref (ad a0), .int a1] : List Value).toArray meth c cX1_write 2 none RX1 := sx_of B hml hv
  have hG := hv.1
  have hS : va_S (bA base) s.heap s.heap [] := va_S.rf
  have hE := xT.rf σ
  have hl := lv_entry ([.ref (ad a0), .int a1]) (n := 2) (Nat.le_of_ble_eq_true rfl)
  rw [lg_entry_eq]
  generalize (lg_sl ([.ref (ad a0), .int a1]) ++ List.replicate (2 - (lg_sl ([.ref (ad a0), .int a1])).length) Slot.unset).toArray = ls at hl ⊢
  have hl : lv_has ls 2 [(0, .ref (ad a0)), (1, .int a1)] := hl
  unfold F_X1_write at hF
  refine lv_aload_n X.1 X.2.1 dX1_write_0 rfl (lv_at hl 0 rfl) ?_
  obtain ⟨i1, hr, hF⟩ := b1_ex hF
  have hT_i1 : hT σ i1 13 := gw_T hG hT_a0 (by decide) hr
  refine gx_get 2 (v := .ref (ad i1)) X hG hT_a0.1 (hT_a0.eq (by decide)) (by decide) rfl inX1 (by decide) k_498 (fun _ h => h) (gx_rfv hr) dX1_write_1 ?_
  refine lv_aload_n X.1 X.2.1 dX1_write_4 rfl (lv_at hl 0 rfl) ?_
  refine gx_get 3 (v := .int (hI σ a0 3)) X hG hT_a0.1 (hT_a0.eq (by decide)) (by decide) rfl inX1 (by decide) k_499 (fun _ h => h) rfl dX1_write_5 ?_
  refine lv_iload_n X.1 X.2.1 dX1_write_8 rfl (lv_at hl 1 rfl) ?_
  obtain ⟨σ2, hz, hF⟩ := b1_ex hF
  refine gx_rV (gx_runSN (As := [.ref (ad i1), .int (hI σ a0 3), .int a1]) (rest := []) X hG hS (c_X11_store l D cA base ad σ n i1 (hI σ a0 3) a1 hT_i1 hz) k_173 q_491 k_172 k_1 (h_X11_store.2) rfl rfl ⟨by decide, by decide⟩ rfl hl.1 rfl (Nat.le_of_ble_eq_true rfl) dX1_write_9 ⟨Nat.zero_le _, Nat.zero_le _⟩) hS (fun H locs hG hS hX => ?_)
  have hT_a0 := hX.T hT_a0
  replace hE := hE.trans hX
  refine lv_aload_n X.1 X.2.1 dX1_write_12 rfl (lv_at hl 0 rfl) ?_
  refine lv_dup X.1 X.2.1 dX1_write_13 rfl ?_
  refine gx_get 3 (v := .int (hI σ2 a0 3)) X hG hT_a0.1 (hT_a0.eq (by decide)) (by decide) rfl inX1 (by decide) k_499 (fun _ h => h) rfl dX1_write_14 ?_
  refine lv_iconst (v := 1) X.1 X.2.1 dX1_write_17 (by decide) ?_
  refine lv_iadd X.1 X.2.1 dX1_write_18 ?_
  refine gx_putI 3  X hG hS hT_a0.1 (hT_a0.eq (by decide)) (by decide) rfl inX1 tyX1_ok nmX1 (by decide) k_499 (fun _ h => h) rfl rfl rfl rfl (Nat.le_of_ble_eq_true rfl) dX1_write_19 hF (fun σ3 H locs hG hS hX hF => ?_)
  have hT_a0 := hX.T hT_a0
  replace hE := hE.trans hX
  exact gx_vret X hG hS hE hF dX1_write_22
theorem c_X1_readBracket (l : Launch) (D : va_G) (cA : Nat → ClassId) (base : Nat) (ad : Nat → Nat) (σ : Hp) (n : Nat) (d : Nat) (KS : Nat → Int32 → Hp → Option Hp) (hKS : ∀ (σ : Hp) (a0 : Nat) (a1 : Int32) {τ : Hp} , hT σ a0 1 → KS a0 a1 σ = some τ → MV l yX1_readSum cX1_readSum 4 (rmr_X1_readSum d) D cA base ad σ [.ref (ad a0), .int a1] τ) (a0 : Nat) (a1 : Int32) (a2 : Int32) (hT_a0 : hT σ a0 1) {τ : Hp} (hF : F_X1_readBracket KS n a0 a1 a2 σ = some τ) : MV l yX1_readBracket cX1_readBracket 3 (rmr_X1_readBracket d) D cA base ad σ [.ref (ad a0), .int a1, .int a2] τ := by
  refine Met.ofW (cc := cX1_readBracket) (maxL := 3) (ret := none) (by decide) rfl ?_
  intro p e s m args below meth c s₁ B hml hv
  obtain ⟨rfl, hv⟩ := hv
  have X : SX D cA base p s m ([.ref (ad a0), .int a1, .int a2] : List Value).toArray meth c cX1_readBracket 3 none RX1 := sx_of B hml hv
  have hG := hv.1
  have hS : va_S (bA base) s.heap s.heap [] := va_S.rf
  have hE := xT.rf σ
  have hl := lv_entry ([.ref (ad a0), .int a1, .int a2]) (n := 3) (Nat.le_of_ble_eq_true rfl)
  rw [lg_entry_eq]
  generalize (lg_sl ([.ref (ad a0), .int a1, .int a2]) ++ List.replicate (3 - (lg_sl ([.ref (ad a0), .int a1, .int a2])).length) Slot.unset).toArray = ls at hl ⊢
  have hl : lv_has ls 3 [(0, .ref (ad a0)), (1, .int a1), (2, .int a2)] := hl
  unfold F_X1_readBracket at hF
  refine lv_iload_n X.1 X.2.1 dX1_readBracket_0 rfl (lv_at hl 2 rfl) ?_
  refine lv_bipush (v := 6) X.1 X.2.1 dX1_readBracket_1 (by decide) ?_
  refine lv_icmp_lt (tgt := 11) X.1 X.2.1 dX1_readBracket_3 (by decide) (fun hc => ?_) (fun hc => ?_)
  · replace hF := it_t hF hc
    refine lv_aload_n X.1 X.2.1 dX1_readBracket_11 rfl (lv_at hl 0 rfl) ?_
    refine lv_dup X.1 X.2.1 dX1_readBracket_12 rfl ?_
    refine gx_get 1 (v := .int (hI σ a0 1)) X hG hT_a0.1 (hT_a0.eq (by decide)) (by decide) rfl inX1 (by decide) k_497 (fun _ h => h) rfl dX1_readBracket_13 ?_
    refine lv_iconst (v := 1) X.1 X.2.1 dX1_readBracket_16 (by decide) ?_
    refine lv_iadd X.1 X.2.1 dX1_readBracket_17 ?_
    refine gx_putI 1  X hG hS hT_a0.1 (hT_a0.eq (by decide)) (by decide) rfl inX1 tyX1_ok nmX1 (by decide) k_497 (fun _ h => h) rfl rfl rfl rfl (Nat.le_of_ble_eq_true rfl) dX1_readBracket_18 hF (fun σ1 H locs hG hS hX hF => ?_)
    have hT_a0 := hX.T hT_a0
    replace hE := hE.trans hX
    refine lv_aload_n X.1 X.2.1 dX1_readBracket_21 rfl (lv_at hl 0 rfl) ?_
    refine lv_iload_n X.1 X.2.1 dX1_readBracket_22 rfl (lv_at hl 2 rfl) ?_
    refine lv_iconst (v := 1) X.1 X.2.1 dX1_readBracket_23 (by decide) ?_
    refine lv_iadd X.1 X.2.1 dX1_readBracket_24 ?_
    obtain ⟨σ2, hz, hF⟩ := b1_ex hF
    refine gx_rV (gx_runV (As := [.int (a2 + 1)]) (rest := []) X hG hS hT_a0.1 (hT_a0.eq (by decide)) (by decide) rfl (hKS σ1 a0 (a2 + 1) hT_a0 hz) k_462 k_459 k_461 ks_2 k_14 (h_X1_readSum) rfl rfl ⟨by show 4 * d + 6 + 1 ≤ 4 * d + 7; omega, by show 8 + (4 + 11) + (90 * d + 160) ≤ 90 * d + 183; omega⟩ rfl hl.1 rfl (Nat.le_of_ble_eq_true rfl) dX1_readBracket_25 ⟨Nat.zero_le _, Nat.zero_le _⟩) hS (fun H locs hG hS hX => ?_)
    have hT_a0 := hX.T hT_a0
    replace hE := hE.trans hX
    refine lv_iload_n X.1 X.2.1 dX1_readBracket_28 rfl (lv_at hl 1 rfl) ?_
    refine lv_bipush (v := 40) X.1 X.2.1 dX1_readBracket_29 (by decide) ?_
    refine lv_icmp_ne (tgt := 41) X.1 X.2.1 dX1_readBracket_31 (by decide) (fun hc => ?_) (fun hc => ?_)
    · replace hF := it_f hF hc
      refine lv_aload_n X.1 X.2.1 dX1_readBracket_41 rfl (lv_at hl 0 rfl) ?_
      refine lv_bipush (v := 44) X.1 X.2.1 dX1_readBracket_42 (by decide) ?_
      obtain ⟨σ3, hz, hF⟩ := b1_ex hF
      refine gx_rV (gx_runV (As := [.int 44]) (rest := []) X hG hS hT_a0.1 (hT_a0.eq (by decide)) (by decide) rfl (c_X1_take l D cA base ad σ2 n a0 44 hT_a0 hz) k_486 k_483 k_485 ks_8 k_14 (h_X1_take) rfl rfl ⟨by show 1 + 1 ≤ 4 * d + 7; omega, by show 8 + (2 + 11) + 20 ≤ 90 * d + 183; omega⟩ rfl hl.1 rfl (Nat.le_of_ble_eq_true rfl) dX1_readBracket_44 ⟨Nat.zero_le _, Nat.zero_le _⟩) hS (fun H locs hG hS hX => ?_)
      have hT_a0 := hX.T hT_a0
      replace hE := hE.trans hX
      refine lv_aload_n X.1 X.2.1 dX1_readBracket_47 rfl (lv_at hl 0 rfl) ?_
      refine gx_get 5 (v := .int (hI σ3 a0 5)) X hG hT_a0.1 (hT_a0.eq (by decide)) (by decide) rfl inX1 (by decide) k_501 (fun _ h => h) rfl dX1_readBracket_48 ?_
      refine lv_if_ge (tgt := 73) X.1 X.2.1 dX1_readBracket_51 (by decide) (fun hc => ?_) (fun hc => ?_)
      · replace hF := it_t hF hc
        exact gx_vret X hG hS hE hF dX1_readBracket_73
      · replace hF := it_f hF hc
        refine lv_aload_n X.1 X.2.1 dX1_readBracket_54 rfl (lv_at hl 0 rfl) ?_
        refine lv_iload_n X.1 X.2.1 dX1_readBracket_55 rfl (lv_at hl 2 rfl) ?_
        refine lv_iconst (v := 1) X.1 X.2.1 dX1_readBracket_56 (by decide) ?_
        refine lv_iadd X.1 X.2.1 dX1_readBracket_57 ?_
        obtain ⟨σ4, hz, hF⟩ := b1_ex hF
        refine gx_rV (gx_runV (As := [.int (a2 + 1)]) (rest := []) X hG hS hT_a0.1 (hT_a0.eq (by decide)) (by decide) rfl (hKS σ3 a0 (a2 + 1) hT_a0 hz) k_462 k_459 k_461 ks_2 k_14 (h_X1_readSum) rfl rfl ⟨by show 4 * d + 6 + 1 ≤ 4 * d + 7; omega, by show 8 + (4 + 11) + (90 * d + 160) ≤ 90 * d + 183; omega⟩ rfl hl.1 rfl (Nat.le_of_ble_eq_true rfl) dX1_readBracket_58 ⟨Nat.zero_le _, Nat.zero_le _⟩) hS (fun H locs hG hS hX => ?_)
        have hT_a0 := hX.T hT_a0
        replace hE := hE.trans hX
        refine lv_aload_n X.1 X.2.1 dX1_readBracket_61 rfl (lv_at hl 0 rfl) ?_
        refine lv_bipush (v := 93) X.1 X.2.1 dX1_readBracket_62 (by decide) ?_
        obtain ⟨σ5, hz, hF⟩ := b1_ex hF
        refine gx_rV (gx_runV (As := [.int 93]) (rest := []) X hG hS hT_a0.1 (hT_a0.eq (by decide)) (by decide) rfl (c_X1_take l D cA base ad σ4 n a0 93 hT_a0 hz) k_486 k_483 k_485 ks_8 k_14 (h_X1_take) rfl rfl ⟨by show 1 + 1 ≤ 4 * d + 7; omega, by show 8 + (2 + 11) + 20 ≤ 90 * d + 183; omega⟩ rfl hl.1 rfl (Nat.le_of_ble_eq_true rfl) dX1_readBracket_64 ⟨Nat.zero_le _, Nat.zero_le _⟩) hS (fun H locs hG hS hX => ?_)
        have hT_a0 := hX.T hT_a0
        replace hE := hE.trans hX
        refine lv_aload_n X.1 X.2.1 dX1_readBracket_67 rfl (lv_at hl 0 rfl) ?_
        refine lv_bipush (v := 44) X.1 X.2.1 dX1_readBracket_68 (by decide) ?_
        obtain ⟨σ6, hz, hF⟩ := b1_ex hF
        refine gx_rV (gx_runV (As := [.int 44]) (rest := []) X hG hS hT_a0.1 (hT_a0.eq (by decide)) (by decide) rfl (c_X1_write l D cA base ad σ5 n a0 44 hT_a0 hz) k_490 k_487 k_489 ks_9 k_14 (h_X1_write) rfl rfl ⟨by show 1 + 1 ≤ 4 * d + 7; omega, by show 8 + (2 + 11) + 22 ≤ 90 * d + 183; omega⟩ rfl hl.1 rfl (Nat.le_of_ble_eq_true rfl) dX1_readBracket_70 ⟨Nat.zero_le _, Nat.zero_le _⟩) hS (fun H locs hG hS hX => ?_)
        have hT_a0 := hX.T hT_a0
        replace hE := hE.trans hX
        exact gx_vret X hG hS hE hF dX1_readBracket_73
    · replace hF := it_t hF hc
      refine lv_aload_n X.1 X.2.1 dX1_readBracket_34 rfl (lv_at hl 0 rfl) ?_
      refine lv_bipush (v := 41) X.1 X.2.1 dX1_readBracket_35 (by decide) ?_
      obtain ⟨σ7, hz, hF⟩ := b1_ex hF
      refine gx_rV (gx_runV (As := [.int 41]) (rest := []) X hG hS hT_a0.1 (hT_a0.eq (by decide)) (by decide) rfl (c_X1_take l D cA base ad σ2 n a0 41 hT_a0 hz) k_486 k_483 k_485 ks_8 k_14 (h_X1_take) rfl rfl ⟨by show 1 + 1 ≤ 4 * d + 7; omega, by show 8 + (2 + 11) + 20 ≤ 90 * d + 183; omega⟩ rfl hl.1 rfl (Nat.le_of_ble_eq_true rfl) dX1_readBracket_37 ⟨Nat.zero_le _, Nat.zero_le _⟩) hS (fun H locs hG hS hX => ?_)
      have hT_a0 := hX.T hT_a0
      replace hE := hE.trans hX
      exact gx_vret X hG hS hE hF dX1_readBracket_40
  · replace hF := it_f hF hc
    refine lv_aload_n X.1 X.2.1 dX1_readBracket_6 rfl (lv_at hl 0 rfl) ?_
    obtain ⟨σ8, hz, hF⟩ := b1_ex hF
    refine gx_rV (gx_runV (As := []) (rest := []) X hG hS hT_a0.1 (hT_a0.eq (by decide)) (by decide) rfl (c_X1_findFault l D cA base ad σ n a0 hT_a0 hz) k_482 k_479 k_481 ks_7 k_14 (h_X1_findFault) rfl rfl ⟨by show 0 + 1 ≤ 4 * d + 7; omega, by show 8 + (1 + 11) + 0 ≤ 90 * d + 183; omega⟩ rfl hl.1 rfl (Nat.le_of_ble_eq_true rfl) dX1_readBracket_7 ⟨Nat.zero_le _, Nat.zero_le _⟩) hS (fun H locs hG hS hX => ?_)
    have hT_a0 := hX.T hT_a0
    replace hE := hE.trans hX
    exact gx_vret X hG hS hE hF dX1_readBracket_10
theorem w_X1_readNumber_63 {σ0 τ : Hp} (X : SX D cA base p s m args meth c cX1_readNumber 3 none RX1) (n : Nat)  : ∀ (v0 : Nat) (v1 : Int32) (σ : Hp) (H : Heap) (locs : List Loc) (ls : Array Slot), hT σ v0 1 → GW D cA base ad σ H → va_S (bA base) s.heap H locs → xT σ0 σ → lv_has ls 3 [(0, .ref (ad v0)), (1, .int v1)] → F_X1_readNumber_63 n  v0 v1 σ = some τ → W p l e rm_X1_readNumber s m args below meth c H locs 0 0 (ZV below s args D cA base ad σ0 τ) (F0 m 63 ls []) := by
  intro v0 v1 σ H locs ls hT_v0 hG hS hE hl hF
  unfold F_X1_readNumber_63 at hF
  refine lv_aload_n X.1 X.2.1 dX1_readNumber_63 rfl (lv_at hl 0 rfl) ?_
  refine lv_iconst (v := (-1)) X.1 X.2.1 dX1_readNumber_64 (by decide) ?_
  refine lv_iload_n X.1 X.2.1 dX1_readNumber_65 rfl (lv_at hl 1 rfl) ?_
  refine lv_isub X.1 X.2.1 dX1_readNumber_66 ?_
  obtain ⟨σ1, hz, hF⟩ := b1_ex hF
  refine gx_rV (gx_runV (As := [.int ((-1) - v1)]) (rest := []) X hG hS hT_v0.1 (hT_v0.eq (by decide)) (by decide) rfl (c_X1_write l D cA base ad σ n v0 ((-1) - v1) hT_v0 hz) k_490 k_487 k_489 ks_9 k_14 (h_X1_write) rfl rfl ⟨by decide, by decide⟩ rfl hl.1 rfl (Nat.le_of_ble_eq_true rfl) dX1_readNumber_67 ⟨Nat.zero_le _, Nat.zero_le _⟩) hS (fun H locs hG hS hX => ?_)
  have hT_v0 := hX.T hT_v0
  replace hE := hE.trans hX
  exact gx_vret X hG hS hE hF dX1_readNumber_70
theorem w_X1_readNumber_54 {σ0 τ : Hp} (X : SX D cA base p s m args meth c cX1_readNumber 3 none RX1) (n : Nat)  : ∀ (v0 : Nat) (v1 : Int32) (σ : Hp) (H : Heap) (locs : List Loc) (ls : Array Slot), hT σ v0 1 → GW D cA base ad σ H → va_S (bA base) s.heap H locs → xT σ0 σ → lv_has ls 3 [(0, .ref (ad v0)), (1, .int v1)] → F_X1_readNumber_54 n  v0 v1 σ = some τ → W p l e rm_X1_readNumber s m args below meth c H locs 0 0 (ZV below s args D cA base ad σ0 τ) (F0 m 54 ls []) := by
  intro v0 v1 σ H locs ls hT_v0 hG hS hE hl hF
  unfold F_X1_readNumber_54 at hF
  refine lv_goto (tgt := 63) X.1 X.2.1 dX1_readNumber_54 (by decide) ?_
  exact w_X1_readNumber_63 X n  v0 v1 σ _ _ ls hT_v0 hG hS hE (lv_sub hl [0, 1] rfl) hF
theorem w_X1_readNumber_4 {σ0 τ : Hp} (X : SX D cA base p s m args meth c cX1_readNumber 3 none RX1) (n : Nat)  : ∀ f : Nat, ∀ (v0 : Nat) (v1 : Int32) (v2 : Int32) (σ : Hp) (H : Heap) (locs : List Loc) (ls : Array Slot), hT σ v0 1 → GW D cA base ad σ H → va_S (bA base) s.heap H locs → xT σ0 σ → lv_has ls 3 [(0, .ref (ad v0)), (1, .int v1), (2, .int v2)] → F_X1_readNumber_4 n  f v0 v1 v2 σ = some τ → W p l e rm_X1_readNumber s m args below meth c H locs 0 0 (ZV below s args D cA base ad σ0 τ) (F0 m 4 ls []) := by
  intro f
  induction f with
  | zero => intro v0 v1 v2 σ H locs ls h0 hG hS hE hl hF
            rw [F_X1_readNumber_4] at hF; cases hF
  | succ f ih =>
    intro v0 v1 v2 σ H locs ls hT_v0 hG hS hE hl hF
    rw [F_X1_readNumber_4] at hF
    refine lv_iload_n X.1 X.2.1 dX1_readNumber_4 rfl (lv_at hl 2 rfl) ?_
    refine lv_iconst (v := 3) X.1 X.2.1 dX1_readNumber_5 (by decide) ?_
    refine lv_icmp_ge (tgt := 63) X.1 X.2.1 dX1_readNumber_6 (by decide) (fun hc => ?_) (fun hc => ?_)
    · replace hF := it_t hF hc
      exact w_X1_readNumber_63 X n  v0 v1 σ _ _ ls hT_v0 hG hS hE (lv_sub hl [0, 1] rfl) hF
    · replace hF := it_f hF hc
      refine lv_aload_n X.1 X.2.1 dX1_readNumber_9 rfl (lv_at hl 0 rfl) ?_
      obtain ⟨r3, σ2, hz, hF⟩ := b2_ex hF
      refine gx_rI (gx_runV (As := []) (rest := []) X hG hS hT_v0.1 (hT_v0.eq (by decide)) (by decide) rfl (c_X1_next l D cA base ad σ n v0 hT_v0 hz) k_474 k_471 k_473 ks_5 k_14 (h_X1_next) rfl rfl ⟨by decide, by decide⟩ rfl hl.1 rfl (Nat.le_of_ble_eq_true rfl) dX1_readNumber_10 ⟨Nat.zero_le _, Nat.zero_le _⟩) hS (fun H locs hG hS hX => ?_)
      have hT_v0 := hX.T hT_v0
      replace hE := hE.trans hX
      refine lv_bipush (v := 48) X.1 X.2.1 dX1_readNumber_13 (by decide) ?_
      refine lv_icmp_lt (tgt := 63) X.1 X.2.1 dX1_readNumber_15 (by decide) (fun hc => ?_) (fun hc => ?_)
      · replace hF := it_t hF hc
        exact w_X1_readNumber_63 X n  v0 v1 σ2 _ _ ls hT_v0 hG hS hE (lv_sub hl [0, 1] rfl) hF
      · replace hF := it_f hF hc
        refine lv_aload_n X.1 X.2.1 dX1_readNumber_18 rfl (lv_at hl 0 rfl) ?_
        obtain ⟨r5, σ4, hz, hF⟩ := b2_ex hF
        refine gx_rI (gx_runV (As := []) (rest := []) X hG hS hT_v0.1 (hT_v0.eq (by decide)) (by decide) rfl (c_X1_next l D cA base ad σ2 n v0 hT_v0 hz) k_474 k_471 k_473 ks_5 k_14 (h_X1_next) rfl rfl ⟨by decide, by decide⟩ rfl hl.1 rfl (Nat.le_of_ble_eq_true rfl) dX1_readNumber_19 ⟨Nat.zero_le _, Nat.zero_le _⟩) hS (fun H locs hG hS hX => ?_)
        have hT_v0 := hX.T hT_v0
        replace hE := hE.trans hX
        refine lv_bipush (v := 57) X.1 X.2.1 dX1_readNumber_22 (by decide) ?_
        refine lv_icmp_gt (tgt := 63) X.1 X.2.1 dX1_readNumber_24 (by decide) (fun hc => ?_) (fun hc => ?_)
        · replace hF := it_t hF hc
          exact w_X1_readNumber_63 X n  v0 v1 σ4 _ _ ls hT_v0 hG hS hE (lv_sub hl [0, 1] rfl) hF
        · replace hF := it_f hF hc
          refine lv_bipush (v := 10) X.1 X.2.1 dX1_readNumber_27 (by decide) ?_
          refine lv_iload_n X.1 X.2.1 dX1_readNumber_29 rfl (lv_at hl 1 rfl) ?_
          refine lv_imul X.1 X.2.1 dX1_readNumber_30 ?_
          refine lv_aload_n X.1 X.2.1 dX1_readNumber_31 rfl (lv_at hl 0 rfl) ?_
          obtain ⟨r7, σ6, hz, hF⟩ := b2_ex hF
          refine gx_rI (gx_runV (As := []) (rest := [.int (10 * v1)]) X hG hS hT_v0.1 (hT_v0.eq (by decide)) (by decide) rfl (c_X1_next l D cA base ad σ4 n v0 hT_v0 hz) k_474 k_471 k_473 ks_5 k_14 (h_X1_next) rfl rfl ⟨by decide, by decide⟩ rfl hl.1 rfl (Nat.le_of_ble_eq_true rfl) dX1_readNumber_32 ⟨Nat.zero_le _, Nat.zero_le _⟩) hS (fun H locs hG hS hX => ?_)
          have hT_v0 := hX.T hT_v0
          replace hE := hE.trans hX
          refine lv_iadd X.1 X.2.1 dX1_readNumber_35 ?_
          refine lv_bipush (v := 48) X.1 X.2.1 dX1_readNumber_36 (by decide) ?_
          refine lv_isub X.1 X.2.1 dX1_readNumber_38 ?_
          refine lv_istore_n (lv' := [(1, .int (((10 * v1) + r7) - 48)), (0, .ref (ad v0)), (2, .int v2)]) X.1 X.2.1 dX1_readNumber_39 rfl hl (by decide) rfl (fun ls hl => ?_)
          refine lv_aload_n X.1 X.2.1 dX1_readNumber_40 rfl (lv_at hl 1 rfl) ?_
          refine lv_dup X.1 X.2.1 dX1_readNumber_41 rfl ?_
          refine gx_get 1 (v := .int (hI σ6 v0 1)) X hG hT_v0.1 (hT_v0.eq (by decide)) (by decide) rfl inX1 (by decide) k_497 (fun _ h => h) rfl dX1_readNumber_42 ?_
          refine lv_iconst (v := 1) X.1 X.2.1 dX1_readNumber_45 (by decide) ?_
          refine lv_iadd X.1 X.2.1 dX1_readNumber_46 ?_
          refine gx_putI 1  X hG hS hT_v0.1 (hT_v0.eq (by decide)) (by decide) rfl inX1 tyX1_ok nmX1 (by decide) k_497 (fun _ h => h) rfl rfl rfl rfl (Nat.le_of_ble_eq_true rfl) dX1_readNumber_47 hF (fun σ8 H locs hG hS hX hF => ?_)
          have hT_v0 := hX.T hT_v0
          replace hE := hE.trans hX
          refine lv_iload_n X.1 X.2.1 dX1_readNumber_50 rfl (lv_at hl 0 rfl) ?_
          refine lv_if_ne (tgt := 57) X.1 X.2.1 dX1_readNumber_51 (by decide) (fun hc => ?_) (fun hc => ?_)
          · replace hF := it_f hF hc
            refine lv_iinc (v := v2 + 1) (lv' := [(2, .int (v2 + 1)), (1, .int (((10 * v1) + r7) - 48)), (0, .ref (ad v0))]) X.1 X.2.1 dX1_readNumber_57 hl (k := 2) rfl rfl (by decide) rfl (fun ls hl => ?_)
            refine lv_goto (tgt := 4) X.1 X.2.1 dX1_readNumber_60 (by decide) ?_
            exact ih v0 (((10 * v1) + r7) - 48) (v2 + 1) σ8 _ _ ls hT_v0 hG hS hE (lv_sub hl [2, 1, 0] rfl) hF
          · replace hF := it_t hF hc
            exact w_X1_readNumber_54 X n  v0 (((10 * v1) + r7) - 48) σ8 _ _ ls hT_v0 hG hS hE (lv_sub hl [1, 0] rfl) hF
theorem c_X1_readNumber (l : Launch) (D : va_G) (cA : Nat → ClassId) (base : Nat) (ad : Nat → Nat) (σ : Hp) (n : Nat) (a0 : Nat) (hT_a0 : hT σ a0 1) {τ : Hp} (hF : F_X1_readNumber n a0 σ = some τ) : MV l yX1_readNumber cX1_readNumber 3 rm_X1_readNumber D cA base ad σ [.ref (ad a0)] τ := by
  refine Met.ofW (cc := cX1_readNumber) (maxL := 3) (ret := none) (by decide) rfl ?_
  intro p e s m args below meth c s₁ B hml hv
  obtain ⟨rfl, hv⟩ := hv
  have X : SX D cA base p s m ([.ref (ad a0)] : List Value).toArray meth c cX1_readNumber 3 none RX1 := sx_of B hml hv
  have hG := hv.1
  have hS : va_S (bA base) s.heap s.heap [] := va_S.rf
  have hE := xT.rf σ
  have hl := lv_entry ([.ref (ad a0)]) (n := 3) (Nat.le_of_ble_eq_true rfl)
  rw [lg_entry_eq]
  generalize (lg_sl ([.ref (ad a0)]) ++ List.replicate (3 - (lg_sl ([.ref (ad a0)])).length) Slot.unset).toArray = ls at hl ⊢
  have hl : lv_has ls 3 [(0, .ref (ad a0))] := hl
  unfold F_X1_readNumber at hF
  refine lv_iconst (v := 0) X.1 X.2.1 dX1_readNumber_0 (by decide) ?_
  refine lv_istore_n (lv' := [(1, .int 0), (0, .ref (ad a0))]) X.1 X.2.1 dX1_readNumber_1 rfl hl (by decide) rfl (fun ls hl => ?_)
  refine lv_iconst (v := 0) X.1 X.2.1 dX1_readNumber_2 (by decide) ?_
  refine lv_istore_n (lv' := [(2, .int 0), (1, .int 0), (0, .ref (ad a0))]) X.1 X.2.1 dX1_readNumber_3 rfl hl (by decide) rfl (fun ls hl => ?_)
  exact w_X1_readNumber_4 X n  n a0 0 0 σ _ _ ls hT_a0 hG hS hE (lv_sub hl [2, 1, 0] rfl) hF
theorem w_X1_readAtom_17 {σ0 τ : Hp} (X : SX D cA base p s m args meth c cX1_readAtom 3 none RX1) (n : Nat) (d : Nat) (KS : Nat → Int32 → Hp → Option Hp) (hKS : ∀ (σ : Hp) (a0 : Nat) (a1 : Int32) {τ : Hp} , hT σ a0 1 → KS a0 a1 σ = some τ → MV l yX1_readSum cX1_readSum 4 (rmr_X1_readSum d) D cA base ad σ [.ref (ad a0), .int a1] τ)  : ∀ (v0 : Nat) (v1 : Int32) (v2 : Int32) (σ : Hp) (H : Heap) (locs : List Loc) (ls : Array Slot), hT σ v0 1 → GW D cA base ad σ H → va_S (bA base) s.heap H locs → xT σ0 σ → lv_has ls 3 [(0, .ref (ad v0)), (1, .int v1), (2, .int v2)] → F_X1_readAtom_17 KS n  v0 v1 v2 σ = some τ → W p l e (rmr_X1_readAtom d) s m args below meth c H locs 0 0 (ZV below s args D cA base ad σ0 τ) (F0 m 17 ls []) := by
  intro v0 v1 v2 σ H locs ls hT_v0 hG hS hE hl hF
  unfold F_X1_readAtom_17 at hF
  refine lv_aload_n X.1 X.2.1 dX1_readAtom_17 rfl (lv_at hl 0 rfl) ?_
  refine lv_iload_n X.1 X.2.1 dX1_readAtom_18 rfl (lv_at hl 2 rfl) ?_
  refine lv_iload_n X.1 X.2.1 dX1_readAtom_19 rfl (lv_at hl 1 rfl) ?_
  obtain ⟨σ1, hz, hF⟩ := b1_ex hF
  refine gx_rV (gx_runV (As := [.int v2, .int v1]) (rest := []) X hG hS hT_v0.1 (hT_v0.eq (by decide)) (by decide) rfl (c_X1_readBracket l D cA base ad σ n d KS hKS v0 v2 v1 hT_v0 hz) k_478 k_475 k_477 ks_6 k_14 (h_X1_readBracket) rfl rfl ⟨by show 4 * d + 7 + 1 ≤ 4 * d + 8; omega, by show 8 + (3 + 11) + (90 * d + 183) ≤ 90 * d + 205; omega⟩ rfl hl.1 rfl (Nat.le_of_ble_eq_true rfl) dX1_readAtom_20 ⟨Nat.zero_le _, Nat.zero_le _⟩) hS (fun H locs hG hS hX => ?_)
  have hT_v0 := hX.T hT_v0
  replace hE := hE.trans hX
  refine lv_goto (tgt := 97) X.1 X.2.1 dX1_readAtom_23 (by decide) ?_
  exact gx_vret X hG hS hE hF dX1_readAtom_97
theorem w_X1_readAtom_75 {σ0 τ : Hp} (X : SX D cA base p s m args meth c cX1_readAtom 3 none RX1) (n : Nat) (d : Nat) (KS : Nat → Int32 → Hp → Option Hp) (hKS : ∀ (σ : Hp) (a0 : Nat) (a1 : Int32) {τ : Hp} , hT σ a0 1 → KS a0 a1 σ = some τ → MV l yX1_readSum cX1_readSum 4 (rmr_X1_readSum d) D cA base ad σ [.ref (ad a0), .int a1] τ)  : ∀ (v0 : Nat) (v2 : Int32) (σ : Hp) (H : Heap) (locs : List Loc) (ls : Array Slot), hT σ v0 1 → GW D cA base ad σ H → va_S (bA base) s.heap H locs → xT σ0 σ → lv_has ls 3 [(0, .ref (ad v0)), (2, .int v2)] → F_X1_readAtom_75 KS n  v0 v2 σ = some τ → W p l e (rmr_X1_readAtom d) s m args below meth c H locs 0 0 (ZV below s args D cA base ad σ0 τ) (F0 m 75 ls []) := by
  intro v0 v2 σ H locs ls hT_v0 hG hS hE hl hF
  unfold F_X1_readAtom_75 at hF
  refine lv_aload_n X.1 X.2.1 dX1_readAtom_75 rfl (lv_at hl 0 rfl) ?_
  refine lv_dup X.1 X.2.1 dX1_readAtom_76 rfl ?_
  refine gx_get 1 (v := .int (hI σ v0 1)) X hG hT_v0.1 (hT_v0.eq (by decide)) (by decide) rfl inX1 (by decide) k_497 (fun _ h => h) rfl dX1_readAtom_77 ?_
  refine lv_iconst (v := 1) X.1 X.2.1 dX1_readAtom_80 (by decide) ?_
  refine lv_iadd X.1 X.2.1 dX1_readAtom_81 ?_
  refine gx_putI 1  X hG hS hT_v0.1 (hT_v0.eq (by decide)) (by decide) rfl inX1 tyX1_ok nmX1 (by decide) k_497 (fun _ h => h) rfl rfl rfl rfl (Nat.le_of_ble_eq_true rfl) dX1_readAtom_82 hF (fun σ2 H locs hG hS hX hF => ?_)
  have hT_v0 := hX.T hT_v0
  replace hE := hE.trans hX
  refine lv_aload_n X.1 X.2.1 dX1_readAtom_85 rfl (lv_at hl 0 rfl) ?_
  refine lv_iload_n X.1 X.2.1 dX1_readAtom_86 rfl (lv_at hl 1 rfl) ?_
  obtain ⟨σ3, hz, hF⟩ := b1_ex hF
  refine gx_rV (gx_runV (As := [.int v2]) (rest := []) X hG hS hT_v0.1 (hT_v0.eq (by decide)) (by decide) rfl (c_X1_write l D cA base ad σ2 n v0 v2 hT_v0 hz) k_490 k_487 k_489 ks_9 k_14 (h_X1_write) rfl rfl ⟨by show 1 + 1 ≤ 4 * d + 8; omega, by show 8 + (2 + 11) + 22 ≤ 90 * d + 205; omega⟩ rfl hl.1 rfl (Nat.le_of_ble_eq_true rfl) dX1_readAtom_87 ⟨Nat.zero_le _, Nat.zero_le _⟩) hS (fun H locs hG hS hX => ?_)
  have hT_v0 := hX.T hT_v0
  replace hE := hE.trans hX
  refine lv_goto (tgt := 97) X.1 X.2.1 dX1_readAtom_90 (by decide) ?_
  exact gx_vret X hG hS hE hF dX1_readAtom_97
theorem w_X1_readAtom_45 {σ0 τ : Hp} (X : SX D cA base p s m args meth c cX1_readAtom 3 none RX1) (n : Nat) (d : Nat) (KS : Nat → Int32 → Hp → Option Hp) (hKS : ∀ (σ : Hp) (a0 : Nat) (a1 : Int32) {τ : Hp} , hT σ a0 1 → KS a0 a1 σ = some τ → MV l yX1_readSum cX1_readSum 4 (rmr_X1_readSum d) D cA base ad σ [.ref (ad a0), .int a1] τ)  : ∀ (v0 : Nat) (v2 : Int32) (σ : Hp) (H : Heap) (locs : List Loc) (ls : Array Slot), hT σ v0 1 → GW D cA base ad σ H → va_S (bA base) s.heap H locs → xT σ0 σ → lv_has ls 3 [(0, .ref (ad v0)), (2, .int v2)] → F_X1_readAtom_45 KS n  v0 v2 σ = some τ → W p l e (rmr_X1_readAtom d) s m args below meth c H locs 0 0 (ZV below s args D cA base ad σ0 τ) (F0 m 45 ls []) := by
  intro v0 v2 σ H locs ls hT_v0 hG hS hE hl hF
  unfold F_X1_readAtom_45 at hF
  refine lv_iload_n X.1 X.2.1 dX1_readAtom_45 rfl (lv_at hl 1 rfl) ?_
  refine lv_bipush (v := 116) X.1 X.2.1 dX1_readAtom_46 (by decide) ?_
  refine lv_icmp_eq (tgt := 75) X.1 X.2.1 dX1_readAtom_48 (by decide) (fun hc => ?_) (fun hc => ?_)
  · replace hF := it_t hF hc
    exact w_X1_readAtom_75 X n d KS hKS  v0 v2 σ _ _ ls hT_v0 hG hS hE (lv_sub hl [0, 1] rfl) hF
  · replace hF := it_f hF hc
    refine lv_iload_n X.1 X.2.1 dX1_readAtom_51 rfl (lv_at hl 1 rfl) ?_
    refine lv_bipush (v := 112) X.1 X.2.1 dX1_readAtom_52 (by decide) ?_
    refine lv_icmp_eq (tgt := 75) X.1 X.2.1 dX1_readAtom_54 (by decide) (fun hc => ?_) (fun hc => ?_)
    · replace hF := it_t hF hc
      exact w_X1_readAtom_75 X n d KS hKS  v0 v2 σ _ _ ls hT_v0 hG hS hE (lv_sub hl [0, 1] rfl) hF
    · replace hF := it_f hF hc
      refine lv_iload_n X.1 X.2.1 dX1_readAtom_57 rfl (lv_at hl 1 rfl) ?_
      refine lv_bipush (v := 121) X.1 X.2.1 dX1_readAtom_58 (by decide) ?_
      refine lv_icmp_eq (tgt := 75) X.1 X.2.1 dX1_readAtom_60 (by decide) (fun hc => ?_) (fun hc => ?_)
      · replace hF := it_t hF hc
        exact w_X1_readAtom_75 X n d KS hKS  v0 v2 σ _ _ ls hT_v0 hG hS hE (lv_sub hl [0, 1] rfl) hF
      · replace hF := it_f hF hc
        refine lv_iload_n X.1 X.2.1 dX1_readAtom_63 rfl (lv_at hl 1 rfl) ?_
        refine lv_bipush (v := 110) X.1 X.2.1 dX1_readAtom_64 (by decide) ?_
        refine lv_icmp_eq (tgt := 75) X.1 X.2.1 dX1_readAtom_66 (by decide) (fun hc => ?_) (fun hc => ?_)
        · replace hF := it_t hF hc
          exact w_X1_readAtom_75 X n d KS hKS  v0 v2 σ _ _ ls hT_v0 hG hS hE (lv_sub hl [0, 1] rfl) hF
        · replace hF := it_f hF hc
          refine lv_iload_n X.1 X.2.1 dX1_readAtom_69 rfl (lv_at hl 1 rfl) ?_
          refine lv_bipush (v := 109) X.1 X.2.1 dX1_readAtom_70 (by decide) ?_
          refine lv_icmp_ne (tgt := 93) X.1 X.2.1 dX1_readAtom_72 (by decide) (fun hc => ?_) (fun hc => ?_)
          · replace hF := it_f hF hc
            refine lv_aload_n X.1 X.2.1 dX1_readAtom_93 rfl (lv_at hl 0 rfl) ?_
            obtain ⟨σ4, hz, hF⟩ := b1_ex hF
            refine gx_rV (gx_runV (As := []) (rest := []) X hG hS hT_v0.1 (hT_v0.eq (by decide)) (by decide) rfl (c_X1_findFault l D cA base ad σ n v0 hT_v0 hz) k_482 k_479 k_481 ks_7 k_14 (h_X1_findFault) rfl rfl ⟨by show 0 + 1 ≤ 4 * d + 8; omega, by show 8 + (1 + 11) + 0 ≤ 90 * d + 205; omega⟩ rfl hl.1 rfl (Nat.le_of_ble_eq_true rfl) dX1_readAtom_94 ⟨Nat.zero_le _, Nat.zero_le _⟩) hS (fun H locs hG hS hX => ?_)
            have hT_v0 := hX.T hT_v0
            replace hE := hE.trans hX
            exact gx_vret X hG hS hE hF dX1_readAtom_97
          · replace hF := it_t hF hc
            exact w_X1_readAtom_75 X n d KS hKS  v0 v2 σ _ _ ls hT_v0 hG hS hE (lv_sub hl [0, 1] rfl) hF
theorem c_X1_readAtom (l : Launch) (D : va_G) (cA : Nat → ClassId) (base : Nat) (ad : Nat → Nat) (σ : Hp) (n : Nat) (d : Nat) (KS : Nat → Int32 → Hp → Option Hp) (hKS : ∀ (σ : Hp) (a0 : Nat) (a1 : Int32) {τ : Hp} , hT σ a0 1 → KS a0 a1 σ = some τ → MV l yX1_readSum cX1_readSum 4 (rmr_X1_readSum d) D cA base ad σ [.ref (ad a0), .int a1] τ) (a0 : Nat) (a1 : Int32) (hT_a0 : hT σ a0 1) {τ : Hp} (hF : F_X1_readAtom KS n a0 a1 σ = some τ) : MV l yX1_readAtom cX1_readAtom 3 (rmr_X1_readAtom d) D cA base ad σ [.ref (ad a0), .int a1] τ := by
  refine Met.ofW (cc := cX1_readAtom) (maxL := 3) (ret := none) (by decide) rfl ?_
  intro p e s m args below meth c s₁ B hml hv
  obtain ⟨rfl, hv⟩ := hv
  have X : SX D cA base p s m ([.ref (ad a0), .int a1] : List Value).toArray meth c cX1_readAtom 3 none RX1 := sx_of B hml hv
  have hG := hv.1
  have hS : va_S (bA base) s.heap s.heap [] := va_S.rf
  have hE := xT.rf σ
  have hl := lv_entry ([.ref (ad a0), .int a1]) (n := 3) (Nat.le_of_ble_eq_true rfl)
  rw [lg_entry_eq]
  generalize (lg_sl ([.ref (ad a0), .int a1]) ++ List.replicate (3 - (lg_sl ([.ref (ad a0), .int a1])).length) Slot.unset).toArray = ls at hl ⊢
  have hl : lv_has ls 3 [(0, .ref (ad a0)), (1, .int a1)] := hl
  unfold F_X1_readAtom at hF
  refine lv_aload_n X.1 X.2.1 dX1_readAtom_0 rfl (lv_at hl 0 rfl) ?_
  obtain ⟨r6, σ5, hz, hF⟩ := b2_ex hF
  refine gx_rI (gx_runV (As := []) (rest := []) X hG hS hT_a0.1 (hT_a0.eq (by decide)) (by decide) rfl (c_X1_next l D cA base ad σ n a0 hT_a0 hz) k_474 k_471 k_473 ks_5 k_14 (h_X1_next) rfl rfl ⟨by show 0 + 1 ≤ 4 * d + 8; omega, by show 8 + (1 + 11) + 0 ≤ 90 * d + 205; omega⟩ rfl hl.1 rfl (Nat.le_of_ble_eq_true rfl) dX1_readAtom_1 ⟨Nat.zero_le _, Nat.zero_le _⟩) hS (fun H locs hG hS hX => ?_)
  have hT_a0 := hX.T hT_a0
  replace hE := hE.trans hX
  refine lv_istore_n (lv' := [(2, .int r6), (0, .ref (ad a0)), (1, .int a1)]) X.1 X.2.1 dX1_readAtom_4 rfl hl (by decide) rfl (fun ls hl => ?_)
  refine lv_iload_n X.1 X.2.1 dX1_readAtom_5 rfl (lv_at hl 0 rfl) ?_
  refine lv_bipush (v := 40) X.1 X.2.1 dX1_readAtom_6 (by decide) ?_
  refine lv_icmp_eq (tgt := 17) X.1 X.2.1 dX1_readAtom_8 (by decide) (fun hc => ?_) (fun hc => ?_)
  · replace hF := it_t hF hc
    exact w_X1_readAtom_17 X n d KS hKS  a0 a1 r6 σ5 _ _ ls hT_a0 hG hS hE (lv_sub hl [1, 2, 0] rfl) hF
  · replace hF := it_f hF hc
    refine lv_iload_n X.1 X.2.1 dX1_readAtom_11 rfl (lv_at hl 0 rfl) ?_
    refine lv_bipush (v := 91) X.1 X.2.1 dX1_readAtom_12 (by decide) ?_
    refine lv_icmp_ne (tgt := 26) X.1 X.2.1 dX1_readAtom_14 (by decide) (fun hc => ?_) (fun hc => ?_)
    · replace hF := it_f hF hc
      refine lv_iload_n X.1 X.2.1 dX1_readAtom_26 rfl (lv_at hl 0 rfl) ?_
      refine lv_bipush (v := 48) X.1 X.2.1 dX1_readAtom_27 (by decide) ?_
      refine lv_icmp_lt (tgt := 45) X.1 X.2.1 dX1_readAtom_29 (by decide) (fun hc => ?_) (fun hc => ?_)
      · replace hF := it_t hF hc
        exact w_X1_readAtom_45 X n d KS hKS  a0 r6 σ5 _ _ ls hT_a0 hG hS hE (lv_sub hl [1, 0] rfl) hF
      · replace hF := it_f hF hc
        refine lv_iload_n X.1 X.2.1 dX1_readAtom_32 rfl (lv_at hl 0 rfl) ?_
        refine lv_bipush (v := 57) X.1 X.2.1 dX1_readAtom_33 (by decide) ?_
        refine lv_icmp_gt (tgt := 45) X.1 X.2.1 dX1_readAtom_35 (by decide) (fun hc => ?_) (fun hc => ?_)
        · replace hF := it_t hF hc
          exact w_X1_readAtom_45 X n d KS hKS  a0 r6 σ5 _ _ ls hT_a0 hG hS hE (lv_sub hl [1, 0] rfl) hF
        · replace hF := it_f hF hc
          refine lv_aload_n X.1 X.2.1 dX1_readAtom_38 rfl (lv_at hl 1 rfl) ?_
          obtain ⟨σ7, hz, hF⟩ := b1_ex hF
          refine gx_rV (gx_runV (As := []) (rest := []) X hG hS hT_a0.1 (hT_a0.eq (by decide)) (by decide) rfl (c_X1_readNumber l D cA base ad σ5 n a0 hT_a0 hz) k_495 k_492 k_494 ks_10 k_14 (h_X1_readNumber) rfl rfl ⟨by show 2 + 1 ≤ 4 * d + 8; omega, by show 8 + (3 + 11) + 43 ≤ 90 * d + 205; omega⟩ rfl hl.1 rfl (Nat.le_of_ble_eq_true rfl) dX1_readAtom_39 ⟨Nat.zero_le _, Nat.zero_le _⟩) hS (fun H locs hG hS hX => ?_)
          have hT_a0 := hX.T hT_a0
          replace hE := hE.trans hX
          refine lv_goto (tgt := 97) X.1 X.2.1 dX1_readAtom_42 (by decide) ?_
          exact gx_vret X hG hS hE hF dX1_readAtom_97
    · replace hF := it_t hF hc
      exact w_X1_readAtom_17 X n d KS hKS  a0 a1 r6 σ5 _ _ ls hT_a0 hG hS hE (lv_sub hl [1, 2, 0] rfl) hF
theorem w_X1_readProduct_41 {σ0 τ : Hp} (X : SX D cA base p s m args meth c cX1_readProduct 4 none RX1) (n : Nat) (d : Nat) (KS : Nat → Int32 → Hp → Option Hp) (hKS : ∀ (σ : Hp) (a0 : Nat) (a1 : Int32) {τ : Hp} , hT σ a0 1 → KS a0 a1 σ = some τ → MV l yX1_readSum cX1_readSum 4 (rmr_X1_readSum d) D cA base ad σ [.ref (ad a0), .int a1] τ) (K_7 : Nat → Int32 → Int32 → Hp → Option Hp) (hK_7 : ∀ (v0 : Nat) (v1 : Int32) (v2 : Int32) (σ : Hp) (H : Heap) (locs : List Loc) (ls : Array Slot), hT σ v0 1 → GW D cA base ad σ H → va_S (bA base) s.heap H locs → xT σ0 σ → lv_has ls 4 [(0, .ref (ad v0)), (1, .int v1), (2, .int v2)] → K_7 v0 v1 v2 σ = some τ → W p l e (rmr_X1_readProduct d) s m args below meth c H locs 0 0 (ZV below s args D cA base ad σ0 τ) (F0 m 7 ls [])) : ∀ (v0 : Nat) (v1 : Int32) (v2 : Int32) (σ : Hp) (H : Heap) (locs : List Loc) (ls : Array Slot), hT σ v0 1 → GW D cA base ad σ H → va_S (bA base) s.heap H locs → xT σ0 σ → lv_has ls 4 [(0, .ref (ad v0)), (1, .int v1), (2, .int v2)] → F_X1_readProduct_41 KS n K_7 v0 v1 v2 σ = some τ → W p l e (rmr_X1_readProduct d) s m args below meth c H locs 0 0 (ZV below s args D cA base ad σ0 τ) (F0 m 41 ls []) := by
  intro v0 v1 v2 σ H locs ls hT_v0 hG hS hE hl hF
  unfold F_X1_readProduct_41 at hF
  refine lv_aload_n X.1 X.2.1 dX1_readProduct_41 rfl (lv_at hl 0 rfl) ?_
  obtain ⟨r2, σ1, hz, hF⟩ := b2_ex hF
  refine gx_rI (gx_runV (As := []) (rest := []) X hG hS hT_v0.1 (hT_v0.eq (by decide)) (by decide) rfl (c_X1_next l D cA base ad σ n v0 hT_v0 hz) k_474 k_471 k_473 ks_5 k_14 (h_X1_next) rfl rfl ⟨by show 0 + 1 ≤ 4 * d + 9; omega, by show 8 + (1 + 11) + 0 ≤ 90 * d + 227; omega⟩ rfl hl.1 rfl (Nat.le_of_ble_eq_true rfl) dX1_readProduct_42 ⟨Nat.zero_le _, Nat.zero_le _⟩) hS (fun H locs hG hS hX => ?_)
  have hT_v0 := hX.T hT_v0
  replace hE := hE.trans hX
  refine lv_istore_n (lv' := [(3, .int r2), (0, .ref (ad v0)), (1, .int v1), (2, .int v2)]) X.1 X.2.1 dX1_readProduct_45 rfl hl (by decide) rfl (fun ls hl => ?_)
  refine lv_aload_n X.1 X.2.1 dX1_readProduct_46 rfl (lv_at hl 1 rfl) ?_
  refine lv_dup X.1 X.2.1 dX1_readProduct_47 rfl ?_
  refine gx_get 1 (v := .int (hI σ1 v0 1)) X hG hT_v0.1 (hT_v0.eq (by decide)) (by decide) rfl inX1 (by decide) k_497 (fun _ h => h) rfl dX1_readProduct_48 ?_
  refine lv_iconst (v := 1) X.1 X.2.1 dX1_readProduct_51 (by decide) ?_
  refine lv_iadd X.1 X.2.1 dX1_readProduct_52 ?_
  refine gx_putI 1  X hG hS hT_v0.1 (hT_v0.eq (by decide)) (by decide) rfl inX1 tyX1_ok nmX1 (by decide) k_497 (fun _ h => h) rfl rfl rfl rfl (Nat.le_of_ble_eq_true rfl) dX1_readProduct_53 hF (fun σ3 H locs hG hS hX hF => ?_)
  have hT_v0 := hX.T hT_v0
  replace hE := hE.trans hX
  refine lv_aload_n X.1 X.2.1 dX1_readProduct_56 rfl (lv_at hl 1 rfl) ?_
  refine lv_iload_n X.1 X.2.1 dX1_readProduct_57 rfl (lv_at hl 2 rfl) ?_
  obtain ⟨σ4, hz, hF⟩ := b1_ex hF
  refine gx_rV (gx_runV (As := [.int v1]) (rest := []) X hG hS hT_v0.1 (hT_v0.eq (by decide)) (by decide) rfl (c_X1_readAtom l D cA base ad σ3 n d KS hKS v0 v1 hT_v0 hz) k_470 k_467 k_469 ks_4 k_14 (h_X1_readAtom) rfl rfl ⟨by show 4 * d + 8 + 1 ≤ 4 * d + 9; omega, by show 8 + (3 + 11) + (90 * d + 205) ≤ 90 * d + 227; omega⟩ rfl hl.1 rfl (Nat.le_of_ble_eq_true rfl) dX1_readProduct_58 ⟨Nat.zero_le _, Nat.zero_le _⟩) hS (fun H locs hG hS hX => ?_)
  have hT_v0 := hX.T hT_v0
  replace hE := hE.trans hX
  refine lv_aload_n X.1 X.2.1 dX1_readProduct_61 rfl (lv_at hl 1 rfl) ?_
  refine lv_iload_n X.1 X.2.1 dX1_readProduct_62 rfl (lv_at hl 0 rfl) ?_
  obtain ⟨σ5, hz, hF⟩ := b1_ex hF
  refine gx_rV (gx_runV (As := [.int r2]) (rest := []) X hG hS hT_v0.1 (hT_v0.eq (by decide)) (by decide) rfl (c_X1_write l D cA base ad σ4 n v0 r2 hT_v0 hz) k_490 k_487 k_489 ks_9 k_14 (h_X1_write) rfl rfl ⟨by show 1 + 1 ≤ 4 * d + 9; omega, by show 8 + (2 + 11) + 22 ≤ 90 * d + 227; omega⟩ rfl hl.1 rfl (Nat.le_of_ble_eq_true rfl) dX1_readProduct_63 ⟨Nat.zero_le _, Nat.zero_le _⟩) hS (fun H locs hG hS hX => ?_)
  have hT_v0 := hX.T hT_v0
  replace hE := hE.trans hX
  refine lv_iinc (v := v2 + 1) (lv' := [(2, .int (v2 + 1)), (3, .int r2), (0, .ref (ad v0)), (1, .int v1)]) X.1 X.2.1 dX1_readProduct_66 hl (k := 3) rfl rfl (by decide) rfl (fun ls hl => ?_)
  refine lv_goto (tgt := 7) X.1 X.2.1 dX1_readProduct_69 (by decide) ?_
  exact hK_7 v0 v1 (v2 + 1) σ5 _ _ ls hT_v0 hG hS hE (lv_sub hl [2, 3, 0] rfl) hF
theorem w_X1_readProduct_7 {σ0 τ : Hp} (X : SX D cA base p s m args meth c cX1_readProduct 4 none RX1) (n : Nat) (d : Nat) (KS : Nat → Int32 → Hp → Option Hp) (hKS : ∀ (σ : Hp) (a0 : Nat) (a1 : Int32) {τ : Hp} , hT σ a0 1 → KS a0 a1 σ = some τ → MV l yX1_readSum cX1_readSum 4 (rmr_X1_readSum d) D cA base ad σ [.ref (ad a0), .int a1] τ)  : ∀ f : Nat, ∀ (v0 : Nat) (v1 : Int32) (v2 : Int32) (σ : Hp) (H : Heap) (locs : List Loc) (ls : Array Slot), hT σ v0 1 → GW D cA base ad σ H → va_S (bA base) s.heap H locs → xT σ0 σ → lv_has ls 4 [(0, .ref (ad v0)), (1, .int v1), (2, .int v2)] → F_X1_readProduct_7 KS n  f v0 v1 v2 σ = some τ → W p l e (rmr_X1_readProduct d) s m args below meth c H locs 0 0 (ZV below s args D cA base ad σ0 τ) (F0 m 7 ls []) := by
  intro f
  induction f with
  | zero => intro v0 v1 v2 σ H locs ls h0 hG hS hE hl hF
            rw [F_X1_readProduct_7] at hF; cases hF
  | succ f ih =>
    intro v0 v1 v2 σ H locs ls hT_v0 hG hS hE hl hF
    rw [F_X1_readProduct_7] at hF
    refine lv_iload_n X.1 X.2.1 dX1_readProduct_7 rfl (lv_at hl 2 rfl) ?_
    refine lv_aload_n X.1 X.2.1 dX1_readProduct_8 rfl (lv_at hl 0 rfl) ?_
    obtain ⟨i6, hr, hF⟩ := b1_ex hF
    have hT_i6 : hT σ i6 13 := gw_T hG hT_v0 (by decide) hr
    refine gx_get 0 (v := .ref (ad i6)) X hG hT_v0.1 (hT_v0.eq (by decide)) (by decide) rfl inX1 (by decide) k_496 (fun _ h => h) (gx_rfv hr) dX1_readProduct_9 ?_
    refine gx_alen (t0 := 0) X hG hT_i6 (by decide) (by decide) rfl dX1_readProduct_12 ?_
    refine lv_icmp_ge (tgt := 72) X.1 X.2.1 dX1_readProduct_13 (by decide) (fun hc => ?_) (fun hc => ?_)
    · replace hF := it_t hF hc
      exact gx_vret X hG hS hE hF dX1_readProduct_72
    · replace hF := it_f hF hc
      refine lv_aload_n X.1 X.2.1 dX1_readProduct_16 rfl (lv_at hl 0 rfl) ?_
      refine gx_get 5 (v := .int (hI σ v0 5)) X hG hT_v0.1 (hT_v0.eq (by decide)) (by decide) rfl inX1 (by decide) k_501 (fun _ h => h) rfl dX1_readProduct_17 ?_
      refine lv_if_ge (tgt := 72) X.1 X.2.1 dX1_readProduct_20 (by decide) (fun hc => ?_) (fun hc => ?_)
      · replace hF := it_t hF hc
        exact gx_vret X hG hS hE hF dX1_readProduct_72
      · replace hF := it_f hF hc
        refine lv_aload_n X.1 X.2.1 dX1_readProduct_23 rfl (lv_at hl 0 rfl) ?_
        obtain ⟨r8, σ7, hz, hF⟩ := b2_ex hF
        refine gx_rI (gx_runV (As := []) (rest := []) X hG hS hT_v0.1 (hT_v0.eq (by decide)) (by decide) rfl (c_X1_next l D cA base ad σ n v0 hT_v0 hz) k_474 k_471 k_473 ks_5 k_14 (h_X1_next) rfl rfl ⟨by show 0 + 1 ≤ 4 * d + 9; omega, by show 8 + (1 + 11) + 0 ≤ 90 * d + 227; omega⟩ rfl hl.1 rfl (Nat.le_of_ble_eq_true rfl) dX1_readProduct_24 ⟨Nat.zero_le _, Nat.zero_le _⟩) hS (fun H locs hG hS hX => ?_)
        have hT_v0 := hX.T hT_v0
        replace hE := hE.trans hX
        refine lv_bipush (v := 42) X.1 X.2.1 dX1_readProduct_27 (by decide) ?_
        refine lv_icmp_eq (tgt := 41) X.1 X.2.1 dX1_readProduct_29 (by decide) (fun hc => ?_) (fun hc => ?_)
        · replace hF := it_t hF hc
          exact w_X1_readProduct_41 X n d KS hKS (F_X1_readProduct_7 KS n  f) ih v0 v1 v2 σ7 _ _ ls hT_v0 hG hS hE (lv_sub hl [0, 1, 2] rfl) hF
        · replace hF := it_f hF hc
          refine lv_aload_n X.1 X.2.1 dX1_readProduct_32 rfl (lv_at hl 0 rfl) ?_
          obtain ⟨r10, σ9, hz, hF⟩ := b2_ex hF
          refine gx_rI (gx_runV (As := []) (rest := []) X hG hS hT_v0.1 (hT_v0.eq (by decide)) (by decide) rfl (c_X1_next l D cA base ad σ7 n v0 hT_v0 hz) k_474 k_471 k_473 ks_5 k_14 (h_X1_next) rfl rfl ⟨by show 0 + 1 ≤ 4 * d + 9; omega, by show 8 + (1 + 11) + 0 ≤ 90 * d + 227; omega⟩ rfl hl.1 rfl (Nat.le_of_ble_eq_true rfl) dX1_readProduct_33 ⟨Nat.zero_le _, Nat.zero_le _⟩) hS (fun H locs hG hS hX => ?_)
          have hT_v0 := hX.T hT_v0
          replace hE := hE.trans hX
          refine lv_bipush (v := 47) X.1 X.2.1 dX1_readProduct_36 (by decide) ?_
          refine lv_icmp_ne (tgt := 72) X.1 X.2.1 dX1_readProduct_38 (by decide) (fun hc => ?_) (fun hc => ?_)
          · replace hF := it_f hF hc
            exact gx_vret X hG hS hE hF dX1_readProduct_72
          · replace hF := it_t hF hc
            exact w_X1_readProduct_41 X n d KS hKS (F_X1_readProduct_7 KS n  f) ih v0 v1 v2 σ9 _ _ ls hT_v0 hG hS hE (lv_sub hl [0, 1, 2] rfl) hF
theorem c_X1_readProduct (l : Launch) (D : va_G) (cA : Nat → ClassId) (base : Nat) (ad : Nat → Nat) (σ : Hp) (n : Nat) (d : Nat) (KS : Nat → Int32 → Hp → Option Hp) (hKS : ∀ (σ : Hp) (a0 : Nat) (a1 : Int32) {τ : Hp} , hT σ a0 1 → KS a0 a1 σ = some τ → MV l yX1_readSum cX1_readSum 4 (rmr_X1_readSum d) D cA base ad σ [.ref (ad a0), .int a1] τ) (a0 : Nat) (a1 : Int32) (hT_a0 : hT σ a0 1) {τ : Hp} (hF : F_X1_readProduct KS n a0 a1 σ = some τ) : MV l yX1_readProduct cX1_readProduct 4 (rmr_X1_readProduct d) D cA base ad σ [.ref (ad a0), .int a1] τ := by
  refine Met.ofW (cc := cX1_readProduct) (maxL := 4) (ret := none) (by decide) rfl ?_
  intro p e s m args below meth c s₁ B hml hv
  obtain ⟨rfl, hv⟩ := hv
  have X : SX D cA base p s m ([.ref (ad a0), .int a1] : List Value).toArray meth c cX1_readProduct 4 none RX1 := sx_of B hml hv
  have hG := hv.1
  have hS : va_S (bA base) s.heap s.heap [] := va_S.rf
  have hE := xT.rf σ
  have hl := lv_entry ([.ref (ad a0), .int a1]) (n := 4) (Nat.le_of_ble_eq_true rfl)
  rw [lg_entry_eq]
  generalize (lg_sl ([.ref (ad a0), .int a1]) ++ List.replicate (4 - (lg_sl ([.ref (ad a0), .int a1])).length) Slot.unset).toArray = ls at hl ⊢
  have hl : lv_has ls 4 [(0, .ref (ad a0)), (1, .int a1)] := hl
  unfold F_X1_readProduct at hF
  refine lv_aload_n X.1 X.2.1 dX1_readProduct_0 rfl (lv_at hl 0 rfl) ?_
  refine lv_iload_n X.1 X.2.1 dX1_readProduct_1 rfl (lv_at hl 1 rfl) ?_
  obtain ⟨σ11, hz, hF⟩ := b1_ex hF
  refine gx_rV (gx_runV (As := [.int a1]) (rest := []) X hG hS hT_a0.1 (hT_a0.eq (by decide)) (by decide) rfl (c_X1_readAtom l D cA base ad σ n d KS hKS a0 a1 hT_a0 hz) k_470 k_467 k_469 ks_4 k_14 (h_X1_readAtom) rfl rfl ⟨by show 4 * d + 8 + 1 ≤ 4 * d + 9; omega, by show 8 + (3 + 11) + (90 * d + 205) ≤ 90 * d + 227; omega⟩ rfl hl.1 rfl (Nat.le_of_ble_eq_true rfl) dX1_readProduct_2 ⟨Nat.zero_le _, Nat.zero_le _⟩) hS (fun H locs hG hS hX => ?_)
  have hT_a0 := hX.T hT_a0
  replace hE := hE.trans hX
  refine lv_iconst (v := 0) X.1 X.2.1 dX1_readProduct_5 (by decide) ?_
  refine lv_istore_n (lv' := [(2, .int 0), (0, .ref (ad a0)), (1, .int a1)]) X.1 X.2.1 dX1_readProduct_6 rfl hl (by decide) rfl (fun ls hl => ?_)
  exact w_X1_readProduct_7 X n d KS hKS  n a0 a1 0 σ11 _ _ ls hT_a0 hG hS hE (lv_sub hl [1, 2, 0] rfl) hF
end W_class4
