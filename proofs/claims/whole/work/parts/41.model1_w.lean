/-! model1: printed by wip/whole/gen.py -/
section W_model1
variable {p : Program} {l : Launch} {e : Env} {s : State} {m : MethodId} {args : Array Value} {below : List Frame} {meth : Method} {c : Code} {D : va_G} {cA : Nat → ClassId} {base : Nat} {ad : Nat → Nat}
abbrev rm_X12_isSet : Room := { frames := 1, cells := 0, slots := 0, locals := 25 }
theorem h_X12_isSet : yX12_isSet.cls = RX12 ∧ yX12_isSet.cls ≠ "java/lang/invoke/MethodHandle" ∧ yX12_isSet.cls ≠ "java/lang/invoke/VarHandle" ∧ (parseMethodDescriptor yX12_isSet.desc).map (fun d => d.parameters.length) = some 1 := by decide +kernel
def F_X12_isSet (n : Nat) (a0 : Nat) (a1 : Int32) (σ : Hp) : Option (Int32 × Hp) := b1 (hR σ a0 0) fun (i1 : Nat) => ck (¬ ((0 : Int32) < 0 ∨ hL σ i1 ≤ (0 : Int32).toNatClampNeg)) (b2 (F_X12_isIn n a1.toInt64 0 (((1 <<< ((hI σ i1 (0 : Int32).toNatClampNeg) &&& 31)) - 1).toInt64) σ) fun (r3 : Int32) (σ2 : Hp) => ck (r3 = 0 ∨ r3 = 1) (some (r3, σ2)))
abbrev rm_X12_holds : Room := { frames := 2, cells := 0, slots := 0, locals := 46 }
theorem h_X12_holds : yX12_holds.cls = RX12 ∧ yX12_holds.cls ≠ "java/lang/invoke/MethodHandle" ∧ yX12_holds.cls ≠ "java/lang/invoke/VarHandle" ∧ (parseMethodDescriptor yX12_holds.desc).map (fun d => d.parameters.length) = some 2 := by decide +kernel
def F_X12_holds (n : Nat) (a0 : Nat) (a1 : Int32) (a2 : Int32) (σ : Hp) : Option (Int32 × Hp) := b2 (F_X12_isJuror n a0 a1 σ) fun (r2 : Int32) (σ1 : Hp) => if r2 = 0 then (some ((-1), σ1)) else (b2 (F_X12_isSet n a0 a2 σ1) fun (r4 : Int32) (σ3 : Hp) => if r4 = 0 then (some ((-1), σ3)) else (b2 (F_X12_becomes n a0 ((19 + (7 * a1)) + 6) a2 σ3) fun (r6 : Int32) (σ5 : Hp) => some (r6, σ5)))
abbrev rm_X12_hasBegun : Room := { frames := 0, cells := 0, slots := 0, locals := 0 }
theorem h_X12_hasBegun : yX12_hasBegun.cls = RX12 ∧ yX12_hasBegun.cls ≠ "java/lang/invoke/MethodHandle" ∧ yX12_hasBegun.cls ≠ "java/lang/invoke/VarHandle" ∧ (parseMethodDescriptor yX12_hasBegun.desc).map (fun d => d.parameters.length) = some 0 := by decide +kernel
def F_X12_hasBegun (n : Nat) (a0 : Nat) (σ : Hp) : Option (Int32 × Hp) := b1 (hR σ a0 4) fun (i1 : Nat) => ck (¬ ((6 : Int32) < 0 ∨ hL σ i1 ≤ (6 : Int32).toNatClampNeg)) (if (hI σ i1 (6 : Int32).toNatClampNeg) = 1 then (some (1, σ)) else (some (0, σ)))
abbrev rm_X12_of : Room := { frames := 2, cells := 0, slots := 0, locals := 46 }
theorem h_X12_of : yX12_of.cls = RX12 ∧ yX12_of.cls ≠ "java/lang/invoke/MethodHandle" ∧ yX12_of.cls ≠ "java/lang/invoke/VarHandle" ∧ (parseMethodDescriptor yX12_of.desc).map (fun d => d.parameters.length) = some 2 := by decide +kernel
def F_X12_of (n : Nat) (a0 : Nat) (a1 : Int32) (a2 : Int32) (σ : Hp) : Option (Int32 × Hp) := b2 (F_X12_isJuror n a0 a1 σ) fun (r2 : Int32) (σ1 : Hp) => if r2 = 0 then (some ((-1000000001), σ1)) else (b2 (F_X12_isIn n a2.toInt64 0 9 σ1) fun (r4 : Int32) (σ3 : Hp) => if r4 = 0 then (some ((-1000000001), σ3)) else (if 6 ≤ a2 then (b2 (F_X12_hasBegun n a0 σ3) fun (r6 : Int32) (σ5 : Hp) => if r6 = 0 then (if a2 = 6 then (b2 (F_X12_get n a0 a1 6 σ5) fun (r12 : Int32) (σ11 : Hp) => some (r12, σ11)) else (some (0, σ5))) else (if a2 = 6 then (b1 (hR σ5 a0 4) fun (i8 : Nat) => ck (¬ ((19 + a1) < 0 ∨ hL σ5 i8 ≤ (19 + a1).toNatClampNeg)) (some (hI σ5 i8 (19 + a1).toNatClampNeg, σ5))) else (if a2 = 7 then (b1 (hR σ5 a0 4) fun (i9 : Nat) => ck (¬ ((31 + a1) < 0 ∨ hL σ5 i9 ≤ (31 + a1).toNatClampNeg)) (some (hI σ5 i9 (31 + a1).toNatClampNeg, σ5))) else (if a2 = 8 then (b1 (hR σ5 a0 4) fun (i10 : Nat) => ck (¬ ((43 + a1) < 0 ∨ hL σ5 i10 ≤ (43 + a1).toNatClampNeg)) (some (hI σ5 i10 (43 + a1).toNatClampNeg, σ5))) else (b1 (hR σ5 a0 4) fun (i7 : Nat) => ck (¬ ((55 + a1) < 0 ∨ hL σ5 i7 ≤ (55 + a1).toNatClampNeg)) (if (hI σ5 i7 (55 + a1).toNatClampNeg) ≤ 0 then (some (0, σ5)) else (some (1, σ5)))))))) else (b2 (F_X12_get n a0 a1 a2 σ3) fun (r14 : Int32) (σ13 : Hp) => some (r14, σ13))))
abbrev rm_X12_sign : Room := { frames := 0, cells := 0, slots := 0, locals := 0 }
theorem h_X12_sign : yX12_sign.cls = RX12 ∧ yX12_sign.cls ≠ "java/lang/invoke/MethodHandle" ∧ yX12_sign.cls ≠ "java/lang/invoke/VarHandle" ∧ (parseMethodDescriptor yX12_sign.desc).map (fun d => d.parameters.length) = some 0 := by decide +kernel
def F_X12_sign (n : Nat) (a0 : Nat) (σ : Hp) : Option (Int32 × Hp) := if (hI σ a0 18) ≤ (hI σ a0 16) then (some ((-1000), σ)) else (b1 (hR σ a0 15) fun (i1 : Nat) => ck (¬ (((hI σ a0 17) + (hI σ a0 16)) < 0 ∨ hL σ i1 ≤ ((hI σ a0 17) + (hI σ a0 16)).toNatClampNeg)) (some (hI σ i1 ((hI σ a0 17) + (hI σ a0 16)).toNatClampNeg, σ)))
abbrev rm_X12_takes : Room := { frames := 1, cells := 0, slots := 0, locals := 20 }
theorem h_X12_takes : yX12_takes.cls = RX12 ∧ yX12_takes.cls ≠ "java/lang/invoke/MethodHandle" ∧ yX12_takes.cls ≠ "java/lang/invoke/VarHandle" ∧ (parseMethodDescriptor yX12_takes.desc).map (fun d => d.parameters.length) = some 1 := by decide +kernel
def F_X12_takes (n : Nat) (a0 : Nat) (a1 : Int32) (σ : Hp) : Option (Int32 × Hp) := b2 (F_X12_sign n a0 σ) fun (r2 : Int32) (σ1 : Hp) => if r2 = a1 then (lt (pI σ1 a0 16 ((hI σ1 a0 16) + 1)) fun (σ3 : Hp) => some (1, σ3)) else (some (0, σ1))
abbrev rm_X12_readsNumber : Room := { frames := 1, cells := 0, slots := 0, locals := 25 }
theorem h_X12_readsNumber : yX12_readsNumber.cls = RX12 ∧ yX12_readsNumber.cls ≠ "java/lang/invoke/MethodHandle" ∧ yX12_readsNumber.cls ≠ "java/lang/invoke/VarHandle" ∧ (parseMethodDescriptor yX12_readsNumber.desc).map (fun d => d.parameters.length) = some 0 := by decide +kernel
def F_X12_readsNumber_42 (n : Nat)  : Nat → Nat → Int32 → Hp → Option (Int32 × Hp)
  | 0, _, _, _ => none
  | f + 1, v0, v1, σ => if 3 ≤ v1 then (some (1, σ)) else (if (hI σ v0 20) ≤ 0 then (some (1, σ)) else (b2 (F_X12_sign n v0 σ) fun (r2 : Int32) (σ1 : Hp) => b2 (F_X12_isIn n r2.toInt64 48 57 σ1) fun (r4 : Int32) (σ3 : Hp) => if r4 = 0 then (some (1, σ3)) else (b2 (F_X12_sign n v0 σ3) fun (r6 : Int32) (σ5 : Hp) => lt (pI σ5 v0 20 (((10 * (hI σ3 v0 20)) + r6) - 48)) fun (σ7 : Hp) => lt (pI σ7 v0 16 ((hI σ7 v0 16) + 1)) fun (σ8 : Hp) => (F_X12_readsNumber_42 n  f) v0 (v1 + 1) σ8)))
def F_X12_readsNumber (n : Nat) (a0 : Nat) (σ : Hp) : Option (Int32 × Hp) := b2 (F_X12_sign n a0 σ) fun (r10 : Int32) (σ9 : Hp) => b2 (F_X12_isIn n r10.toInt64 48 57 σ9) fun (r12 : Int32) (σ11 : Hp) => if r12 = 0 then (some (0, σ11)) else (b2 (F_X12_sign n a0 σ11) fun (r14 : Int32) (σ13 : Hp) => lt (pI σ13 a0 20 (r14 - 48)) fun (σ15 : Hp) => lt (pI σ15 a0 16 ((hI σ15 a0 16) + 1)) fun (σ16 : Hp) => F_X12_readsNumber_42 n  n a0 1 σ16)
abbrev rm_X12_isField : Room := { frames := 0, cells := 0, slots := 0, locals := 0 }
theorem h_X12_isField : yX12_isField.cls = RX12 ∧ yX12_isField.cls ≠ "java/lang/invoke/MethodHandle" ∧ yX12_isField.cls ≠ "java/lang/invoke/VarHandle" ∧ (parseMethodDescriptor yX12_isField.desc).map (fun d => d.parameters.length) = some 1 := by decide +kernel
def F_X12_isField_30 (n : Nat)   (σ : Hp) : Option (Int32 × Hp) := some (1, σ)
def F_X12_isField (n : Nat) (a0 : Int32) (σ : Hp) : Option (Int32 × Hp) := if a0 = 116 then (F_X12_isField_30 n  σ) else (if a0 = 112 then (F_X12_isField_30 n  σ) else (if a0 = 121 then (F_X12_isField_30 n  σ) else (if a0 = 110 then (F_X12_isField_30 n  σ) else (if a0 = 109 then (F_X12_isField_30 n  σ) else (some (0, σ))))))
abbrev rm_X12_wrongRow : Room := { frames := 2, cells := 0, slots := 0, locals := 45 }
theorem h_X12_wrongRow : yX12_wrongRow.cls = RX12 ∧ yX12_wrongRow.cls ≠ "java/lang/invoke/MethodHandle" ∧ yX12_wrongRow.cls ≠ "java/lang/invoke/VarHandle" ∧ (parseMethodDescriptor yX12_wrongRow.desc).map (fun d => d.parameters.length) = some 2 := by decide +kernel
def F_X12_wrongRow_49 (n : Nat)   (σ : Hp) : Option (Int32 × Hp) := some ((-12), σ)
def F_X12_wrongRow (n : Nat) (a0 : Nat) (a1 : Int32) (a2 : Int32) (σ : Hp) : Option (Int32 × Hp) := b2 (F_X12_isShelf n a1 σ) fun (r2 : Int32) (σ1 : Hp) => if r2 = 0 then (some ((-1), σ1)) else (b1 (hR σ1 a0 7) fun (i3 : Nat) => ck (¬ (a1 < 0 ∨ hL σ1 i3 ≤ a1.toNatClampNeg)) (if (hI σ1 i3 a1.toNatClampNeg) = 0 then (some ((-11), σ1)) else (b1 (hR σ1 a0 7) fun (i4 : Nat) => ck (¬ (a1 < 0 ∨ hL σ1 i4 ≤ a1.toNatClampNeg)) (if (hI σ1 i4 a1.toNatClampNeg) = 2 then (if a2 < 0 then (some (0, σ1)) else (b1 (hR σ1 a0 8) fun (i5 : Nat) => ck (¬ (a1 < 0 ∨ hL σ1 i5 ≤ a1.toNatClampNeg)) (if (hI σ1 i5 a1.toNatClampNeg) = a2 then (some (0, σ1)) else (F_X12_wrongRow_49 n  σ1)))) else (F_X12_wrongRow_49 n  σ1)))))
theorem c_X12_isSet (l : Launch) (D : va_G) (cA : Nat → ClassId) (base : Nat) (ad : Nat → Nat) (σ : Hp) (n : Nat) (a0 : Nat) (a1 : Int32) (hT_a0 : hT σ a0 12) {τ : Hp} {r : Int32} (hF : F_X12_isSet n a0 a1 σ = some (r, τ)) : MI l yX12_isSet cX12_isSet 2 (some .boolean) rm_X12_isSet D cA base ad σ [.ref (ad a0), .int a1] r τ := by
  refine Met.ofW (cc := cX12_isSet) (maxL := 2) (ret := (some .boolean)) (by decide) rfl ?_
  intro p e s m args below meth c s₁ B hml hv
  obtain ⟨rfl, hv⟩ := hv
  have X : SX D cA base p s m ([.ref (ad a0), .int a1] : List Value).toArray meth c cX12_isSet 2 (some .boolean) RX12 := sx_of B hml hv
  have hG := hv.1
  have hS : va_S (bA base) s.heap s.heap [] := va_S.rf
  have hE := xT.rf σ
  have hl := lv_entry ([.ref (ad a0), .int a1]) (n := 2) (Nat.le_of_ble_eq_true rfl)
  rw [lg_entry_eq]
  generalize (lg_sl ([.ref (ad a0), .int a1]) ++ List.replicate (2 - (lg_sl ([.ref (ad a0), .int a1])).length) Slot.unset).toArray = ls at hl ⊢
  have hl : lv_has ls 2 [(0, .ref (ad a0)), (1, .int a1)] := hl
  unfold F_X12_isSet at hF
  refine lv_iload_n X.1 X.2.1 dX12_isSet_0 rfl (lv_at hl 1 rfl) ?_
  refine lv_i2l X.1 X.2.1 dX12_isSet_1 rfl ?_
  refine lv_lconst (v := 0) X.1 X.2.1 dX12_isSet_2 (by decide) ?_
  refine lv_iconst (v := 1) X.1 X.2.1 dX12_isSet_3 (by decide) ?_
  refine lv_aload_n X.1 X.2.1 dX12_isSet_4 rfl (lv_at hl 0 rfl) ?_
  obtain ⟨i1, hr, hF⟩ := b1_ex hF
  have hT_i1 : hT σ i1 13 := gw_T hG hT_a0 (by decide) hr
  refine gx_get 0 (v := .ref (ad i1)) X hG hT_a0.1 (hT_a0.eq (by decide)) (by decide) rfl inX12 (by decide) k_960 (fun _ h => h) (gx_rfv hr) dX12_isSet_5 ?_
  refine lv_iconst (v := 0) X.1 X.2.1 dX12_isSet_8 (by decide) ?_
  refine gx_iald X hG hT_i1 hF dX12_isSet_9 (fun hF => ?_)
  refine lv_ishl X.1 X.2.1 dX12_isSet_10 ?_
  refine lv_iconst (v := 1) X.1 X.2.1 dX12_isSet_11 (by decide) ?_
  refine lv_isub X.1 X.2.1 dX12_isSet_12 ?_
  refine lv_i2l X.1 X.2.1 dX12_isSet_13 rfl ?_
  obtain ⟨r3, σ2, hz, hF⟩ := b2_ex hF
  refine gx_rI (gx_runS (As := [.long a1.toInt64, .long 0, .long (((1 <<< ((hI σ i1 (0 : Int32).toNatClampNeg) &&& 31)) - 1).toInt64)]) (rest := []) X hG hS (c_X12_isIn l D cA base ad σ n a1.toInt64 0 (((1 <<< ((hI σ i1 (0 : Int32).toNatClampNeg) &&& 31)) - 1).toInt64)  hz) k_1063 k_1061 k_1062 k_4 (h_X12_isIn.2) rfl rfl ⟨by decide, by decide⟩ rfl hl.1 rfl (Nat.le_of_ble_eq_true rfl) dX12_isSet_14 ⟨Nat.zero_le _, Nat.zero_le _⟩) hS (fun H locs hG hS hX => ?_)
  have hT_a0 := hX.T hT_a0
  replace hE := hE.trans hX
  obtain ⟨hz01, hF⟩ := ck_ex hF
  exact gx_zret X hG hS hE hF (nz_b hz01) dX12_isSet_17
theorem c_X12_holds (l : Launch) (D : va_G) (cA : Nat → ClassId) (base : Nat) (ad : Nat → Nat) (σ : Hp) (n : Nat) (a0 : Nat) (a1 : Int32) (a2 : Int32) (hT_a0 : hT σ a0 12) {τ : Hp} {r : Int32} (hF : F_X12_holds n a0 a1 a2 σ = some (r, τ)) : MI l yX12_holds cX12_holds 3 (some .int) rm_X12_holds D cA base ad σ [.ref (ad a0), .int a1, .int a2] r τ := by
  refine Met.ofW (cc := cX12_holds) (maxL := 3) (ret := (some .int)) (by decide) rfl ?_
  intro p e s m args below meth c s₁ B hml hv
  obtain ⟨rfl, hv⟩ := hv
  have X : SX D cA base p s m ([.ref (ad a0), .int a1, .int a2] : List Value).toArray meth c cX12_holds 3 (some .int) RX12 := sx_of B hml hv
  have hG := hv.1
  have hS : va_S (bA base) s.heap s.heap [] := va_S.rf
  have hE := xT.rf σ
  have hl := lv_entry ([.ref (ad a0), .int a1, .int a2]) (n := 3) (Nat.le_of_ble_eq_true rfl)
  rw [lg_entry_eq]
  generalize (lg_sl ([.ref (ad a0), .int a1, .int a2]) ++ List.replicate (3 - (lg_sl ([.ref (ad a0), .int a1, .int a2])).length) Slot.unset).toArray = ls at hl ⊢
  have hl : lv_has ls 3 [(0, .ref (ad a0)), (1, .int a1), (2, .int a2)] := hl
  unfold F_X12_holds at hF
  refine lv_aload_n X.1 X.2.1 dX12_holds_0 rfl (lv_at hl 0 rfl) ?_
  refine lv_iload_n X.1 X.2.1 dX12_holds_1 rfl (lv_at hl 1 rfl) ?_
  obtain ⟨r2, σ1, hz, hF⟩ := b2_ex hF
  refine gx_rI (gx_runV (As := [.int a1]) (rest := []) X hG hS hT_a0.1 (hT_a0.eq (by decide)) (by decide) rfl (c_X12_isJuror l D cA base ad σ n a0 a1 hT_a0 hz) k_1081 k_1078 k_1080 ks_16 k_4 (h_X12_isJuror) rfl rfl ⟨by decide, by decide⟩ rfl hl.1 rfl (Nat.le_of_ble_eq_true rfl) dX12_holds_2 ⟨Nat.zero_le _, Nat.zero_le _⟩) hS (fun H locs hG hS hX => ?_)
  have hT_a0 := hX.T hT_a0
  replace hE := hE.trans hX
  refine lv_if_eq (tgt := 34) X.1 X.2.1 dX12_holds_5 (by decide) (fun hc => ?_) (fun hc => ?_)
  · replace hF := it_t hF hc
    refine lv_iconst (v := (-1)) X.1 X.2.1 dX12_holds_34 (by decide) ?_
    exact gx_iret X hG hS hE hF dX12_holds_35
  · replace hF := it_f hF hc
    refine lv_aload_n X.1 X.2.1 dX12_holds_8 rfl (lv_at hl 0 rfl) ?_
    refine lv_iload_n X.1 X.2.1 dX12_holds_9 rfl (lv_at hl 2 rfl) ?_
    obtain ⟨r4, σ3, hz, hF⟩ := b2_ex hF
    refine gx_rI (gx_runV (As := [.int a2]) (rest := []) X hG hS hT_a0.1 (hT_a0.eq (by decide)) (by decide) rfl (c_X12_isSet l D cA base ad σ1 n a0 a2 hT_a0 hz) k_1085 k_1082 k_1084 ks_17 k_4 (h_X12_isSet) rfl rfl ⟨by decide, by decide⟩ rfl hl.1 rfl (Nat.le_of_ble_eq_true rfl) dX12_holds_10 ⟨Nat.zero_le _, Nat.zero_le _⟩) hS (fun H locs hG hS hX => ?_)
    have hT_a0 := hX.T hT_a0
    replace hE := hE.trans hX
    refine lv_if_eq (tgt := 34) X.1 X.2.1 dX12_holds_13 (by decide) (fun hc => ?_) (fun hc => ?_)
    · replace hF := it_t hF hc
      refine lv_iconst (v := (-1)) X.1 X.2.1 dX12_holds_34 (by decide) ?_
      exact gx_iret X hG hS hE hF dX12_holds_35
    · replace hF := it_f hF hc
      refine lv_aload_n X.1 X.2.1 dX12_holds_16 rfl (lv_at hl 0 rfl) ?_
      refine lv_bipush (v := 19) X.1 X.2.1 dX12_holds_17 (by decide) ?_
      refine lv_bipush (v := 7) X.1 X.2.1 dX12_holds_19 (by decide) ?_
      refine lv_iload_n X.1 X.2.1 dX12_holds_21 rfl (lv_at hl 1 rfl) ?_
      refine lv_imul X.1 X.2.1 dX12_holds_22 ?_
      refine lv_iadd X.1 X.2.1 dX12_holds_23 ?_
      refine lv_bipush (v := 6) X.1 X.2.1 dX12_holds_24 (by decide) ?_
      refine lv_iadd X.1 X.2.1 dX12_holds_26 ?_
      refine lv_iload_n X.1 X.2.1 dX12_holds_27 rfl (lv_at hl 2 rfl) ?_
      obtain ⟨r6, σ5, hz, hF⟩ := b2_ex hF
      refine gx_rI (gx_runV (As := [.int ((19 + (7 * a1)) + 6), .int a2]) (rest := []) X hG hS hT_a0.1 (hT_a0.eq (by decide)) (by decide) rfl (c_X12_becomes l D cA base ad σ3 n a0 ((19 + (7 * a1)) + 6) a2 hT_a0 hz) k_1089 k_1086 k_1088 ks_18 k_4 (h_X12_becomes) rfl rfl ⟨by decide, by decide⟩ rfl hl.1 rfl (Nat.le_of_ble_eq_true rfl) dX12_holds_28 ⟨Nat.zero_le _, Nat.zero_le _⟩) hS (fun H locs hG hS hX => ?_)
      have hT_a0 := hX.T hT_a0
      replace hE := hE.trans hX
      refine lv_goto (tgt := 35) X.1 X.2.1 dX12_holds_31 (by decide) ?_
      exact gx_iret X hG hS hE hF dX12_holds_35
theorem c_X12_hasBegun (l : Launch) (D : va_G) (cA : Nat → ClassId) (base : Nat) (ad : Nat → Nat) (σ : Hp) (n : Nat) (a0 : Nat) (hT_a0 : hT σ a0 12) {τ : Hp} {r : Int32} (hF : F_X12_hasBegun n a0 σ = some (r, τ)) : MI l yX12_hasBegun cX12_hasBegun 1 (some .boolean) rm_X12_hasBegun D cA base ad σ [.ref (ad a0)] r τ := by
  refine Met.ofW (cc := cX12_hasBegun) (maxL := 1) (ret := (some .boolean)) (by decide) rfl ?_
  intro p e s m args below meth c s₁ B hml hv
  obtain ⟨rfl, hv⟩ := hv
  have X : SX D cA base p s m ([.ref (ad a0)] : List Value).toArray meth c cX12_hasBegun 1 (some .boolean) RX12 := sx_of B hml hv
  have hG := hv.1
  have hS : va_S (bA base) s.heap s.heap [] := va_S.rf
  have hE := xT.rf σ
  have hl := lv_entry ([.ref (ad a0)]) (n := 1) (Nat.le_of_ble_eq_true rfl)
  rw [lg_entry_eq]
  generalize (lg_sl ([.ref (ad a0)]) ++ List.replicate (1 - (lg_sl ([.ref (ad a0)])).length) Slot.unset).toArray = ls at hl ⊢
  have hl : lv_has ls 1 [(0, .ref (ad a0))] := hl
  unfold F_X12_hasBegun at hF
  refine lv_aload_n X.1 X.2.1 dX12_hasBegun_0 rfl (lv_at hl 0 rfl) ?_
  obtain ⟨i1, hr, hF⟩ := b1_ex hF
  have hT_i1 : hT σ i1 13 := gw_T hG hT_a0 (by decide) hr
  refine gx_get 4 (v := .ref (ad i1)) X hG hT_a0.1 (hT_a0.eq (by decide)) (by decide) rfl inX12 (by decide) k_964 (fun _ h => h) (gx_rfv hr) dX12_hasBegun_1 ?_
  refine lv_bipush (v := 6) X.1 X.2.1 dX12_hasBegun_4 (by decide) ?_
  refine gx_iald X hG hT_i1 hF dX12_hasBegun_6 (fun hF => ?_)
  refine lv_iconst (v := 1) X.1 X.2.1 dX12_hasBegun_7 (by decide) ?_
  refine lv_icmp_ne (tgt := 15) X.1 X.2.1 dX12_hasBegun_8 (by decide) (fun hc => ?_) (fun hc => ?_)
  · replace hF := it_f hF hc
    refine lv_iconst (v := 0) X.1 X.2.1 dX12_hasBegun_15 (by decide) ?_
    exact gx_zret X hG hS hE hF rfl dX12_hasBegun_16
  · replace hF := it_t hF hc
    refine lv_iconst (v := 1) X.1 X.2.1 dX12_hasBegun_11 (by decide) ?_
    refine lv_goto (tgt := 16) X.1 X.2.1 dX12_hasBegun_12 (by decide) ?_
    exact gx_zret X hG hS hE hF rfl dX12_hasBegun_16
theorem c_X12_of (l : Launch) (D : va_G) (cA : Nat → ClassId) (base : Nat) (ad : Nat → Nat) (σ : Hp) (n : Nat) (a0 : Nat) (a1 : Int32) (a2 : Int32) (hT_a0 : hT σ a0 12) {τ : Hp} {r : Int32} (hF : F_X12_of n a0 a1 a2 σ = some (r, τ)) : MI l yX12_of cX12_of 3 (some .int) rm_X12_of D cA base ad σ [.ref (ad a0), .int a1, .int a2] r τ := by
  refine Met.ofW (cc := cX12_of) (maxL := 3) (ret := (some .int)) (by decide) rfl ?_
  intro p e s m args below meth c s₁ B hml hv
  obtain ⟨rfl, hv⟩ := hv
  have X : SX D cA base p s m ([.ref (ad a0), .int a1, .int a2] : List Value).toArray meth c cX12_of 3 (some .int) RX12 := sx_of B hml hv
  have hG := hv.1
  have hS : va_S (bA base) s.heap s.heap [] := va_S.rf
  have hE := xT.rf σ
  have hl := lv_entry ([.ref (ad a0), .int a1, .int a2]) (n := 3) (Nat.le_of_ble_eq_true rfl)
  rw [lg_entry_eq]
  generalize (lg_sl ([.ref (ad a0), .int a1, .int a2]) ++ List.replicate (3 - (lg_sl ([.ref (ad a0), .int a1, .int a2])).length) Slot.unset).toArray = ls at hl ⊢
  have hl : lv_has ls 3 [(0, .ref (ad a0)), (1, .int a1), (2, .int a2)] := hl
  unfold F_X12_of at hF
  refine lv_aload_n X.1 X.2.1 dX12_of_0 rfl (lv_at hl 0 rfl) ?_
  refine lv_iload_n X.1 X.2.1 dX12_of_1 rfl (lv_at hl 1 rfl) ?_
  obtain ⟨r2, σ1, hz, hF⟩ := b2_ex hF
  refine gx_rI (gx_runV (As := [.int a1]) (rest := []) X hG hS hT_a0.1 (hT_a0.eq (by decide)) (by decide) rfl (c_X12_isJuror l D cA base ad σ n a0 a1 hT_a0 hz) k_1081 k_1078 k_1080 ks_16 k_4 (h_X12_isJuror) rfl rfl ⟨by decide, by decide⟩ rfl hl.1 rfl (Nat.le_of_ble_eq_true rfl) dX12_of_2 ⟨Nat.zero_le _, Nat.zero_le _⟩) hS (fun H locs hG hS hX => ?_)
  have hT_a0 := hX.T hT_a0
  replace hE := hE.trans hX
  refine lv_if_eq (tgt := 20) X.1 X.2.1 dX12_of_5 (by decide) (fun hc => ?_) (fun hc => ?_)
  · replace hF := it_t hF hc
    refine lv_ldc (v := (-1000000001)) X.1 X.2.1 X.2.2.2.2.2.1 (X.w k_1095) dX12_of_20 ?_
    exact gx_iret X hG hS hE hF dX12_of_22
  · replace hF := it_f hF hc
    refine lv_iload_n X.1 X.2.1 dX12_of_8 rfl (lv_at hl 2 rfl) ?_
    refine lv_i2l X.1 X.2.1 dX12_of_9 rfl ?_
    refine lv_lconst (v := 0) X.1 X.2.1 dX12_of_10 (by decide) ?_
    refine lv_ldc2 (v := 9) X.1 X.2.1 X.2.2.2.2.2.1 (X.w k_1094) dX12_of_11 ?_
    obtain ⟨r4, σ3, hz, hF⟩ := b2_ex hF
    refine gx_rI (gx_runS (As := [.long a2.toInt64, .long 0, .long 9]) (rest := []) X hG hS (c_X12_isIn l D cA base ad σ1 n a2.toInt64 0 9  hz) k_1063 k_1061 k_1062 k_4 (h_X12_isIn.2) rfl rfl ⟨by decide, by decide⟩ rfl hl.1 rfl (Nat.le_of_ble_eq_true rfl) dX12_of_14 ⟨Nat.zero_le _, Nat.zero_le _⟩) hS (fun H locs hG hS hX => ?_)
    have hT_a0 := hX.T hT_a0
    replace hE := hE.trans hX
    refine lv_if_ne (tgt := 23) X.1 X.2.1 dX12_of_17 (by decide) (fun hc => ?_) (fun hc => ?_)
    · replace hF := it_f hF hc
      refine lv_iload_n X.1 X.2.1 dX12_of_23 rfl (lv_at hl 2 rfl) ?_
      refine lv_bipush (v := 6) X.1 X.2.1 dX12_of_24 (by decide) ?_
      refine lv_icmp_ge (tgt := 36) X.1 X.2.1 dX12_of_26 (by decide) (fun hc => ?_) (fun hc => ?_)
      · replace hF := it_t hF hc
        refine lv_aload_n X.1 X.2.1 dX12_of_36 rfl (lv_at hl 0 rfl) ?_
        obtain ⟨r6, σ5, hz, hF⟩ := b2_ex hF
        refine gx_rI (gx_runV (As := []) (rest := []) X hG hS hT_a0.1 (hT_a0.eq (by decide)) (by decide) rfl (c_X12_hasBegun l D cA base ad σ3 n a0 hT_a0 hz) k_1103 k_1100 k_1102 ks_20 k_4 (h_X12_hasBegun) rfl rfl ⟨by decide, by decide⟩ rfl hl.1 rfl (Nat.le_of_ble_eq_true rfl) dX12_of_37 ⟨Nat.zero_le _, Nat.zero_le _⟩) hS (fun H locs hG hS hX => ?_)
        have hT_a0 := hX.T hT_a0
        replace hE := hE.trans hX
        refine lv_if_ne (tgt := 61) X.1 X.2.1 dX12_of_40 (by decide) (fun hc => ?_) (fun hc => ?_)
        · replace hF := it_f hF hc
          refine lv_iload_n X.1 X.2.1 dX12_of_61 rfl (lv_at hl 2 rfl) ?_
          by_cases hc0 : a2 = 6
          · replace hF := it_t hF hc0
            refine lv_tableIn (tgt := 88) X.1 X.2.1 dX12_of_62 (by rw [hc0]; decide) (by rw [hc0]; decide) (by rw [hc0]; rfl) (by decide) ?_
            refine lv_aload_n X.1 X.2.1 dX12_of_88 rfl (lv_at hl 0 rfl) ?_
            obtain ⟨i8, hr, hF⟩ := b1_ex hF
            have hT_i8 : hT σ5 i8 13 := gw_T hG hT_a0 (by decide) hr
            refine gx_get 4 (v := .ref (ad i8)) X hG hT_a0.1 (hT_a0.eq (by decide)) (by decide) rfl inX12 (by decide) k_964 (fun _ h => h) (gx_rfv hr) dX12_of_89 ?_
            refine lv_bipush (v := 19) X.1 X.2.1 dX12_of_92 (by decide) ?_
            refine lv_iload_n X.1 X.2.1 dX12_of_94 rfl (lv_at hl 1 rfl) ?_
            refine lv_iadd X.1 X.2.1 dX12_of_95 ?_
            refine gx_iald X hG hT_i8 hF dX12_of_96 (fun hF => ?_)
            exact gx_iret X hG hS hE hF dX12_of_97
          replace hF := it_f hF hc0
          by_cases hc1 : a2 = 7
          · replace hF := it_t hF hc1
            refine lv_tableIn (tgt := 98) X.1 X.2.1 dX12_of_62 (by rw [hc1]; decide) (by rw [hc1]; decide) (by rw [hc1]; rfl) (by decide) ?_
            refine lv_aload_n X.1 X.2.1 dX12_of_98 rfl (lv_at hl 0 rfl) ?_
            obtain ⟨i9, hr, hF⟩ := b1_ex hF
            have hT_i9 : hT σ5 i9 13 := gw_T hG hT_a0 (by decide) hr
            refine gx_get 4 (v := .ref (ad i9)) X hG hT_a0.1 (hT_a0.eq (by decide)) (by decide) rfl inX12 (by decide) k_964 (fun _ h => h) (gx_rfv hr) dX12_of_99 ?_
            refine lv_bipush (v := 31) X.1 X.2.1 dX12_of_102 (by decide) ?_
            refine lv_iload_n X.1 X.2.1 dX12_of_104 rfl (lv_at hl 1 rfl) ?_
            refine lv_iadd X.1 X.2.1 dX12_of_105 ?_
            refine gx_iald X hG hT_i9 hF dX12_of_106 (fun hF => ?_)
            exact gx_iret X hG hS hE hF dX12_of_107
          replace hF := it_f hF hc1
          by_cases hc2 : a2 = 8
          · replace hF := it_t hF hc2
            refine lv_tableIn (tgt := 108) X.1 X.2.1 dX12_of_62 (by rw [hc2]; decide) (by rw [hc2]; decide) (by rw [hc2]; rfl) (by decide) ?_
            refine lv_aload_n X.1 X.2.1 dX12_of_108 rfl (lv_at hl 0 rfl) ?_
            obtain ⟨i10, hr, hF⟩ := b1_ex hF
            have hT_i10 : hT σ5 i10 13 := gw_T hG hT_a0 (by decide) hr
            refine gx_get 4 (v := .ref (ad i10)) X hG hT_a0.1 (hT_a0.eq (by decide)) (by decide) rfl inX12 (by decide) k_964 (fun _ h => h) (gx_rfv hr) dX12_of_109 ?_
            refine lv_bipush (v := 43) X.1 X.2.1 dX12_of_112 (by decide) ?_
            refine lv_iload_n X.1 X.2.1 dX12_of_114 rfl (lv_at hl 1 rfl) ?_
            refine lv_iadd X.1 X.2.1 dX12_of_115 ?_
            refine gx_iald X hG hT_i10 hF dX12_of_116 (fun hF => ?_)
            exact gx_iret X hG hS hE hF dX12_of_117
          replace hF := it_f hF hc2
          have hz0 := ne_lit hc0 (z := 6) (by decide)
          have hz1 := ne_lit hc1 (z := 7) (by decide)
          have hz2 := ne_lit hc2 (z := 8) (by decide)
          refine lv_tableOut (tgt := 118) X.1 X.2.1 dX12_of_62 (by omega) (by decide) ?_
          refine lv_aload_n X.1 X.2.1 dX12_of_118 rfl (lv_at hl 0 rfl) ?_
          obtain ⟨i7, hr, hF⟩ := b1_ex hF
          have hT_i7 : hT σ5 i7 13 := gw_T hG hT_a0 (by decide) hr
          refine gx_get 4 (v := .ref (ad i7)) X hG hT_a0.1 (hT_a0.eq (by decide)) (by decide) rfl inX12 (by decide) k_964 (fun _ h => h) (gx_rfv hr) dX12_of_119 ?_
          refine lv_bipush (v := 55) X.1 X.2.1 dX12_of_122 (by decide) ?_
          refine lv_iload_n X.1 X.2.1 dX12_of_124 rfl (lv_at hl 1 rfl) ?_
          refine lv_iadd X.1 X.2.1 dX12_of_125 ?_
          refine gx_iald X hG hT_i7 hF dX12_of_126 (fun hF => ?_)
          refine lv_if_le (tgt := 134) X.1 X.2.1 dX12_of_127 (by decide) (fun hc => ?_) (fun hc => ?_)
          · replace hF := it_t hF hc
            refine lv_iconst (v := 0) X.1 X.2.1 dX12_of_134 (by decide) ?_
            exact gx_iret X hG hS hE hF dX12_of_135
          · replace hF := it_f hF hc
            refine lv_iconst (v := 1) X.1 X.2.1 dX12_of_130 (by decide) ?_
            refine lv_goto (tgt := 135) X.1 X.2.1 dX12_of_131 (by decide) ?_
            exact gx_iret X hG hS hE hF dX12_of_135
        · replace hF := it_t hF hc
          refine lv_iload_n X.1 X.2.1 dX12_of_43 rfl (lv_at hl 2 rfl) ?_
          refine lv_bipush (v := 6) X.1 X.2.1 dX12_of_44 (by decide) ?_
          refine lv_icmp_ne (tgt := 59) X.1 X.2.1 dX12_of_46 (by decide) (fun hc => ?_) (fun hc => ?_)
          · replace hF := it_f hF hc
            refine lv_iconst (v := 0) X.1 X.2.1 dX12_of_59 (by decide) ?_
            exact gx_iret X hG hS hE hF dX12_of_60
          · replace hF := it_t hF hc
            refine lv_aload_n X.1 X.2.1 dX12_of_49 rfl (lv_at hl 0 rfl) ?_
            refine lv_iload_n X.1 X.2.1 dX12_of_50 rfl (lv_at hl 1 rfl) ?_
            refine lv_bipush (v := 6) X.1 X.2.1 dX12_of_51 (by decide) ?_
            obtain ⟨r12, σ11, hz, hF⟩ := b2_ex hF
            refine gx_rI (gx_runV (As := [.int a1, .int 6]) (rest := []) X hG hS hT_a0.1 (hT_a0.eq (by decide)) (by decide) rfl (c_X12_get l D cA base ad σ5 n a0 a1 6 hT_a0 hz) k_1099 k_1096 k_1098 ks_19 k_4 (h_X12_get) rfl rfl ⟨by decide, by decide⟩ rfl hl.1 rfl (Nat.le_of_ble_eq_true rfl) dX12_of_53 ⟨Nat.zero_le _, Nat.zero_le _⟩) hS (fun H locs hG hS hX => ?_)
            have hT_a0 := hX.T hT_a0
            replace hE := hE.trans hX
            refine lv_goto (tgt := 60) X.1 X.2.1 dX12_of_56 (by decide) ?_
            exact gx_iret X hG hS hE hF dX12_of_60
      · replace hF := it_f hF hc
        refine lv_aload_n X.1 X.2.1 dX12_of_29 rfl (lv_at hl 0 rfl) ?_
        refine lv_iload_n X.1 X.2.1 dX12_of_30 rfl (lv_at hl 1 rfl) ?_
        refine lv_iload_n X.1 X.2.1 dX12_of_31 rfl (lv_at hl 2 rfl) ?_
        obtain ⟨r14, σ13, hz, hF⟩ := b2_ex hF
        refine gx_rI (gx_runV (As := [.int a1, .int a2]) (rest := []) X hG hS hT_a0.1 (hT_a0.eq (by decide)) (by decide) rfl (c_X12_get l D cA base ad σ3 n a0 a1 a2 hT_a0 hz) k_1099 k_1096 k_1098 ks_19 k_4 (h_X12_get) rfl rfl ⟨by decide, by decide⟩ rfl hl.1 rfl (Nat.le_of_ble_eq_true rfl) dX12_of_32 ⟨Nat.zero_le _, Nat.zero_le _⟩) hS (fun H locs hG hS hX => ?_)
        have hT_a0 := hX.T hT_a0
        replace hE := hE.trans hX
        exact gx_iret X hG hS hE hF dX12_of_35
    · replace hF := it_t hF hc
      refine lv_ldc (v := (-1000000001)) X.1 X.2.1 X.2.2.2.2.2.1 (X.w k_1095) dX12_of_20 ?_
      exact gx_iret X hG hS hE hF dX12_of_22
theorem c_X12_sign (l : Launch) (D : va_G) (cA : Nat → ClassId) (base : Nat) (ad : Nat → Nat) (σ : Hp) (n : Nat) (a0 : Nat) (hT_a0 : hT σ a0 12) {τ : Hp} {r : Int32} (hF : F_X12_sign n a0 σ = some (r, τ)) : MI l yX12_sign cX12_sign 1 (some .int) rm_X12_sign D cA base ad σ [.ref (ad a0)] r τ := by
  refine Met.ofW (cc := cX12_sign) (maxL := 1) (ret := (some .int)) (by decide) rfl ?_
  intro p e s m args below meth c s₁ B hml hv
  obtain ⟨rfl, hv⟩ := hv
  have X : SX D cA base p s m ([.ref (ad a0)] : List Value).toArray meth c cX12_sign 1 (some .int) RX12 := sx_of B hml hv
  have hG := hv.1
  have hS : va_S (bA base) s.heap s.heap [] := va_S.rf
  have hE := xT.rf σ
  have hl := lv_entry ([.ref (ad a0)]) (n := 1) (Nat.le_of_ble_eq_true rfl)
  rw [lg_entry_eq]
  generalize (lg_sl ([.ref (ad a0)]) ++ List.replicate (1 - (lg_sl ([.ref (ad a0)])).length) Slot.unset).toArray = ls at hl ⊢
  have hl : lv_has ls 1 [(0, .ref (ad a0))] := hl
  unfold F_X12_sign at hF
  refine lv_aload_n X.1 X.2.1 dX12_sign_0 rfl (lv_at hl 0 rfl) ?_
  refine gx_get 16 (v := .int (hI σ a0 16)) X hG hT_a0.1 (hT_a0.eq (by decide)) (by decide) rfl inX12 (by decide) k_976 (fun _ h => h) rfl dX12_sign_1 ?_
  refine lv_aload_n X.1 X.2.1 dX12_sign_4 rfl (lv_at hl 0 rfl) ?_
  refine gx_get 18 (v := .int (hI σ a0 18)) X hG hT_a0.1 (hT_a0.eq (by decide)) (by decide) rfl inX12 (by decide) k_978 (fun _ h => h) rfl dX12_sign_5 ?_
  refine lv_icmp_ge (tgt := 28) X.1 X.2.1 dX12_sign_8 (by decide) (fun hc => ?_) (fun hc => ?_)
  · replace hF := it_t hF hc
    refine lv_sipush (v := (-1000)) X.1 X.2.1 dX12_sign_28 (by decide) ?_
    exact gx_iret X hG hS hE hF dX12_sign_31
  · replace hF := it_f hF hc
    refine lv_aload_n X.1 X.2.1 dX12_sign_11 rfl (lv_at hl 0 rfl) ?_
    obtain ⟨i1, hr, hF⟩ := b1_ex hF
    have hT_i1 : hT σ i1 13 := gw_T hG hT_a0 (by decide) hr
    refine gx_get 15 (v := .ref (ad i1)) X hG hT_a0.1 (hT_a0.eq (by decide)) (by decide) rfl inX12 (by decide) k_975 (fun _ h => h) (gx_rfv hr) dX12_sign_12 ?_
    refine lv_aload_n X.1 X.2.1 dX12_sign_15 rfl (lv_at hl 0 rfl) ?_
    refine gx_get 17 (v := .int (hI σ a0 17)) X hG hT_a0.1 (hT_a0.eq (by decide)) (by decide) rfl inX12 (by decide) k_977 (fun _ h => h) rfl dX12_sign_16 ?_
    refine lv_aload_n X.1 X.2.1 dX12_sign_19 rfl (lv_at hl 0 rfl) ?_
    refine gx_get 16 (v := .int (hI σ a0 16)) X hG hT_a0.1 (hT_a0.eq (by decide)) (by decide) rfl inX12 (by decide) k_976 (fun _ h => h) rfl dX12_sign_20 ?_
    refine lv_iadd X.1 X.2.1 dX12_sign_23 ?_
    refine gx_iald X hG hT_i1 hF dX12_sign_24 (fun hF => ?_)
    refine lv_goto (tgt := 31) X.1 X.2.1 dX12_sign_25 (by decide) ?_
    exact gx_iret X hG hS hE hF dX12_sign_31
theorem c_X12_takes (l : Launch) (D : va_G) (cA : Nat → ClassId) (base : Nat) (ad : Nat → Nat) (σ : Hp) (n : Nat) (a0 : Nat) (a1 : Int32) (hT_a0 : hT σ a0 12) {τ : Hp} {r : Int32} (hF : F_X12_takes n a0 a1 σ = some (r, τ)) : MI l yX12_takes cX12_takes 2 (some .boolean) rm_X12_takes D cA base ad σ [.ref (ad a0), .int a1] r τ := by
  refine Met.ofW (cc := cX12_takes) (maxL := 2) (ret := (some .boolean)) (by decide) rfl ?_
  intro p e s m args below meth c s₁ B hml hv
  obtain ⟨rfl, hv⟩ := hv
  have X : SX D cA base p s m ([.ref (ad a0), .int a1] : List Value).toArray meth c cX12_takes 2 (some .boolean) RX12 := sx_of B hml hv
  have hG := hv.1
  have hS : va_S (bA base) s.heap s.heap [] := va_S.rf
  have hE := xT.rf σ
  have hl := lv_entry ([.ref (ad a0), .int a1]) (n := 2) (Nat.le_of_ble_eq_true rfl)
  rw [lg_entry_eq]
  generalize (lg_sl ([.ref (ad a0), .int a1]) ++ List.replicate (2 - (lg_sl ([.ref (ad a0), .int a1])).length) Slot.unset).toArray = ls at hl ⊢
  have hl : lv_has ls 2 [(0, .ref (ad a0)), (1, .int a1)] := hl
  unfold F_X12_takes at hF
  refine lv_aload_n X.1 X.2.1 dX12_takes_0 rfl (lv_at hl 0 rfl) ?_
  obtain ⟨r2, σ1, hz, hF⟩ := b2_ex hF
  refine gx_rI (gx_runV (As := []) (rest := []) X hG hS hT_a0.1 (hT_a0.eq (by decide)) (by decide) rfl (c_X12_sign l D cA base ad σ n a0 hT_a0 hz) k_1131 k_1128 k_1130 ks_25 k_4 (h_X12_sign) rfl rfl ⟨by decide, by decide⟩ rfl hl.1 rfl (Nat.le_of_ble_eq_true rfl) dX12_takes_1 ⟨Nat.zero_le _, Nat.zero_le _⟩) hS (fun H locs hG hS hX => ?_)
  have hT_a0 := hX.T hT_a0
  replace hE := hE.trans hX
  refine lv_iload_n X.1 X.2.1 dX12_takes_4 rfl (lv_at hl 1 rfl) ?_
  refine lv_icmp_eq (tgt := 10) X.1 X.2.1 dX12_takes_5 (by decide) (fun hc => ?_) (fun hc => ?_)
  · replace hF := it_t hF hc
    refine lv_aload_n X.1 X.2.1 dX12_takes_10 rfl (lv_at hl 0 rfl) ?_
    refine lv_dup X.1 X.2.1 dX12_takes_11 rfl ?_
    refine gx_get 16 (v := .int (hI σ1 a0 16)) X hG hT_a0.1 (hT_a0.eq (by decide)) (by decide) rfl inX12 (by decide) k_976 (fun _ h => h) rfl dX12_takes_12 ?_
    refine lv_iconst (v := 1) X.1 X.2.1 dX12_takes_15 (by decide) ?_
    refine lv_iadd X.1 X.2.1 dX12_takes_16 ?_
    refine gx_putI 16  X hG hS hT_a0.1 (hT_a0.eq (by decide)) (by decide) rfl inX12 tyX12_ok nmX12 (by decide) k_976 (fun _ h => h) rfl rfl rfl rfl (Nat.le_of_ble_eq_true rfl) dX12_takes_17 hF (fun σ3 H locs hG hS hX hF => ?_)
    have hT_a0 := hX.T hT_a0
    replace hE := hE.trans hX
    refine lv_iconst (v := 1) X.1 X.2.1 dX12_takes_20 (by decide) ?_
    exact gx_zret X hG hS hE hF rfl dX12_takes_21
  · replace hF := it_f hF hc
    refine lv_iconst (v := 0) X.1 X.2.1 dX12_takes_8 (by decide) ?_
    exact gx_zret X hG hS hE hF rfl dX12_takes_9
theorem w_X12_readsNumber_42 {σ0 τ : Hp} {r : Int32} (X : SX D cA base p s m args meth c cX12_readsNumber 2 (some .boolean) RX12) (n : Nat)  : ∀ f : Nat, ∀ (v0 : Nat) (v1 : Int32) (σ : Hp) (H : Heap) (locs : List Loc) (ls : Array Slot), hT σ v0 12 → GW D cA base ad σ H → va_S (bA base) s.heap H locs → xT σ0 σ → lv_has ls 2 [(0, .ref (ad v0)), (1, .int v1)] → F_X12_readsNumber_42 n  f v0 v1 σ = some (r, τ) → W p l e rm_X12_readsNumber s m args below meth c H locs 0 0 (ZI below s args D cA base ad σ0 r τ) (F0 m 42 ls []) := by
  intro f
  induction f with
  | zero => intro v0 v1 σ H locs ls h0 hG hS hE hl hF
            rw [F_X12_readsNumber_42] at hF; cases hF
  | succ f ih =>
    intro v0 v1 σ H locs ls hT_v0 hG hS hE hl hF
    rw [F_X12_readsNumber_42] at hF
    refine lv_iload_n X.1 X.2.1 dX12_readsNumber_42 rfl (lv_at hl 1 rfl) ?_
    refine lv_iconst (v := 3) X.1 X.2.1 dX12_readsNumber_43 (by decide) ?_
    refine lv_icmp_ge (tgt := 106) X.1 X.2.1 dX12_readsNumber_44 (by decide) (fun hc => ?_) (fun hc => ?_)
    · replace hF := it_t hF hc
      refine lv_iconst (v := 1) X.1 X.2.1 dX12_readsNumber_106 (by decide) ?_
      exact gx_zret X hG hS hE hF rfl dX12_readsNumber_107
    · replace hF := it_f hF hc
      refine lv_aload_n X.1 X.2.1 dX12_readsNumber_47 rfl (lv_at hl 0 rfl) ?_
      refine gx_get 20 (v := .int (hI σ v0 20)) X hG hT_v0.1 (hT_v0.eq (by decide)) (by decide) rfl inX12 (by decide) k_980 (fun _ h => h) rfl dX12_readsNumber_48 ?_
      refine lv_if_le (tgt := 106) X.1 X.2.1 dX12_readsNumber_51 (by decide) (fun hc => ?_) (fun hc => ?_)
      · replace hF := it_t hF hc
        refine lv_iconst (v := 1) X.1 X.2.1 dX12_readsNumber_106 (by decide) ?_
        exact gx_zret X hG hS hE hF rfl dX12_readsNumber_107
      · replace hF := it_f hF hc
        refine lv_aload_n X.1 X.2.1 dX12_readsNumber_54 rfl (lv_at hl 0 rfl) ?_
        obtain ⟨r2, σ1, hz, hF⟩ := b2_ex hF
        refine gx_rI (gx_runV (As := []) (rest := []) X hG hS hT_v0.1 (hT_v0.eq (by decide)) (by decide) rfl (c_X12_sign l D cA base ad σ n v0 hT_v0 hz) k_1131 k_1128 k_1130 ks_25 k_4 (h_X12_sign) rfl rfl ⟨by decide, by decide⟩ rfl hl.1 rfl (Nat.le_of_ble_eq_true rfl) dX12_readsNumber_55 ⟨Nat.zero_le _, Nat.zero_le _⟩) hS (fun H locs hG hS hX => ?_)
        have hT_v0 := hX.T hT_v0
        replace hE := hE.trans hX
        refine lv_i2l X.1 X.2.1 dX12_readsNumber_58 rfl ?_
        refine lv_ldc2 (v := 48) X.1 X.2.1 X.2.2.2.2.2.1 (X.w k_1143) dX12_readsNumber_59 ?_
        refine lv_ldc2 (v := 57) X.1 X.2.1 X.2.2.2.2.2.1 (X.w k_1144) dX12_readsNumber_62 ?_
        obtain ⟨r4, σ3, hz, hF⟩ := b2_ex hF
        refine gx_rI (gx_runS (As := [.long r2.toInt64, .long 48, .long 57]) (rest := []) X hG hS (c_X12_isIn l D cA base ad σ1 n r2.toInt64 48 57  hz) k_1063 k_1061 k_1062 k_4 (h_X12_isIn.2) rfl rfl ⟨by decide, by decide⟩ rfl hl.1 rfl (Nat.le_of_ble_eq_true rfl) dX12_readsNumber_65 ⟨Nat.zero_le _, Nat.zero_le _⟩) hS (fun H locs hG hS hX => ?_)
        have hT_v0 := hX.T hT_v0
        replace hE := hE.trans hX
        refine lv_if_eq (tgt := 106) X.1 X.2.1 dX12_readsNumber_68 (by decide) (fun hc => ?_) (fun hc => ?_)
        · replace hF := it_t hF hc
          refine lv_iconst (v := 1) X.1 X.2.1 dX12_readsNumber_106 (by decide) ?_
          exact gx_zret X hG hS hE hF rfl dX12_readsNumber_107
        · replace hF := it_f hF hc
          refine lv_aload_n X.1 X.2.1 dX12_readsNumber_71 rfl (lv_at hl 0 rfl) ?_
          refine lv_bipush (v := 10) X.1 X.2.1 dX12_readsNumber_72 (by decide) ?_
          refine lv_aload_n X.1 X.2.1 dX12_readsNumber_74 rfl (lv_at hl 0 rfl) ?_
          refine gx_get 20 (v := .int (hI σ3 v0 20)) X hG hT_v0.1 (hT_v0.eq (by decide)) (by decide) rfl inX12 (by decide) k_980 (fun _ h => h) rfl dX12_readsNumber_75 ?_
          refine lv_imul X.1 X.2.1 dX12_readsNumber_78 ?_
          refine lv_aload_n X.1 X.2.1 dX12_readsNumber_79 rfl (lv_at hl 0 rfl) ?_
          obtain ⟨r6, σ5, hz, hF⟩ := b2_ex hF
          refine gx_rI (gx_runV (As := []) (rest := [.int (10 * (hI σ3 v0 20)), .ref (ad v0)]) X hG hS hT_v0.1 (hT_v0.eq (by decide)) (by decide) rfl (c_X12_sign l D cA base ad σ3 n v0 hT_v0 hz) k_1131 k_1128 k_1130 ks_25 k_4 (h_X12_sign) rfl rfl ⟨by decide, by decide⟩ rfl hl.1 rfl (Nat.le_of_ble_eq_true rfl) dX12_readsNumber_80 ⟨Nat.zero_le _, Nat.zero_le _⟩) hS (fun H locs hG hS hX => ?_)
          have hT_v0 := hX.T hT_v0
          replace hE := hE.trans hX
          refine lv_iadd X.1 X.2.1 dX12_readsNumber_83 ?_
          refine lv_bipush (v := 48) X.1 X.2.1 dX12_readsNumber_84 (by decide) ?_
          refine lv_isub X.1 X.2.1 dX12_readsNumber_86 ?_
          refine gx_putI 20  X hG hS hT_v0.1 (hT_v0.eq (by decide)) (by decide) rfl inX12 tyX12_ok nmX12 (by decide) k_980 (fun _ h => h) rfl rfl rfl rfl (Nat.le_of_ble_eq_true rfl) dX12_readsNumber_87 hF (fun σ7 H locs hG hS hX hF => ?_)
          have hT_v0 := hX.T hT_v0
          replace hE := hE.trans hX
          refine lv_aload_n X.1 X.2.1 dX12_readsNumber_90 rfl (lv_at hl 0 rfl) ?_
          refine lv_dup X.1 X.2.1 dX12_readsNumber_91 rfl ?_
          refine gx_get 16 (v := .int (hI σ7 v0 16)) X hG hT_v0.1 (hT_v0.eq (by decide)) (by decide) rfl inX12 (by decide) k_976 (fun _ h => h) rfl dX12_readsNumber_92 ?_
          refine lv_iconst (v := 1) X.1 X.2.1 dX12_readsNumber_95 (by decide) ?_
          refine lv_iadd X.1 X.2.1 dX12_readsNumber_96 ?_
          refine gx_putI 16  X hG hS hT_v0.1 (hT_v0.eq (by decide)) (by decide) rfl inX12 tyX12_ok nmX12 (by decide) k_976 (fun _ h => h) rfl rfl rfl rfl (Nat.le_of_ble_eq_true rfl) dX12_readsNumber_97 hF (fun σ8 H locs hG hS hX hF => ?_)
          have hT_v0 := hX.T hT_v0
          replace hE := hE.trans hX
          refine lv_iinc (v := v1 + 1) (lv' := [(1, .int (v1 + 1)), (0, .ref (ad v0))]) X.1 X.2.1 dX12_readsNumber_100 hl (k := 1) rfl rfl (by decide) rfl (fun ls hl => ?_)
          refine lv_goto (tgt := 42) X.1 X.2.1 dX12_readsNumber_103 (by decide) ?_
          exact ih v0 (v1 + 1) σ8 _ _ ls hT_v0 hG hS hE (lv_sub hl [1, 0] rfl) hF
theorem c_X12_readsNumber (l : Launch) (D : va_G) (cA : Nat → ClassId) (base : Nat) (ad : Nat → Nat) (σ : Hp) (n : Nat) (a0 : Nat) (hT_a0 : hT σ a0 12) {τ : Hp} {r : Int32} (hF : F_X12_readsNumber n a0 σ = some (r, τ)) : MI l yX12_readsNumber cX12_readsNumber 2 (some .boolean) rm_X12_readsNumber D cA base ad σ [.ref (ad a0)] r τ := by
  refine Met.ofW (cc := cX12_readsNumber) (maxL := 2) (ret := (some .boolean)) (by decide) rfl ?_
  intro p e s m args below meth c s₁ B hml hv
  obtain ⟨rfl, hv⟩ := hv
  have X : SX D cA base p s m ([.ref (ad a0)] : List Value).toArray meth c cX12_readsNumber 2 (some .boolean) RX12 := sx_of B hml hv
  have hG := hv.1
  have hS : va_S (bA base) s.heap s.heap [] := va_S.rf
  have hE := xT.rf σ
  have hl := lv_entry ([.ref (ad a0)]) (n := 2) (Nat.le_of_ble_eq_true rfl)
  rw [lg_entry_eq]
  generalize (lg_sl ([.ref (ad a0)]) ++ List.replicate (2 - (lg_sl ([.ref (ad a0)])).length) Slot.unset).toArray = ls at hl ⊢
  have hl : lv_has ls 2 [(0, .ref (ad a0))] := hl
  unfold F_X12_readsNumber at hF
  refine lv_aload_n X.1 X.2.1 dX12_readsNumber_0 rfl (lv_at hl 0 rfl) ?_
  obtain ⟨r10, σ9, hz, hF⟩ := b2_ex hF
  refine gx_rI (gx_runV (As := []) (rest := []) X hG hS hT_a0.1 (hT_a0.eq (by decide)) (by decide) rfl (c_X12_sign l D cA base ad σ n a0 hT_a0 hz) k_1131 k_1128 k_1130 ks_25 k_4 (h_X12_sign) rfl rfl ⟨by decide, by decide⟩ rfl hl.1 rfl (Nat.le_of_ble_eq_true rfl) dX12_readsNumber_1 ⟨Nat.zero_le _, Nat.zero_le _⟩) hS (fun H locs hG hS hX => ?_)
  have hT_a0 := hX.T hT_a0
  replace hE := hE.trans hX
  refine lv_i2l X.1 X.2.1 dX12_readsNumber_4 rfl ?_
  refine lv_ldc2 (v := 48) X.1 X.2.1 X.2.2.2.2.2.1 (X.w k_1143) dX12_readsNumber_5 ?_
  refine lv_ldc2 (v := 57) X.1 X.2.1 X.2.2.2.2.2.1 (X.w k_1144) dX12_readsNumber_8 ?_
  obtain ⟨r12, σ11, hz, hF⟩ := b2_ex hF
  refine gx_rI (gx_runS (As := [.long r10.toInt64, .long 48, .long 57]) (rest := []) X hG hS (c_X12_isIn l D cA base ad σ9 n r10.toInt64 48 57  hz) k_1063 k_1061 k_1062 k_4 (h_X12_isIn.2) rfl rfl ⟨by decide, by decide⟩ rfl hl.1 rfl (Nat.le_of_ble_eq_true rfl) dX12_readsNumber_11 ⟨Nat.zero_le _, Nat.zero_le _⟩) hS (fun H locs hG hS hX => ?_)
  have hT_a0 := hX.T hT_a0
  replace hE := hE.trans hX
  refine lv_if_ne (tgt := 19) X.1 X.2.1 dX12_readsNumber_14 (by decide) (fun hc => ?_) (fun hc => ?_)
  · replace hF := it_f hF hc
    refine lv_aload_n X.1 X.2.1 dX12_readsNumber_19 rfl (lv_at hl 0 rfl) ?_
    refine lv_aload_n X.1 X.2.1 dX12_readsNumber_20 rfl (lv_at hl 0 rfl) ?_
    obtain ⟨r14, σ13, hz, hF⟩ := b2_ex hF
    refine gx_rI (gx_runV (As := []) (rest := [.ref (ad a0)]) X hG hS hT_a0.1 (hT_a0.eq (by decide)) (by decide) rfl (c_X12_sign l D cA base ad σ11 n a0 hT_a0 hz) k_1131 k_1128 k_1130 ks_25 k_4 (h_X12_sign) rfl rfl ⟨by decide, by decide⟩ rfl hl.1 rfl (Nat.le_of_ble_eq_true rfl) dX12_readsNumber_21 ⟨Nat.zero_le _, Nat.zero_le _⟩) hS (fun H locs hG hS hX => ?_)
    have hT_a0 := hX.T hT_a0
    replace hE := hE.trans hX
    refine lv_bipush (v := 48) X.1 X.2.1 dX12_readsNumber_24 (by decide) ?_
    refine lv_isub X.1 X.2.1 dX12_readsNumber_26 ?_
    refine gx_putI 20  X hG hS hT_a0.1 (hT_a0.eq (by decide)) (by decide) rfl inX12 tyX12_ok nmX12 (by decide) k_980 (fun _ h => h) rfl rfl rfl rfl (Nat.le_of_ble_eq_true rfl) dX12_readsNumber_27 hF (fun σ15 H locs hG hS hX hF => ?_)
    have hT_a0 := hX.T hT_a0
    replace hE := hE.trans hX
    refine lv_aload_n X.1 X.2.1 dX12_readsNumber_30 rfl (lv_at hl 0 rfl) ?_
    refine lv_dup X.1 X.2.1 dX12_readsNumber_31 rfl ?_
    refine gx_get 16 (v := .int (hI σ15 a0 16)) X hG hT_a0.1 (hT_a0.eq (by decide)) (by decide) rfl inX12 (by decide) k_976 (fun _ h => h) rfl dX12_readsNumber_32 ?_
    refine lv_iconst (v := 1) X.1 X.2.1 dX12_readsNumber_35 (by decide) ?_
    refine lv_iadd X.1 X.2.1 dX12_readsNumber_36 ?_
    refine gx_putI 16  X hG hS hT_a0.1 (hT_a0.eq (by decide)) (by decide) rfl inX12 tyX12_ok nmX12 (by decide) k_976 (fun _ h => h) rfl rfl rfl rfl (Nat.le_of_ble_eq_true rfl) dX12_readsNumber_37 hF (fun σ16 H locs hG hS hX hF => ?_)
    have hT_a0 := hX.T hT_a0
    replace hE := hE.trans hX
    refine lv_iconst (v := 1) X.1 X.2.1 dX12_readsNumber_40 (by decide) ?_
    refine lv_istore_n (lv' := [(1, .int 1), (0, .ref (ad a0))]) X.1 X.2.1 dX12_readsNumber_41 rfl hl (by decide) rfl (fun ls hl => ?_)
    exact w_X12_readsNumber_42 X n  n a0 1 σ16 _ _ ls hT_a0 hG hS hE (lv_sub hl [1, 0] rfl) hF
  · replace hF := it_t hF hc
    refine lv_iconst (v := 0) X.1 X.2.1 dX12_readsNumber_17 (by decide) ?_
    exact gx_zret X hG hS hE hF rfl dX12_readsNumber_18
theorem w_X12_isField_30 {σ0 τ : Hp} {r : Int32} (X : SX D cA base p s m args meth c cX12_isField 1 (some .boolean) RX12) (n : Nat)  : ∀  (σ : Hp) (H : Heap) (locs : List Loc) (ls : Array Slot), GW D cA base ad σ H → va_S (bA base) s.heap H locs → xT σ0 σ → lv_has ls 1 [] → F_X12_isField_30 n  σ = some (r, τ) → W p l e rm_X12_isField s m args below meth c H locs 0 0 (ZI below s args D cA base ad σ0 r τ) (F0 m 30 ls []) := by
  intro σ H locs ls hG hS hE hl hF
  unfold F_X12_isField_30 at hF
  refine lv_iconst (v := 1) X.1 X.2.1 dX12_isField_30 (by decide) ?_
  refine lv_goto (tgt := 35) X.1 X.2.1 dX12_isField_31 (by decide) ?_
  exact gx_zret X hG hS hE hF rfl dX12_isField_35
theorem c_X12_isField (l : Launch) (D : va_G) (cA : Nat → ClassId) (base : Nat) (ad : Nat → Nat) (σ : Hp) (n : Nat) (a0 : Int32)  {τ : Hp} {r : Int32} (hF : F_X12_isField n a0 σ = some (r, τ)) : MI l yX12_isField cX12_isField 1 (some .boolean) rm_X12_isField D cA base ad σ [.int a0] r τ := by
  refine Met.ofW (cc := cX12_isField) (maxL := 1) (ret := (some .boolean)) (by decide) rfl ?_
  intro p e s m args below meth c s₁ B hml hv
  obtain ⟨rfl, hv⟩ := hv
  have X : SX D cA base p s m ([.int a0] : List Value).toArray meth c cX12_isField 1 (some .boolean) RX12 := sx_of B hml hv
  have hG := hv.1
  have hS : va_S (bA base) s.heap s.heap [] := va_S.rf
  have hE := xT.rf σ
  have hl := lv_entry ([.int a0]) (n := 1) (Nat.le_of_ble_eq_true rfl)
  rw [lg_entry_eq]
  generalize (lg_sl ([.int a0]) ++ List.replicate (1 - (lg_sl ([.int a0])).length) Slot.unset).toArray = ls at hl ⊢
  have hl : lv_has ls 1 [(0, .int a0)] := hl
  unfold F_X12_isField at hF
  refine lv_iload_n X.1 X.2.1 dX12_isField_0 rfl (lv_at hl 0 rfl) ?_
  refine lv_bipush (v := 116) X.1 X.2.1 dX12_isField_1 (by decide) ?_
  refine lv_icmp_eq (tgt := 30) X.1 X.2.1 dX12_isField_3 (by decide) (fun hc => ?_) (fun hc => ?_)
  · replace hF := it_t hF hc
    exact w_X12_isField_30 X n  σ _ _ ls  hG hS hE (lv_sub hl [] rfl) hF
  · replace hF := it_f hF hc
    refine lv_iload_n X.1 X.2.1 dX12_isField_6 rfl (lv_at hl 0 rfl) ?_
    refine lv_bipush (v := 112) X.1 X.2.1 dX12_isField_7 (by decide) ?_
    refine lv_icmp_eq (tgt := 30) X.1 X.2.1 dX12_isField_9 (by decide) (fun hc => ?_) (fun hc => ?_)
    · replace hF := it_t hF hc
      exact w_X12_isField_30 X n  σ _ _ ls  hG hS hE (lv_sub hl [] rfl) hF
    · replace hF := it_f hF hc
      refine lv_iload_n X.1 X.2.1 dX12_isField_12 rfl (lv_at hl 0 rfl) ?_
      refine lv_bipush (v := 121) X.1 X.2.1 dX12_isField_13 (by decide) ?_
      refine lv_icmp_eq (tgt := 30) X.1 X.2.1 dX12_isField_15 (by decide) (fun hc => ?_) (fun hc => ?_)
      · replace hF := it_t hF hc
        exact w_X12_isField_30 X n  σ _ _ ls  hG hS hE (lv_sub hl [] rfl) hF
      · replace hF := it_f hF hc
        refine lv_iload_n X.1 X.2.1 dX12_isField_18 rfl (lv_at hl 0 rfl) ?_
        refine lv_bipush (v := 110) X.1 X.2.1 dX12_isField_19 (by decide) ?_
        refine lv_icmp_eq (tgt := 30) X.1 X.2.1 dX12_isField_21 (by decide) (fun hc => ?_) (fun hc => ?_)
        · replace hF := it_t hF hc
          exact w_X12_isField_30 X n  σ _ _ ls  hG hS hE (lv_sub hl [] rfl) hF
        · replace hF := it_f hF hc
          refine lv_iload_n X.1 X.2.1 dX12_isField_24 rfl (lv_at hl 0 rfl) ?_
          refine lv_bipush (v := 109) X.1 X.2.1 dX12_isField_25 (by decide) ?_
          refine lv_icmp_ne (tgt := 34) X.1 X.2.1 dX12_isField_27 (by decide) (fun hc => ?_) (fun hc => ?_)
          · replace hF := it_f hF hc
            refine lv_iconst (v := 0) X.1 X.2.1 dX12_isField_34 (by decide) ?_
            exact gx_zret X hG hS hE hF rfl dX12_isField_35
          · replace hF := it_t hF hc
            exact w_X12_isField_30 X n  σ _ _ ls  hG hS hE (lv_sub hl [] rfl) hF
theorem w_X12_wrongRow_49 {σ0 τ : Hp} {r : Int32} (X : SX D cA base p s m args meth c cX12_wrongRow 3 (some .int) RX12) (n : Nat)  : ∀  (σ : Hp) (H : Heap) (locs : List Loc) (ls : Array Slot), GW D cA base ad σ H → va_S (bA base) s.heap H locs → xT σ0 σ → lv_has ls 3 [] → F_X12_wrongRow_49 n  σ = some (r, τ) → W p l e rm_X12_wrongRow s m args below meth c H locs 0 0 (ZI below s args D cA base ad σ0 r τ) (F0 m 49 ls []) := by
  intro σ H locs ls hG hS hE hl hF
  unfold F_X12_wrongRow_49 at hF
  refine lv_bipush (v := (-12)) X.1 X.2.1 dX12_wrongRow_49 (by decide) ?_
  refine lv_goto (tgt := 55) X.1 X.2.1 dX12_wrongRow_51 (by decide) ?_
  exact gx_iret X hG hS hE hF dX12_wrongRow_55
theorem c_X12_wrongRow (l : Launch) (D : va_G) (cA : Nat → ClassId) (base : Nat) (ad : Nat → Nat) (σ : Hp) (n : Nat) (a0 : Nat) (a1 : Int32) (a2 : Int32) (hT_a0 : hT σ a0 12) {τ : Hp} {r : Int32} (hF : F_X12_wrongRow n a0 a1 a2 σ = some (r, τ)) : MI l yX12_wrongRow cX12_wrongRow 3 (some .int) rm_X12_wrongRow D cA base ad σ [.ref (ad a0), .int a1, .int a2] r τ := by
  refine Met.ofW (cc := cX12_wrongRow) (maxL := 3) (ret := (some .int)) (by decide) rfl ?_
  intro p e s m args below meth c s₁ B hml hv
  obtain ⟨rfl, hv⟩ := hv
  have X : SX D cA base p s m ([.ref (ad a0), .int a1, .int a2] : List Value).toArray meth c cX12_wrongRow 3 (some .int) RX12 := sx_of B hml hv
  have hG := hv.1
  have hS : va_S (bA base) s.heap s.heap [] := va_S.rf
  have hE := xT.rf σ
  have hl := lv_entry ([.ref (ad a0), .int a1, .int a2]) (n := 3) (Nat.le_of_ble_eq_true rfl)
  rw [lg_entry_eq]
  generalize (lg_sl ([.ref (ad a0), .int a1, .int a2]) ++ List.replicate (3 - (lg_sl ([.ref (ad a0), .int a1, .int a2])).length) Slot.unset).toArray = ls at hl ⊢
  have hl : lv_has ls 3 [(0, .ref (ad a0)), (1, .int a1), (2, .int a2)] := hl
  unfold F_X12_wrongRow at hF
  refine lv_iload_n X.1 X.2.1 dX12_wrongRow_0 rfl (lv_at hl 1 rfl) ?_
  obtain ⟨r2, σ1, hz, hF⟩ := b2_ex hF
  refine gx_rI (gx_runS (As := [.int a1]) (rest := []) X hG hS (c_X12_isShelf l D cA base ad σ n a1  hz) k_1110 k_1108 k_1109 k_4 (h_X12_isShelf.2) rfl rfl ⟨by decide, by decide⟩ rfl hl.1 rfl (Nat.le_of_ble_eq_true rfl) dX12_wrongRow_1 ⟨Nat.zero_le _, Nat.zero_le _⟩) hS (fun H locs hG hS hX => ?_)
  have hT_a0 := hX.T hT_a0
  replace hE := hE.trans hX
  refine lv_if_ne (tgt := 11) X.1 X.2.1 dX12_wrongRow_4 (by decide) (fun hc => ?_) (fun hc => ?_)
  · replace hF := it_f hF hc
    refine lv_aload_n X.1 X.2.1 dX12_wrongRow_11 rfl (lv_at hl 0 rfl) ?_
    obtain ⟨i3, hr, hF⟩ := b1_ex hF
    have hT_i3 : hT σ1 i3 13 := gw_T hG hT_a0 (by decide) hr
    refine gx_get 7 (v := .ref (ad i3)) X hG hT_a0.1 (hT_a0.eq (by decide)) (by decide) rfl inX12 (by decide) k_967 (fun _ h => h) (gx_rfv hr) dX12_wrongRow_12 ?_
    refine lv_iload_n X.1 X.2.1 dX12_wrongRow_15 rfl (lv_at hl 1 rfl) ?_
    refine gx_iald X hG hT_i3 hF dX12_wrongRow_16 (fun hF => ?_)
    refine lv_if_ne (tgt := 25) X.1 X.2.1 dX12_wrongRow_17 (by decide) (fun hc => ?_) (fun hc => ?_)
    · replace hF := it_f hF hc
      refine lv_aload_n X.1 X.2.1 dX12_wrongRow_25 rfl (lv_at hl 0 rfl) ?_
      obtain ⟨i4, hr, hF⟩ := b1_ex hF
      have hT_i4 : hT σ1 i4 13 := gw_T hG hT_a0 (by decide) hr
      refine gx_get 7 (v := .ref (ad i4)) X hG hT_a0.1 (hT_a0.eq (by decide)) (by decide) rfl inX12 (by decide) k_967 (fun _ h => h) (gx_rfv hr) dX12_wrongRow_26 ?_
      refine lv_iload_n X.1 X.2.1 dX12_wrongRow_29 rfl (lv_at hl 1 rfl) ?_
      refine gx_iald X hG hT_i4 hF dX12_wrongRow_30 (fun hF => ?_)
      refine lv_iconst (v := 2) X.1 X.2.1 dX12_wrongRow_31 (by decide) ?_
      refine lv_icmp_ne (tgt := 49) X.1 X.2.1 dX12_wrongRow_32 (by decide) (fun hc => ?_) (fun hc => ?_)
      · replace hF := it_f hF hc
        exact w_X12_wrongRow_49 X n  σ1 _ _ ls  hG hS hE (lv_sub hl [] rfl) hF
      · replace hF := it_t hF hc
        refine lv_iload_n X.1 X.2.1 dX12_wrongRow_35 rfl (lv_at hl 2 rfl) ?_
        refine lv_if_lt (tgt := 54) X.1 X.2.1 dX12_wrongRow_36 (by decide) (fun hc => ?_) (fun hc => ?_)
        · replace hF := it_t hF hc
          refine lv_iconst (v := 0) X.1 X.2.1 dX12_wrongRow_54 (by decide) ?_
          exact gx_iret X hG hS hE hF dX12_wrongRow_55
        · replace hF := it_f hF hc
          refine lv_aload_n X.1 X.2.1 dX12_wrongRow_39 rfl (lv_at hl 0 rfl) ?_
          obtain ⟨i5, hr, hF⟩ := b1_ex hF
          have hT_i5 : hT σ1 i5 13 := gw_T hG hT_a0 (by decide) hr
          refine gx_get 8 (v := .ref (ad i5)) X hG hT_a0.1 (hT_a0.eq (by decide)) (by decide) rfl inX12 (by decide) k_968 (fun _ h => h) (gx_rfv hr) dX12_wrongRow_40 ?_
          refine lv_iload_n X.1 X.2.1 dX12_wrongRow_43 rfl (lv_at hl 1 rfl) ?_
          refine gx_iald X hG hT_i5 hF dX12_wrongRow_44 (fun hF => ?_)
          refine lv_iload_n X.1 X.2.1 dX12_wrongRow_45 rfl (lv_at hl 2 rfl) ?_
          refine lv_icmp_eq (tgt := 54) X.1 X.2.1 dX12_wrongRow_46 (by decide) (fun hc => ?_) (fun hc => ?_)
          · replace hF := it_t hF hc
            refine lv_iconst (v := 0) X.1 X.2.1 dX12_wrongRow_54 (by decide) ?_
            exact gx_iret X hG hS hE hF dX12_wrongRow_55
          · replace hF := it_f hF hc
            exact w_X12_wrongRow_49 X n  σ1 _ _ ls  hG hS hE (lv_sub hl [] rfl) hF
    · replace hF := it_t hF hc
      refine lv_bipush (v := (-11)) X.1 X.2.1 dX12_wrongRow_20 (by decide) ?_
      refine lv_goto (tgt := 55) X.1 X.2.1 dX12_wrongRow_22 (by decide) ?_
      exact gx_iret X hG hS hE hF dX12_wrongRow_55
  · replace hF := it_t hF hc
    refine lv_iconst (v := (-1)) X.1 X.2.1 dX12_wrongRow_7 (by decide) ?_
    refine lv_goto (tgt := 55) X.1 X.2.1 dX12_wrongRow_8 (by decide) ?_
    exact gx_iret X hG hS hE hF dX12_wrongRow_55
end W_model1
