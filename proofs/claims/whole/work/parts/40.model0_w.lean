/-! model0: printed by wip/whole/gen.py -/
section W_model0
variable {p : Program} {l : Launch} {e : Env} {s : State} {m : MethodId} {args : Array Value} {below : List Frame} {meth : Method} {c : Code} {D : va_G} {cA : Nat → ClassId} {base : Nat} {ad : Nat → Nat}
abbrev rm_X12_thrown : Room := { frames := 0, cells := 0, slots := 0, locals := 0 }
theorem h_X12_thrown : yX12_thrown.cls = RX12 ∧ yX12_thrown.cls ≠ "java/lang/invoke/MethodHandle" ∧ yX12_thrown.cls ≠ "java/lang/invoke/VarHandle" ∧ (parseMethodDescriptor yX12_thrown.desc).map (fun d => d.parameters.length) = some 0 := by decide +kernel
def F_X12_thrown (n : Nat) (a0 : Nat) (σ : Hp) : Option (Int32 × Hp) := some (hI σ a0 14, σ)
abbrev rm_X12_isIn : Room := { frames := 0, cells := 0, slots := 0, locals := 0 }
theorem h_X12_isIn : yX12_isIn.cls = RX12 ∧ yX12_isIn.cls ≠ "java/lang/invoke/MethodHandle" ∧ yX12_isIn.cls ≠ "java/lang/invoke/VarHandle" ∧ (parseMethodDescriptor yX12_isIn.desc).map (fun d => d.parameters.length) = some 3 := by decide +kernel
def F_X12_isIn (n : Nat) (a0 : Int64) (a2 : Int64) (a4 : Int64) (σ : Hp) : Option (Int32 × Hp) := if (lg_cmp a0 a2) < 0 then (some (0, σ)) else (if 0 < (lg_cmp a0 a4) then (some (0, σ)) else (some (1, σ)))
abbrev rm_X12_isJuror : Room := { frames := 1, cells := 0, slots := 0, locals := 25 }
theorem h_X12_isJuror : yX12_isJuror.cls = RX12 ∧ yX12_isJuror.cls ≠ "java/lang/invoke/MethodHandle" ∧ yX12_isJuror.cls ≠ "java/lang/invoke/VarHandle" ∧ (parseMethodDescriptor yX12_isJuror.desc).map (fun d => d.parameters.length) = some 1 := by decide +kernel
def F_X12_isJuror (n : Nat) (a0 : Nat) (a1 : Int32) (σ : Hp) : Option (Int32 × Hp) := b1 (hR σ a0 0) fun (i1 : Nat) => ck (¬ ((1 : Int32) < 0 ∨ hL σ i1 ≤ (1 : Int32).toNatClampNeg)) (b2 (F_X12_isIn n a1.toInt64 0 (((hI σ i1 (1 : Int32).toNatClampNeg) - 1).toInt64) σ) fun (r3 : Int32) (σ2 : Hp) => ck (r3 = 0 ∨ r3 = 1) (some (r3, σ2)))
abbrev rm_X12_isShelf : Room := { frames := 1, cells := 0, slots := 0, locals := 25 }
theorem h_X12_isShelf : yX12_isShelf.cls = RX12 ∧ yX12_isShelf.cls ≠ "java/lang/invoke/MethodHandle" ∧ yX12_isShelf.cls ≠ "java/lang/invoke/VarHandle" ∧ (parseMethodDescriptor yX12_isShelf.desc).map (fun d => d.parameters.length) = some 1 := by decide +kernel
def F_X12_isShelf (n : Nat) (a0 : Int32) (σ : Hp) : Option (Int32 × Hp) := b2 (F_X12_isIn n a0.toInt64 0 7 σ) fun (r2 : Int32) (σ1 : Hp) => ck (r2 = 0 ∨ r2 = 1) (some (r2, σ1))
abbrev rm_X12_get : Room := { frames := 0, cells := 0, slots := 0, locals := 0 }
theorem h_X12_get : yX12_get.cls = RX12 ∧ yX12_get.cls ≠ "java/lang/invoke/MethodHandle" ∧ yX12_get.cls ≠ "java/lang/invoke/VarHandle" ∧ (parseMethodDescriptor yX12_get.desc).map (fun d => d.parameters.length) = some 2 := by decide +kernel
def F_X12_get (n : Nat) (a0 : Nat) (a1 : Int32) (a2 : Int32) (σ : Hp) : Option (Int32 × Hp) := b1 (hR σ a0 0) fun (i1 : Nat) => ck (¬ (((19 + (7 * a1)) + a2) < 0 ∨ hL σ i1 ≤ ((19 + (7 * a1)) + a2).toNatClampNeg)) (some (hI σ i1 ((19 + (7 * a1)) + a2).toNatClampNeg, σ))
abbrev rm_X12_becomes : Room := { frames := 0, cells := 0, slots := 0, locals := 0 }
theorem h_X12_becomes : yX12_becomes.cls = RX12 ∧ yX12_becomes.cls ≠ "java/lang/invoke/MethodHandle" ∧ yX12_becomes.cls ≠ "java/lang/invoke/VarHandle" ∧ (parseMethodDescriptor yX12_becomes.desc).map (fun d => d.parameters.length) = some 2 := by decide +kernel
def F_X12_becomes (n : Nat) (a0 : Nat) (a1 : Int32) (a2 : Int32) (σ : Hp) : Option (Int32 × Hp) := b1 (hR σ a0 0) fun (i1 : Nat) => ck (¬ (a1 < 0 ∨ hL σ i1 ≤ a1.toNatClampNeg)) (b1 (hR σ a0 0) fun (i2 : Nat) => ck (¬ (a1 < 0 ∨ hL σ i2 ≤ a1.toNatClampNeg)) (lt (pI σ i2 a1.toNatClampNeg a2) fun (σ3 : Hp) => some (hI σ i1 a1.toNatClampNeg, σ3)))
abbrev rm_X12_bits : Room := { frames := 0, cells := 0, slots := 0, locals := 0 }
theorem h_X12_bits : yX12_bits.cls = RX12 ∧ yX12_bits.cls ≠ "java/lang/invoke/MethodHandle" ∧ yX12_bits.cls ≠ "java/lang/invoke/VarHandle" ∧ (parseMethodDescriptor yX12_bits.desc).map (fun d => d.parameters.length) = some 1 := by decide +kernel
def F_X12_bits_4 (n : Nat)  : Nat → Int32 → Int32 → Hp → Option (Int32 × Hp)
  | 0, _, _, _ => none
  | f + 1, v1, v2, σ => if v2 ≤ 0 then (some (v1, σ)) else ((F_X12_bits_4 n  f) (v1 + (v2 &&& 1)) (v2 >>> (1 &&& 31)) σ)
def F_X12_bits (n : Nat) (a0 : Int32) (σ : Hp) : Option (Int32 × Hp) := F_X12_bits_4 n  n 0 a0 σ
abbrev rm_X12_thing : Room := { frames := 1, cells := 0, slots := 0, locals := 25 }
theorem h_X12_thing : yX12_thing.cls = RX12 ∧ yX12_thing.cls ≠ "java/lang/invoke/MethodHandle" ∧ yX12_thing.cls ≠ "java/lang/invoke/VarHandle" ∧ (parseMethodDescriptor yX12_thing.desc).map (fun d => d.parameters.length) = some 1 := by decide +kernel
def F_X12_thing (n : Nat) (a0 : Nat) (a1 : Int32) (σ : Hp) : Option (Int32 × Hp) := b2 (F_X12_isIn n a1.toInt64 (-20) 20 σ) fun (r2 : Int32) (σ1 : Hp) => if r2 = 0 then (some ((-1), σ1)) else (b1 (hR σ1 a0 0) fun (i3 : Nat) => ck (¬ ((0 : Int32) < 0 ∨ hL σ1 i3 ≤ (0 : Int32).toNatClampNeg)) (if (hI σ1 i3 (0 : Int32).toNatClampNeg) = 12 then (some ((-2), σ1)) else (b1 (hR σ1 a0 0) fun (i4 : Nat) => b1 (hR σ1 a0 0) fun (i5 : Nat) => ck (¬ ((0 : Int32) < 0 ∨ hL σ1 i5 ≤ (0 : Int32).toNatClampNeg)) (ck (¬ ((7 + (hI σ1 i5 (0 : Int32).toNatClampNeg)) < 0 ∨ hL σ1 i4 ≤ (7 + (hI σ1 i5 (0 : Int32).toNatClampNeg)).toNatClampNeg)) (lt (pI σ1 i4 (7 + (hI σ1 i5 (0 : Int32).toNatClampNeg)).toNatClampNeg a1) fun (σ6 : Hp) => b1 (hR σ6 a0 0) fun (i7 : Nat) => ck (¬ ((0 : Int32) < 0 ∨ hL σ6 i7 ≤ (0 : Int32).toNatClampNeg)) (ck (¬ ((0 : Int32) < 0 ∨ hL σ6 i7 ≤ (0 : Int32).toNatClampNeg)) (lt (pI σ6 i7 (0 : Int32).toNatClampNeg ((hI σ6 i7 (0 : Int32).toNatClampNeg) + 1)) fun (σ8 : Hp) => b1 (hR σ8 a0 0) fun (i9 : Nat) => ck (¬ ((0 : Int32) < 0 ∨ hL σ8 i9 ≤ (0 : Int32).toNatClampNeg)) (some ((hI σ8 i9 (0 : Int32).toNatClampNeg) - 1, σ8)))))))))
abbrev rm_X12_juror : Room := { frames := 1, cells := 0, slots := 0, locals := 25 }
theorem h_X12_juror : yX12_juror.cls = RX12 ∧ yX12_juror.cls ≠ "java/lang/invoke/MethodHandle" ∧ yX12_juror.cls ≠ "java/lang/invoke/VarHandle" ∧ (parseMethodDescriptor yX12_juror.desc).map (fun d => d.parameters.length) = some 4 := by decide +kernel
def F_X12_juror (n : Nat) (a0 : Nat) (a1 : Int32) (a2 : Int32) (a3 : Int32) (a4 : Int32) (σ : Hp) : Option (Int32 × Hp) := b2 (F_X12_isIn n a1.toInt64 0 7999 σ) fun (r2 : Int32) (σ1 : Hp) => if r2 = 0 then (some ((-1), σ1)) else (b2 (F_X12_isIn n ((a1 - a1 / 100 * 100).toInt64) 1 30 σ1) fun (r4 : Int32) (σ3 : Hp) => if r4 = 0 then (some ((-1), σ3)) else (b2 (F_X12_isIn n a2.toInt64 (-99) 99 σ3) fun (r6 : Int32) (σ5 : Hp) => if r6 = 0 then (some ((-1), σ5)) else (b2 (F_X12_isIn n a3.toInt64 0 999 σ5) fun (r8 : Int32) (σ7 : Hp) => if r8 = 0 then (some ((-1), σ7)) else (b1 (hR σ7 a0 0) fun (i9 : Nat) => ck (¬ ((2 : Int32) < 0 ∨ hL σ7 i9 ≤ (2 : Int32).toNatClampNeg)) (b2 (F_X12_isIn n a4.toInt64 (-1) (((hI σ7 i9 (2 : Int32).toNatClampNeg) - 1).toInt64) σ7) fun (r11 : Int32) (σ10 : Hp) => if r11 = 0 then (some ((-1), σ10)) else (b1 (hR σ10 a0 0) fun (i12 : Nat) => ck (¬ ((1 : Int32) < 0 ∨ hL σ10 i12 ≤ (1 : Int32).toNatClampNeg)) (if (hI σ10 i12 (1 : Int32).toNatClampNeg) = 12 then (some ((-2), σ10)) else (b1 (hR σ10 a0 0) fun (i13 : Nat) => ck (¬ ((1 : Int32) < 0 ∨ hL σ10 i13 ≤ (1 : Int32).toNatClampNeg)) (lt (19 + (7 * (hI σ10 i13 (1 : Int32).toNatClampNeg))) fun (x14 : Int32) => b1 (hR σ10 a0 0) fun (i15 : Nat) => ck (¬ (x14 < 0 ∨ hL σ10 i15 ≤ x14.toNatClampNeg)) (lt (pI σ10 i15 x14.toNatClampNeg (a1 / 1000)) fun (σ16 : Hp) => b1 (hR σ16 a0 0) fun (i17 : Nat) => ck (¬ ((x14 + 1) < 0 ∨ hL σ16 i17 ≤ (x14 + 1).toNatClampNeg)) (lt (pI σ16 i17 (x14 + 1).toNatClampNeg ((a1 / 100) - (a1 / 100) / 10 * 10)) fun (σ18 : Hp) => b1 (hR σ18 a0 0) fun (i19 : Nat) => ck (¬ ((x14 + 2) < 0 ∨ hL σ18 i19 ≤ (x14 + 2).toNatClampNeg)) (lt (pI σ18 i19 (x14 + 2).toNatClampNeg (a1 - a1 / 100 * 100)) fun (σ20 : Hp) => b1 (hR σ20 a0 0) fun (i21 : Nat) => ck (¬ ((x14 + 3) < 0 ∨ hL σ20 i21 ≤ (x14 + 3).toNatClampNeg)) (lt (pI σ20 i21 (x14 + 3).toNatClampNeg a2) fun (σ22 : Hp) => b1 (hR σ22 a0 0) fun (i23 : Nat) => ck (¬ ((x14 + 4) < 0 ∨ hL σ22 i23 ≤ (x14 + 4).toNatClampNeg)) (lt (pI σ22 i23 (x14 + 4).toNatClampNeg a3) fun (σ24 : Hp) => b1 (hR σ24 a0 0) fun (i25 : Nat) => ck (¬ ((x14 + 5) < 0 ∨ hL σ24 i25 ≤ (x14 + 5).toNatClampNeg)) (lt (pI σ24 i25 (x14 + 5).toNatClampNeg a4) fun (σ26 : Hp) => b1 (hR σ26 a0 0) fun (i27 : Nat) => ck (¬ ((x14 + 6) < 0 ∨ hL σ26 i27 ≤ (x14 + 6).toNatClampNeg)) (lt (pI σ26 i27 (x14 + 6).toNatClampNeg 0) fun (σ28 : Hp) => b1 (hR σ28 a0 0) fun (i29 : Nat) => ck (¬ ((1 : Int32) < 0 ∨ hL σ28 i29 ≤ (1 : Int32).toNatClampNeg)) (ck (¬ ((1 : Int32) < 0 ∨ hL σ28 i29 ≤ (1 : Int32).toNatClampNeg)) (lt (pI σ28 i29 (1 : Int32).toNatClampNeg ((hI σ28 i29 (1 : Int32).toNatClampNeg) + 1)) fun (σ30 : Hp) => b1 (hR σ30 a0 4) fun (i31 : Nat) => ck (¬ ((6 : Int32) < 0 ∨ hL σ30 i31 ≤ (6 : Int32).toNatClampNeg)) (lt (pI σ30 i31 (6 : Int32).toNatClampNeg 0) fun (σ32 : Hp) => b1 (hR σ32 a0 0) fun (i33 : Nat) => ck (¬ ((1 : Int32) < 0 ∨ hL σ32 i33 ≤ (1 : Int32).toNatClampNeg)) (some ((hI σ32 i33 (1 : Int32).toNatClampNeg) - 1, σ32)))))))))))))))))))))
theorem c_X12_thrown (l : Launch) (D : va_G) (cA : Nat → ClassId) (base : Nat) (ad : Nat → Nat) (σ : Hp) (n : Nat) (a0 : Nat) (hT_a0 : hT σ a0 12) {τ : Hp} {r : Int32} (hF : F_X12_thrown n a0 σ = some (r, τ)) : MI l yX12_thrown cX12_thrown 1 (some .int) rm_X12_thrown D cA base ad σ [.ref (ad a0)] r τ := by
  refine Met.ofW (cc := cX12_thrown) (maxL := 1) (ret := (some .int)) (by decide) rfl ?_
  intro p e s m args below meth c s₁ B hml hv
  obtain ⟨rfl, hv⟩ := hv
  have X : SX D cA base p s m ([.ref (ad a0)] : List Value).toArray meth c cX12_thrown 1 (some .int) RX12 := sx_of B hml hv
  have hG := hv.1
  have hS : va_S (bA base) s.heap s.heap [] := va_S.rf
  have hE := xT.rf σ
  have hl := lv_entry ([.ref (ad a0)]) (n := 1) (Nat.le_of_ble_eq_true rfl)
  rw [lg_entry_eq]
  generalize (lg_sl ([.ref (ad a0)]) ++ List.replicate (1 - (lg_sl ([.ref (ad a0)])).length) Slot.unset).toArray = ls at hl ⊢
  have hl : lv_has ls 1 [(0, .ref (ad a0))] := hl
  unfold F_X12_thrown at hF
  refine lv_aload_n X.1 X.2.1 dX12_thrown_0 rfl (lv_at hl 0 rfl) ?_
  refine gx_get 14 (v := .int (hI σ a0 14)) X hG hT_a0.1 (hT_a0.eq (by decide)) (by decide) rfl inX12 (by decide) k_974 (fun _ h => h) rfl dX12_thrown_1 ?_
  exact gx_iret X hG hS hE hF dX12_thrown_4
theorem c_X12_isIn (l : Launch) (D : va_G) (cA : Nat → ClassId) (base : Nat) (ad : Nat → Nat) (σ : Hp) (n : Nat) (a0 : Int64) (a2 : Int64) (a4 : Int64)  {τ : Hp} {r : Int32} (hF : F_X12_isIn n a0 a2 a4 σ = some (r, τ)) : MI l yX12_isIn cX12_isIn 6 (some .boolean) rm_X12_isIn D cA base ad σ [.long a0, .long a2, .long a4] r τ := by
  refine Met.ofW (cc := cX12_isIn) (maxL := 6) (ret := (some .boolean)) (by decide) rfl ?_
  intro p e s m args below meth c s₁ B hml hv
  obtain ⟨rfl, hv⟩ := hv
  have X : SX D cA base p s m ([.long a0, .long a2, .long a4] : List Value).toArray meth c cX12_isIn 6 (some .boolean) RX12 := sx_of B hml hv
  have hG := hv.1
  have hS : va_S (bA base) s.heap s.heap [] := va_S.rf
  have hE := xT.rf σ
  have hl := lv_entry ([.long a0, .long a2, .long a4]) (n := 6) (Nat.le_of_ble_eq_true rfl)
  rw [lg_entry_eq]
  generalize (lg_sl ([.long a0, .long a2, .long a4]) ++ List.replicate (6 - (lg_sl ([.long a0, .long a2, .long a4])).length) Slot.unset).toArray = ls at hl ⊢
  have hl : lv_has ls 6 [(0, .long a0), (2, .long a2), (4, .long a4)] := hl
  unfold F_X12_isIn at hF
  refine lv_lload_n X.1 X.2.1 dX12_isIn_0 rfl (lv_at hl 0 rfl) ?_
  refine lv_lload_n X.1 X.2.1 dX12_isIn_1 rfl (lv_at hl 1 rfl) ?_
  refine W.lcmp X.1 X.2.1 dX12_isIn_2 ?_
  refine lv_if_lt (tgt := 17) X.1 X.2.1 dX12_isIn_3 (by decide) (fun hc => ?_) (fun hc => ?_)
  · replace hF := it_t hF hc
    refine lv_iconst (v := 0) X.1 X.2.1 dX12_isIn_17 (by decide) ?_
    exact gx_zret X hG hS hE hF rfl dX12_isIn_18
  · replace hF := it_f hF hc
    refine lv_lload_n X.1 X.2.1 dX12_isIn_6 rfl (lv_at hl 0 rfl) ?_
    refine lv_lload X.1 X.2.1 dX12_isIn_7 (lv_at hl 2 rfl) ?_
    refine W.lcmp X.1 X.2.1 dX12_isIn_9 ?_
    refine lv_if_gt (tgt := 17) X.1 X.2.1 dX12_isIn_10 (by decide) (fun hc => ?_) (fun hc => ?_)
    · replace hF := it_t hF hc
      refine lv_iconst (v := 0) X.1 X.2.1 dX12_isIn_17 (by decide) ?_
      exact gx_zret X hG hS hE hF rfl dX12_isIn_18
    · replace hF := it_f hF hc
      refine lv_iconst (v := 1) X.1 X.2.1 dX12_isIn_13 (by decide) ?_
      refine lv_goto (tgt := 18) X.1 X.2.1 dX12_isIn_14 (by decide) ?_
      exact gx_zret X hG hS hE hF rfl dX12_isIn_18
theorem c_X12_isJuror (l : Launch) (D : va_G) (cA : Nat → ClassId) (base : Nat) (ad : Nat → Nat) (σ : Hp) (n : Nat) (a0 : Nat) (a1 : Int32) (hT_a0 : hT σ a0 12) {τ : Hp} {r : Int32} (hF : F_X12_isJuror n a0 a1 σ = some (r, τ)) : MI l yX12_isJuror cX12_isJuror 2 (some .boolean) rm_X12_isJuror D cA base ad σ [.ref (ad a0), .int a1] r τ := by
  refine Met.ofW (cc := cX12_isJuror) (maxL := 2) (ret := (some .boolean)) (by decide) rfl ?_
  intro p e s m args below meth c s₁ B hml hv
  obtain ⟨rfl, hv⟩ := hv
  have X : SX D cA base p s m ([.ref (ad a0), .int a1] : List Value).toArray meth c cX12_isJuror 2 (some .boolean) RX12 := sx_of B hml hv
  have hG := hv.1
  have hS : va_S (bA base) s.heap s.heap [] := va_S.rf
  have hE := xT.rf σ
  have hl := lv_entry ([.ref (ad a0), .int a1]) (n := 2) (Nat.le_of_ble_eq_true rfl)
  rw [lg_entry_eq]
  generalize (lg_sl ([.ref (ad a0), .int a1]) ++ List.replicate (2 - (lg_sl ([.ref (ad a0), .int a1])).length) Slot.unset).toArray = ls at hl ⊢
  have hl : lv_has ls 2 [(0, .ref (ad a0)), (1, .int a1)] := hl
  unfold F_X12_isJuror at hF
  refine lv_iload_n X.1 X.2.1 dX12_isJuror_0 rfl (lv_at hl 1 rfl) ?_
  refine lv_i2l X.1 X.2.1 dX12_isJuror_1 rfl ?_
  refine lv_lconst (v := 0) X.1 X.2.1 dX12_isJuror_2 (by decide) ?_
  refine lv_aload_n X.1 X.2.1 dX12_isJuror_3 rfl (lv_at hl 0 rfl) ?_
  obtain ⟨i1, hr, hF⟩ := b1_ex hF
  have hT_i1 : hT σ i1 13 := gw_T hG hT_a0 (by decide) hr
  refine gx_get 0 (v := .ref (ad i1)) X hG hT_a0.1 (hT_a0.eq (by decide)) (by decide) rfl inX12 (by decide) k_960 (fun _ h => h) (gx_rfv hr) dX12_isJuror_4 ?_
  refine lv_iconst (v := 1) X.1 X.2.1 dX12_isJuror_7 (by decide) ?_
  refine gx_iald X hG hT_i1 hF dX12_isJuror_8 (fun hF => ?_)
  refine lv_iconst (v := 1) X.1 X.2.1 dX12_isJuror_9 (by decide) ?_
  refine lv_isub X.1 X.2.1 dX12_isJuror_10 ?_
  refine lv_i2l X.1 X.2.1 dX12_isJuror_11 rfl ?_
  obtain ⟨r3, σ2, hz, hF⟩ := b2_ex hF
  refine gx_rI (gx_runS (As := [.long a1.toInt64, .long 0, .long (((hI σ i1 (1 : Int32).toNatClampNeg) - 1).toInt64)]) (rest := []) X hG hS (c_X12_isIn l D cA base ad σ n a1.toInt64 0 (((hI σ i1 (1 : Int32).toNatClampNeg) - 1).toInt64)  hz) k_1063 k_1061 k_1062 k_4 (h_X12_isIn.2) rfl rfl ⟨by decide, by decide⟩ rfl hl.1 rfl (Nat.le_of_ble_eq_true rfl) dX12_isJuror_12 ⟨Nat.zero_le _, Nat.zero_le _⟩) hS (fun H locs hG hS hX => ?_)
  have hT_a0 := hX.T hT_a0
  replace hE := hE.trans hX
  obtain ⟨hz01, hF⟩ := ck_ex hF
  exact gx_zret X hG hS hE hF (nz_b hz01) dX12_isJuror_15
theorem c_X12_isShelf (l : Launch) (D : va_G) (cA : Nat → ClassId) (base : Nat) (ad : Nat → Nat) (σ : Hp) (n : Nat) (a0 : Int32)  {τ : Hp} {r : Int32} (hF : F_X12_isShelf n a0 σ = some (r, τ)) : MI l yX12_isShelf cX12_isShelf 1 (some .boolean) rm_X12_isShelf D cA base ad σ [.int a0] r τ := by
  refine Met.ofW (cc := cX12_isShelf) (maxL := 1) (ret := (some .boolean)) (by decide) rfl ?_
  intro p e s m args below meth c s₁ B hml hv
  obtain ⟨rfl, hv⟩ := hv
  have X : SX D cA base p s m ([.int a0] : List Value).toArray meth c cX12_isShelf 1 (some .boolean) RX12 := sx_of B hml hv
  have hG := hv.1
  have hS : va_S (bA base) s.heap s.heap [] := va_S.rf
  have hE := xT.rf σ
  have hl := lv_entry ([.int a0]) (n := 1) (Nat.le_of_ble_eq_true rfl)
  rw [lg_entry_eq]
  generalize (lg_sl ([.int a0]) ++ List.replicate (1 - (lg_sl ([.int a0])).length) Slot.unset).toArray = ls at hl ⊢
  have hl : lv_has ls 1 [(0, .int a0)] := hl
  unfold F_X12_isShelf at hF
  refine lv_iload_n X.1 X.2.1 dX12_isShelf_0 rfl (lv_at hl 0 rfl) ?_
  refine lv_i2l X.1 X.2.1 dX12_isShelf_1 rfl ?_
  refine lv_lconst (v := 0) X.1 X.2.1 dX12_isShelf_2 (by decide) ?_
  refine lv_ldc2 (v := 7) X.1 X.2.1 X.2.2.2.2.2.1 (X.w k_1111) dX12_isShelf_3 ?_
  obtain ⟨r2, σ1, hz, hF⟩ := b2_ex hF
  refine gx_rI (gx_runS (As := [.long a0.toInt64, .long 0, .long 7]) (rest := []) X hG hS (c_X12_isIn l D cA base ad σ n a0.toInt64 0 7  hz) k_1063 k_1061 k_1062 k_4 (h_X12_isIn.2) rfl rfl ⟨by decide, by decide⟩ rfl hl.1 rfl (Nat.le_of_ble_eq_true rfl) dX12_isShelf_6 ⟨Nat.zero_le _, Nat.zero_le _⟩) hS (fun H locs hG hS hX => ?_)
  replace hE := hE.trans hX
  obtain ⟨hz01, hF⟩ := ck_ex hF
  exact gx_zret X hG hS hE hF (nz_b hz01) dX12_isShelf_9
theorem c_X12_get (l : Launch) (D : va_G) (cA : Nat → ClassId) (base : Nat) (ad : Nat → Nat) (σ : Hp) (n : Nat) (a0 : Nat) (a1 : Int32) (a2 : Int32) (hT_a0 : hT σ a0 12) {τ : Hp} {r : Int32} (hF : F_X12_get n a0 a1 a2 σ = some (r, τ)) : MI l yX12_get cX12_get 3 (some .int) rm_X12_get D cA base ad σ [.ref (ad a0), .int a1, .int a2] r τ := by
  refine Met.ofW (cc := cX12_get) (maxL := 3) (ret := (some .int)) (by decide) rfl ?_
  intro p e s m args below meth c s₁ B hml hv
  obtain ⟨rfl, hv⟩ := hv
  have X : SX D cA base p s m ([.ref (ad a0), .int a1, .int a2] : List Value).toArray meth c cX12_get 3 (some .int) RX12 := sx_of B hml hv
  have hG := hv.1
  have hS : va_S (bA base) s.heap s.heap [] := va_S.rf
  have hE := xT.rf σ
  have hl := lv_entry ([.ref (ad a0), .int a1, .int a2]) (n := 3) (Nat.le_of_ble_eq_true rfl)
  rw [lg_entry_eq]
  generalize (lg_sl ([.ref (ad a0), .int a1, .int a2]) ++ List.replicate (3 - (lg_sl ([.ref (ad a0), .int a1, .int a2])).length) Slot.unset).toArray = ls at hl ⊢
  have hl : lv_has ls 3 [(0, .ref (ad a0)), (1, .int a1), (2, .int a2)] := hl
  unfold F_X12_get at hF
  refine lv_aload_n X.1 X.2.1 dX12_get_0 rfl (lv_at hl 0 rfl) ?_
  obtain ⟨i1, hr, hF⟩ := b1_ex hF
  have hT_i1 : hT σ i1 13 := gw_T hG hT_a0 (by decide) hr
  refine gx_get 0 (v := .ref (ad i1)) X hG hT_a0.1 (hT_a0.eq (by decide)) (by decide) rfl inX12 (by decide) k_960 (fun _ h => h) (gx_rfv hr) dX12_get_1 ?_
  refine lv_bipush (v := 19) X.1 X.2.1 dX12_get_4 (by decide) ?_
  refine lv_bipush (v := 7) X.1 X.2.1 dX12_get_6 (by decide) ?_
  refine lv_iload_n X.1 X.2.1 dX12_get_8 rfl (lv_at hl 1 rfl) ?_
  refine lv_imul X.1 X.2.1 dX12_get_9 ?_
  refine lv_iadd X.1 X.2.1 dX12_get_10 ?_
  refine lv_iload_n X.1 X.2.1 dX12_get_11 rfl (lv_at hl 2 rfl) ?_
  refine lv_iadd X.1 X.2.1 dX12_get_12 ?_
  refine gx_iald X hG hT_i1 hF dX12_get_13 (fun hF => ?_)
  exact gx_iret X hG hS hE hF dX12_get_14
theorem c_X12_becomes (l : Launch) (D : va_G) (cA : Nat → ClassId) (base : Nat) (ad : Nat → Nat) (σ : Hp) (n : Nat) (a0 : Nat) (a1 : Int32) (a2 : Int32) (hT_a0 : hT σ a0 12) {τ : Hp} {r : Int32} (hF : F_X12_becomes n a0 a1 a2 σ = some (r, τ)) : MI l yX12_becomes cX12_becomes 4 (some .int) rm_X12_becomes D cA base ad σ [.ref (ad a0), .int a1, .int a2] r τ := by
  refine Met.ofW (cc := cX12_becomes) (maxL := 4) (ret := (some .int)) (by decide) rfl ?_
  intro p e s m args below meth c s₁ B hml hv
  obtain ⟨rfl, hv⟩ := hv
  have X : SX D cA base p s m ([.ref (ad a0), .int a1, .int a2] : List Value).toArray meth c cX12_becomes 4 (some .int) RX12 := sx_of B hml hv
  have hG := hv.1
  have hS : va_S (bA base) s.heap s.heap [] := va_S.rf
  have hE := xT.rf σ
  have hl := lv_entry ([.ref (ad a0), .int a1, .int a2]) (n := 4) (Nat.le_of_ble_eq_true rfl)
  rw [lg_entry_eq]
  generalize (lg_sl ([.ref (ad a0), .int a1, .int a2]) ++ List.replicate (4 - (lg_sl ([.ref (ad a0), .int a1, .int a2])).length) Slot.unset).toArray = ls at hl ⊢
  have hl : lv_has ls 4 [(0, .ref (ad a0)), (1, .int a1), (2, .int a2)] := hl
  unfold F_X12_becomes at hF
  refine lv_aload_n X.1 X.2.1 dX12_becomes_0 rfl (lv_at hl 0 rfl) ?_
  obtain ⟨i1, hr, hF⟩ := b1_ex hF
  have hT_i1 : hT σ i1 13 := gw_T hG hT_a0 (by decide) hr
  refine gx_get 0 (v := .ref (ad i1)) X hG hT_a0.1 (hT_a0.eq (by decide)) (by decide) rfl inX12 (by decide) k_960 (fun _ h => h) (gx_rfv hr) dX12_becomes_1 ?_
  refine lv_iload_n X.1 X.2.1 dX12_becomes_4 rfl (lv_at hl 1 rfl) ?_
  refine gx_iald X hG hT_i1 hF dX12_becomes_5 (fun hF => ?_)
  refine lv_istore_n (lv' := [(3, .int (hI σ i1 a1.toNatClampNeg)), (0, .ref (ad a0)), (1, .int a1), (2, .int a2)]) X.1 X.2.1 dX12_becomes_6 rfl hl (by decide) rfl (fun ls hl => ?_)
  refine lv_aload_n X.1 X.2.1 dX12_becomes_7 rfl (lv_at hl 1 rfl) ?_
  obtain ⟨i2, hr, hF⟩ := b1_ex hF
  have hT_i2 : hT σ i2 13 := gw_T hG hT_a0 (by decide) hr
  refine gx_get 0 (v := .ref (ad i2)) X hG hT_a0.1 (hT_a0.eq (by decide)) (by decide) rfl inX12 (by decide) k_960 (fun _ h => h) (gx_rfv hr) dX12_becomes_8 ?_
  refine lv_iload_n X.1 X.2.1 dX12_becomes_11 rfl (lv_at hl 2 rfl) ?_
  refine lv_iload_n X.1 X.2.1 dX12_becomes_12 rfl (lv_at hl 3 rfl) ?_
  refine gx_iast X hG hS hT_i2 hF dX12_becomes_13 (fun σ3 H locs hG hS hX hF => ?_)
  have hT_a0 := hX.T hT_a0
  replace hE := hE.trans hX
  refine lv_iload_n X.1 X.2.1 dX12_becomes_14 rfl (lv_at hl 0 rfl) ?_
  exact gx_iret X hG hS hE hF dX12_becomes_15
theorem w_X12_bits_4 {σ0 τ : Hp} {r : Int32} (X : SX D cA base p s m args meth c cX12_bits 3 (some .int) RX12) (n : Nat)  : ∀ f : Nat, ∀ (v1 : Int32) (v2 : Int32) (σ : Hp) (H : Heap) (locs : List Loc) (ls : Array Slot), GW D cA base ad σ H → va_S (bA base) s.heap H locs → xT σ0 σ → lv_has ls 3 [(1, .int v1), (2, .int v2)] → F_X12_bits_4 n  f v1 v2 σ = some (r, τ) → W p l e rm_X12_bits s m args below meth c H locs 0 0 (ZI below s args D cA base ad σ0 r τ) (F0 m 4 ls []) := by
  intro f
  induction f with
  | zero => intro v1 v2 σ H locs ls hG hS hE hl hF
            rw [F_X12_bits_4] at hF; cases hF
  | succ f ih =>
    intro v1 v2 σ H locs ls hG hS hE hl hF
    rw [F_X12_bits_4] at hF
    refine lv_iload_n X.1 X.2.1 dX12_bits_4 rfl (lv_at hl 1 rfl) ?_
    refine lv_if_le (tgt := 21) X.1 X.2.1 dX12_bits_5 (by decide) (fun hc => ?_) (fun hc => ?_)
    · replace hF := it_t hF hc
      refine lv_iload_n X.1 X.2.1 dX12_bits_21 rfl (lv_at hl 0 rfl) ?_
      exact gx_iret X hG hS hE hF dX12_bits_22
    · replace hF := it_f hF hc
      refine lv_iload_n X.1 X.2.1 dX12_bits_8 rfl (lv_at hl 0 rfl) ?_
      refine lv_iload_n X.1 X.2.1 dX12_bits_9 rfl (lv_at hl 1 rfl) ?_
      refine lv_iconst (v := 1) X.1 X.2.1 dX12_bits_10 (by decide) ?_
      refine lv_iand X.1 X.2.1 dX12_bits_11 ?_
      refine lv_iadd X.1 X.2.1 dX12_bits_12 ?_
      refine lv_istore_n (lv' := [(1, .int (v1 + (v2 &&& 1))), (2, .int v2)]) X.1 X.2.1 dX12_bits_13 rfl hl (by decide) rfl (fun ls hl => ?_)
      refine lv_iload_n X.1 X.2.1 dX12_bits_14 rfl (lv_at hl 1 rfl) ?_
      refine lv_iconst (v := 1) X.1 X.2.1 dX12_bits_15 (by decide) ?_
      refine lv_ishr X.1 X.2.1 dX12_bits_16 ?_
      refine lv_istore_n (lv' := [(2, .int (v2 >>> (1 &&& 31))), (1, .int (v1 + (v2 &&& 1)))]) X.1 X.2.1 dX12_bits_17 rfl hl (by decide) rfl (fun ls hl => ?_)
      refine lv_goto (tgt := 4) X.1 X.2.1 dX12_bits_18 (by decide) ?_
      exact ih (v1 + (v2 &&& 1)) (v2 >>> (1 &&& 31)) σ _ _ ls  hG hS hE (lv_sub hl [1, 0] rfl) hF
theorem c_X12_bits (l : Launch) (D : va_G) (cA : Nat → ClassId) (base : Nat) (ad : Nat → Nat) (σ : Hp) (n : Nat) (a0 : Int32)  {τ : Hp} {r : Int32} (hF : F_X12_bits n a0 σ = some (r, τ)) : MI l yX12_bits cX12_bits 3 (some .int) rm_X12_bits D cA base ad σ [.int a0] r τ := by
  refine Met.ofW (cc := cX12_bits) (maxL := 3) (ret := (some .int)) (by decide) rfl ?_
  intro p e s m args below meth c s₁ B hml hv
  obtain ⟨rfl, hv⟩ := hv
  have X : SX D cA base p s m ([.int a0] : List Value).toArray meth c cX12_bits 3 (some .int) RX12 := sx_of B hml hv
  have hG := hv.1
  have hS : va_S (bA base) s.heap s.heap [] := va_S.rf
  have hE := xT.rf σ
  have hl := lv_entry ([.int a0]) (n := 3) (Nat.le_of_ble_eq_true rfl)
  rw [lg_entry_eq]
  generalize (lg_sl ([.int a0]) ++ List.replicate (3 - (lg_sl ([.int a0])).length) Slot.unset).toArray = ls at hl ⊢
  have hl : lv_has ls 3 [(0, .int a0)] := hl
  unfold F_X12_bits at hF
  refine lv_iconst (v := 0) X.1 X.2.1 dX12_bits_0 (by decide) ?_
  refine lv_istore_n (lv' := [(1, .int 0), (0, .int a0)]) X.1 X.2.1 dX12_bits_1 rfl hl (by decide) rfl (fun ls hl => ?_)
  refine lv_iload_n X.1 X.2.1 dX12_bits_2 rfl (lv_at hl 1 rfl) ?_
  refine lv_istore_n (lv' := [(2, .int a0), (1, .int 0), (0, .int a0)]) X.1 X.2.1 dX12_bits_3 rfl hl (by decide) rfl (fun ls hl => ?_)
  exact w_X12_bits_4 X n  n 0 a0 σ _ _ ls  hG hS hE (lv_sub hl [1, 0] rfl) hF
theorem c_X12_thing (l : Launch) (D : va_G) (cA : Nat → ClassId) (base : Nat) (ad : Nat → Nat) (σ : Hp) (n : Nat) (a0 : Nat) (a1 : Int32) (hT_a0 : hT σ a0 12) {τ : Hp} {r : Int32} (hF : F_X12_thing n a0 a1 σ = some (r, τ)) : MI l yX12_thing cX12_thing 2 (some .int) rm_X12_thing D cA base ad σ [.ref (ad a0), .int a1] r τ := by
  refine Met.ofW (cc := cX12_thing) (maxL := 2) (ret := (some .int)) (by decide) rfl ?_
  intro p e s m args below meth c s₁ B hml hv
  obtain ⟨rfl, hv⟩ := hv
  have X : SX D cA base p s m ([.ref (ad a0), .int a1] : List Value).toArray meth c cX12_thing 2 (some .int) RX12 := sx_of B hml hv
  have hG := hv.1
  have hS : va_S (bA base) s.heap s.heap [] := va_S.rf
  have hE := xT.rf σ
  have hl := lv_entry ([.ref (ad a0), .int a1]) (n := 2) (Nat.le_of_ble_eq_true rfl)
  rw [lg_entry_eq]
  generalize (lg_sl ([.ref (ad a0), .int a1]) ++ List.replicate (2 - (lg_sl ([.ref (ad a0), .int a1])).length) Slot.unset).toArray = ls at hl ⊢
  have hl : lv_has ls 2 [(0, .ref (ad a0)), (1, .int a1)] := hl
  unfold F_X12_thing at hF
  refine lv_iload_n X.1 X.2.1 dX12_thing_0 rfl (lv_at hl 1 rfl) ?_
  refine lv_i2l X.1 X.2.1 dX12_thing_1 rfl ?_
  refine lv_ldc2 (v := (-20)) X.1 X.2.1 X.2.2.2.2.2.1 (X.w k_1059) dX12_thing_2 ?_
  refine lv_ldc2 (v := 20) X.1 X.2.1 X.2.2.2.2.2.1 (X.w k_1060) dX12_thing_5 ?_
  obtain ⟨r2, σ1, hz, hF⟩ := b2_ex hF
  refine gx_rI (gx_runS (As := [.long a1.toInt64, .long (-20), .long 20]) (rest := []) X hG hS (c_X12_isIn l D cA base ad σ n a1.toInt64 (-20) 20  hz) k_1063 k_1061 k_1062 k_4 (h_X12_isIn.2) rfl rfl ⟨by decide, by decide⟩ rfl hl.1 rfl (Nat.le_of_ble_eq_true rfl) dX12_thing_8 ⟨Nat.zero_le _, Nat.zero_le _⟩) hS (fun H locs hG hS hX => ?_)
  have hT_a0 := hX.T hT_a0
  replace hE := hE.trans hX
  refine lv_if_ne (tgt := 16) X.1 X.2.1 dX12_thing_11 (by decide) (fun hc => ?_) (fun hc => ?_)
  · replace hF := it_f hF hc
    refine lv_aload_n X.1 X.2.1 dX12_thing_16 rfl (lv_at hl 0 rfl) ?_
    obtain ⟨i3, hr, hF⟩ := b1_ex hF
    have hT_i3 : hT σ1 i3 13 := gw_T hG hT_a0 (by decide) hr
    refine gx_get 0 (v := .ref (ad i3)) X hG hT_a0.1 (hT_a0.eq (by decide)) (by decide) rfl inX12 (by decide) k_960 (fun _ h => h) (gx_rfv hr) dX12_thing_17 ?_
    refine lv_iconst (v := 0) X.1 X.2.1 dX12_thing_20 (by decide) ?_
    refine gx_iald X hG hT_i3 hF dX12_thing_21 (fun hF => ?_)
    refine lv_bipush (v := 12) X.1 X.2.1 dX12_thing_22 (by decide) ?_
    refine lv_icmp_ne (tgt := 30) X.1 X.2.1 dX12_thing_24 (by decide) (fun hc => ?_) (fun hc => ?_)
    · replace hF := it_f hF hc
      refine lv_aload_n X.1 X.2.1 dX12_thing_30 rfl (lv_at hl 0 rfl) ?_
      obtain ⟨i4, hr, hF⟩ := b1_ex hF
      have hT_i4 : hT σ1 i4 13 := gw_T hG hT_a0 (by decide) hr
      refine gx_get 0 (v := .ref (ad i4)) X hG hT_a0.1 (hT_a0.eq (by decide)) (by decide) rfl inX12 (by decide) k_960 (fun _ h => h) (gx_rfv hr) dX12_thing_31 ?_
      refine lv_bipush (v := 7) X.1 X.2.1 dX12_thing_34 (by decide) ?_
      refine lv_aload_n X.1 X.2.1 dX12_thing_36 rfl (lv_at hl 0 rfl) ?_
      obtain ⟨i5, hr, hF⟩ := b1_ex hF
      have hT_i5 : hT σ1 i5 13 := gw_T hG hT_a0 (by decide) hr
      refine gx_get 0 (v := .ref (ad i5)) X hG hT_a0.1 (hT_a0.eq (by decide)) (by decide) rfl inX12 (by decide) k_960 (fun _ h => h) (gx_rfv hr) dX12_thing_37 ?_
      refine lv_iconst (v := 0) X.1 X.2.1 dX12_thing_40 (by decide) ?_
      refine gx_iald X hG hT_i5 hF dX12_thing_41 (fun hF => ?_)
      refine lv_iadd X.1 X.2.1 dX12_thing_42 ?_
      refine lv_iload_n X.1 X.2.1 dX12_thing_43 rfl (lv_at hl 1 rfl) ?_
      refine gx_iast X hG hS hT_i4 hF dX12_thing_44 (fun σ6 H locs hG hS hX hF => ?_)
      have hT_a0 := hX.T hT_a0
      replace hE := hE.trans hX
      refine lv_aload_n X.1 X.2.1 dX12_thing_45 rfl (lv_at hl 0 rfl) ?_
      obtain ⟨i7, hr, hF⟩ := b1_ex hF
      have hT_i7 : hT σ6 i7 13 := gw_T hG hT_a0 (by decide) hr
      refine gx_get 0 (v := .ref (ad i7)) X hG hT_a0.1 (hT_a0.eq (by decide)) (by decide) rfl inX12 (by decide) k_960 (fun _ h => h) (gx_rfv hr) dX12_thing_46 ?_
      refine lv_iconst (v := 0) X.1 X.2.1 dX12_thing_49 (by decide) ?_
      refine lv_dup2_11 X.1 X.2.1 dX12_thing_50 rfl rfl ?_
      refine gx_iald X hG hT_i7 hF dX12_thing_51 (fun hF => ?_)
      refine lv_iconst (v := 1) X.1 X.2.1 dX12_thing_52 (by decide) ?_
      refine lv_iadd X.1 X.2.1 dX12_thing_53 ?_
      refine gx_iast X hG hS hT_i7 hF dX12_thing_54 (fun σ8 H locs hG hS hX hF => ?_)
      have hT_a0 := hX.T hT_a0
      replace hE := hE.trans hX
      refine lv_aload_n X.1 X.2.1 dX12_thing_55 rfl (lv_at hl 0 rfl) ?_
      obtain ⟨i9, hr, hF⟩ := b1_ex hF
      have hT_i9 : hT σ8 i9 13 := gw_T hG hT_a0 (by decide) hr
      refine gx_get 0 (v := .ref (ad i9)) X hG hT_a0.1 (hT_a0.eq (by decide)) (by decide) rfl inX12 (by decide) k_960 (fun _ h => h) (gx_rfv hr) dX12_thing_56 ?_
      refine lv_iconst (v := 0) X.1 X.2.1 dX12_thing_59 (by decide) ?_
      refine gx_iald X hG hT_i9 hF dX12_thing_60 (fun hF => ?_)
      refine lv_iconst (v := 1) X.1 X.2.1 dX12_thing_61 (by decide) ?_
      refine lv_isub X.1 X.2.1 dX12_thing_62 ?_
      exact gx_iret X hG hS hE hF dX12_thing_63
    · replace hF := it_t hF hc
      refine lv_bipush (v := (-2)) X.1 X.2.1 dX12_thing_27 (by decide) ?_
      exact gx_iret X hG hS hE hF dX12_thing_29
  · replace hF := it_t hF hc
    refine lv_iconst (v := (-1)) X.1 X.2.1 dX12_thing_14 (by decide) ?_
    exact gx_iret X hG hS hE hF dX12_thing_15
theorem c_X12_juror (l : Launch) (D : va_G) (cA : Nat → ClassId) (base : Nat) (ad : Nat → Nat) (σ : Hp) (n : Nat) (a0 : Nat) (a1 : Int32) (a2 : Int32) (a3 : Int32) (a4 : Int32) (hT_a0 : hT σ a0 12) {τ : Hp} {r : Int32} (hF : F_X12_juror n a0 a1 a2 a3 a4 σ = some (r, τ)) : MI l yX12_juror cX12_juror 6 (some .int) rm_X12_juror D cA base ad σ [.ref (ad a0), .int a1, .int a2, .int a3, .int a4] r τ := by
  refine Met.ofW (cc := cX12_juror) (maxL := 6) (ret := (some .int)) (by decide) rfl ?_
  intro p e s m args below meth c s₁ B hml hv
  obtain ⟨rfl, hv⟩ := hv
  have X : SX D cA base p s m ([.ref (ad a0), .int a1, .int a2, .int a3, .int a4] : List Value).toArray meth c cX12_juror 6 (some .int) RX12 := sx_of B hml hv
  have hG := hv.1
  have hS : va_S (bA base) s.heap s.heap [] := va_S.rf
  have hE := xT.rf σ
  have hl := lv_entry ([.ref (ad a0), .int a1, .int a2, .int a3, .int a4]) (n := 6) (Nat.le_of_ble_eq_true rfl)
  rw [lg_entry_eq]
  generalize (lg_sl ([.ref (ad a0), .int a1, .int a2, .int a3, .int a4]) ++ List.replicate (6 - (lg_sl ([.ref (ad a0), .int a1, .int a2, .int a3, .int a4])).length) Slot.unset).toArray = ls at hl ⊢
  have hl : lv_has ls 6 [(0, .ref (ad a0)), (1, .int a1), (2, .int a2), (3, .int a3), (4, .int a4)] := hl
  unfold F_X12_juror at hF
  refine lv_iload_n X.1 X.2.1 dX12_juror_0 rfl (lv_at hl 1 rfl) ?_
  refine lv_i2l X.1 X.2.1 dX12_juror_1 rfl ?_
  refine lv_lconst (v := 0) X.1 X.2.1 dX12_juror_2 (by decide) ?_
  refine lv_ldc2 (v := 7999) X.1 X.2.1 X.2.2.2.2.2.1 (X.w k_1068) dX12_juror_3 ?_
  obtain ⟨r2, σ1, hz, hF⟩ := b2_ex hF
  refine gx_rI (gx_runS (As := [.long a1.toInt64, .long 0, .long 7999]) (rest := []) X hG hS (c_X12_isIn l D cA base ad σ n a1.toInt64 0 7999  hz) k_1063 k_1061 k_1062 k_4 (h_X12_isIn.2) rfl rfl ⟨by decide, by decide⟩ rfl hl.1 rfl (Nat.le_of_ble_eq_true rfl) dX12_juror_6 ⟨Nat.zero_le _, Nat.zero_le _⟩) hS (fun H locs hG hS hX => ?_)
  have hT_a0 := hX.T hT_a0
  replace hE := hE.trans hX
  refine lv_if_eq (tgt := 74) X.1 X.2.1 dX12_juror_9 (by decide) (fun hc => ?_) (fun hc => ?_)
  · replace hF := it_t hF hc
    refine lv_iconst (v := (-1)) X.1 X.2.1 dX12_juror_74 (by decide) ?_
    exact gx_iret X hG hS hE hF dX12_juror_75
  · replace hF := it_f hF hc
    refine lv_iload_n X.1 X.2.1 dX12_juror_12 rfl (lv_at hl 1 rfl) ?_
    refine lv_bipush (v := 100) X.1 X.2.1 dX12_juror_13 (by decide) ?_
    refine lv_irem X.1 X.2.1 dX12_juror_15 (by decide) ?_
    refine lv_i2l X.1 X.2.1 dX12_juror_16 rfl ?_
    refine lv_lconst (v := 1) X.1 X.2.1 dX12_juror_17 (by decide) ?_
    refine lv_ldc2 (v := 30) X.1 X.2.1 X.2.2.2.2.2.1 (X.w k_1069) dX12_juror_18 ?_
    obtain ⟨r4, σ3, hz, hF⟩ := b2_ex hF
    refine gx_rI (gx_runS (As := [.long ((a1 - a1 / 100 * 100).toInt64), .long 1, .long 30]) (rest := []) X hG hS (c_X12_isIn l D cA base ad σ1 n ((a1 - a1 / 100 * 100).toInt64) 1 30  hz) k_1063 k_1061 k_1062 k_4 (h_X12_isIn.2) rfl rfl ⟨by decide, by decide⟩ rfl hl.1 rfl (Nat.le_of_ble_eq_true rfl) dX12_juror_21 ⟨Nat.zero_le _, Nat.zero_le _⟩) hS (fun H locs hG hS hX => ?_)
    have hT_a0 := hX.T hT_a0
    replace hE := hE.trans hX
    refine lv_if_eq (tgt := 74) X.1 X.2.1 dX12_juror_24 (by decide) (fun hc => ?_) (fun hc => ?_)
    · replace hF := it_t hF hc
      refine lv_iconst (v := (-1)) X.1 X.2.1 dX12_juror_74 (by decide) ?_
      exact gx_iret X hG hS hE hF dX12_juror_75
    · replace hF := it_f hF hc
      refine lv_iload_n X.1 X.2.1 dX12_juror_27 rfl (lv_at hl 2 rfl) ?_
      refine lv_i2l X.1 X.2.1 dX12_juror_28 rfl ?_
      refine lv_ldc2 (v := (-99)) X.1 X.2.1 X.2.2.2.2.2.1 (X.w k_1070) dX12_juror_29 ?_
      refine lv_ldc2 (v := 99) X.1 X.2.1 X.2.2.2.2.2.1 (X.w k_1071) dX12_juror_32 ?_
      obtain ⟨r6, σ5, hz, hF⟩ := b2_ex hF
      refine gx_rI (gx_runS (As := [.long a2.toInt64, .long (-99), .long 99]) (rest := []) X hG hS (c_X12_isIn l D cA base ad σ3 n a2.toInt64 (-99) 99  hz) k_1063 k_1061 k_1062 k_4 (h_X12_isIn.2) rfl rfl ⟨by decide, by decide⟩ rfl hl.1 rfl (Nat.le_of_ble_eq_true rfl) dX12_juror_35 ⟨Nat.zero_le _, Nat.zero_le _⟩) hS (fun H locs hG hS hX => ?_)
      have hT_a0 := hX.T hT_a0
      replace hE := hE.trans hX
      refine lv_if_eq (tgt := 74) X.1 X.2.1 dX12_juror_38 (by decide) (fun hc => ?_) (fun hc => ?_)
      · replace hF := it_t hF hc
        refine lv_iconst (v := (-1)) X.1 X.2.1 dX12_juror_74 (by decide) ?_
        exact gx_iret X hG hS hE hF dX12_juror_75
      · replace hF := it_f hF hc
        refine lv_iload_n X.1 X.2.1 dX12_juror_41 rfl (lv_at hl 3 rfl) ?_
        refine lv_i2l X.1 X.2.1 dX12_juror_42 rfl ?_
        refine lv_lconst (v := 0) X.1 X.2.1 dX12_juror_43 (by decide) ?_
        refine lv_ldc2 (v := 999) X.1 X.2.1 X.2.2.2.2.2.1 (X.w k_1072) dX12_juror_44 ?_
        obtain ⟨r8, σ7, hz, hF⟩ := b2_ex hF
        refine gx_rI (gx_runS (As := [.long a3.toInt64, .long 0, .long 999]) (rest := []) X hG hS (c_X12_isIn l D cA base ad σ5 n a3.toInt64 0 999  hz) k_1063 k_1061 k_1062 k_4 (h_X12_isIn.2) rfl rfl ⟨by decide, by decide⟩ rfl hl.1 rfl (Nat.le_of_ble_eq_true rfl) dX12_juror_47 ⟨Nat.zero_le _, Nat.zero_le _⟩) hS (fun H locs hG hS hX => ?_)
        have hT_a0 := hX.T hT_a0
        replace hE := hE.trans hX
        refine lv_if_eq (tgt := 74) X.1 X.2.1 dX12_juror_50 (by decide) (fun hc => ?_) (fun hc => ?_)
        · replace hF := it_t hF hc
          refine lv_iconst (v := (-1)) X.1 X.2.1 dX12_juror_74 (by decide) ?_
          exact gx_iret X hG hS hE hF dX12_juror_75
        · replace hF := it_f hF hc
          refine lv_iload X.1 X.2.1 dX12_juror_53 (lv_at hl 4 rfl) ?_
          refine lv_i2l X.1 X.2.1 dX12_juror_55 rfl ?_
          refine lv_ldc2 (v := (-1)) X.1 X.2.1 X.2.2.2.2.2.1 (X.w k_1073) dX12_juror_56 ?_
          refine lv_aload_n X.1 X.2.1 dX12_juror_59 rfl (lv_at hl 0 rfl) ?_
          obtain ⟨i9, hr, hF⟩ := b1_ex hF
          have hT_i9 : hT σ7 i9 13 := gw_T hG hT_a0 (by decide) hr
          refine gx_get 0 (v := .ref (ad i9)) X hG hT_a0.1 (hT_a0.eq (by decide)) (by decide) rfl inX12 (by decide) k_960 (fun _ h => h) (gx_rfv hr) dX12_juror_60 ?_
          refine lv_iconst (v := 2) X.1 X.2.1 dX12_juror_63 (by decide) ?_
          refine gx_iald X hG hT_i9 hF dX12_juror_64 (fun hF => ?_)
          refine lv_iconst (v := 1) X.1 X.2.1 dX12_juror_65 (by decide) ?_
          refine lv_isub X.1 X.2.1 dX12_juror_66 ?_
          refine lv_i2l X.1 X.2.1 dX12_juror_67 rfl ?_
          obtain ⟨r11, σ10, hz, hF⟩ := b2_ex hF
          refine gx_rI (gx_runS (As := [.long a4.toInt64, .long (-1), .long (((hI σ7 i9 (2 : Int32).toNatClampNeg) - 1).toInt64)]) (rest := []) X hG hS (c_X12_isIn l D cA base ad σ7 n a4.toInt64 (-1) (((hI σ7 i9 (2 : Int32).toNatClampNeg) - 1).toInt64)  hz) k_1063 k_1061 k_1062 k_4 (h_X12_isIn.2) rfl rfl ⟨by decide, by decide⟩ rfl hl.1 rfl (Nat.le_of_ble_eq_true rfl) dX12_juror_68 ⟨Nat.zero_le _, Nat.zero_le _⟩) hS (fun H locs hG hS hX => ?_)
          have hT_a0 := hX.T hT_a0
          replace hE := hE.trans hX
          refine lv_if_ne (tgt := 76) X.1 X.2.1 dX12_juror_71 (by decide) (fun hc => ?_) (fun hc => ?_)
          · replace hF := it_f hF hc
            refine lv_aload_n X.1 X.2.1 dX12_juror_76 rfl (lv_at hl 0 rfl) ?_
            obtain ⟨i12, hr, hF⟩ := b1_ex hF
            have hT_i12 : hT σ10 i12 13 := gw_T hG hT_a0 (by decide) hr
            refine gx_get 0 (v := .ref (ad i12)) X hG hT_a0.1 (hT_a0.eq (by decide)) (by decide) rfl inX12 (by decide) k_960 (fun _ h => h) (gx_rfv hr) dX12_juror_77 ?_
            refine lv_iconst (v := 1) X.1 X.2.1 dX12_juror_80 (by decide) ?_
            refine gx_iald X hG hT_i12 hF dX12_juror_81 (fun hF => ?_)
            refine lv_bipush (v := 12) X.1 X.2.1 dX12_juror_82 (by decide) ?_
            refine lv_icmp_ne (tgt := 90) X.1 X.2.1 dX12_juror_84 (by decide) (fun hc => ?_) (fun hc => ?_)
            · replace hF := it_f hF hc
              refine lv_bipush (v := 19) X.1 X.2.1 dX12_juror_90 (by decide) ?_
              refine lv_bipush (v := 7) X.1 X.2.1 dX12_juror_92 (by decide) ?_
              refine lv_aload_n X.1 X.2.1 dX12_juror_94 rfl (lv_at hl 0 rfl) ?_
              obtain ⟨i13, hr, hF⟩ := b1_ex hF
              have hT_i13 : hT σ10 i13 13 := gw_T hG hT_a0 (by decide) hr
              refine gx_get 0 (v := .ref (ad i13)) X hG hT_a0.1 (hT_a0.eq (by decide)) (by decide) rfl inX12 (by decide) k_960 (fun _ h => h) (gx_rfv hr) dX12_juror_95 ?_
              refine lv_iconst (v := 1) X.1 X.2.1 dX12_juror_98 (by decide) ?_
              refine gx_iald X hG hT_i13 hF dX12_juror_99 (fun hF => ?_)
              refine lv_imul X.1 X.2.1 dX12_juror_100 ?_
              refine lv_iadd X.1 X.2.1 dX12_juror_101 ?_
              refine lv_topi (fun x14 ex14 => ?_)
              replace hF := lt_nm hF ex14
              refine lv_istore (lv' := [(5, .int x14), (0, .ref (ad a0)), (1, .int a1), (2, .int a2), (3, .int a3), (4, .int a4)]) X.1 X.2.1 dX12_juror_102 hl (by decide) rfl (fun ls hl => ?_)
              refine lv_aload_n X.1 X.2.1 dX12_juror_104 rfl (lv_at hl 1 rfl) ?_
              obtain ⟨i15, hr, hF⟩ := b1_ex hF
              have hT_i15 : hT σ10 i15 13 := gw_T hG hT_a0 (by decide) hr
              refine gx_get 0 (v := .ref (ad i15)) X hG hT_a0.1 (hT_a0.eq (by decide)) (by decide) rfl inX12 (by decide) k_960 (fun _ h => h) (gx_rfv hr) dX12_juror_105 ?_
              refine lv_iload X.1 X.2.1 dX12_juror_108 (lv_at hl 0 rfl) ?_
              refine lv_iload_n X.1 X.2.1 dX12_juror_110 rfl (lv_at hl 2 rfl) ?_
              refine lv_sipush (v := 1000) X.1 X.2.1 dX12_juror_111 (by decide) ?_
              refine lv_idiv X.1 X.2.1 dX12_juror_114 (by decide) ?_
              refine gx_iast X hG hS hT_i15 hF dX12_juror_115 (fun σ16 H locs hG hS hX hF => ?_)
              have hT_a0 := hX.T hT_a0
              replace hE := hE.trans hX
              refine lv_aload_n X.1 X.2.1 dX12_juror_116 rfl (lv_at hl 1 rfl) ?_
              obtain ⟨i17, hr, hF⟩ := b1_ex hF
              have hT_i17 : hT σ16 i17 13 := gw_T hG hT_a0 (by decide) hr
              refine gx_get 0 (v := .ref (ad i17)) X hG hT_a0.1 (hT_a0.eq (by decide)) (by decide) rfl inX12 (by decide) k_960 (fun _ h => h) (gx_rfv hr) dX12_juror_117 ?_
              refine lv_iload X.1 X.2.1 dX12_juror_120 (lv_at hl 0 rfl) ?_
              refine lv_iconst (v := 1) X.1 X.2.1 dX12_juror_122 (by decide) ?_
              refine lv_iadd X.1 X.2.1 dX12_juror_123 ?_
              refine lv_iload_n X.1 X.2.1 dX12_juror_124 rfl (lv_at hl 2 rfl) ?_
              refine lv_bipush (v := 100) X.1 X.2.1 dX12_juror_125 (by decide) ?_
              refine lv_idiv X.1 X.2.1 dX12_juror_127 (by decide) ?_
              refine lv_bipush (v := 10) X.1 X.2.1 dX12_juror_128 (by decide) ?_
              refine lv_irem X.1 X.2.1 dX12_juror_130 (by decide) ?_
              refine gx_iast X hG hS hT_i17 hF dX12_juror_131 (fun σ18 H locs hG hS hX hF => ?_)
              have hT_a0 := hX.T hT_a0
              replace hE := hE.trans hX
              refine lv_aload_n X.1 X.2.1 dX12_juror_132 rfl (lv_at hl 1 rfl) ?_
              obtain ⟨i19, hr, hF⟩ := b1_ex hF
              have hT_i19 : hT σ18 i19 13 := gw_T hG hT_a0 (by decide) hr
              refine gx_get 0 (v := .ref (ad i19)) X hG hT_a0.1 (hT_a0.eq (by decide)) (by decide) rfl inX12 (by decide) k_960 (fun _ h => h) (gx_rfv hr) dX12_juror_133 ?_
              refine lv_iload X.1 X.2.1 dX12_juror_136 (lv_at hl 0 rfl) ?_
              refine lv_iconst (v := 2) X.1 X.2.1 dX12_juror_138 (by decide) ?_
              refine lv_iadd X.1 X.2.1 dX12_juror_139 ?_
              refine lv_iload_n X.1 X.2.1 dX12_juror_140 rfl (lv_at hl 2 rfl) ?_
              refine lv_bipush (v := 100) X.1 X.2.1 dX12_juror_141 (by decide) ?_
              refine lv_irem X.1 X.2.1 dX12_juror_143 (by decide) ?_
              refine gx_iast X hG hS hT_i19 hF dX12_juror_144 (fun σ20 H locs hG hS hX hF => ?_)
              have hT_a0 := hX.T hT_a0
              replace hE := hE.trans hX
              refine lv_aload_n X.1 X.2.1 dX12_juror_145 rfl (lv_at hl 1 rfl) ?_
              obtain ⟨i21, hr, hF⟩ := b1_ex hF
              have hT_i21 : hT σ20 i21 13 := gw_T hG hT_a0 (by decide) hr
              refine gx_get 0 (v := .ref (ad i21)) X hG hT_a0.1 (hT_a0.eq (by decide)) (by decide) rfl inX12 (by decide) k_960 (fun _ h => h) (gx_rfv hr) dX12_juror_146 ?_
              refine lv_iload X.1 X.2.1 dX12_juror_149 (lv_at hl 0 rfl) ?_
              refine lv_iconst (v := 3) X.1 X.2.1 dX12_juror_151 (by decide) ?_
              refine lv_iadd X.1 X.2.1 dX12_juror_152 ?_
              refine lv_iload_n X.1 X.2.1 dX12_juror_153 rfl (lv_at hl 3 rfl) ?_
              refine gx_iast X hG hS hT_i21 hF dX12_juror_154 (fun σ22 H locs hG hS hX hF => ?_)
              have hT_a0 := hX.T hT_a0
              replace hE := hE.trans hX
              refine lv_aload_n X.1 X.2.1 dX12_juror_155 rfl (lv_at hl 1 rfl) ?_
              obtain ⟨i23, hr, hF⟩ := b1_ex hF
              have hT_i23 : hT σ22 i23 13 := gw_T hG hT_a0 (by decide) hr
              refine gx_get 0 (v := .ref (ad i23)) X hG hT_a0.1 (hT_a0.eq (by decide)) (by decide) rfl inX12 (by decide) k_960 (fun _ h => h) (gx_rfv hr) dX12_juror_156 ?_
              refine lv_iload X.1 X.2.1 dX12_juror_159 (lv_at hl 0 rfl) ?_
              refine lv_iconst (v := 4) X.1 X.2.1 dX12_juror_161 (by decide) ?_
              refine lv_iadd X.1 X.2.1 dX12_juror_162 ?_
              refine lv_iload_n X.1 X.2.1 dX12_juror_163 rfl (lv_at hl 4 rfl) ?_
              refine gx_iast X hG hS hT_i23 hF dX12_juror_164 (fun σ24 H locs hG hS hX hF => ?_)
              have hT_a0 := hX.T hT_a0
              replace hE := hE.trans hX
              refine lv_aload_n X.1 X.2.1 dX12_juror_165 rfl (lv_at hl 1 rfl) ?_
              obtain ⟨i25, hr, hF⟩ := b1_ex hF
              have hT_i25 : hT σ24 i25 13 := gw_T hG hT_a0 (by decide) hr
              refine gx_get 0 (v := .ref (ad i25)) X hG hT_a0.1 (hT_a0.eq (by decide)) (by decide) rfl inX12 (by decide) k_960 (fun _ h => h) (gx_rfv hr) dX12_juror_166 ?_
              refine lv_iload X.1 X.2.1 dX12_juror_169 (lv_at hl 0 rfl) ?_
              refine lv_iconst (v := 5) X.1 X.2.1 dX12_juror_171 (by decide) ?_
              refine lv_iadd X.1 X.2.1 dX12_juror_172 ?_
              refine lv_iload X.1 X.2.1 dX12_juror_173 (lv_at hl 5 rfl) ?_
              refine gx_iast X hG hS hT_i25 hF dX12_juror_175 (fun σ26 H locs hG hS hX hF => ?_)
              have hT_a0 := hX.T hT_a0
              replace hE := hE.trans hX
              refine lv_aload_n X.1 X.2.1 dX12_juror_176 rfl (lv_at hl 1 rfl) ?_
              obtain ⟨i27, hr, hF⟩ := b1_ex hF
              have hT_i27 : hT σ26 i27 13 := gw_T hG hT_a0 (by decide) hr
              refine gx_get 0 (v := .ref (ad i27)) X hG hT_a0.1 (hT_a0.eq (by decide)) (by decide) rfl inX12 (by decide) k_960 (fun _ h => h) (gx_rfv hr) dX12_juror_177 ?_
              refine lv_iload X.1 X.2.1 dX12_juror_180 (lv_at hl 0 rfl) ?_
              refine lv_bipush (v := 6) X.1 X.2.1 dX12_juror_182 (by decide) ?_
              refine lv_iadd X.1 X.2.1 dX12_juror_184 ?_
              refine lv_iconst (v := 0) X.1 X.2.1 dX12_juror_185 (by decide) ?_
              refine gx_iast X hG hS hT_i27 hF dX12_juror_186 (fun σ28 H locs hG hS hX hF => ?_)
              have hT_a0 := hX.T hT_a0
              replace hE := hE.trans hX
              refine lv_aload_n X.1 X.2.1 dX12_juror_187 rfl (lv_at hl 1 rfl) ?_
              obtain ⟨i29, hr, hF⟩ := b1_ex hF
              have hT_i29 : hT σ28 i29 13 := gw_T hG hT_a0 (by decide) hr
              refine gx_get 0 (v := .ref (ad i29)) X hG hT_a0.1 (hT_a0.eq (by decide)) (by decide) rfl inX12 (by decide) k_960 (fun _ h => h) (gx_rfv hr) dX12_juror_188 ?_
              refine lv_iconst (v := 1) X.1 X.2.1 dX12_juror_191 (by decide) ?_
              refine lv_dup2_11 X.1 X.2.1 dX12_juror_192 rfl rfl ?_
              refine gx_iald X hG hT_i29 hF dX12_juror_193 (fun hF => ?_)
              refine lv_iconst (v := 1) X.1 X.2.1 dX12_juror_194 (by decide) ?_
              refine lv_iadd X.1 X.2.1 dX12_juror_195 ?_
              refine gx_iast X hG hS hT_i29 hF dX12_juror_196 (fun σ30 H locs hG hS hX hF => ?_)
              have hT_a0 := hX.T hT_a0
              replace hE := hE.trans hX
              refine lv_aload_n X.1 X.2.1 dX12_juror_197 rfl (lv_at hl 1 rfl) ?_
              obtain ⟨i31, hr, hF⟩ := b1_ex hF
              have hT_i31 : hT σ30 i31 13 := gw_T hG hT_a0 (by decide) hr
              refine gx_get 4 (v := .ref (ad i31)) X hG hT_a0.1 (hT_a0.eq (by decide)) (by decide) rfl inX12 (by decide) k_964 (fun _ h => h) (gx_rfv hr) dX12_juror_198 ?_
              refine lv_bipush (v := 6) X.1 X.2.1 dX12_juror_201 (by decide) ?_
              refine lv_iconst (v := 0) X.1 X.2.1 dX12_juror_203 (by decide) ?_
              refine gx_iast X hG hS hT_i31 hF dX12_juror_204 (fun σ32 H locs hG hS hX hF => ?_)
              have hT_a0 := hX.T hT_a0
              replace hE := hE.trans hX
              refine lv_aload_n X.1 X.2.1 dX12_juror_205 rfl (lv_at hl 1 rfl) ?_
              obtain ⟨i33, hr, hF⟩ := b1_ex hF
              have hT_i33 : hT σ32 i33 13 := gw_T hG hT_a0 (by decide) hr
              refine gx_get 0 (v := .ref (ad i33)) X hG hT_a0.1 (hT_a0.eq (by decide)) (by decide) rfl inX12 (by decide) k_960 (fun _ h => h) (gx_rfv hr) dX12_juror_206 ?_
              refine lv_iconst (v := 1) X.1 X.2.1 dX12_juror_209 (by decide) ?_
              refine gx_iald X hG hT_i33 hF dX12_juror_210 (fun hF => ?_)
              refine lv_iconst (v := 1) X.1 X.2.1 dX12_juror_211 (by decide) ?_
              refine lv_isub X.1 X.2.1 dX12_juror_212 ?_
              exact gx_iret X hG hS hE hF dX12_juror_213
            · replace hF := it_t hF hc
              refine lv_bipush (v := (-2)) X.1 X.2.1 dX12_juror_87 (by decide) ?_
              exact gx_iret X hG hS hE hF dX12_juror_89
          · replace hF := it_t hF hc
            refine lv_iconst (v := (-1)) X.1 X.2.1 dX12_juror_74 (by decide) ?_
            exact gx_iret X hG hS hE hF dX12_juror_75
end W_model0
