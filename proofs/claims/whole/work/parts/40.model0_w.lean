/-! model0: printed by wip/whole/gen.py -/
section W_model0
variable {p : Program} {l : Launch} {e : Env} {s : State} {m : MethodId} {args : Array Value} {below : List Frame} {meth : Method} {c : Code} {D : va_G} {cA : Nat → ClassId} {base : Nat} {ad : Nat → Nat}
abbrev rm_X12_init : Room := { frames := 1, cells := 15, slots := 2483, locals := 24 }
theorem h_X12_init : yX12_init.cls = RX12 ∧ yX12_init.cls ≠ "java/lang/invoke/MethodHandle" ∧ yX12_init.cls ≠ "java/lang/invoke/VarHandle" ∧ (parseMethodDescriptor yX12_init.desc).map (fun d => d.parameters.length) = some 0 := by decide +kernel
def F_X12_init (n : Nat) (a0 : Nat) (σ : Hp) : Option Hp := ck (¬ (109 : Int32) < 0 ∧ (109 : Int32).toNatClampNeg ≤ 109) (nb σ 13 (109 : Int32).toNatClampNeg fun (i1 : Nat) (σ2 : Hp) => lt (pR σ2 a0 0 (some i1)) fun (σ4 : Hp) => ck (¬ (109 : Int32) < 0 ∧ (109 : Int32).toNatClampNeg ≤ 109) (nb σ4 13 (109 : Int32).toNatClampNeg fun (i5 : Nat) (σ6 : Hp) => lt (pR σ6 a0 1 (some i5)) fun (σ8 : Hp) => ck (¬ (600 : Int32) < 0 ∧ (600 : Int32).toNatClampNeg ≤ 600) (nb σ8 13 (600 : Int32).toNatClampNeg fun (i9 : Nat) (σ10 : Hp) => lt (pR σ10 a0 2 (some i9)) fun (σ12 : Hp) => ck (¬ (600 : Int32) < 0 ∧ (600 : Int32).toNatClampNeg ≤ 600) (nb σ12 13 (600 : Int32).toNatClampNeg fun (i13 : Nat) (σ14 : Hp) => lt (pR σ14 a0 3 (some i13)) fun (σ16 : Hp) => ck (¬ (67 : Int32) < 0 ∧ (67 : Int32).toNatClampNeg ≤ 67) (nb σ16 13 (67 : Int32).toNatClampNeg fun (i17 : Nat) (σ18 : Hp) => lt (pR σ18 a0 4 (some i17)) fun (σ20 : Hp) => ck (¬ (67 : Int32) < 0 ∧ (67 : Int32).toNatClampNeg ≤ 67) (nb σ20 13 (67 : Int32).toNatClampNeg fun (i21 : Nat) (σ22 : Hp) => lt (pR σ22 a0 5 (some i21)) fun (σ24 : Hp) => ck (¬ (67 : Int32) < 0 ∧ (67 : Int32).toNatClampNeg ≤ 67) (nb σ24 13 (67 : Int32).toNatClampNeg fun (i25 : Nat) (σ26 : Hp) => lt (pR σ26 a0 6 (some i25)) fun (σ28 : Hp) => ck (¬ (8 : Int32) < 0 ∧ (8 : Int32).toNatClampNeg ≤ 8) (nb σ28 13 (8 : Int32).toNatClampNeg fun (i29 : Nat) (σ30 : Hp) => lt (pR σ30 a0 7 (some i29)) fun (σ32 : Hp) => ck (¬ (8 : Int32) < 0 ∧ (8 : Int32).toNatClampNeg ≤ 8) (nb σ32 13 (8 : Int32).toNatClampNeg fun (i33 : Nat) (σ34 : Hp) => lt (pR σ34 a0 8 (some i33)) fun (σ36 : Hp) => ck (¬ (8 : Int32) < 0 ∧ (8 : Int32).toNatClampNeg ≤ 8) (nb σ36 13 (8 : Int32).toNatClampNeg fun (i37 : Nat) (σ38 : Hp) => lt (pR σ38 a0 9 (some i37)) fun (σ40 : Hp) => ck (¬ (800 : Int32) < 0 ∧ (800 : Int32).toNatClampNeg ≤ 800) (nb σ40 13 (800 : Int32).toNatClampNeg fun (i41 : Nat) (σ42 : Hp) => lt (pR σ42 a0 10 (some i41)) fun (σ44 : Hp) => ck (¬ (8 : Int32) < 0 ∧ (8 : Int32).toNatClampNeg ≤ 8) (nb σ44 13 (8 : Int32).toNatClampNeg fun (i45 : Nat) (σ46 : Hp) => lt (pR σ46 a0 11 (some i45)) fun (σ48 : Hp) => ck (¬ (8 : Int32) < 0 ∧ (8 : Int32).toNatClampNeg ≤ 8) (nb σ48 13 (8 : Int32).toNatClampNeg fun (i49 : Nat) (σ50 : Hp) => lt (pR σ50 a0 12 (some i49)) fun (σ52 : Hp) => b1 (hR σ52 a0 10) fun (i53 : Nat) => lt (pR σ52 a0 15 (some i53)) fun (σ54 : Hp) => ck (¬ (12 : Int32) < 0 ∧ (12 : Int32).toNatClampNeg ≤ 12) (nb σ54 13 (12 : Int32).toNatClampNeg fun (i55 : Nat) (σ56 : Hp) => lt (pR σ56 a0 28 (some i55)) fun (σ58 : Hp) => ck (¬ (12 : Int32) < 0 ∧ (12 : Int32).toNatClampNeg ≤ 12) (nb σ58 13 (12 : Int32).toNatClampNeg fun (i59 : Nat) (σ60 : Hp) => lt (pR σ60 a0 29 (some i59)) fun (σ62 : Hp) => b1 (hR σ62 a0 0) fun (i63 : Nat) => ck (¬ ((3 : Int32) < 0 ∨ hL σ62 i63 ≤ (3 : Int32).toNatClampNeg)) (lt (pI σ62 i63 (3 : Int32).toNatClampNeg 12) fun (σ64 : Hp) => b1 (hR σ64 a0 0) fun (i65 : Nat) => ck (¬ ((6 : Int32) < 0 ∨ hL σ64 i65 ≤ (6 : Int32).toNatClampNeg)) (lt (pI σ64 i65 (6 : Int32).toNatClampNeg 600) fun (σ66 : Hp) => some σ66)))))))))))))))))
abbrev rm_X12_thrown : Room := { frames := 0, cells := 0, slots := 0, locals := 0 }
theorem h_X12_thrown : yX12_thrown.cls = RX12 ∧ yX12_thrown.cls ≠ "java/lang/invoke/MethodHandle" ∧ yX12_thrown.cls ≠ "java/lang/invoke/VarHandle" ∧ (parseMethodDescriptor yX12_thrown.desc).map (fun d => d.parameters.length) = some 0 := by decide +kernel
def F_X12_thrown (n : Nat) (a0 : Nat) (σ : Hp) : Option (Int32 × Hp) := some (hI σ a0 14, σ)
abbrev rm_X12_isIn : Room := { frames := 0, cells := 0, slots := 0, locals := 0 }
theorem h_X12_isIn : yX12_isIn.cls = RX12 ∧ yX12_isIn.cls ≠ "java/lang/invoke/MethodHandle" ∧ yX12_isIn.cls ≠ "java/lang/invoke/VarHandle" ∧ (parseMethodDescriptor yX12_isIn.desc).map (fun d => d.parameters.length) = some 3 := by decide +kernel
def F_X12_isIn (n : Nat) (a0 : Int64) (a2 : Int64) (a4 : Int64) (σ : Hp) : Option (Int32 × Hp) := if (lg_cmp a0 a2) < 0 then (some (0, σ)) else (if 0 < (lg_cmp a0 a4) then (some (0, σ)) else (some (1, σ)))
abbrev rm_X12_isJuror : Room := { frames := 1, cells := 0, slots := 0, locals := 25 }
theorem h_X12_isJuror : yX12_isJuror.cls = RX12 ∧ yX12_isJuror.cls ≠ "java/lang/invoke/MethodHandle" ∧ yX12_isJuror.cls ≠ "java/lang/invoke/VarHandle" ∧ (parseMethodDescriptor yX12_isJuror.desc).map (fun d => d.parameters.length) = some 1 := by decide +kernel
def F_X12_isJuror (n : Nat) (a0 : Nat) (a1 : Int32) (σ : Hp) : Option (Int32 × Hp) := b1 (hR σ a0 0) fun (i1 : Nat) => ck (¬ ((1 : Int32) < 0 ∨ hL σ i1 ≤ (1 : Int32).toNatClampNeg)) (b2 (F_X12_isIn n a1.toInt64 0 (((hI σ i1 (1 : Int32).toNatClampNeg) - 1).toInt64) σ) fun (r3 : Int32) (σ2 : Hp) => ck (r3 = 0 ∨ r3 = 1) (some (r3, σ2)))
abbrev rm_X12_isShelf : Room := { frames := 1, cells := 0, slots := 0, locals := 25 }
theorem h_X12_isShelf : yX12_isShelf.cls = RX12 ∧ yX12_isShelf.cls ≠ "java/lang/invoke/MethodHandle" ∧ yX12_isShelf.cls ≠ "java/lang/invoke/VarHandle" ∧ (parseMethodDescriptor yX12_isShelf.desc).map (fun d => d.parameters.length) = some 1 := by decide +kernel
def F_X12_isShelf (n : Nat) (a0 : Int32) (σ : Hp) : Option (Int32 × Hp) := b2 (F_X12_isIn n a0.toInt64 0 7 σ) fun (r2 : Int32) (σ1 : Hp) => ck (r2 = 0 ∨ r2 = 1) (some (r2, σ1))
abbrev rm_X12_get : Room := { frames := 0, cells := 0, slots := 0, locals := 0 }
theorem h_X12_get : yX12_get.cls = RX12 ∧ yX12_get.cls ≠ "java/lang/invoke/MethodHandle" ∧ yX12_get.cls ≠ "java/lang/invoke/VarHandle" ∧ (parseMethodDescriptor yX12_get.desc).map (fun d => d.parameters.length) = some 2 := by decide +kernel
def F_X12_get (n : Nat) (a0 : Nat) (a1 : Int32) (a2 : Int32) (σ : Hp) : Option (Int32 × Hp) := b1 (hR σ a0 0) fun (i1 : Nat) => ck (¬ (((19 + (7 * a1)) + a2) < 0 ∨ hL σ i1 ≤ ((19 + (7 * a1)) + a2).toNatClampNeg)) (some (hI σ i1 ((19 + (7 * a1)) + a2).toNatClampNeg, σ))
abbrev rm_X12_becomes : Room := { frames := 0, cells := 0, slots := 0, locals := 0 }
theorem h_X12_becomes : yX12_becomes.cls = RX12 ∧ yX12_becomes.cls ≠ "java/lang/invoke/MethodHandle" ∧ yX12_becomes.cls ≠ "java/lang/invoke/VarHandle" ∧ (parseMethodDescriptor yX12_becomes.desc).map (fun d => d.parameters.length) = some 2 := by decide +kernel
def F_X12_becomes (n : Nat) (a0 : Nat) (a1 : Int32) (a2 : Int32) (σ : Hp) : Option (Int32 × Hp) := b1 (hR σ a0 0) fun (i1 : Nat) => ck (¬ (a1 < 0 ∨ hL σ i1 ≤ a1.toNatClampNeg)) (b1 (hR σ a0 0) fun (i2 : Nat) => ck (¬ (a1 < 0 ∨ hL σ i2 ≤ a1.toNatClampNeg)) (lt (pI σ i2 a1.toNatClampNeg a2) fun (σ3 : Hp) => some (hI σ i1 a1.toNatClampNeg, σ3)))
abbrev rm_X12_bits : Room := { frames := 0, cells := 0, slots := 0, locals := 0 }
theorem h_X12_bits : yX12_bits.cls = RX12 ∧ yX12_bits.cls ≠ "java/lang/invoke/MethodHandle" ∧ yX12_bits.cls ≠ "java/lang/invoke/VarHandle" ∧ (parseMethodDescriptor yX12_bits.desc).map (fun d => d.parameters.length) = some 1 := by decide +kernel
def F_X12_bits_4 (n : Nat)  : Nat → Int32 → Int32 → Hp → Option (Int32 × Hp)
  | 0, _, _, _ => none
  | f + 1, v1, v2, σ => if v2 ≤ 0 then (some (v1, σ)) else ((F_X12_bits_4 n  f) (v1 + (v2 &&& 1)) (v2 >>> (1 &&& 31)) σ)
def F_X12_bits (n : Nat) (a0 : Int32) (σ : Hp) : Option (Int32 × Hp) := F_X12_bits_4 n  n 0 a0 σ
abbrev rm_X12_thing : Room := { frames := 1, cells := 0, slots := 0, locals := 25 }
theorem h_X12_thing : yX12_thing.cls = RX12 ∧ yX12_thing.cls ≠ "java/lang/invoke/MethodHandle" ∧ yX12_thing.cls ≠ "java/lang/invoke/VarHandle" ∧ (parseMethodDescriptor yX12_thing.desc).map (fun d => d.parameters.length) = some 1 := by decide +kernel
def F_X12_thing (n : Nat) (a0 : Nat) (a1 : Int32) (σ : Hp) : Option (Int32 × Hp) := b2 (F_X12_isIn n a1.toInt64 (-20) 20 σ) fun (r2 : Int32) (σ1 : Hp) => if r2 = 0 then (some ((-1), σ1)) else (b1 (hR σ1 a0 0) fun (i3 : Nat) => ck (¬ ((0 : Int32) < 0 ∨ hL σ1 i3 ≤ (0 : Int32).toNatClampNeg)) (if (hI σ1 i3 (0 : Int32).toNatClampNeg) = 12 then (some ((-2), σ1)) else (b1 (hR σ1 a0 0) fun (i4 : Nat) => b1 (hR σ1 a0 0) fun (i5 : Nat) => ck (¬ ((0 : Int32) < 0 ∨ hL σ1 i5 ≤ (0 : Int32).toNatClampNeg)) (ck (¬ ((7 + (hI σ1 i5 (0 : Int32).toNatClampNeg)) < 0 ∨ hL σ1 i4 ≤ (7 + (hI σ1 i5 (0 : Int32).toNatClampNeg)).toNatClampNeg)) (lt (pI σ1 i4 (7 + (hI σ1 i5 (0 : Int32).toNatClampNeg)).toNatClampNeg a1) fun (σ6 : Hp) => b1 (hR σ6 a0 0) fun (i7 : Nat) => ck (¬ ((0 : Int32) < 0 ∨ hL σ6 i7 ≤ (0 : Int32).toNatClampNeg)) (ck (¬ ((0 : Int32) < 0 ∨ hL σ6 i7 ≤ (0 : Int32).toNatClampNeg)) (lt (pI σ6 i7 (0 : Int32).toNatClampNeg ((hI σ6 i7 (0 : Int32).toNatClampNeg) + 1)) fun (σ8 : Hp) => b1 (hR σ8 a0 0) fun (i9 : Nat) => ck (¬ ((0 : Int32) < 0 ∨ hL σ8 i9 ≤ (0 : Int32).toNatClampNeg)) (some ((hI σ8 i9 (0 : Int32).toNatClampNeg) - 1, σ8)))))))))
theorem c_X12_init (l : Launch) (D : va_G) (cA : Nat → ClassId) (base : Nat) (ad : Nat → Nat) (σ : Hp) (n : Nat) (a0 : Nat) (hT_a0 : hT σ a0 12) {τ : Hp} (hF : F_X12_init n a0 σ = some τ) : MVa l yX12_init cX12_init 1 rm_X12_init D cA base ad σ [.ref (ad a0)] τ 15 2483 := by
  refine Met.ofW (cc := cX12_init) (maxL := 1) (ret := none) (by decide) rfl ?_
  intro p e s m args below meth c s₁ B hml hv
  obtain ⟨rfl, hv⟩ := hv
  have X : SX D cA base p s m ([.ref (ad a0)] : List Value).toArray meth c cX12_init 1 none RX12 := sx_of B hml hv
  have hG := hv.1
  have hS : va_S (bA base) s.heap s.heap [] := va_S.rf
  have hE := xT.rf σ
  have hA := adE.rf σ ad
  have hin : meth.name = "<init>" := (name_of_methodNamed B.named B.method).1
  have hl := lv_entry ([.ref (ad a0)]) (n := 1) (Nat.le_of_ble_eq_true rfl)
  rw [lg_entry_eq]
  generalize (lg_sl ([.ref (ad a0)]) ++ List.replicate (1 - (lg_sl ([.ref (ad a0)])).length) Slot.unset).toArray = ls at hl ⊢
  have hl : lv_has ls 1 [(0, .ref (ad a0))] := hl
  unfold F_X12_init at hF
  refine lv_aload_n X.1 X.2.1 dX12_init_0 rfl (lv_at hl 0 rfl) ?_
  refine W.objInit X.1 X.2.1 X.2.2.2.2.2.1 (X.w k_959) (X.w k_28) (X.w k_29) rfl (by rw [X.2.2.1]; exact hl.1) rfl dX12_init_1 (Nat.le_of_ble_eq_true rfl) (Nat.le_of_ble_eq_true rfl) ?_
  refine W.eq (g2 := F0 m 4 ls []) rfl ?_
  refine lv_aload_n X.1 X.2.1 dX12_init_4 rfl (lv_at hl 0 rfl) ?_
  refine lv_bipush (v := 109) X.1 X.2.1 dX12_init_5 (by decide) ?_
  refine gx_newI (M := 109) X hG hS k_122 (by decide) (by decide) (by decide) dX12_init_7 hF (fun i1 σ2 ad3 H hG hS hX hA2 hT_i1 hF => ?_)
  have hl : lv_has ls 1 [(0, .ref (ad3 a0))] := by rw [hA2 a0 hT_a0.1]; exact hl
  refine W.eq (g2 := F0 m 9 ls [.ref (ad3 i1), .ref (ad3 a0)]) (by rw [hA2 a0 hT_a0.1] <;> rfl) ?_
  replace hA := hA.trans hE.1 hA2
  have hT_a0 := hX.T hT_a0
  replace hE := hE.trans hX
  refine gx_putFR 0 (x := (some i1)) X hG hS hT_a0.1 (hT_a0.eq (by decide)) (by decide) rfl inX12 tyX12_ok nmX12 (by decide) k_960 rfl hin rfl (gx_narA _) (gx_fitA _) rfl (oT.some hT_i1) (Nat.le_of_ble_eq_true rfl) dX12_init_9 hF (fun σ4 H locs hG hS hX hF => ?_)
  have hT_a0 := hX.T hT_a0
  replace hE := hE.trans hX
  refine lv_aload_n X.1 X.2.1 dX12_init_12 rfl (lv_at hl 0 rfl) ?_
  refine lv_bipush (v := 109) X.1 X.2.1 dX12_init_13 (by decide) ?_
  refine gx_newI (M := 109) X hG hS k_122 (by decide) (by decide) (by decide) dX12_init_15 hF (fun i5 σ6 ad7 H hG hS hX hA2 hT_i5 hF => ?_)
  have hl : lv_has ls 1 [(0, .ref (ad7 a0))] := by rw [hA2 a0 hT_a0.1]; exact hl
  refine W.eq (g2 := F0 m 17 ls [.ref (ad7 i5), .ref (ad7 a0)]) (by rw [hA2 a0 hT_a0.1] <;> rfl) ?_
  replace hA := hA.trans hE.1 hA2
  have hT_a0 := hX.T hT_a0
  replace hE := hE.trans hX
  refine gx_putFR 1 (x := (some i5)) X hG hS hT_a0.1 (hT_a0.eq (by decide)) (by decide) rfl inX12 tyX12_ok nmX12 (by decide) k_961 rfl hin rfl (gx_narA _) (gx_fitA _) rfl (oT.some hT_i5) (Nat.le_of_ble_eq_true rfl) dX12_init_17 hF (fun σ8 H locs hG hS hX hF => ?_)
  have hT_a0 := hX.T hT_a0
  replace hE := hE.trans hX
  refine lv_aload_n X.1 X.2.1 dX12_init_20 rfl (lv_at hl 0 rfl) ?_
  refine lv_sipush (v := 600) X.1 X.2.1 dX12_init_21 (by decide) ?_
  refine gx_newI (M := 600) X hG hS k_122 (by decide) (by decide) (by decide) dX12_init_24 hF (fun i9 σ10 ad11 H hG hS hX hA2 hT_i9 hF => ?_)
  have hl : lv_has ls 1 [(0, .ref (ad11 a0))] := by rw [hA2 a0 hT_a0.1]; exact hl
  refine W.eq (g2 := F0 m 26 ls [.ref (ad11 i9), .ref (ad11 a0)]) (by rw [hA2 a0 hT_a0.1] <;> rfl) ?_
  replace hA := hA.trans hE.1 hA2
  have hT_a0 := hX.T hT_a0
  replace hE := hE.trans hX
  refine gx_putFR 2 (x := (some i9)) X hG hS hT_a0.1 (hT_a0.eq (by decide)) (by decide) rfl inX12 tyX12_ok nmX12 (by decide) k_962 rfl hin rfl (gx_narA _) (gx_fitA _) rfl (oT.some hT_i9) (Nat.le_of_ble_eq_true rfl) dX12_init_26 hF (fun σ12 H locs hG hS hX hF => ?_)
  have hT_a0 := hX.T hT_a0
  replace hE := hE.trans hX
  refine lv_aload_n X.1 X.2.1 dX12_init_29 rfl (lv_at hl 0 rfl) ?_
  refine lv_sipush (v := 600) X.1 X.2.1 dX12_init_30 (by decide) ?_
  refine gx_newI (M := 600) X hG hS k_122 (by decide) (by decide) (by decide) dX12_init_33 hF (fun i13 σ14 ad15 H hG hS hX hA2 hT_i13 hF => ?_)
  have hl : lv_has ls 1 [(0, .ref (ad15 a0))] := by rw [hA2 a0 hT_a0.1]; exact hl
  refine W.eq (g2 := F0 m 35 ls [.ref (ad15 i13), .ref (ad15 a0)]) (by rw [hA2 a0 hT_a0.1] <;> rfl) ?_
  replace hA := hA.trans hE.1 hA2
  have hT_a0 := hX.T hT_a0
  replace hE := hE.trans hX
  refine gx_putFR 3 (x := (some i13)) X hG hS hT_a0.1 (hT_a0.eq (by decide)) (by decide) rfl inX12 tyX12_ok nmX12 (by decide) k_963 rfl hin rfl (gx_narA _) (gx_fitA _) rfl (oT.some hT_i13) (Nat.le_of_ble_eq_true rfl) dX12_init_35 hF (fun σ16 H locs hG hS hX hF => ?_)
  have hT_a0 := hX.T hT_a0
  replace hE := hE.trans hX
  refine lv_aload_n X.1 X.2.1 dX12_init_38 rfl (lv_at hl 0 rfl) ?_
  refine lv_bipush (v := 67) X.1 X.2.1 dX12_init_39 (by decide) ?_
  refine gx_newI (M := 67) X hG hS k_122 (by decide) (by decide) (by decide) dX12_init_41 hF (fun i17 σ18 ad19 H hG hS hX hA2 hT_i17 hF => ?_)
  have hl : lv_has ls 1 [(0, .ref (ad19 a0))] := by rw [hA2 a0 hT_a0.1]; exact hl
  refine W.eq (g2 := F0 m 43 ls [.ref (ad19 i17), .ref (ad19 a0)]) (by rw [hA2 a0 hT_a0.1] <;> rfl) ?_
  replace hA := hA.trans hE.1 hA2
  have hT_a0 := hX.T hT_a0
  replace hE := hE.trans hX
  refine gx_putFR 4 (x := (some i17)) X hG hS hT_a0.1 (hT_a0.eq (by decide)) (by decide) rfl inX12 tyX12_ok nmX12 (by decide) k_964 rfl hin rfl (gx_narA _) (gx_fitA _) rfl (oT.some hT_i17) (Nat.le_of_ble_eq_true rfl) dX12_init_43 hF (fun σ20 H locs hG hS hX hF => ?_)
  have hT_a0 := hX.T hT_a0
  replace hE := hE.trans hX
  refine lv_aload_n X.1 X.2.1 dX12_init_46 rfl (lv_at hl 0 rfl) ?_
  refine lv_bipush (v := 67) X.1 X.2.1 dX12_init_47 (by decide) ?_
  refine gx_newI (M := 67) X hG hS k_122 (by decide) (by decide) (by decide) dX12_init_49 hF (fun i21 σ22 ad23 H hG hS hX hA2 hT_i21 hF => ?_)
  have hl : lv_has ls 1 [(0, .ref (ad23 a0))] := by rw [hA2 a0 hT_a0.1]; exact hl
  refine W.eq (g2 := F0 m 51 ls [.ref (ad23 i21), .ref (ad23 a0)]) (by rw [hA2 a0 hT_a0.1] <;> rfl) ?_
  replace hA := hA.trans hE.1 hA2
  have hT_a0 := hX.T hT_a0
  replace hE := hE.trans hX
  refine gx_putFR 5 (x := (some i21)) X hG hS hT_a0.1 (hT_a0.eq (by decide)) (by decide) rfl inX12 tyX12_ok nmX12 (by decide) k_965 rfl hin rfl (gx_narA _) (gx_fitA _) rfl (oT.some hT_i21) (Nat.le_of_ble_eq_true rfl) dX12_init_51 hF (fun σ24 H locs hG hS hX hF => ?_)
  have hT_a0 := hX.T hT_a0
  replace hE := hE.trans hX
  refine lv_aload_n X.1 X.2.1 dX12_init_54 rfl (lv_at hl 0 rfl) ?_
  refine lv_bipush (v := 67) X.1 X.2.1 dX12_init_55 (by decide) ?_
  refine gx_newI (M := 67) X hG hS k_122 (by decide) (by decide) (by decide) dX12_init_57 hF (fun i25 σ26 ad27 H hG hS hX hA2 hT_i25 hF => ?_)
  have hl : lv_has ls 1 [(0, .ref (ad27 a0))] := by rw [hA2 a0 hT_a0.1]; exact hl
  refine W.eq (g2 := F0 m 59 ls [.ref (ad27 i25), .ref (ad27 a0)]) (by rw [hA2 a0 hT_a0.1] <;> rfl) ?_
  replace hA := hA.trans hE.1 hA2
  have hT_a0 := hX.T hT_a0
  replace hE := hE.trans hX
  refine gx_putFR 6 (x := (some i25)) X hG hS hT_a0.1 (hT_a0.eq (by decide)) (by decide) rfl inX12 tyX12_ok nmX12 (by decide) k_966 rfl hin rfl (gx_narA _) (gx_fitA _) rfl (oT.some hT_i25) (Nat.le_of_ble_eq_true rfl) dX12_init_59 hF (fun σ28 H locs hG hS hX hF => ?_)
  have hT_a0 := hX.T hT_a0
  replace hE := hE.trans hX
  refine lv_aload_n X.1 X.2.1 dX12_init_62 rfl (lv_at hl 0 rfl) ?_
  refine lv_bipush (v := 8) X.1 X.2.1 dX12_init_63 (by decide) ?_
  refine gx_newI (M := 8) X hG hS k_122 (by decide) (by decide) (by decide) dX12_init_65 hF (fun i29 σ30 ad31 H hG hS hX hA2 hT_i29 hF => ?_)
  have hl : lv_has ls 1 [(0, .ref (ad31 a0))] := by rw [hA2 a0 hT_a0.1]; exact hl
  refine W.eq (g2 := F0 m 67 ls [.ref (ad31 i29), .ref (ad31 a0)]) (by rw [hA2 a0 hT_a0.1] <;> rfl) ?_
  replace hA := hA.trans hE.1 hA2
  have hT_a0 := hX.T hT_a0
  replace hE := hE.trans hX
  refine gx_putFR 7 (x := (some i29)) X hG hS hT_a0.1 (hT_a0.eq (by decide)) (by decide) rfl inX12 tyX12_ok nmX12 (by decide) k_967 rfl hin rfl (gx_narA _) (gx_fitA _) rfl (oT.some hT_i29) (Nat.le_of_ble_eq_true rfl) dX12_init_67 hF (fun σ32 H locs hG hS hX hF => ?_)
  have hT_a0 := hX.T hT_a0
  replace hE := hE.trans hX
  refine lv_aload_n X.1 X.2.1 dX12_init_70 rfl (lv_at hl 0 rfl) ?_
  refine lv_bipush (v := 8) X.1 X.2.1 dX12_init_71 (by decide) ?_
  refine gx_newI (M := 8) X hG hS k_122 (by decide) (by decide) (by decide) dX12_init_73 hF (fun i33 σ34 ad35 H hG hS hX hA2 hT_i33 hF => ?_)
  have hl : lv_has ls 1 [(0, .ref (ad35 a0))] := by rw [hA2 a0 hT_a0.1]; exact hl
  refine W.eq (g2 := F0 m 75 ls [.ref (ad35 i33), .ref (ad35 a0)]) (by rw [hA2 a0 hT_a0.1] <;> rfl) ?_
  replace hA := hA.trans hE.1 hA2
  have hT_a0 := hX.T hT_a0
  replace hE := hE.trans hX
  refine gx_putFR 8 (x := (some i33)) X hG hS hT_a0.1 (hT_a0.eq (by decide)) (by decide) rfl inX12 tyX12_ok nmX12 (by decide) k_968 rfl hin rfl (gx_narA _) (gx_fitA _) rfl (oT.some hT_i33) (Nat.le_of_ble_eq_true rfl) dX12_init_75 hF (fun σ36 H locs hG hS hX hF => ?_)
  have hT_a0 := hX.T hT_a0
  replace hE := hE.trans hX
  refine lv_aload_n X.1 X.2.1 dX12_init_78 rfl (lv_at hl 0 rfl) ?_
  refine lv_bipush (v := 8) X.1 X.2.1 dX12_init_79 (by decide) ?_
  refine gx_newI (M := 8) X hG hS k_122 (by decide) (by decide) (by decide) dX12_init_81 hF (fun i37 σ38 ad39 H hG hS hX hA2 hT_i37 hF => ?_)
  have hl : lv_has ls 1 [(0, .ref (ad39 a0))] := by rw [hA2 a0 hT_a0.1]; exact hl
  refine W.eq (g2 := F0 m 83 ls [.ref (ad39 i37), .ref (ad39 a0)]) (by rw [hA2 a0 hT_a0.1] <;> rfl) ?_
  replace hA := hA.trans hE.1 hA2
  have hT_a0 := hX.T hT_a0
  replace hE := hE.trans hX
  refine gx_putFR 9 (x := (some i37)) X hG hS hT_a0.1 (hT_a0.eq (by decide)) (by decide) rfl inX12 tyX12_ok nmX12 (by decide) k_969 rfl hin rfl (gx_narA _) (gx_fitA _) rfl (oT.some hT_i37) (Nat.le_of_ble_eq_true rfl) dX12_init_83 hF (fun σ40 H locs hG hS hX hF => ?_)
  have hT_a0 := hX.T hT_a0
  replace hE := hE.trans hX
  refine lv_aload_n X.1 X.2.1 dX12_init_86 rfl (lv_at hl 0 rfl) ?_
  refine lv_sipush (v := 800) X.1 X.2.1 dX12_init_87 (by decide) ?_
  refine gx_newI (M := 800) X hG hS k_122 (by decide) (by decide) (by decide) dX12_init_90 hF (fun i41 σ42 ad43 H hG hS hX hA2 hT_i41 hF => ?_)
  have hl : lv_has ls 1 [(0, .ref (ad43 a0))] := by rw [hA2 a0 hT_a0.1]; exact hl
  refine W.eq (g2 := F0 m 92 ls [.ref (ad43 i41), .ref (ad43 a0)]) (by rw [hA2 a0 hT_a0.1] <;> rfl) ?_
  replace hA := hA.trans hE.1 hA2
  have hT_a0 := hX.T hT_a0
  replace hE := hE.trans hX
  refine gx_putFR 10 (x := (some i41)) X hG hS hT_a0.1 (hT_a0.eq (by decide)) (by decide) rfl inX12 tyX12_ok nmX12 (by decide) k_970 rfl hin rfl (gx_narA _) (gx_fitA _) rfl (oT.some hT_i41) (Nat.le_of_ble_eq_true rfl) dX12_init_92 hF (fun σ44 H locs hG hS hX hF => ?_)
  have hT_a0 := hX.T hT_a0
  replace hE := hE.trans hX
  refine lv_aload_n X.1 X.2.1 dX12_init_95 rfl (lv_at hl 0 rfl) ?_
  refine lv_bipush (v := 8) X.1 X.2.1 dX12_init_96 (by decide) ?_
  refine gx_newI (M := 8) X hG hS k_122 (by decide) (by decide) (by decide) dX12_init_98 hF (fun i45 σ46 ad47 H hG hS hX hA2 hT_i45 hF => ?_)
  have hl : lv_has ls 1 [(0, .ref (ad47 a0))] := by rw [hA2 a0 hT_a0.1]; exact hl
  refine W.eq (g2 := F0 m 100 ls [.ref (ad47 i45), .ref (ad47 a0)]) (by rw [hA2 a0 hT_a0.1] <;> rfl) ?_
  replace hA := hA.trans hE.1 hA2
  have hT_a0 := hX.T hT_a0
  replace hE := hE.trans hX
  refine gx_putFR 11 (x := (some i45)) X hG hS hT_a0.1 (hT_a0.eq (by decide)) (by decide) rfl inX12 tyX12_ok nmX12 (by decide) k_971 rfl hin rfl (gx_narA _) (gx_fitA _) rfl (oT.some hT_i45) (Nat.le_of_ble_eq_true rfl) dX12_init_100 hF (fun σ48 H locs hG hS hX hF => ?_)
  have hT_a0 := hX.T hT_a0
  replace hE := hE.trans hX
  refine lv_aload_n X.1 X.2.1 dX12_init_103 rfl (lv_at hl 0 rfl) ?_
  refine lv_bipush (v := 8) X.1 X.2.1 dX12_init_104 (by decide) ?_
  refine gx_newI (M := 8) X hG hS k_122 (by decide) (by decide) (by decide) dX12_init_106 hF (fun i49 σ50 ad51 H hG hS hX hA2 hT_i49 hF => ?_)
  have hl : lv_has ls 1 [(0, .ref (ad51 a0))] := by rw [hA2 a0 hT_a0.1]; exact hl
  refine W.eq (g2 := F0 m 108 ls [.ref (ad51 i49), .ref (ad51 a0)]) (by rw [hA2 a0 hT_a0.1] <;> rfl) ?_
  replace hA := hA.trans hE.1 hA2
  have hT_a0 := hX.T hT_a0
  replace hE := hE.trans hX
  refine gx_putFR 12 (x := (some i49)) X hG hS hT_a0.1 (hT_a0.eq (by decide)) (by decide) rfl inX12 tyX12_ok nmX12 (by decide) k_972 rfl hin rfl (gx_narA _) (gx_fitA _) rfl (oT.some hT_i49) (Nat.le_of_ble_eq_true rfl) dX12_init_108 hF (fun σ52 H locs hG hS hX hF => ?_)
  have hT_a0 := hX.T hT_a0
  replace hE := hE.trans hX
  refine lv_aload_n X.1 X.2.1 dX12_init_111 rfl (lv_at hl 0 rfl) ?_
  refine lv_aload_n X.1 X.2.1 dX12_init_112 rfl (lv_at hl 0 rfl) ?_
  obtain ⟨i53, hr, hF⟩ := b1_ex hF
  have hT_i53 : hT σ52 i53 13 := gw_T hG hT_a0 (by decide) hr
  refine gx_get 10 (v := .ref (ad51 i53)) X hG hT_a0.1 (hT_a0.eq (by decide)) (by decide) rfl inX12 (by decide) k_970 (fun _ h => h) (gx_rfv hr) dX12_init_113 ?_
  refine gx_putR 15 (x := (some i53)) X hG hS hT_a0.1 (hT_a0.eq (by decide)) (by decide) rfl inX12 tyX12_ok nmX12 (by decide) k_975 (fun _ h => h) rfl (gx_narA _) (gx_fitA _) rfl (oT.some hT_i53) (Nat.le_of_ble_eq_true rfl) dX12_init_116 hF (fun σ54 H locs hG hS hX hF => ?_)
  have hT_a0 := hX.T hT_a0
  replace hE := hE.trans hX
  refine lv_aload_n X.1 X.2.1 dX12_init_119 rfl (lv_at hl 0 rfl) ?_
  refine lv_bipush (v := 12) X.1 X.2.1 dX12_init_120 (by decide) ?_
  refine gx_newI (M := 12) X hG hS k_122 (by decide) (by decide) (by decide) dX12_init_122 hF (fun i55 σ56 ad57 H hG hS hX hA2 hT_i55 hF => ?_)
  have hl : lv_has ls 1 [(0, .ref (ad57 a0))] := by rw [hA2 a0 hT_a0.1]; exact hl
  refine W.eq (g2 := F0 m 124 ls [.ref (ad57 i55), .ref (ad57 a0)]) (by rw [hA2 a0 hT_a0.1] <;> rfl) ?_
  replace hA := hA.trans hE.1 hA2
  have hT_a0 := hX.T hT_a0
  replace hE := hE.trans hX
  refine gx_putFR 28 (x := (some i55)) X hG hS hT_a0.1 (hT_a0.eq (by decide)) (by decide) rfl inX12 tyX12_ok nmX12 (by decide) k_988 rfl hin rfl (gx_narA _) (gx_fitA _) rfl (oT.some hT_i55) (Nat.le_of_ble_eq_true rfl) dX12_init_124 hF (fun σ58 H locs hG hS hX hF => ?_)
  have hT_a0 := hX.T hT_a0
  replace hE := hE.trans hX
  refine lv_aload_n X.1 X.2.1 dX12_init_127 rfl (lv_at hl 0 rfl) ?_
  refine lv_bipush (v := 12) X.1 X.2.1 dX12_init_128 (by decide) ?_
  refine gx_newI (M := 12) X hG hS k_122 (by decide) (by decide) (by decide) dX12_init_130 hF (fun i59 σ60 ad61 H hG hS hX hA2 hT_i59 hF => ?_)
  have hl : lv_has ls 1 [(0, .ref (ad61 a0))] := by rw [hA2 a0 hT_a0.1]; exact hl
  refine W.eq (g2 := F0 m 132 ls [.ref (ad61 i59), .ref (ad61 a0)]) (by rw [hA2 a0 hT_a0.1] <;> rfl) ?_
  replace hA := hA.trans hE.1 hA2
  have hT_a0 := hX.T hT_a0
  replace hE := hE.trans hX
  refine gx_putFR 29 (x := (some i59)) X hG hS hT_a0.1 (hT_a0.eq (by decide)) (by decide) rfl inX12 tyX12_ok nmX12 (by decide) k_989 rfl hin rfl (gx_narA _) (gx_fitA _) rfl (oT.some hT_i59) (Nat.le_of_ble_eq_true rfl) dX12_init_132 hF (fun σ62 H locs hG hS hX hF => ?_)
  have hT_a0 := hX.T hT_a0
  replace hE := hE.trans hX
  refine lv_aload_n X.1 X.2.1 dX12_init_135 rfl (lv_at hl 0 rfl) ?_
  obtain ⟨i63, hr, hF⟩ := b1_ex hF
  have hT_i63 : hT σ62 i63 13 := gw_T hG hT_a0 (by decide) hr
  refine gx_get 0 (v := .ref (ad61 i63)) X hG hT_a0.1 (hT_a0.eq (by decide)) (by decide) rfl inX12 (by decide) k_960 (fun _ h => h) (gx_rfv hr) dX12_init_136 ?_
  refine lv_iconst (v := 3) X.1 X.2.1 dX12_init_139 (by decide) ?_
  refine lv_bipush (v := 12) X.1 X.2.1 dX12_init_140 (by decide) ?_
  refine gx_iast X hG hS hT_i63 hF dX12_init_142 (fun σ64 H locs hG hS hX hF => ?_)
  have hT_a0 := hX.T hT_a0
  replace hE := hE.trans hX
  refine lv_aload_n X.1 X.2.1 dX12_init_143 rfl (lv_at hl 0 rfl) ?_
  obtain ⟨i65, hr, hF⟩ := b1_ex hF
  have hT_i65 : hT σ64 i65 13 := gw_T hG hT_a0 (by decide) hr
  refine gx_get 0 (v := .ref (ad61 i65)) X hG hT_a0.1 (hT_a0.eq (by decide)) (by decide) rfl inX12 (by decide) k_960 (fun _ h => h) (gx_rfv hr) dX12_init_144 ?_
  refine lv_bipush (v := 6) X.1 X.2.1 dX12_init_147 (by decide) ?_
  refine lv_sipush (v := 600) X.1 X.2.1 dX12_init_149 (by decide) ?_
  refine gx_iast X hG hS hT_i65 hF dX12_init_152 (fun σ66 H locs hG hS hX hF => ?_)
  have hT_a0 := hX.T hT_a0
  replace hE := hE.trans hX
  refine W.widen (k := 15) (n := 2483) (by decide) (by decide) ?_
  exact gx_vretA X hG hS hE hA hF dX12_init_153
theorem c_X12_thrown (l : Launch) (D : va_G) (cA : Nat → ClassId) (base : Nat) (ad : Nat → Nat) (σ : Hp) (n : Nat) (a0 : Nat) (hT_a0 : hT σ a0 12) {τ : Hp} {r : Int32} (hF : F_X12_thrown n a0 σ = some (r, τ)) : MI l yX12_thrown cX12_thrown 1 (some .int) rm_X12_thrown D cA base ad σ [.ref (ad a0)] r τ := by
  refine Met.ofW (cc := cX12_thrown) (maxL := 1) (ret := (some .int)) (by decide) rfl ?_
  intro p e s m args below meth c s₁ B hml hv
  obtain ⟨rfl, hv⟩ := hv
  have X : SX D cA base p s m ([.ref (ad a0)] : List Value).toArray meth c cX12_thrown 1 (some .int) RX12 := sx_of B hml hv
  have hG := hv.1
  have hS : va_S (bA base) s.heap s.heap [] := va_S.rf
  have hE := xT.rf σ
  have hl := lv_entry ([.ref (ad a0)]) (n := 1) (Nat.le_of_ble_eq_true rfl)
  rw [lg_entry_eq]
  generalize (lg_sl ([.ref (ad a0)]) ++ List.replicate (1 - (lg_sl ([.ref (ad a0)])).length) Slot.unset).toArray = ls at hl ⊢
  have hl : lv_has ls 1 [(0, .ref (ad a0))] := hl
  unfold F_X12_thrown at hF
  refine lv_aload_n X.1 X.2.1 dX12_thrown_0 rfl (lv_at hl 0 rfl) ?_
  refine gx_get 14 (v := .int (hI σ a0 14)) X hG hT_a0.1 (hT_a0.eq (by decide)) (by decide) rfl inX12 (by decide) k_974 (fun _ h => h) rfl dX12_thrown_1 ?_
  exact gx_iret X hG hS hE hF dX12_thrown_4
theorem c_X12_isIn (l : Launch) (D : va_G) (cA : Nat → ClassId) (base : Nat) (ad : Nat → Nat) (σ : Hp) (n : Nat) (a0 : Int64) (a2 : Int64) (a4 : Int64)  {τ : Hp} {r : Int32} (hF : F_X12_isIn n a0 a2 a4 σ = some (r, τ)) : MI l yX12_isIn cX12_isIn 6 (some .boolean) rm_X12_isIn D cA base ad σ [.long a0, .long a2, .long a4] r τ := by
  refine Met.ofW (cc := cX12_isIn) (maxL := 6) (ret := (some .boolean)) (by decide) rfl ?_
  intro p e s m args below meth c s₁ B hml hv
  obtain ⟨rfl, hv⟩ := hv
  have X : SX D cA base p s m ([.long a0, .long a2, .long a4] : List Value).toArray meth c cX12_isIn 6 (some .boolean) RX12 := sx_of B hml hv
  have hG := hv.1
  have hS : va_S (bA base) s.heap s.heap [] := va_S.rf
  have hE := xT.rf σ
  have hl := lv_entry ([.long a0, .long a2, .long a4]) (n := 6) (Nat.le_of_ble_eq_true rfl)
  rw [lg_entry_eq]
  generalize (lg_sl ([.long a0, .long a2, .long a4]) ++ List.replicate (6 - (lg_sl ([.long a0, .long a2, .long a4])).length) Slot.unset).toArray = ls at hl ⊢
  have hl : lv_has ls 6 [(0, .long a0), (2, .long a2), (4, .long a4)] := hl
  unfold F_X12_isIn at hF
  refine lv_lload_n X.1 X.2.1 dX12_isIn_0 rfl (lv_at hl 0 rfl) ?_
  refine lv_lload_n X.1 X.2.1 dX12_isIn_1 rfl (lv_at hl 1 rfl) ?_
  refine W.lcmp X.1 X.2.1 dX12_isIn_2 ?_
  refine lv_if_lt (tgt := 17) X.1 X.2.1 dX12_isIn_3 (by decide) (fun hc => ?_) (fun hc => ?_)
  · replace hF := it_t hF hc
    refine lv_iconst (v := 0) X.1 X.2.1 dX12_isIn_17 (by decide) ?_
    exact gx_zret X hG hS hE hF rfl dX12_isIn_18
  · replace hF := it_f hF hc
    refine lv_lload_n X.1 X.2.1 dX12_isIn_6 rfl (lv_at hl 0 rfl) ?_
    refine lv_lload X.1 X.2.1 dX12_isIn_7 (lv_at hl 2 rfl) ?_
    refine W.lcmp X.1 X.2.1 dX12_isIn_9 ?_
    refine lv_if_gt (tgt := 17) X.1 X.2.1 dX12_isIn_10 (by decide) (fun hc => ?_) (fun hc => ?_)
    · replace hF := it_t hF hc
      refine lv_iconst (v := 0) X.1 X.2.1 dX12_isIn_17 (by decide) ?_
      exact gx_zret X hG hS hE hF rfl dX12_isIn_18
    · replace hF := it_f hF hc
      refine lv_iconst (v := 1) X.1 X.2.1 dX12_isIn_13 (by decide) ?_
      refine lv_goto (tgt := 18) X.1 X.2.1 dX12_isIn_14 (by decide) ?_
      exact gx_zret X hG hS hE hF rfl dX12_isIn_18
theorem c_X12_isJuror (l : Launch) (D : va_G) (cA : Nat → ClassId) (base : Nat) (ad : Nat → Nat) (σ : Hp) (n : Nat) (a0 : Nat) (a1 : Int32) (hT_a0 : hT σ a0 12) {τ : Hp} {r : Int32} (hF : F_X12_isJuror n a0 a1 σ = some (r, τ)) : MI l yX12_isJuror cX12_isJuror 2 (some .boolean) rm_X12_isJuror D cA base ad σ [.ref (ad a0), .int a1] r τ := by
  refine Met.ofW (cc := cX12_isJuror) (maxL := 2) (ret := (some .boolean)) (by decide) rfl ?_
  intro p e s m args below meth c s₁ B hml hv
  obtain ⟨rfl, hv⟩ := hv
  have X : SX D cA base p s m ([.ref (ad a0), .int a1] : List Value).toArray meth c cX12_isJuror 2 (some .boolean) RX12 := sx_of B hml hv
  have hG := hv.1
  have hS : va_S (bA base) s.heap s.heap [] := va_S.rf
  have hE := xT.rf σ
  have hl := lv_entry ([.ref (ad a0), .int a1]) (n := 2) (Nat.le_of_ble_eq_true rfl)
  rw [lg_entry_eq]
  generalize (lg_sl ([.ref (ad a0), .int a1]) ++ List.replicate (2 - (lg_sl ([.ref (ad a0), .int a1])).length) Slot.unset).toArray = ls at hl ⊢
  have hl : lv_has ls 2 [(0, .ref (ad a0)), (1, .int a1)] := hl
  unfold F_X12_isJuror at hF
  refine lv_iload_n X.1 X.2.1 dX12_isJuror_0 rfl (lv_at hl 1 rfl) ?_
  refine lv_i2l X.1 X.2.1 dX12_isJuror_1 rfl ?_
  refine lv_lconst (v := 0) X.1 X.2.1 dX12_isJuror_2 (by decide) ?_
  refine lv_aload_n X.1 X.2.1 dX12_isJuror_3 rfl (lv_at hl 0 rfl) ?_
  obtain ⟨i1, hr, hF⟩ := b1_ex hF
  have hT_i1 : hT σ i1 13 := gw_T hG hT_a0 (by decide) hr
  refine gx_get 0 (v := .ref (ad i1)) X hG hT_a0.1 (hT_a0.eq (by decide)) (by decide) rfl inX12 (by decide) k_960 (fun _ h => h) (gx_rfv hr) dX12_isJuror_4 ?_
  refine lv_iconst (v := 1) X.1 X.2.1 dX12_isJuror_7 (by decide) ?_
  refine gx_iald X hG hT_i1 hF dX12_isJuror_8 (fun hF => ?_)
  refine lv_iconst (v := 1) X.1 X.2.1 dX12_isJuror_9 (by decide) ?_
  refine lv_isub X.1 X.2.1 dX12_isJuror_10 ?_
  refine lv_i2l X.1 X.2.1 dX12_isJuror_11 rfl ?_
  obtain ⟨r3, σ2, hz, hF⟩ := b2_ex hF
  refine gx_rI (gx_runS (As := [.long a1.toInt64, .long 0, .long (((hI σ i1 (1 : Int32).toNatClampNeg) - 1).toInt64)]) (rest := []) X hG hS (c_X12_isIn l D cA base ad σ n a1.toInt64 0 (((hI σ i1 (1 : Int32).toNatClampNeg) - 1).toInt64) hz) k_1063 k_1061 k_1062 k_4 (h_X12_isIn.2) rfl rfl ⟨by decide, by decide⟩ rfl hl.1 rfl (Nat.le_of_ble_eq_true rfl) dX12_isJuror_12 ⟨Nat.zero_le _, Nat.zero_le _⟩) hS (fun H locs hG hS hX => ?_)
  have hT_a0 := hX.T hT_a0
  replace hE := hE.trans hX
  obtain ⟨hz01, hF⟩ := ck_ex hF
  exact gx_zret X hG hS hE hF (nz_b hz01) dX12_isJuror_15
theorem c_X12_isShelf (l : Launch) (D : va_G) (cA : Nat → ClassId) (base : Nat) (ad : Nat → Nat) (σ : Hp) (n : Nat) (a0 : Int32)  {τ : Hp} {r : Int32} (hF : F_X12_isShelf n a0 σ = some (r, τ)) : MI l yX12_isShelf cX12_isShelf 1 (some .boolean) rm_X12_isShelf D cA base ad σ [.int a0] r τ := by
  refine Met.ofW (cc := cX12_isShelf) (maxL := 1) (ret := (some .boolean)) (by decide) rfl ?_
  intro p e s m args below meth c s₁ B hml hv
  obtain ⟨rfl, hv⟩ := hv
  have X : SX D cA base p s m ([.int a0] : List Value).toArray meth c cX12_isShelf 1 (some .boolean) RX12 := sx_of B hml hv
  have hG := hv.1
  have hS : va_S (bA base) s.heap s.heap [] := va_S.rf
  have hE := xT.rf σ
  have hl := lv_entry ([.int a0]) (n := 1) (Nat.le_of_ble_eq_true rfl)
  rw [lg_entry_eq]
  generalize (lg_sl ([.int a0]) ++ List.replicate (1 - (lg_sl ([.int a0])).length) Slot.unset).toArray = ls at hl ⊢
  have hl : lv_has ls 1 [(0, .int a0)] := hl
  unfold F_X12_isShelf at hF
  refine lv_iload_n X.1 X.2.1 dX12_isShelf_0 rfl (lv_at hl 0 rfl) ?_
  refine lv_i2l X.1 X.2.1 dX12_isShelf_1 rfl ?_
  refine lv_lconst (v := 0) X.1 X.2.1 dX12_isShelf_2 (by decide) ?_
  refine lv_ldc2 (v := 7) X.1 X.2.1 X.2.2.2.2.2.1 (X.w k_1111) dX12_isShelf_3 ?_
  obtain ⟨r2, σ1, hz, hF⟩ := b2_ex hF
  refine gx_rI (gx_runS (As := [.long a0.toInt64, .long 0, .long 7]) (rest := []) X hG hS (c_X12_isIn l D cA base ad σ n a0.toInt64 0 7 hz) k_1063 k_1061 k_1062 k_4 (h_X12_isIn.2) rfl rfl ⟨by decide, by decide⟩ rfl hl.1 rfl (Nat.le_of_ble_eq_true rfl) dX12_isShelf_6 ⟨Nat.zero_le _, Nat.zero_le _⟩) hS (fun H locs hG hS hX => ?_)
  replace hE := hE.trans hX
  obtain ⟨hz01, hF⟩ := ck_ex hF
  exact gx_zret X hG hS hE hF (nz_b hz01) dX12_isShelf_9
theorem c_X12_get (l : Launch) (D : va_G) (cA : Nat → ClassId) (base : Nat) (ad : Nat → Nat) (σ : Hp) (n : Nat) (a0 : Nat) (a1 : Int32) (a2 : Int32) (hT_a0 : hT σ a0 12) {τ : Hp} {r : Int32} (hF : F_X12_get n a0 a1 a2 σ = some (r, τ)) : MI l yX12_get cX12_get 3 (some .int) rm_X12_get D cA base ad σ [.ref (ad a0), .int a1, .int a2] r τ := by
  refine Met.ofW (cc := cX12_get) (maxL := 3) (ret := (some .int)) (by decide) rfl ?_
  intro p e s m args below meth c s₁ B hml hv
  obtain ⟨rfl, hv⟩ := hv
  have X : SX D cA base p s m ([.ref (ad a0), .int a1, .int a2] : List Value).toArray meth c cX12_get 3 (some .int) RX12 := sx_of B hml hv
  have hG := hv.1
  have hS : va_S (bA base) s.heap s.heap [] := va_S.rf
  have hE := xT.rf σ
  have hl := lv_entry ([.ref (ad a0), .int a1, .int a2]) (n := 3) (Nat.le_of_ble_eq_true rfl)
  rw [lg_entry_eq]
  generalize (lg_sl ([.ref (ad a0), .int a1, .int a2]) ++ List.replicate (3 - (lg_sl ([.ref (ad a0), .int a1, .int a2])).length) Slot.unset).toArray = ls at hl ⊢
  have hl : lv_has ls 3 [(0, .ref (ad a0)), (1, .int a1), (2, .int a2)] := hl
  unfold F_X12_get at hF
  refine lv_aload_n X.1 X.2.1 dX12_get_0 rfl (lv_at hl 0 rfl) ?_
  obtain ⟨i1, hr, hF⟩ := b1_ex hF
  have hT_i1 : hT σ i1 13 := gw_T hG hT_a0 (by decide) hr
  refine gx_get 0 (v := .ref (ad i1)) X hG hT_a0.1 (hT_a0.eq (by decide)) (by decide) rfl inX12 (by decide) k_960 (fun _ h => h) (gx_rfv hr) dX12_get_1 ?_
  refine lv_bipush (v := 19) X.1 X.2.1 dX12_get_4 (by decide) ?_
  refine lv_bipush (v := 7) X.1 X.2.1 dX12_get_6 (by decide) ?_
  refine lv_iload_n X.1 X.2.1 dX12_get_8 rfl (lv_at hl 1 rfl) ?_
  refine lv_imul X.1 X.2.1 dX12_get_9 ?_
  refine lv_iadd X.1 X.2.1 dX12_get_10 ?_
  refine lv_iload_n X.1 X.2.1 dX12_get_11 rfl (lv_at hl 2 rfl) ?_
  refine lv_iadd X.1 X.2.1 dX12_get_12 ?_
  refine gx_iald X hG hT_i1 hF dX12_get_13 (fun hF => ?_)
  exact gx_iret X hG hS hE hF dX12_get_14
theorem c_X12_becomes (l : Launch) (D : va_G) (cA : Nat → ClassId) (base : Nat) (ad : Nat → Nat) (σ : Hp) (n : Nat) (a0 : Nat) (a1 : Int32) (a2 : Int32) (hT_a0 : hT σ a0 12) {τ : Hp} {r : Int32} (hF : F_X12_becomes n a0 a1 a2 σ = some (r, τ)) : MI l yX12_becomes cX12_becomes 4 (some .int) rm_X12_becomes D cA base ad σ [.ref (ad a0), .int a1, .int a2] r τ := by
  refine Met.ofW (cc := cX12_becomes) (maxL := 4) (ret := (some .int)) (by decide) rfl ?_
  intro p e s m args below meth c s₁ B hml hv
  obtain ⟨rfl, hv⟩ := hv
  have X : SX D cA base p s m ([.ref (ad a0), .int a1, .int a2] : List Value).toArray meth c cX12_becomes 4 (some .int) RX12 := sx_of B hml hv
  have hG := hv.1
  have hS : va_S (bA base) s.heap s.heap [] := va_S.rf
  have hE := xT.rf σ
  have hl := lv_entry ([.ref (ad a0), .int a1, .int a2]) (n := 4) (Nat.le_of_ble_eq_true rfl)
  rw [lg_entry_eq]
  generalize (lg_sl ([.ref (ad a0), .int a1, .int a2]) ++ List.replicate (4 - (lg_sl ([.ref (ad a0), .int a1, .int a2])).length) Slot.unset).toArray = ls at hl ⊢
  have hl : lv_has ls 4 [(0, .ref (ad a0)), (1, .int a1), (2, .int a2)] := hl
  unfold F_X12_becomes at hF
  refine lv_aload_n X.1 X.2.1 dX12_becomes_0 rfl (lv_at hl 0 rfl) ?_
  obtain ⟨i1, hr, hF⟩ := b1_ex hF
  have hT_i1 : hT σ i1 13 := gw_T hG hT_a0 (by decide) hr
  refine gx_get 0 (v := .ref (ad i1)) X hG hT_a0.1 (hT_a0.eq (by decide)) (by decide) rfl inX12 (by decide) k_960 (fun _ h => h) (gx_rfv hr) dX12_becomes_1 ?_
  refine lv_iload_n X.1 X.2.1 dX12_becomes_4 rfl (lv_at hl 1 rfl) ?_
  refine gx_iald X hG hT_i1 hF dX12_becomes_5 (fun hF => ?_)
  refine lv_istore_n (lv' := [(3, .int (hI σ i1 a1.toNatClampNeg)), (0, .ref (ad a0)), (1, .int a1), (2, .int a2)]) X.1 X.2.1 dX12_becomes_6 rfl hl (by decide) rfl (fun ls hl => ?_)
  refine lv_aload_n X.1 X.2.1 dX12_becomes_7 rfl (lv_at hl 1 rfl) ?_
  obtain ⟨i2, hr, hF⟩ := b1_ex hF
  have hT_i2 : hT σ i2 13 := gw_T hG hT_a0 (by decide) hr
  refine gx_get 0 (v := .ref (ad i2)) X hG hT_a0.1 (hT_a0.eq (by decide)) (by decide) rfl inX12 (by decide) k_960 (fun _ h => h) (gx_rfv hr) dX12_becomes_8 ?_
  refine lv_iload_n X.1 X.2.1 dX12_becomes_11 rfl (lv_at hl 2 rfl) ?_
  refine lv_iload_n X.1 X.2.1 dX12_becomes_12 rfl (lv_at hl 3 rfl) ?_
  refine gx_iast X hG hS hT_i2 hF dX12_becomes_13 (fun σ3 H locs hG hS hX hF => ?_)
  have hT_a0 := hX.T hT_a0
  replace hE := hE.trans hX
  refine lv_iload_n X.1 X.2.1 dX12_becomes_14 rfl (lv_at hl 0 rfl) ?_
  exact gx_iret X hG hS hE hF dX12_becomes_15
theorem w_X12_bits_4 {σ0 τ : Hp} {r : Int32} (X : SX D cA base p s m args meth c cX12_bits 3 (some .int) RX12) (n : Nat)  : ∀ f : Nat, ∀ (v1 : Int32) (v2 : Int32) (σ : Hp) (H : Heap) (locs : List Loc) (ls : Array Slot), GW D cA base ad σ H → va_S (bA base) s.heap H locs → xT σ0 σ → lv_has ls 3 [(1, .int v1), (2, .int v2)] → F_X12_bits_4 n  f v1 v2 σ = some (r, τ) → W p l e rm_X12_bits s m args below meth c H locs 0 0 (ZI below s args D cA base ad σ0 r τ) (F0 m 4 ls []) := by
  intro f
  induction f with
  | zero => intro v1 v2 σ H locs ls hG hS hE hl hF
            rw [F_X12_bits_4] at hF; cases hF
  | succ f ih =>
    intro v1 v2 σ H locs ls hG hS hE hl hF
    rw [F_X12_bits_4] at hF
    refine lv_iload_n X.1 X.2.1 dX12_bits_4 rfl (lv_at hl 1 rfl) ?_
    refine lv_if_le (tgt := 21) X.1 X.2.1 dX12_bits_5 (by decide) (fun hc => ?_) (fun hc => ?_)
    · replace hF := it_t hF hc
      refine lv_iload_n X.1 X.2.1 dX12_bits_21 rfl (lv_at hl 0 rfl) ?_
      exact gx_iret X hG hS hE hF dX12_bits_22
    · replace hF := it_f hF hc
      refine lv_iload_n X.1 X.2.1 dX12_bits_8 rfl (lv_at hl 0 rfl) ?_
      refine lv_iload_n X.1 X.2.1 dX12_bits_9 rfl (lv_at hl 1 rfl) ?_
      refine lv_iconst (v := 1) X.1 X.2.1 dX12_bits_10 (by decide) ?_
      refine lv_iand X.1 X.2.1 dX12_bits_11 ?_
      refine lv_iadd X.1 X.2.1 dX12_bits_12 ?_
      refine lv_istore_n (lv' := [(1, .int (v1 + (v2 &&& 1))), (2, .int v2)]) X.1 X.2.1 dX12_bits_13 rfl hl (by decide) rfl (fun ls hl => ?_)
      refine lv_iload_n X.1 X.2.1 dX12_bits_14 rfl (lv_at hl 1 rfl) ?_
      refine lv_iconst (v := 1) X.1 X.2.1 dX12_bits_15 (by decide) ?_
      refine lv_ishr X.1 X.2.1 dX12_bits_16 ?_
      refine lv_istore_n (lv' := [(2, .int (v2 >>> (1 &&& 31))), (1, .int (v1 + (v2 &&& 1)))]) X.1 X.2.1 dX12_bits_17 rfl hl (by decide) rfl (fun ls hl => ?_)
      refine lv_goto (tgt := 4) X.1 X.2.1 dX12_bits_18 (by decide) ?_
      exact ih (v1 + (v2 &&& 1)) (v2 >>> (1 &&& 31)) σ _ _ ls  hG hS hE (lv_sub hl [1, 0] rfl) hF
theorem c_X12_bits (l : Launch) (D : va_G) (cA : Nat → ClassId) (base : Nat) (ad : Nat → Nat) (σ : Hp) (n : Nat) (a0 : Int32)  {τ : Hp} {r : Int32} (hF : F_X12_bits n a0 σ = some (r, τ)) : MI l yX12_bits cX12_bits 3 (some .int) rm_X12_bits D cA base ad σ [.int a0] r τ := by
  refine Met.ofW (cc := cX12_bits) (maxL := 3) (ret := (some .int)) (by decide) rfl ?_
  intro p e s m args below meth c s₁ B hml hv
  obtain ⟨rfl, hv⟩ := hv
  have X : SX D cA base p s m ([.int a0] : List Value).toArray meth c cX12_bits 3 (some .int) RX12 := sx_of B hml hv
  have hG := hv.1
  have hS : va_S (bA base) s.heap s.heap [] := va_S.rf
  have hE := xT.rf σ
  have hl := lv_entry ([.int a0]) (n := 3) (Nat.le_of_ble_eq_true rfl)
  rw [lg_entry_eq]
  generalize (lg_sl ([.int a0]) ++ List.replicate (3 - (lg_sl ([.int a0])).length) Slot.unset).toArray = ls at hl ⊢
  have hl : lv_has ls 3 [(0, .int a0)] := hl
  unfold F_X12_bits at hF
  refine lv_iconst (v := 0) X.1 X.2.1 dX12_bits_0 (by decide) ?_
  refine lv_istore_n (lv' := [(1, .int 0), (0, .int a0)]) X.1 X.2.1 dX12_bits_1 rfl hl (by decide) rfl (fun ls hl => ?_)
  refine lv_iload_n X.1 X.2.1 dX12_bits_2 rfl (lv_at hl 1 rfl) ?_
  refine lv_istore_n (lv' := [(2, .int a0), (1, .int 0), (0, .int a0)]) X.1 X.2.1 dX12_bits_3 rfl hl (by decide) rfl (fun ls hl => ?_)
  exact w_X12_bits_4 X n  n 0 a0 σ _ _ ls  hG hS hE (lv_sub hl [1, 0] rfl) hF
theorem c_X12_thing (l : Launch) (D : va_G) (cA : Nat → ClassId) (base : Nat) (ad : Nat → Nat) (σ : Hp) (n : Nat) (a0 : Nat) (a1 : Int32) (hT_a0 : hT σ a0 12) {τ : Hp} {r : Int32} (hF : F_X12_thing n a0 a1 σ = some (r, τ)) : MI l yX12_thing cX12_thing 2 (some .int) rm_X12_thing D cA base ad σ [.ref (ad a0), .int a1] r τ := by
  refine Met.ofW (cc := cX12_thing) (maxL := 2) (ret := (some .int)) (by decide) rfl ?_
  intro p e s m args below meth c s₁ B hml hv
  obtain ⟨rfl, hv⟩ := hv
  have X : SX D cA base p s m ([.ref (ad a0), .int a1] : List Value).toArray meth c cX12_thing 2 (some .int) RX12 := sx_of B hml hv
  have hG := hv.1
  have hS : va_S (bA base) s.heap s.heap [] := va_S.rf
  have hE := xT.rf σ
  have hl := lv_entry ([.ref (ad a0), .int a1]) (n := 2) (Nat.le_of_ble_eq_true rfl)
  rw [lg_entry_eq]
  generalize (lg_sl ([.ref (ad a0), .int a1]) ++ List.replicate (2 - (lg_sl ([.ref (ad a0), .int a1])).length) Slot.unset).toArray = ls at hl ⊢
  have hl : lv_has ls 2 [(0, .ref (ad a0)), (1, .int a1)] := hl
  unfold F_X12_thing at hF
  refine lv_iload_n X.1 X.2.1 dX12_thing_0 rfl (lv_at hl 1 rfl) ?_
  refine lv_i2l X.1 X.2.1 dX12_thing_1 rfl ?_
  refine lv_ldc2 (v := (-20)) X.1 X.2.1 X.2.2.2.2.2.1 (X.w k_1059) dX12_thing_2 ?_
  refine lv_ldc2 (v := 20) X.1 X.2.1 X.2.2.2.2.2.1 (X.w k_1060) dX12_thing_5 ?_
  obtain ⟨r2, σ1, hz, hF⟩ := b2_ex hF
  refine gx_rI (gx_runS (As := [.long a1.toInt64, .long (-20), .long 20]) (rest := []) X hG hS (c_X12_isIn l D cA base ad σ n a1.toInt64 (-20) 20 hz) k_1063 k_1061 k_1062 k_4 (h_X12_isIn.2) rfl rfl ⟨by decide, by decide⟩ rfl hl.1 rfl (Nat.le_of_ble_eq_true rfl) dX12_thing_8 ⟨Nat.zero_le _, Nat.zero_le _⟩) hS (fun H locs hG hS hX => ?_)
  have hT_a0 := hX.T hT_a0
  replace hE := hE.trans hX
  refine lv_if_ne (tgt := 16) X.1 X.2.1 dX12_thing_11 (by decide) (fun hc => ?_) (fun hc => ?_)
  · replace hF := it_f hF hc
    refine lv_aload_n X.1 X.2.1 dX12_thing_16 rfl (lv_at hl 0 rfl) ?_
    obtain ⟨i3, hr, hF⟩ := b1_ex hF
    have hT_i3 : hT σ1 i3 13 := gw_T hG hT_a0 (by decide) hr
    refine gx_get 0 (v := .ref (ad i3)) X hG hT_a0.1 (hT_a0.eq (by decide)) (by decide) rfl inX12 (by decide) k_960 (fun _ h => h) (gx_rfv hr) dX12_thing_17 ?_
    refine lv_iconst (v := 0) X.1 X.2.1 dX12_thing_20 (by decide) ?_
    refine gx_iald X hG hT_i3 hF dX12_thing_21 (fun hF => ?_)
    refine lv_bipush (v := 12) X.1 X.2.1 dX12_thing_22 (by decide) ?_
    refine lv_icmp_ne (tgt := 30) X.1 X.2.1 dX12_thing_24 (by decide) (fun hc => ?_) (fun hc => ?_)
    · replace hF := it_f hF hc
      refine lv_aload_n X.1 X.2.1 dX12_thing_30 rfl (lv_at hl 0 rfl) ?_
      obtain ⟨i4, hr, hF⟩ := b1_ex hF
      have hT_i4 : hT σ1 i4 13 := gw_T hG hT_a0 (by decide) hr
      refine gx_get 0 (v := .ref (ad i4)) X hG hT_a0.1 (hT_a0.eq (by decide)) (by decide) rfl inX12 (by decide) k_960 (fun _ h => h) (gx_rfv hr) dX12_thing_31 ?_
      refine lv_bipush (v := 7) X.1 X.2.1 dX12_thing_34 (by decide) ?_
      refine lv_aload_n X.1 X.2.1 dX12_thing_36 rfl (lv_at hl 0 rfl) ?_
      obtain ⟨i5, hr, hF⟩ := b1_ex hF
      have hT_i5 : hT σ1 i5 13 := gw_T hG hT_a0 (by decide) hr
      refine gx_get 0 (v := .ref (ad i5)) X hG hT_a0.1 (hT_a0.eq (by decide)) (by decide) rfl inX12 (by decide) k_960 (fun _ h => h) (gx_rfv hr) dX12_thing_37 ?_
      refine lv_iconst (v := 0) X.1 X.2.1 dX12_thing_40 (by decide) ?_
      refine gx_iald X hG hT_i5 hF dX12_thing_41 (fun hF => ?_)
      refine lv_iadd X.1 X.2.1 dX12_thing_42 ?_
      refine lv_iload_n X.1 X.2.1 dX12_thing_43 rfl (lv_at hl 1 rfl) ?_
      refine gx_iast X hG hS hT_i4 hF dX12_thing_44 (fun σ6 H locs hG hS hX hF => ?_)
      have hT_a0 := hX.T hT_a0
      replace hE := hE.trans hX
      refine lv_aload_n X.1 X.2.1 dX12_thing_45 rfl (lv_at hl 0 rfl) ?_
      obtain ⟨i7, hr, hF⟩ := b1_ex hF
      have hT_i7 : hT σ6 i7 13 := gw_T hG hT_a0 (by decide) hr
      refine gx_get 0 (v := .ref (ad i7)) X hG hT_a0.1 (hT_a0.eq (by decide)) (by decide) rfl inX12 (by decide) k_960 (fun _ h => h) (gx_rfv hr) dX12_thing_46 ?_
      refine lv_iconst (v := 0) X.1 X.2.1 dX12_thing_49 (by decide) ?_
      refine lv_dup2_11 X.1 X.2.1 dX12_thing_50 rfl rfl ?_
      refine gx_iald X hG hT_i7 hF dX12_thing_51 (fun hF => ?_)
      refine lv_iconst (v := 1) X.1 X.2.1 dX12_thing_52 (by decide) ?_
      refine lv_iadd X.1 X.2.1 dX12_thing_53 ?_
      refine gx_iast X hG hS hT_i7 hF dX12_thing_54 (fun σ8 H locs hG hS hX hF => ?_)
      have hT_a0 := hX.T hT_a0
      replace hE := hE.trans hX
      refine lv_aload_n X.1 X.2.1 dX12_thing_55 rfl (lv_at hl 0 rfl) ?_
      obtain ⟨i9, hr, hF⟩ := b1_ex hF
      have hT_i9 : hT σ8 i9 13 := gw_T hG hT_a0 (by decide) hr
      refine gx_get 0 (v := .ref (ad i9)) X hG hT_a0.1 (hT_a0.eq (by decide)) (by decide) rfl inX12 (by decide) k_960 (fun _ h => h) (gx_rfv hr) dX12_thing_56 ?_
      refine lv_iconst (v := 0) X.1 X.2.1 dX12_thing_59 (by decide) ?_
      refine gx_iald X hG hT_i9 hF dX12_thing_60 (fun hF => ?_)
      refine lv_iconst (v := 1) X.1 X.2.1 dX12_thing_61 (by decide) ?_
      refine lv_isub X.1 X.2.1 dX12_thing_62 ?_
      exact gx_iret X hG hS hE hF dX12_thing_63
    · replace hF := it_t hF hc
      refine lv_bipush (v := (-2)) X.1 X.2.1 dX12_thing_27 (by decide) ?_
      exact gx_iret X hG hS hE hF dX12_thing_29
  · replace hF := it_t hF hc
    refine lv_iconst (v := (-1)) X.1 X.2.1 dX12_thing_14 (by decide) ?_
    exact gx_iret X hG hS hE hF dX12_thing_15
end W_model0
