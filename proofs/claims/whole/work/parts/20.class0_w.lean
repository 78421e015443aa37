/-! class0: printed by wip/whole/gen.py -/
section W_class0
variable {p : Program} {l : Launch} {e : Env} {s : State} {m : MethodId} {args : Array Value} {below : List Frame} {meth : Method} {c : Code} {D : va_G} {cA : Nat → ClassId} {base : Nat} {ad : Nat → Nat}
abbrev rm_X3_init : Room := { frames := 1, cells := 9, slots := 94, locals := 24 }
theorem h_X3_init : yX3_init.cls = RX3 ∧ yX3_init.cls ≠ "java/lang/invoke/MethodHandle" ∧ yX3_init.cls ≠ "java/lang/invoke/VarHandle" ∧ (parseMethodDescriptor yX3_init.desc).map (fun d => d.parameters.length) = some 0 := by decide +kernel
def F_X3_init (n : Nat) (a0 : Nat) (σ : Hp) : Option Hp := ck (¬ (12 : Int32) < 0 ∧ (12 : Int32).toNatClampNeg ≤ 12) (nb σ 13 (12 : Int32).toNatClampNeg fun (i1 : Nat) (σ2 : Hp) => lt (pR σ2 a0 1 (some i1)) fun (σ4 : Hp) => ck (¬ (12 : Int32) < 0 ∧ (12 : Int32).toNatClampNeg ≤ 12) (nb σ4 16 (12 : Int32).toNatClampNeg fun (i5 : Nat) (σ6 : Hp) => lt (pR σ6 a0 3 (some i5)) fun (σ8 : Hp) => ck (¬ (12 : Int32) < 0 ∧ (12 : Int32).toNatClampNeg ≤ 12) (nb σ8 13 (12 : Int32).toNatClampNeg fun (i9 : Nat) (σ10 : Hp) => lt (pR σ10 a0 4 (some i9)) fun (σ12 : Hp) => ck (¬ (6 : Int32) < 0 ∧ (6 : Int32).toNatClampNeg ≤ 6) (nb σ12 14 (6 : Int32).toNatClampNeg fun (i13 : Nat) (σ14 : Hp) => lt (pR σ14 a0 6 (some i13)) fun (σ16 : Hp) => ck (¬ (4 : Int32) < 0 ∧ (4 : Int32).toNatClampNeg ≤ 4) (nb σ16 13 (4 : Int32).toNatClampNeg fun (i17 : Nat) (σ18 : Hp) => ck (¬ ((0 : Int32) < 0 ∨ hL σ18 i17 ≤ (0 : Int32).toNatClampNeg)) (lt (pI σ18 i17 (0 : Int32).toNatClampNeg 12) fun (σ20 : Hp) => ck (¬ ((1 : Int32) < 0 ∨ hL σ20 i17 ≤ (1 : Int32).toNatClampNeg)) (lt (pI σ20 i17 (1 : Int32).toNatClampNeg 0) fun (σ21 : Hp) => ck (¬ ((2 : Int32) < 0 ∨ hL σ21 i17 ≤ (2 : Int32).toNatClampNeg)) (lt (pI σ21 i17 (2 : Int32).toNatClampNeg 0) fun (σ22 : Hp) => ck (¬ ((3 : Int32) < 0 ∨ hL σ22 i17 ≤ (3 : Int32).toNatClampNeg)) (lt (pI σ22 i17 (3 : Int32).toNatClampNeg 600) fun (σ23 : Hp) => lt (pR σ23 a0 7 (some i17)) fun (σ24 : Hp) => ck (¬ (12 : Int32) < 0 ∧ (12 : Int32).toNatClampNeg ≤ 12) (nb σ24 13 (12 : Int32).toNatClampNeg fun (i25 : Nat) (σ26 : Hp) => lt (pR σ26 a0 15 (some i25)) fun (σ28 : Hp) => ck (¬ (12 : Int32) < 0 ∧ (12 : Int32).toNatClampNeg ≤ 12) (nb σ28 13 (12 : Int32).toNatClampNeg fun (i29 : Nat) (σ30 : Hp) => lt (pR σ30 a0 16 (some i29)) fun (σ32 : Hp) => ck (¬ (12 : Int32) < 0 ∧ (12 : Int32).toNatClampNeg ≤ 12) (nb σ32 13 (12 : Int32).toNatClampNeg fun (i33 : Nat) (σ34 : Hp) => lt (pR σ34 a0 17 (some i33)) fun (σ36 : Hp) => ck (¬ (12 : Int32) < 0 ∧ (12 : Int32).toNatClampNeg ≤ 12) (nb σ36 13 (12 : Int32).toNatClampNeg fun (i37 : Nat) (σ38 : Hp) => lt (pR σ38 a0 18 (some i37)) fun (σ40 : Hp) => some σ40)))))))))))))
abbrev rm_X5_init : Room := { frames := 1, cells := 1, slots := 100, locals := 24 }
theorem h_X5_init : yX5_init.cls = RX5 ∧ yX5_init.cls ≠ "java/lang/invoke/MethodHandle" ∧ yX5_init.cls ≠ "java/lang/invoke/VarHandle" ∧ (parseMethodDescriptor yX5_init.desc).map (fun d => d.parameters.length) = some 0 := by decide +kernel
def F_X5_init (n : Nat) (a0 : Nat) (σ : Hp) : Option Hp := lt (pI σ a0 2 (-1)) fun (σ1 : Hp) => ck (¬ (100 : Int32) < 0 ∧ (100 : Int32).toNatClampNeg ≤ 100) (nb σ1 13 (100 : Int32).toNatClampNeg fun (i2 : Nat) (σ3 : Hp) => lt (pR σ3 a0 4 (some i2)) fun (σ5 : Hp) => some σ5)
abbrev rm_X11_init : Room := { frames := 2, cells := 47, slots := 1187, locals := 44 }
theorem h_X11_init : yX11_init.cls = RX11 ∧ yX11_init.cls ≠ "java/lang/invoke/MethodHandle" ∧ yX11_init.cls ≠ "java/lang/invoke/VarHandle" ∧ (parseMethodDescriptor yX11_init.desc).map (fun d => d.parameters.length) = some 0 := by decide +kernel
def F_X11_init (n : Nat) (a0 : Nat) (σ : Hp) : Option Hp := nb σ 3 0 fun (i1 : Nat) (σ2 : Hp) => b1 (F_X3_init n i1 σ2) fun (σ4 : Hp) => lt (pR σ4 a0 0 (some i1)) fun (σ6 : Hp) => nb σ6 3 0 fun (i7 : Nat) (σ8 : Hp) => b1 (F_X3_init n i7 σ8) fun (σ10 : Hp) => lt (pR σ10 a0 1 (some i7)) fun (σ12 : Hp) => nb σ12 3 0 fun (i13 : Nat) (σ14 : Hp) => b1 (F_X3_init n i13 σ14) fun (σ16 : Hp) => lt (pR σ16 a0 2 (some i13)) fun (σ18 : Hp) => ck (¬ (8 : Int32) < 0 ∧ (8 : Int32).toNatClampNeg ≤ 8) (nb σ18 15 (8 : Int32).toNatClampNeg fun (i19 : Nat) (σ20 : Hp) => lt (pR σ20 a0 4 (some i19)) fun (σ22 : Hp) => b1 (hR σ22 a0 4) fun (i23 : Nat) => ck (¬ ((nI (hL σ22 i23)) ≤ 0)) (b1 (hR σ22 a0 4) fun (i24 : Nat) => nb σ22 5 0 fun (i25 : Nat) (σ26 : Hp) => b1 (F_X5_init n i25 σ26) fun (σ28 : Hp) => ck (¬ ((0 : Int32) < 0 ∨ hL σ28 i24 ≤ (0 : Int32).toNatClampNeg)) (lt (pR σ28 i24 (0 : Int32).toNatClampNeg (some i25)) fun (σ30 : Hp) => b1 (hR σ30 a0 4) fun (i31 : Nat) => ck (¬ ((nI (hL σ30 i31)) ≤ 1)) (b1 (hR σ30 a0 4) fun (i32 : Nat) => nb σ30 5 0 fun (i33 : Nat) (σ34 : Hp) => b1 (F_X5_init n i33 σ34) fun (σ36 : Hp) => ck (¬ ((1 : Int32) < 0 ∨ hL σ36 i32 ≤ (1 : Int32).toNatClampNeg)) (lt (pR σ36 i32 (1 : Int32).toNatClampNeg (some i33)) fun (σ38 : Hp) => b1 (hR σ38 a0 4) fun (i39 : Nat) => ck (¬ ((nI (hL σ38 i39)) ≤ 2)) (b1 (hR σ38 a0 4) fun (i40 : Nat) => nb σ38 5 0 fun (i41 : Nat) (σ42 : Hp) => b1 (F_X5_init n i41 σ42) fun (σ44 : Hp) => ck (¬ ((2 : Int32) < 0 ∨ hL σ44 i40 ≤ (2 : Int32).toNatClampNeg)) (lt (pR σ44 i40 (2 : Int32).toNatClampNeg (some i41)) fun (σ46 : Hp) => b1 (hR σ46 a0 4) fun (i47 : Nat) => ck (¬ ((nI (hL σ46 i47)) ≤ 3)) (b1 (hR σ46 a0 4) fun (i48 : Nat) => nb σ46 5 0 fun (i49 : Nat) (σ50 : Hp) => b1 (F_X5_init n i49 σ50) fun (σ52 : Hp) => ck (¬ ((3 : Int32) < 0 ∨ hL σ52 i48 ≤ (3 : Int32).toNatClampNeg)) (lt (pR σ52 i48 (3 : Int32).toNatClampNeg (some i49)) fun (σ54 : Hp) => b1 (hR σ54 a0 4) fun (i55 : Nat) => ck (¬ ((nI (hL σ54 i55)) ≤ 4)) (b1 (hR σ54 a0 4) fun (i56 : Nat) => nb σ54 5 0 fun (i57 : Nat) (σ58 : Hp) => b1 (F_X5_init n i57 σ58) fun (σ60 : Hp) => ck (¬ ((4 : Int32) < 0 ∨ hL σ60 i56 ≤ (4 : Int32).toNatClampNeg)) (lt (pR σ60 i56 (4 : Int32).toNatClampNeg (some i57)) fun (σ62 : Hp) => b1 (hR σ62 a0 4) fun (i63 : Nat) => ck (¬ ((nI (hL σ62 i63)) ≤ 5)) (b1 (hR σ62 a0 4) fun (i64 : Nat) => nb σ62 5 0 fun (i65 : Nat) (σ66 : Hp) => b1 (F_X5_init n i65 σ66) fun (σ68 : Hp) => ck (¬ ((5 : Int32) < 0 ∨ hL σ68 i64 ≤ (5 : Int32).toNatClampNeg)) (lt (pR σ68 i64 (5 : Int32).toNatClampNeg (some i65)) fun (σ70 : Hp) => b1 (hR σ70 a0 4) fun (i71 : Nat) => ck (¬ ((nI (hL σ70 i71)) ≤ 6)) (b1 (hR σ70 a0 4) fun (i72 : Nat) => nb σ70 5 0 fun (i73 : Nat) (σ74 : Hp) => b1 (F_X5_init n i73 σ74) fun (σ76 : Hp) => ck (¬ ((6 : Int32) < 0 ∨ hL σ76 i72 ≤ (6 : Int32).toNatClampNeg)) (lt (pR σ76 i72 (6 : Int32).toNatClampNeg (some i73)) fun (σ78 : Hp) => b1 (hR σ78 a0 4) fun (i79 : Nat) => ck (¬ ((nI (hL σ78 i79)) ≤ 7)) (b1 (hR σ78 a0 4) fun (i80 : Nat) => nb σ78 5 0 fun (i81 : Nat) (σ82 : Hp) => b1 (F_X5_init n i81 σ82) fun (σ84 : Hp) => ck (¬ ((7 : Int32) < 0 ∨ hL σ84 i80 ≤ (7 : Int32).toNatClampNeg)) (lt (pR σ84 i80 (7 : Int32).toNatClampNeg (some i81)) fun (σ86 : Hp) => b1 (hR σ86 a0 4) fun (i87 : Nat) => ck (((nI (hL σ86 i87)) ≤ 8)) (some σ86))))))))))))))))))
abbrev rm_X11_store : Room := { frames := 0, cells := 0, slots := 0, locals := 0 }
theorem h_X11_store : yX11_store.cls = RX11 ∧ yX11_store.cls ≠ "java/lang/invoke/MethodHandle" ∧ yX11_store.cls ≠ "java/lang/invoke/VarHandle" ∧ (parseMethodDescriptor yX11_store.desc).map (fun d => d.parameters.length) = some 3 := by decide +kernel
def F_X11_store (n : Nat) (a0 : Nat) (a1 : Int32) (a2 : Int32) (σ : Hp) : Option Hp := if a1 < 0 then (some σ) else (if (nI (hL σ a0)) ≤ a1 then (some σ) else (ck (¬ (a1 < 0 ∨ hL σ a0 ≤ a1.toNatClampNeg)) (lt (pI σ a0 a1.toNatClampNeg a2) fun (σ1 : Hp) => some σ1)))
abbrev rm_X11_thing : Room := { frames := 1, cells := 0, slots := 0, locals := 22 }
theorem h_X11_thing : yX11_thing.cls = RX11 ∧ yX11_thing.cls ≠ "java/lang/invoke/MethodHandle" ∧ yX11_thing.cls ≠ "java/lang/invoke/VarHandle" ∧ (parseMethodDescriptor yX11_thing.desc).map (fun d => d.parameters.length) = some 1 := by decide +kernel
def F_X11_thing (n : Nat) (a0 : Nat) (a1 : Int32) (σ : Hp) : Option (Int32 × Hp) := if a1 < (-20) then (some ((-1), σ)) else (if a1 ≤ 20 then (b1 (hR σ a0 0) fun (i1 : Nat) => if (hI σ i1 0) < 12 then (b1 (hR σ a0 0) fun (i2 : Nat) => b1 (hR σ i2 1) fun (i3 : Nat) => b1 (hR σ a0 0) fun (i4 : Nat) => b1 (F_X11_store n i3 (hI σ i4 0) a1 σ) fun (σ5 : Hp) => b1 (hR σ5 a0 0) fun (i6 : Nat) => lt (pI σ5 i6 0 ((hI σ5 i6 0) + 1)) fun (σ7 : Hp) => b1 (hR σ7 a0 0) fun (i8 : Nat) => some ((hI σ7 i8 0) - 1, σ7)) else (some ((-2), σ))) else (some ((-1), σ)))
abbrev rm_X11_isToldRight : Room := { frames := 0, cells := 0, slots := 0, locals := 0 }
theorem h_X11_isToldRight : yX11_isToldRight.cls = RX11 ∧ yX11_isToldRight.cls ≠ "java/lang/invoke/MethodHandle" ∧ yX11_isToldRight.cls ≠ "java/lang/invoke/VarHandle" ∧ (parseMethodDescriptor yX11_isToldRight.desc).map (fun d => d.parameters.length) = some 1 := by decide +kernel
def F_X11_isToldRight (n : Nat) (a0 : Int32) (σ : Hp) : Option (Int32 × Hp) := if a0 < 0 then (some (0, σ)) else (if 8000 ≤ a0 then (some (0, σ)) else (if (a0 - a0 / 100 * 100) < 1 then (some (0, σ)) else (if 30 < (a0 - a0 / 100 * 100) then (some (0, σ)) else (some (1, σ)))))
abbrev rm_X3_lawAt : Room := { frames := 0, cells := 0, slots := 0, locals := 0 }
theorem h_X3_lawAt : yX3_lawAt.cls = RX3 ∧ yX3_lawAt.cls ≠ "java/lang/invoke/MethodHandle" ∧ yX3_lawAt.cls ≠ "java/lang/invoke/VarHandle" ∧ (parseMethodDescriptor yX3_lawAt.desc).map (fun d => d.parameters.length) = some 1 := by decide +kernel
def F_X3_lawAt (n : Nat) (a0 : Nat) (a1 : Int32) (σ : Hp) : Option (Option Nat × Hp) := if a1 < 0 then (some ((none : Option Nat), σ)) else (if (hI σ a0 5) ≤ a1 then (some ((none : Option Nat), σ)) else (b1 (hR σ a0 6) fun (i1 : Nat) => if (nI (hL σ i1)) ≤ a1 then (some ((none : Option Nat), σ)) else (b1 (hR σ a0 6) fun (i2 : Nat) => ck (¬ (a1 < 0 ∨ hL σ i2 ≤ a1.toNatClampNeg)) (lt (hR σ i2 a1.toNatClampNeg) fun (q3 : Option Nat) => some (q3, σ)))))
abbrev rm_X10_init : Room := { frames := 1, cells := 0, slots := 0, locals := 24 }
theorem h_X10_init : yX10_init.cls = RX10 ∧ yX10_init.cls ≠ "java/lang/invoke/MethodHandle" ∧ yX10_init.cls ≠ "java/lang/invoke/VarHandle" ∧ (parseMethodDescriptor yX10_init.desc).map (fun d => d.parameters.length) = some 6 := by decide +kernel
def F_X10_init (n : Nat) (a0 : Nat) (a1 : Int32) (a2 : Int32) (a3 : Int32) (a4 : Int32) (a5 : Int32) (a6 : Option Nat) (σ : Hp) : Option Hp := lt (pI σ a0 0 a1) fun (σ1 : Hp) => lt (pI σ1 a0 1 (a2 / 1000)) fun (σ2 : Hp) => lt (pI σ2 a0 2 ((a2 / 100) - (a2 / 100) / 10 * 10)) fun (σ3 : Hp) => lt (pI σ3 a0 3 (a2 - a2 / 100 * 100)) fun (σ4 : Hp) => lt (pI σ4 a0 4 a3) fun (σ5 : Hp) => lt (pI σ5 a0 5 a4) fun (σ6 : Hp) => lt (pI σ6 a0 6 a5) fun (σ7 : Hp) => lt (pR σ7 a0 7 a6) fun (σ8 : Hp) => some σ8
abbrev rm_X9_init : Room := { frames := 2, cells := 0, slots := 0, locals := 50 }
theorem h_X9_init : yX9_init.cls = RX9 ∧ yX9_init.cls ≠ "java/lang/invoke/MethodHandle" ∧ yX9_init.cls ≠ "java/lang/invoke/VarHandle" ∧ (parseMethodDescriptor yX9_init.desc).map (fun d => d.parameters.length) = some 6 := by decide +kernel
def F_X9_init (n : Nat) (a0 : Nat) (a1 : Int32) (a2 : Int32) (a3 : Int32) (a4 : Int32) (a5 : Int32) (a6 : Option Nat) (σ : Hp) : Option Hp := b1 (F_X10_init n a0 a1 a2 a3 a4 a5 a6 σ) fun (σ1 : Hp) => some σ1
abbrev rm_X0_init : Room := { frames := 2, cells := 0, slots := 0, locals := 50 }
theorem h_X0_init : yX0_init.cls = RX0 ∧ yX0_init.cls ≠ "java/lang/invoke/MethodHandle" ∧ yX0_init.cls ≠ "java/lang/invoke/VarHandle" ∧ (parseMethodDescriptor yX0_init.desc).map (fun d => d.parameters.length) = some 6 := by decide +kernel
def F_X0_init (n : Nat) (a0 : Nat) (a1 : Int32) (a2 : Int32) (a3 : Int32) (a4 : Int32) (a5 : Int32) (a6 : Option Nat) (σ : Hp) : Option Hp := b1 (F_X10_init n a0 a1 a2 a3 a4 a5 a6 σ) fun (σ1 : Hp) => some σ1
abbrev rm_X2_init : Room := { frames := 3, cells := 0, slots := 0, locals := 76 }
theorem h_X2_init : yX2_init.cls = RX2 ∧ yX2_init.cls ≠ "java/lang/invoke/MethodHandle" ∧ yX2_init.cls ≠ "java/lang/invoke/VarHandle" ∧ (parseMethodDescriptor yX2_init.desc).map (fun d => d.parameters.length) = some 6 := by decide +kernel
def F_X2_init (n : Nat) (a0 : Nat) (a1 : Int32) (a2 : Int32) (a3 : Int32) (a4 : Int32) (a5 : Int32) (a6 : Option Nat) (σ : Hp) : Option Hp := b1 (F_X0_init n a0 a1 a2 a3 a4 a5 a6 σ) fun (σ1 : Hp) => some σ1
abbrev rm_X8_init : Room := { frames := 3, cells := 0, slots := 0, locals := 76 }
theorem h_X8_init : yX8_init.cls = RX8 ∧ yX8_init.cls ≠ "java/lang/invoke/MethodHandle" ∧ yX8_init.cls ≠ "java/lang/invoke/VarHandle" ∧ (parseMethodDescriptor yX8_init.desc).map (fun d => d.parameters.length) = some 6 := by decide +kernel
def F_X8_init (n : Nat) (a0 : Nat) (a1 : Int32) (a2 : Int32) (a3 : Int32) (a4 : Int32) (a5 : Int32) (a6 : Option Nat) (σ : Hp) : Option Hp := b1 (F_X9_init n a0 a1 a2 a3 a4 a5 a6 σ) fun (σ1 : Hp) => some σ1
theorem c_X3_init (l : Launch) (D : va_G) (cA : Nat → ClassId) (base : Nat) (ad : Nat → Nat) (σ : Hp) (n : Nat) (a0 : Nat) (hT_a0 : hT σ a0 3) {τ : Hp} (hF : F_X3_init n a0 σ = some τ) : MVa l yX3_init cX3_init 1 rm_X3_init D cA base ad σ [.ref (ad a0)] τ 9 94 := by
  refine Met.ofW (cc := cX3_init) (maxL := 1) (ret := none) (by decide) rfl ?_
  intro p e s m args below meth c s₁ B hml hv
  obtain ⟨rfl, hv⟩ := hv
  have X : SX D cA base p s m ([.ref (ad a0)] : List Value).toArray meth c cX3_init 1 none RX3 := sx_of B hml hv
  have hG := hv.1
  have hS : va_S (bA base) s.heap s.heap [] := va_S.rf
  have hE := xT.rf σ
  have hA := adE.rf σ ad
  have hin : meth.name = "<init>" := (name_of_methodNamed B.named B.method).1
  have hl := lv_entry ([.ref (ad a0)]) (n := 1) (Nat.le_of_ble_eq_true rfl)
  rw [lg_entry_eq]
  generalize (lg_sl ([.ref (ad a0)]) ++ List.replicate (1 - (lg_sl ([.ref (ad a0)])).length) Slot.unset).toArray = ls at hl ⊢
  have hl : lv_has ls 1 [(0, .ref (ad a0))] := hl
  unfold F_X3_init at hF
  refine lv_aload_n X.1 X.2.1 dX3_init_0 rfl (lv_at hl 0 rfl) ?_
  refine W.objInit X.1 X.2.1 X.2.2.2.2.2.1 (X.w k_35) (X.w k_28) (X.w k_29) rfl (by rw [X.2.2.1]; exact hl.1) rfl dX3_init_1 (Nat.le_of_ble_eq_true rfl) (Nat.le_of_ble_eq_true rfl) ?_
  refine W.eq (g2 := F0 m 4 ls []) rfl ?_
  refine lv_aload_n X.1 X.2.1 dX3_init_4 rfl (lv_at hl 0 rfl) ?_
  refine lv_bipush (v := 12) X.1 X.2.1 dX3_init_5 (by decide) ?_
  refine gx_newI (M := 12) X hG hS k_122 (by decide) (by decide) (by decide) dX3_init_7 hF (fun i1 σ2 ad3 H hG hS hX hA2 hT_i1 hF => ?_)
  have hl : lv_has ls 1 [(0, .ref (ad3 a0))] := by rw [hA2 a0 hT_a0.1]; exact hl
  refine W.eq (g2 := F0 m 9 ls [.ref (ad3 i1), .ref (ad3 a0)]) (by rw [hA2 a0 hT_a0.1] <;> rfl) ?_
  replace hA := hA.trans hE.1 hA2
  have hT_a0 := hX.T hT_a0
  replace hE := hE.trans hX
  refine gx_putFR 1 (x := (some i1)) X hG hS hT_a0.1 (hT_a0.eq (by decide)) (by decide) rfl inX3 tyX3_ok nmX3 (by decide) k_42 rfl hin rfl (gx_narA _) (gx_fitA _) rfl (oT.some hT_i1) (Nat.le_of_ble_eq_true rfl) dX3_init_9 hF (fun σ4 H locs hG hS hX hF => ?_)
  have hT_a0 := hX.T hT_a0
  replace hE := hE.trans hX
  refine lv_aload_n X.1 X.2.1 dX3_init_12 rfl (lv_at hl 0 rfl) ?_
  refine lv_bipush (v := 12) X.1 X.2.1 dX3_init_13 (by decide) ?_
  refine gx_newQ (M := 12) (t0 := 3) X hG hS (by decide) (by decide) rfl rfl k_36 X.2.2.2.2.2.2.2.2.1.2.2.1 (by decide) (by decide) (by decide) dX3_init_15 hF (fun i5 σ6 ad7 H hG hS hX hA2 hT_i5 hF => ?_)
  have hl : lv_has ls 1 [(0, .ref (ad7 a0))] := by rw [hA2 a0 hT_a0.1]; exact hl
  refine W.eq (g2 := F0 m 18 ls [.ref (ad7 i5), .ref (ad7 a0)]) (by rw [hA2 a0 hT_a0.1] <;> rfl) ?_
  replace hA := hA.trans hE.1 hA2
  have hT_a0 := hX.T hT_a0
  replace hE := hE.trans hX
  refine gx_putFR 3 (x := (some i5)) X hG hS hT_a0.1 (hT_a0.eq (by decide)) (by decide) rfl inX3 tyX3_ok nmX3 (by decide) k_50 rfl hin rfl (gx_narA _) (gx_fitA _) rfl (oT.some hT_i5) (Nat.le_of_ble_eq_true rfl) dX3_init_18 hF (fun σ8 H locs hG hS hX hF => ?_)
  have hT_a0 := hX.T hT_a0
  replace hE := hE.trans hX
  refine lv_aload_n X.1 X.2.1 dX3_init_21 rfl (lv_at hl 0 rfl) ?_
  refine lv_bipush (v := 12) X.1 X.2.1 dX3_init_22 (by decide) ?_
  refine gx_newI (M := 12) X hG hS k_122 (by decide) (by decide) (by decide) dX3_init_24 hF (fun i9 σ10 ad11 H hG hS hX hA2 hT_i9 hF => ?_)
  have hl : lv_has ls 1 [(0, .ref (ad11 a0))] := by rw [hA2 a0 hT_a0.1]; exact hl
  refine W.eq (g2 := F0 m 26 ls [.ref (ad11 i9), .ref (ad11 a0)]) (by rw [hA2 a0 hT_a0.1] <;> rfl) ?_
  replace hA := hA.trans hE.1 hA2
  have hT_a0 := hX.T hT_a0
  replace hE := hE.trans hX
  refine gx_putFR 4 (x := (some i9)) X hG hS hT_a0.1 (hT_a0.eq (by decide)) (by decide) rfl inX3 tyX3_ok nmX3 (by decide) k_51 rfl hin rfl (gx_narA _) (gx_fitA _) rfl (oT.some hT_i9) (Nat.le_of_ble_eq_true rfl) dX3_init_26 hF (fun σ12 H locs hG hS hX hF => ?_)
  have hT_a0 := hX.T hT_a0
  replace hE := hE.trans hX
  refine lv_aload_n X.1 X.2.1 dX3_init_29 rfl (lv_at hl 0 rfl) ?_
  refine lv_bipush (v := 6) X.1 X.2.1 dX3_init_30 (by decide) ?_
  refine gx_newQ (M := 6) (t0 := 1) X hG hS (by decide) (by decide) rfl rfl k_38 X.2.2.2.2.2.2.2.2.1.2.2.2.1 (by decide) (by decide) (by decide) dX3_init_32 hF (fun i13 σ14 ad15 H hG hS hX hA2 hT_i13 hF => ?_)
  have hl : lv_has ls 1 [(0, .ref (ad15 a0))] := by rw [hA2 a0 hT_a0.1]; exact hl
  refine W.eq (g2 := F0 m 35 ls [.ref (ad15 i13), .ref (ad15 a0)]) (by rw [hA2 a0 hT_a0.1] <;> rfl) ?_
  replace hA := hA.trans hE.1 hA2
  have hT_a0 := hX.T hT_a0
  replace hE := hE.trans hX
  refine gx_putFR 6 (x := (some i13)) X hG hS hT_a0.1 (hT_a0.eq (by decide)) (by decide) rfl inX3 tyX3_ok nmX3 (by decide) k_55 rfl hin rfl (gx_narA _) (gx_fitA _) rfl (oT.some hT_i13) (Nat.le_of_ble_eq_true rfl) dX3_init_35 hF (fun σ16 H locs hG hS hX hF => ?_)
  have hT_a0 := hX.T hT_a0
  replace hE := hE.trans hX
  refine lv_aload_n X.1 X.2.1 dX3_init_38 rfl (lv_at hl 0 rfl) ?_
  refine lv_iconst (v := 4) X.1 X.2.1 dX3_init_39 (by decide) ?_
  refine gx_newI (M := 4) X hG hS k_122 (by decide) (by decide) (by decide) dX3_init_40 hF (fun i17 σ18 ad19 H hG hS hX hA2 hT_i17 hF => ?_)
  have hl : lv_has ls 1 [(0, .ref (ad19 a0))] := by rw [hA2 a0 hT_a0.1]; exact hl
  refine W.eq (g2 := F0 m 42 ls [.ref (ad19 i17), .ref (ad19 a0)]) (by rw [hA2 a0 hT_a0.1] <;> rfl) ?_
  replace hA := hA.trans hE.1 hA2
  have hT_a0 := hX.T hT_a0
  replace hE := hE.trans hX
  refine lv_dup X.1 X.2.1 dX3_init_42 rfl ?_
  refine lv_iconst (v := 0) X.1 X.2.1 dX3_init_43 (by decide) ?_
  refine lv_bipush (v := 12) X.1 X.2.1 dX3_init_44 (by decide) ?_
  refine gx_iast X hG hS hT_i17 hF dX3_init_46 (fun σ20 H locs hG hS hX hF => ?_)
  have hT_a0 := hX.T hT_a0
  have hT_i17 := hX.T hT_i17
  replace hE := hE.trans hX
  refine lv_dup X.1 X.2.1 dX3_init_47 rfl ?_
  refine lv_iconst (v := 1) X.1 X.2.1 dX3_init_48 (by decide) ?_
  refine lv_iconst (v := 0) X.1 X.2.1 dX3_init_49 (by decide) ?_
  refine gx_iast X hG hS hT_i17 hF dX3_init_50 (fun σ21 H locs hG hS hX hF => ?_)
  have hT_a0 := hX.T hT_a0
  have hT_i17 := hX.T hT_i17
  replace hE := hE.trans hX
  refine lv_dup X.1 X.2.1 dX3_init_51 rfl ?_
  refine lv_iconst (v := 2) X.1 X.2.1 dX3_init_52 (by decide) ?_
  refine lv_iconst (v := 0) X.1 X.2.1 dX3_init_53 (by decide) ?_
  refine gx_iast X hG hS hT_i17 hF dX3_init_54 (fun σ22 H locs hG hS hX hF => ?_)
  have hT_a0 := hX.T hT_a0
  have hT_i17 := hX.T hT_i17
  replace hE := hE.trans hX
  refine lv_dup X.1 X.2.1 dX3_init_55 rfl ?_
  refine lv_iconst (v := 3) X.1 X.2.1 dX3_init_56 (by decide) ?_
  refine lv_sipush (v := 600) X.1 X.2.1 dX3_init_57 (by decide) ?_
  refine gx_iast X hG hS hT_i17 hF dX3_init_60 (fun σ23 H locs hG hS hX hF => ?_)
  have hT_a0 := hX.T hT_a0
  have hT_i17 := hX.T hT_i17
  replace hE := hE.trans hX
  refine gx_putFR 7 (x := (some i17)) X hG hS hT_a0.1 (hT_a0.eq (by decide)) (by decide) rfl inX3 tyX3_ok nmX3 (by decide) k_56 rfl hin rfl (gx_narA _) (gx_fitA _) rfl (oT.some hT_i17) (Nat.le_of_ble_eq_true rfl) dX3_init_61 hF (fun σ24 H locs hG hS hX hF => ?_)
  have hT_a0 := hX.T hT_a0
  replace hE := hE.trans hX
  refine lv_aload_n X.1 X.2.1 dX3_init_64 rfl (lv_at hl 0 rfl) ?_
  refine lv_bipush (v := 12) X.1 X.2.1 dX3_init_65 (by decide) ?_
  refine gx_newI (M := 12) X hG hS k_122 (by decide) (by decide) (by decide) dX3_init_67 hF (fun i25 σ26 ad27 H hG hS hX hA2 hT_i25 hF => ?_)
  have hl : lv_has ls 1 [(0, .ref (ad27 a0))] := by rw [hA2 a0 hT_a0.1]; exact hl
  refine W.eq (g2 := F0 m 69 ls [.ref (ad27 i25), .ref (ad27 a0)]) (by rw [hA2 a0 hT_a0.1] <;> rfl) ?_
  replace hA := hA.trans hE.1 hA2
  have hT_a0 := hX.T hT_a0
  replace hE := hE.trans hX
  refine gx_putFR 15 (x := (some i25)) X hG hS hT_a0.1 (hT_a0.eq (by decide)) (by decide) rfl inX3 tyX3_ok nmX3 (by decide) k_74 rfl hin rfl (gx_narA _) (gx_fitA _) rfl (oT.some hT_i25) (Nat.le_of_ble_eq_true rfl) dX3_init_69 hF (fun σ28 H locs hG hS hX hF => ?_)
  have hT_a0 := hX.T hT_a0
  replace hE := hE.trans hX
  refine lv_aload_n X.1 X.2.1 dX3_init_72 rfl (lv_at hl 0 rfl) ?_
  refine lv_bipush (v := 12) X.1 X.2.1 dX3_init_73 (by decide) ?_
  refine gx_newI (M := 12) X hG hS k_122 (by decide) (by decide) (by decide) dX3_init_75 hF (fun i29 σ30 ad31 H hG hS hX hA2 hT_i29 hF => ?_)
  have hl : lv_has ls 1 [(0, .ref (ad31 a0))] := by rw [hA2 a0 hT_a0.1]; exact hl
  refine W.eq (g2 := F0 m 77 ls [.ref (ad31 i29), .ref (ad31 a0)]) (by rw [hA2 a0 hT_a0.1] <;> rfl) ?_
  replace hA := hA.trans hE.1 hA2
  have hT_a0 := hX.T hT_a0
  replace hE := hE.trans hX
  refine gx_putFR 16 (x := (some i29)) X hG hS hT_a0.1 (hT_a0.eq (by decide)) (by decide) rfl inX3 tyX3_ok nmX3 (by decide) k_76 rfl hin rfl (gx_narA _) (gx_fitA _) rfl (oT.some hT_i29) (Nat.le_of_ble_eq_true rfl) dX3_init_77 hF (fun σ32 H locs hG hS hX hF => ?_)
  have hT_a0 := hX.T hT_a0
  replace hE := hE.trans hX
  refine lv_aload_n X.1 X.2.1 dX3_init_80 rfl (lv_at hl 0 rfl) ?_
  refine lv_bipush (v := 12) X.1 X.2.1 dX3_init_81 (by decide) ?_
  refine gx_newI (M := 12) X hG hS k_122 (by decide) (by decide) (by decide) dX3_init_83 hF (fun i33 σ34 ad35 H hG hS hX hA2 hT_i33 hF => ?_)
  have hl : lv_has ls 1 [(0, .ref (ad35 a0))] := by rw [hA2 a0 hT_a0.1]; exact hl
  refine W.eq (g2 := F0 m 85 ls [.ref (ad35 i33), .ref (ad35 a0)]) (by rw [hA2 a0 hT_a0.1] <;> rfl) ?_
  replace hA := hA.trans hE.1 hA2
  have hT_a0 := hX.T hT_a0
  replace hE := hE.trans hX
  refine gx_putFR 17 (x := (some i33)) X hG hS hT_a0.1 (hT_a0.eq (by decide)) (by decide) rfl inX3 tyX3_ok nmX3 (by decide) k_78 rfl hin rfl (gx_narA _) (gx_fitA _) rfl (oT.some hT_i33) (Nat.le_of_ble_eq_true rfl) dX3_init_85 hF (fun σ36 H locs hG hS hX hF => ?_)
  have hT_a0 := hX.T hT_a0
  replace hE := hE.trans hX
  refine lv_aload_n X.1 X.2.1 dX3_init_88 rfl (lv_at hl 0 rfl) ?_
  refine lv_bipush (v := 12) X.1 X.2.1 dX3_init_89 (by decide) ?_
  refine gx_newI (M := 12) X hG hS k_122 (by decide) (by decide) (by decide) dX3_init_91 hF (fun i37 σ38 ad39 H hG hS hX hA2 hT_i37 hF => ?_)
  have hl : lv_has ls 1 [(0, .ref (ad39 a0))] := by rw [hA2 a0 hT_a0.1]; exact hl
  refine W.eq (g2 := F0 m 93 ls [.ref (ad39 i37), .ref (ad39 a0)]) (by rw [hA2 a0 hT_a0.1] <;> rfl) ?_
  replace hA := hA.trans hE.1 hA2
  have hT_a0 := hX.T hT_a0
  replace hE := hE.trans hX
  refine gx_putFR 18 (x := (some i37)) X hG hS hT_a0.1 (hT_a0.eq (by decide)) (by decide) rfl inX3 tyX3_ok nmX3 (by decide) k_81 rfl hin rfl (gx_narA _) (gx_fitA _) rfl (oT.some hT_i37) (Nat.le_of_ble_eq_true rfl) dX3_init_93 hF (fun σ40 H locs hG hS hX hF => ?_)
  have hT_a0 := hX.T hT_a0
  replace hE := hE.trans hX
  refine W.widen (k := 9) (n := 94) (by decide) (by decide) ?_
  exact gx_vretA X hG hS hE hA hF dX3_init_96
theorem c_X5_init (l : Launch) (D : va_G) (cA : Nat → ClassId) (base : Nat) (ad : Nat → Nat) (σ : Hp) (n : Nat) (a0 : Nat) (hT_a0 : hT σ a0 5) {τ : Hp} (hF : F_X5_init n a0 σ = some τ) : MVa l yX5_init cX5_init 1 rm_X5_init D cA base ad σ [.ref (ad a0)] τ 1 100 := by
  refine Met.ofW (cc := cX5_init) (maxL := 1) (ret := none) (by decide) rfl ?_
  intro p e s m args below meth c s₁ B hml hv
  obtain ⟨rfl, hv⟩ := hv
  have X : SX D cA base p s m ([.ref (ad a0)] : List Value).toArray meth c cX5_init 1 none RX5 := sx_of B hml hv
  have hG := hv.1
  have hS : va_S (bA base) s.heap s.heap [] := va_S.rf
  have hE := xT.rf σ
  have hA := adE.rf σ ad
  have hin : meth.name = "<init>" := (name_of_methodNamed B.named B.method).1
  have hl := lv_entry ([.ref (ad a0)]) (n := 1) (Nat.le_of_ble_eq_true rfl)
  rw [lg_entry_eq]
  generalize (lg_sl ([.ref (ad a0)]) ++ List.replicate (1 - (lg_sl ([.ref (ad a0)])).length) Slot.unset).toArray = ls at hl ⊢
  have hl : lv_has ls 1 [(0, .ref (ad a0))] := hl
  unfold F_X5_init at hF
  refine lv_aload_n X.1 X.2.1 dX5_init_0 rfl (lv_at hl 0 rfl) ?_
  refine W.objInit X.1 X.2.1 X.2.2.2.2.2.1 (X.w k_129) (X.w k_28) (X.w k_29) rfl (by rw [X.2.2.1]; exact hl.1) rfl dX5_init_1 (Nat.le_of_ble_eq_true rfl) (Nat.le_of_ble_eq_true rfl) ?_
  refine W.eq (g2 := F0 m 4 ls []) rfl ?_
  refine lv_aload_n X.1 X.2.1 dX5_init_4 rfl (lv_at hl 0 rfl) ?_
  refine lv_iconst (v := (-1)) X.1 X.2.1 dX5_init_5 (by decide) ?_
  refine gx_putI 2  X hG hS hT_a0.1 (hT_a0.eq (by decide)) (by decide) rfl inX5 tyX5_ok nmX5 (by decide) k_134 (fun _ h => h) rfl rfl rfl rfl (Nat.le_of_ble_eq_true rfl) dX5_init_6 hF (fun σ1 H locs hG hS hX hF => ?_)
  have hT_a0 := hX.T hT_a0
  replace hE := hE.trans hX
  refine lv_aload_n X.1 X.2.1 dX5_init_9 rfl (lv_at hl 0 rfl) ?_
  refine lv_bipush (v := 100) X.1 X.2.1 dX5_init_10 (by decide) ?_
  refine gx_newI (M := 100) X hG hS k_122 (by decide) (by decide) (by decide) dX5_init_12 hF (fun i2 σ3 ad4 H hG hS hX hA2 hT_i2 hF => ?_)
  have hl : lv_has ls 1 [(0, .ref (ad4 a0))] := by rw [hA2 a0 hT_a0.1]; exact hl
  refine W.eq (g2 := F0 m 14 ls [.ref (ad4 i2), .ref (ad4 a0)]) (by rw [hA2 a0 hT_a0.1] <;> rfl) ?_
  replace hA := hA.trans hE.1 hA2
  have hT_a0 := hX.T hT_a0
  replace hE := hE.trans hX
  refine gx_putFR 4 (x := (some i2)) X hG hS hT_a0.1 (hT_a0.eq (by decide)) (by decide) rfl inX5 tyX5_ok nmX5 (by decide) k_138 rfl hin rfl (gx_narA _) (gx_fitA _) rfl (oT.some hT_i2) (Nat.le_of_ble_eq_true rfl) dX5_init_14 hF (fun σ5 H locs hG hS hX hF => ?_)
  have hT_a0 := hX.T hT_a0
  replace hE := hE.trans hX
  refine W.widen (k := 1) (n := 100) (by decide) (by decide) ?_
  exact gx_vretA X hG hS hE hA hF dX5_init_17
theorem c_X11_init (l : Launch) (D : va_G) (cA : Nat → ClassId) (base : Nat) (ad : Nat → Nat) (σ : Hp) (n : Nat) (a0 : Nat) (hT_a0 : hT σ a0 11) {τ : Hp} (hF : F_X11_init n a0 σ = some τ) : MVa l yX11_init cX11_init 2 rm_X11_init D cA base ad σ [.ref (ad a0)] τ 47 1187 := by
  refine Met.ofW (cc := cX11_init) (maxL := 2) (ret := none) (by decide) rfl ?_
  intro p e s m args below meth c s₁ B hml hv
  obtain ⟨rfl, hv⟩ := hv
  have X : SX D cA base p s m ([.ref (ad a0)] : List Value).toArray meth c cX11_init 2 none RX11 := sx_of B hml hv
  have hG := hv.1
  have hS : va_S (bA base) s.heap s.heap [] := va_S.rf
  have hE := xT.rf σ
  have hA := adE.rf σ ad
  have hin : meth.name = "<init>" := (name_of_methodNamed B.named B.method).1
  have hl := lv_entry ([.ref (ad a0)]) (n := 2) (Nat.le_of_ble_eq_true rfl)
  rw [lg_entry_eq]
  generalize (lg_sl ([.ref (ad a0)]) ++ List.replicate (2 - (lg_sl ([.ref (ad a0)])).length) Slot.unset).toArray = ls at hl ⊢
  have hl : lv_has ls 2 [(0, .ref (ad a0))] := hl
  unfold F_X11_init at hF
  refine lv_aload_n X.1 X.2.1 dX11_init_0 rfl (lv_at hl 0 rfl) ?_
  refine W.objInit X.1 X.2.1 X.2.2.2.2.2.1 (X.w k_27) (X.w k_28) (X.w k_29) rfl (by rw [X.2.2.1]; exact hl.1) rfl dX11_init_1 (Nat.le_of_ble_eq_true rfl) (Nat.le_of_ble_eq_true rfl) ?_
  refine W.eq (g2 := F0 m 4 ls []) rfl ?_
  refine lv_aload_n X.1 X.2.1 dX11_init_4 rfl (lv_at hl 0 rfl) ?_
  refine gx_new X hG hS (by decide) rfl inX3 tyX3_ok df3 k_30 k_31 k_2 rfl (by decide) (by decide) dX11_init_5 hF (fun i1 σ2 ad3 H hG hS hX hA2 hT_i1 hF => ?_)
  have hl : lv_has ls 2 [(0, .ref (ad3 a0))] := by rw [hA2 a0 hT_a0.1]; exact hl
  refine W.eq (g2 := F0 m 8 ls [.ref (ad3 i1), .ref (ad3 a0)]) (by rw [hA2 a0 hT_a0.1] <;> rfl) ?_
  replace hA := hA.trans hE.1 hA2
  have hT_a0 := hX.T hT_a0
  replace hE := hE.trans hX
  refine lv_dup X.1 X.2.1 dX11_init_8 rfl ?_
  obtain ⟨σ4, hz, hF⟩ := b1_ex hF
  refine gx_rVa (gx_runIN (As := []) (rest := [.ref (ad3 i1), .ref (ad3 a0)]) X hG hS (c_X3_init l D cA base ad3 σ2 n i1 hT_i1 hz) k_34 q_32 k_33 k_2 rfl (h_X3_init.2) rfl rfl ⟨by decide, by decide⟩ rfl hl.1 rfl (Nat.le_of_ble_eq_true rfl) dX11_init_9 ⟨by decide, by decide⟩) hS (fun ad5 H locs hG hS hX hA2 => ?_)
  have hl : lv_has ls 2 [(0, .ref (ad5 a0))] := by rw [hA2 a0 hT_a0.1]; exact hl
  refine W.eq (g2 := F0 m 12 ls [.ref (ad5 i1), .ref (ad5 a0)]) (by rw [hA2 i1 hT_i1.1, hA2 a0 hT_a0.1] <;> rfl) ?_
  replace hA := hA.trans hE.1 hA2
  have hT_a0 := hX.T hT_a0
  have hT_i1 := hX.T hT_i1
  replace hE := hE.trans hX
  refine gx_putFR 0 (x := (some i1)) X hG hS hT_a0.1 (hT_a0.eq (by decide)) (by decide) rfl inX11 tyX11_ok nmX11 (by decide) k_151 rfl hin rfl (gx_nar _) (gx_fit _) rfl (oT.some hT_i1) (Nat.le_of_ble_eq_true rfl) dX11_init_12 hF (fun σ6 H locs hG hS hX hF => ?_)
  have hT_a0 := hX.T hT_a0
  replace hE := hE.trans hX
  refine lv_aload_n X.1 X.2.1 dX11_init_15 rfl (lv_at hl 0 rfl) ?_
  refine gx_new X hG hS (by decide) rfl inX3 tyX3_ok df3 k_30 k_31 k_2 rfl (by decide) (by decide) dX11_init_16 hF (fun i7 σ8 ad9 H hG hS hX hA2 hT_i7 hF => ?_)
  have hl : lv_has ls 2 [(0, .ref (ad9 a0))] := by rw [hA2 a0 hT_a0.1]; exact hl
  refine W.eq (g2 := F0 m 19 ls [.ref (ad9 i7), .ref (ad9 a0)]) (by rw [hA2 a0 hT_a0.1] <;> rfl) ?_
  replace hA := hA.trans hE.1 hA2
  have hT_a0 := hX.T hT_a0
  replace hE := hE.trans hX
  refine lv_dup X.1 X.2.1 dX11_init_19 rfl ?_
  obtain ⟨σ10, hz, hF⟩ := b1_ex hF
  refine gx_rVa (gx_runIN (As := []) (rest := [.ref (ad9 i7), .ref (ad9 a0)]) X hG hS (c_X3_init l D cA base ad9 σ8 n i7 hT_i7 hz) k_34 q_32 k_33 k_2 rfl (h_X3_init.2) rfl rfl ⟨by decide, by decide⟩ rfl hl.1 rfl (Nat.le_of_ble_eq_true rfl) dX11_init_20 ⟨by decide, by decide⟩) hS (fun ad11 H locs hG hS hX hA2 => ?_)
  have hl : lv_has ls 2 [(0, .ref (ad11 a0))] := by rw [hA2 a0 hT_a0.1]; exact hl
  refine W.eq (g2 := F0 m 23 ls [.ref (ad11 i7), .ref (ad11 a0)]) (by rw [hA2 i7 hT_i7.1, hA2 a0 hT_a0.1] <;> rfl) ?_
  replace hA := hA.trans hE.1 hA2
  have hT_a0 := hX.T hT_a0
  have hT_i7 := hX.T hT_i7
  replace hE := hE.trans hX
  refine gx_putFR 1 (x := (some i7)) X hG hS hT_a0.1 (hT_a0.eq (by decide)) (by decide) rfl inX11 tyX11_ok nmX11 (by decide) k_152 rfl hin rfl (gx_nar _) (gx_fit _) rfl (oT.some hT_i7) (Nat.le_of_ble_eq_true rfl) dX11_init_23 hF (fun σ12 H locs hG hS hX hF => ?_)
  have hT_a0 := hX.T hT_a0
  replace hE := hE.trans hX
  refine lv_aload_n X.1 X.2.1 dX11_init_26 rfl (lv_at hl 0 rfl) ?_
  refine gx_new X hG hS (by decide) rfl inX3 tyX3_ok df3 k_30 k_31 k_2 rfl (by decide) (by decide) dX11_init_27 hF (fun i13 σ14 ad15 H hG hS hX hA2 hT_i13 hF => ?_)
  have hl : lv_has ls 2 [(0, .ref (ad15 a0))] := by rw [hA2 a0 hT_a0.1]; exact hl
  refine W.eq (g2 := F0 m 30 ls [.ref (ad15 i13), .ref (ad15 a0)]) (by rw [hA2 a0 hT_a0.1] <;> rfl) ?_
  replace hA := hA.trans hE.1 hA2
  have hT_a0 := hX.T hT_a0
  replace hE := hE.trans hX
  refine lv_dup X.1 X.2.1 dX11_init_30 rfl ?_
  obtain ⟨σ16, hz, hF⟩ := b1_ex hF
  refine gx_rVa (gx_runIN (As := []) (rest := [.ref (ad15 i13), .ref (ad15 a0)]) X hG hS (c_X3_init l D cA base ad15 σ14 n i13 hT_i13 hz) k_34 q_32 k_33 k_2 rfl (h_X3_init.2) rfl rfl ⟨by decide, by decide⟩ rfl hl.1 rfl (Nat.le_of_ble_eq_true rfl) dX11_init_31 ⟨by decide, by decide⟩) hS (fun ad17 H locs hG hS hX hA2 => ?_)
  have hl : lv_has ls 2 [(0, .ref (ad17 a0))] := by rw [hA2 a0 hT_a0.1]; exact hl
  refine W.eq (g2 := F0 m 34 ls [.ref (ad17 i13), .ref (ad17 a0)]) (by rw [hA2 i13 hT_i13.1, hA2 a0 hT_a0.1] <;> rfl) ?_
  replace hA := hA.trans hE.1 hA2
  have hT_a0 := hX.T hT_a0
  have hT_i13 := hX.T hT_i13
  replace hE := hE.trans hX
  refine gx_putFR 2 (x := (some i13)) X hG hS hT_a0.1 (hT_a0.eq (by decide)) (by decide) rfl inX11 tyX11_ok nmX11 (by decide) k_153 rfl hin rfl (gx_nar _) (gx_fit _) rfl (oT.some hT_i13) (Nat.le_of_ble_eq_true rfl) dX11_init_34 hF (fun σ18 H locs hG hS hX hF => ?_)
  have hT_a0 := hX.T hT_a0
  replace hE := hE.trans hX
  refine lv_aload_n X.1 X.2.1 dX11_init_37 rfl (lv_at hl 0 rfl) ?_
  refine lv_bipush (v := 8) X.1 X.2.1 dX11_init_38 (by decide) ?_
  refine gx_newQ (M := 8) (t0 := 2) X hG hS (by decide) (by decide) rfl rfl k_123 X.2.2.2.2.2.2.2.2.1.2.2.2.2 (by decide) (by decide) (by decide) dX11_init_40 hF (fun i19 σ20 ad21 H hG hS hX hA2 hT_i19 hF => ?_)
  have hl : lv_has ls 2 [(0, .ref (ad21 a0))] := by rw [hA2 a0 hT_a0.1]; exact hl
  refine W.eq (g2 := F0 m 43 ls [.ref (ad21 i19), .ref (ad21 a0)]) (by rw [hA2 a0 hT_a0.1] <;> rfl) ?_
  replace hA := hA.trans hE.1 hA2
  have hT_a0 := hX.T hT_a0
  replace hE := hE.trans hX
  refine gx_putFR 4 (x := (some i19)) X hG hS hT_a0.1 (hT_a0.eq (by decide)) (by decide) rfl inX11 tyX11_ok nmX11 (by decide) k_155 rfl hin rfl (gx_narA _) (gx_fitA _) rfl (oT.some hT_i19) (Nat.le_of_ble_eq_true rfl) dX11_init_43 hF (fun σ22 H locs hG hS hX hF => ?_)
  have hT_a0 := hX.T hT_a0
  replace hE := hE.trans hX
  refine lv_iconst (v := 0) X.1 X.2.1 dX11_init_46 (by decide) ?_
  refine lv_istore_n (lv' := [(1, .int 0), (0, .ref (ad21 a0))]) X.1 X.2.1 dX11_init_47 rfl hl (by decide) rfl (fun ls hl => ?_)
  refine lv_iload_n X.1 X.2.1 dX11_init_48 rfl (lv_at hl 0 rfl) ?_
  refine lv_aload_n X.1 X.2.1 dX11_init_49 rfl (lv_at hl 1 rfl) ?_
  obtain ⟨i23, hr, hF⟩ := b1_ex hF
  have hT_i23 : hT σ22 i23 15 := gw_T hG hT_a0 (by decide) hr
  refine gx_get 4 (v := .ref (ad21 i23)) X hG hT_a0.1 (hT_a0.eq (by decide)) (by decide) rfl inX11 (by decide) k_155 (fun _ h => h) (gx_rfv hr) dX11_init_50 ?_
  refine gx_alen (t0 := 2) X hG hT_i23 (by decide) (by decide) rfl dX11_init_53 ?_
  obtain ⟨hcc, hF⟩ := ck_ex hF
  refine lv_icmp_ge (tgt := 76) X.1 X.2.1 dX11_init_54 (by decide) (fun hc => ?_) (fun hc => ?_)
  · exact absurd hc hcc
  · clear hc
    refine lv_aload_n X.1 X.2.1 dX11_init_57 rfl (lv_at hl 1 rfl) ?_
    obtain ⟨i24, hr, hF⟩ := b1_ex hF
    have hT_i24 : hT σ22 i24 15 := gw_T hG hT_a0 (by decide) hr
    refine gx_get 4 (v := .ref (ad21 i24)) X hG hT_a0.1 (hT_a0.eq (by decide)) (by decide) rfl inX11 (by decide) k_155 (fun _ h => h) (gx_rfv hr) dX11_init_58 ?_
    refine lv_iload_n X.1 X.2.1 dX11_init_61 rfl (lv_at hl 0 rfl) ?_
    refine gx_new X hG hS (by decide) rfl inX5 tyX5_ok df5 k_123 k_125 k_3 rfl (by decide) (by decide) dX11_init_62 hF (fun i25 σ26 ad27 H hG hS hX hA2 hT_i25 hF => ?_)
    have hl : lv_has ls 2 [(1, .int 0), (0, .ref (ad27 a0))] := by rw [hA2 a0 hT_a0.1]; exact hl
    refine W.eq (g2 := F0 m 65 ls [.ref (ad27 i25), .int 0, .ref (ad27 i24)]) (by rw [hA2 i24 hT_i24.1] <;> rfl) ?_
    replace hA := hA.trans hE.1 hA2
    have hT_a0 := hX.T hT_a0
    have hT_i24 := hX.T hT_i24
    replace hE := hE.trans hX
    refine lv_dup X.1 X.2.1 dX11_init_65 rfl ?_
    obtain ⟨σ28, hz, hF⟩ := b1_ex hF
    refine gx_rVa (gx_runIN (As := []) (rest := [.ref (ad27 i25), .int 0, .ref (ad27 i24)]) X hG hS (c_X5_init l D cA base ad27 σ26 n i25 hT_i25 hz) k_128 q_126 k_127 k_3 rfl (h_X5_init.2) rfl rfl ⟨by decide, by decide⟩ rfl hl.1 rfl (Nat.le_of_ble_eq_true rfl) dX11_init_66 ⟨by decide, by decide⟩) hS (fun ad29 H locs hG hS hX hA2 => ?_)
    have hl : lv_has ls 2 [(1, .int 0), (0, .ref (ad29 a0))] := by rw [hA2 a0 hT_a0.1]; exact hl
    refine W.eq (g2 := F0 m 69 ls [.ref (ad29 i25), .int 0, .ref (ad29 i24)]) (by rw [hA2 i25 hT_i25.1, hA2 i24 hT_i24.1] <;> rfl) ?_
    replace hA := hA.trans hE.1 hA2
    have hT_a0 := hX.T hT_a0
    have hT_i24 := hX.T hT_i24
    have hT_i25 := hX.T hT_i25
    replace hE := hE.trans hX
    refine gx_qast (t0 := 2) (ci := 5) (r := (RX5, TX5, 5)) (v := (some i25)) X hG hS hT_i24 (by decide) (by decide) rfl rfl (by decide) (oT.some hT_i25) rfl hF dX11_init_69 (fun σ30 H locs hG hS hX hF => ?_)
    have hT_a0 := hX.T hT_a0
    replace hE := hE.trans hX
    refine lv_iinc (v := 1) (lv' := [(1, .int 1), (0, .ref (ad29 a0))]) X.1 X.2.1 dX11_init_70 hl (k := 0) rfl (by decide) (by decide) rfl (fun ls hl => ?_)
    refine lv_goto (tgt := 48) X.1 X.2.1 dX11_init_73 (by decide) ?_
    refine lv_iload_n X.1 X.2.1 dX11_init_48 rfl (lv_at hl 0 rfl) ?_
    refine lv_aload_n X.1 X.2.1 dX11_init_49 rfl (lv_at hl 1 rfl) ?_
    obtain ⟨i31, hr, hF⟩ := b1_ex hF
    have hT_i31 : hT σ30 i31 15 := gw_T hG hT_a0 (by decide) hr
    refine gx_get 4 (v := .ref (ad29 i31)) X hG hT_a0.1 (hT_a0.eq (by decide)) (by decide) rfl inX11 (by decide) k_155 (fun _ h => h) (gx_rfv hr) dX11_init_50 ?_
    refine gx_alen (t0 := 2) X hG hT_i31 (by decide) (by decide) rfl dX11_init_53 ?_
    obtain ⟨hcc, hF⟩ := ck_ex hF
    refine lv_icmp_ge (tgt := 76) X.1 X.2.1 dX11_init_54 (by decide) (fun hc => ?_) (fun hc => ?_)
    · exact absurd hc hcc
    · clear hc
      refine lv_aload_n X.1 X.2.1 dX11_init_57 rfl (lv_at hl 1 rfl) ?_
      obtain ⟨i32, hr, hF⟩ := b1_ex hF
      have hT_i32 : hT σ30 i32 15 := gw_T hG hT_a0 (by decide) hr
      refine gx_get 4 (v := .ref (ad29 i32)) X hG hT_a0.1 (hT_a0.eq (by decide)) (by decide) rfl inX11 (by decide) k_155 (fun _ h => h) (gx_rfv hr) dX11_init_58 ?_
      refine lv_iload_n X.1 X.2.1 dX11_init_61 rfl (lv_at hl 0 rfl) ?_
      refine gx_new X hG hS (by decide) rfl inX5 tyX5_ok df5 k_123 k_125 k_3 rfl (by decide) (by decide) dX11_init_62 hF (fun i33 σ34 ad35 H hG hS hX hA2 hT_i33 hF => ?_)
      have hl : lv_has ls 2 [(1, .int 1), (0, .ref (ad35 a0))] := by rw [hA2 a0 hT_a0.1]; exact hl
      refine W.eq (g2 := F0 m 65 ls [.ref (ad35 i33), .int 1, .ref (ad35 i32)]) (by rw [hA2 i32 hT_i32.1] <;> rfl) ?_
      replace hA := hA.trans hE.1 hA2
      have hT_a0 := hX.T hT_a0
      have hT_i32 := hX.T hT_i32
      replace hE := hE.trans hX
      refine lv_dup X.1 X.2.1 dX11_init_65 rfl ?_
      obtain ⟨σ36, hz, hF⟩ := b1_ex hF
      refine gx_rVa (gx_runIN (As := []) (rest := [.ref (ad35 i33), .int 1, .ref (ad35 i32)]) X hG hS (c_X5_init l D cA base ad35 σ34 n i33 hT_i33 hz) k_128 q_126 k_127 k_3 rfl (h_X5_init.2) rfl rfl ⟨by decide, by decide⟩ rfl hl.1 rfl (Nat.le_of_ble_eq_true rfl) dX11_init_66 ⟨by decide, by decide⟩) hS (fun ad37 H locs hG hS hX hA2 => ?_)
      have hl : lv_has ls 2 [(1, .int 1), (0, .ref (ad37 a0))] := by rw [hA2 a0 hT_a0.1]; exact hl
      refine W.eq (g2 := F0 m 69 ls [.ref (ad37 i33), .int 1, .ref (ad37 i32)]) (by rw [hA2 i33 hT_i33.1, hA2 i32 hT_i32.1] <;> rfl) ?_
      replace hA := hA.trans hE.1 hA2
      have hT_a0 := hX.T hT_a0
      have hT_i32 := hX.T hT_i32
      have hT_i33 := hX.T hT_i33
      replace hE := hE.trans hX
      refine gx_qast (t0 := 2) (ci := 5) (r := (RX5, TX5, 5)) (v := (some i33)) X hG hS hT_i32 (by decide) (by decide) rfl rfl (by decide) (oT.some hT_i33) rfl hF dX11_init_69 (fun σ38 H locs hG hS hX hF => ?_)
      have hT_a0 := hX.T hT_a0
      replace hE := hE.trans hX
      refine lv_iinc (v := 2) (lv' := [(1, .int 2), (0, .ref (ad37 a0))]) X.1 X.2.1 dX11_init_70 hl (k := 0) rfl (by decide) (by decide) rfl (fun ls hl => ?_)
      refine lv_goto (tgt := 48) X.1 X.2.1 dX11_init_73 (by decide) ?_
      refine lv_iload_n X.1 X.2.1 dX11_init_48 rfl (lv_at hl 0 rfl) ?_
      refine lv_aload_n X.1 X.2.1 dX11_init_49 rfl (lv_at hl 1 rfl) ?_
      obtain ⟨i39, hr, hF⟩ := b1_ex hF
      have hT_i39 : hT σ38 i39 15 := gw_T hG hT_a0 (by decide) hr
      refine gx_get 4 (v := .ref (ad37 i39)) X hG hT_a0.1 (hT_a0.eq (by decide)) (by decide) rfl inX11 (by decide) k_155 (fun _ h => h) (gx_rfv hr) dX11_init_50 ?_
      refine gx_alen (t0 := 2) X hG hT_i39 (by decide) (by decide) rfl dX11_init_53 ?_
      obtain ⟨hcc, hF⟩ := ck_ex hF
      refine lv_icmp_ge (tgt := 76) X.1 X.2.1 dX11_init_54 (by decide) (fun hc => ?_) (fun hc => ?_)
      · exact absurd hc hcc
      · clear hc
        refine lv_aload_n X.1 X.2.1 dX11_init_57 rfl (lv_at hl 1 rfl) ?_
        obtain ⟨i40, hr, hF⟩ := b1_ex hF
        have hT_i40 : hT σ38 i40 15 := gw_T hG hT_a0 (by decide) hr
        refine gx_get 4 (v := .ref (ad37 i40)) X hG hT_a0.1 (hT_a0.eq (by decide)) (by decide) rfl inX11 (by decide) k_155 (fun _ h => h) (gx_rfv hr) dX11_init_58 ?_
        refine lv_iload_n X.1 X.2.1 dX11_init_61 rfl (lv_at hl 0 rfl) ?_
        refine gx_new X hG hS (by decide) rfl inX5 tyX5_ok df5 k_123 k_125 k_3 rfl (by decide) (by decide) dX11_init_62 hF (fun i41 σ42 ad43 H hG hS hX hA2 hT_i41 hF => ?_)
        have hl : lv_has ls 2 [(1, .int 2), (0, .ref (ad43 a0))] := by rw [hA2 a0 hT_a0.1]; exact hl
        refine W.eq (g2 := F0 m 65 ls [.ref (ad43 i41), .int 2, .ref (ad43 i40)]) (by rw [hA2 i40 hT_i40.1] <;> rfl) ?_
        replace hA := hA.trans hE.1 hA2
        have hT_a0 := hX.T hT_a0
        have hT_i40 := hX.T hT_i40
        replace hE := hE.trans hX
        refine lv_dup X.1 X.2.1 dX11_init_65 rfl ?_
        obtain ⟨σ44, hz, hF⟩ := b1_ex hF
        refine gx_rVa (gx_runIN (As := []) (rest := [.ref (ad43 i41), .int 2, .ref (ad43 i40)]) X hG hS (c_X5_init l D cA base ad43 σ42 n i41 hT_i41 hz) k_128 q_126 k_127 k_3 rfl (h_X5_init.2) rfl rfl ⟨by decide, by decide⟩ rfl hl.1 rfl (Nat.le_of_ble_eq_true rfl) dX11_init_66 ⟨by decide, by decide⟩) hS (fun ad45 H locs hG hS hX hA2 => ?_)
        have hl : lv_has ls 2 [(1, .int 2), (0, .ref (ad45 a0))] := by rw [hA2 a0 hT_a0.1]; exact hl
        refine W.eq (g2 := F0 m 69 ls [.ref (ad45 i41), .int 2, .ref (ad45 i40)]) (by rw [hA2 i41 hT_i41.1, hA2 i40 hT_i40.1] <;> rfl) ?_
        replace hA := hA.trans hE.1 hA2
        have hT_a0 := hX.T hT_a0
        have hT_i40 := hX.T hT_i40
        have hT_i41 := hX.T hT_i41
        replace hE := hE.trans hX
        refine gx_qast (t0 := 2) (ci := 5) (r := (RX5, TX5, 5)) (v := (some i41)) X hG hS hT_i40 (by decide) (by decide) rfl rfl (by decide) (oT.some hT_i41) rfl hF dX11_init_69 (fun σ46 H locs hG hS hX hF => ?_)
        have hT_a0 := hX.T hT_a0
        replace hE := hE.trans hX
        refine lv_iinc (v := 3) (lv' := [(1, .int 3), (0, .ref (ad45 a0))]) X.1 X.2.1 dX11_init_70 hl (k := 0) rfl (by decide) (by decide) rfl (fun ls hl => ?_)
        refine lv_goto (tgt := 48) X.1 X.2.1 dX11_init_73 (by decide) ?_
        refine lv_iload_n X.1 X.2.1 dX11_init_48 rfl (lv_at hl 0 rfl) ?_
        refine lv_aload_n X.1 X.2.1 dX11_init_49 rfl (lv_at hl 1 rfl) ?_
        obtain ⟨i47, hr, hF⟩ := b1_ex hF
        have hT_i47 : hT σ46 i47 15 := gw_T hG hT_a0 (by decide) hr
        refine gx_get 4 (v := .ref (ad45 i47)) X hG hT_a0.1 (hT_a0.eq (by decide)) (by decide) rfl inX11 (by decide) k_155 (fun _ h => h) (gx_rfv hr) dX11_init_50 ?_
        refine gx_alen (t0 := 2) X hG hT_i47 (by decide) (by decide) rfl dX11_init_53 ?_
        obtain ⟨hcc, hF⟩ := ck_ex hF
        refine lv_icmp_ge (tgt := 76) X.1 X.2.1 dX11_init_54 (by decide) (fun hc => ?_) (fun hc => ?_)
        · exact absurd hc hcc
        · clear hc
          refine lv_aload_n X.1 X.2.1 dX11_init_57 rfl (lv_at hl 1 rfl) ?_
          obtain ⟨i48, hr, hF⟩ := b1_ex hF
          have hT_i48 : hT σ46 i48 15 := gw_T hG hT_a0 (by decide) hr
          refine gx_get 4 (v := .ref (ad45 i48)) X hG hT_a0.1 (hT_a0.eq (by decide)) (by decide) rfl inX11 (by decide) k_155 (fun _ h => h) (gx_rfv hr) dX11_init_58 ?_
          refine lv_iload_n X.1 X.2.1 dX11_init_61 rfl (lv_at hl 0 rfl) ?_
          refine gx_new X hG hS (by decide) rfl inX5 tyX5_ok df5 k_123 k_125 k_3 rfl (by decide) (by decide) dX11_init_62 hF (fun i49 σ50 ad51 H hG hS hX hA2 hT_i49 hF => ?_)
          have hl : lv_has ls 2 [(1, .int 3), (0, .ref (ad51 a0))] := by rw [hA2 a0 hT_a0.1]; exact hl
          refine W.eq (g2 := F0 m 65 ls [.ref (ad51 i49), .int 3, .ref (ad51 i48)]) (by rw [hA2 i48 hT_i48.1] <;> rfl) ?_
          replace hA := hA.trans hE.1 hA2
          have hT_a0 := hX.T hT_a0
          have hT_i48 := hX.T hT_i48
          replace hE := hE.trans hX
          refine lv_dup X.1 X.2.1 dX11_init_65 rfl ?_
          obtain ⟨σ52, hz, hF⟩ := b1_ex hF
          refine gx_rVa (gx_runIN (As := []) (rest := [.ref (ad51 i49), .int 3, .ref (ad51 i48)]) X hG hS (c_X5_init l D cA base ad51 σ50 n i49 hT_i49 hz) k_128 q_126 k_127 k_3 rfl (h_X5_init.2) rfl rfl ⟨by decide, by decide⟩ rfl hl.1 rfl (Nat.le_of_ble_eq_true rfl) dX11_init_66 ⟨by decide, by decide⟩) hS (fun ad53 H locs hG hS hX hA2 => ?_)
          have hl : lv_has ls 2 [(1, .int 3), (0, .ref (ad53 a0))] := by rw [hA2 a0 hT_a0.1]; exact hl
          refine W.eq (g2 := F0 m 69 ls [.ref (ad53 i49), .int 3, .ref (ad53 i48)]) (by rw [hA2 i49 hT_i49.1, hA2 i48 hT_i48.1] <;> rfl) ?_
          replace hA := hA.trans hE.1 hA2
          have hT_a0 := hX.T hT_a0
          have hT_i48 := hX.T hT_i48
          have hT_i49 := hX.T hT_i49
          replace hE := hE.trans hX
          refine gx_qast (t0 := 2) (ci := 5) (r := (RX5, TX5, 5)) (v := (some i49)) X hG hS hT_i48 (by decide) (by decide) rfl rfl (by decide) (oT.some hT_i49) rfl hF dX11_init_69 (fun σ54 H locs hG hS hX hF => ?_)
          have hT_a0 := hX.T hT_a0
          replace hE := hE.trans hX
          refine lv_iinc (v := 4) (lv' := [(1, .int 4), (0, .ref (ad53 a0))]) X.1 X.2.1 dX11_init_70 hl (k := 0) rfl (by decide) (by decide) rfl (fun ls hl => ?_)
          refine lv_goto (tgt := 48) X.1 X.2.1 dX11_init_73 (by decide) ?_
          refine lv_iload_n X.1 X.2.1 dX11_init_48 rfl (lv_at hl 0 rfl) ?_
          refine lv_aload_n X.1 X.2.1 dX11_init_49 rfl (lv_at hl 1 rfl) ?_
          obtain ⟨i55, hr, hF⟩ := b1_ex hF
          have hT_i55 : hT σ54 i55 15 := gw_T hG hT_a0 (by decide) hr
          refine gx_get 4 (v := .ref (ad53 i55)) X hG hT_a0.1 (hT_a0.eq (by decide)) (by decide) rfl inX11 (by decide) k_155 (fun _ h => h) (gx_rfv hr) dX11_init_50 ?_
          refine gx_alen (t0 := 2) X hG hT_i55 (by decide) (by decide) rfl dX11_init_53 ?_
          obtain ⟨hcc, hF⟩ := ck_ex hF
          refine lv_icmp_ge (tgt := 76) X.1 X.2.1 dX11_init_54 (by decide) (fun hc => ?_) (fun hc => ?_)
          · exact absurd hc hcc
          · clear hc
            refine lv_aload_n X.1 X.2.1 dX11_init_57 rfl (lv_at hl 1 rfl) ?_
            obtain ⟨i56, hr, hF⟩ := b1_ex hF
            have hT_i56 : hT σ54 i56 15 := gw_T hG hT_a0 (by decide) hr
            refine gx_get 4 (v := .ref (ad53 i56)) X hG hT_a0.1 (hT_a0.eq (by decide)) (by decide) rfl inX11 (by decide) k_155 (fun _ h => h) (gx_rfv hr) dX11_init_58 ?_
            refine lv_iload_n X.1 X.2.1 dX11_init_61 rfl (lv_at hl 0 rfl) ?_
            refine gx_new X hG hS (by decide) rfl inX5 tyX5_ok df5 k_123 k_125 k_3 rfl (by decide) (by decide) dX11_init_62 hF (fun i57 σ58 ad59 H hG hS hX hA2 hT_i57 hF => ?_)
            have hl : lv_has ls 2 [(1, .int 4), (0, .ref (ad59 a0))] := by rw [hA2 a0 hT_a0.1]; exact hl
            refine W.eq (g2 := F0 m 65 ls [.ref (ad59 i57), .int 4, .ref (ad59 i56)]) (by rw [hA2 i56 hT_i56.1] <;> rfl) ?_
            replace hA := hA.trans hE.1 hA2
            have hT_a0 := hX.T hT_a0
            have hT_i56 := hX.T hT_i56
            replace hE := hE.trans hX
            refine lv_dup X.1 X.2.1 dX11_init_65 rfl ?_
            obtain ⟨σ60, hz, hF⟩ := b1_ex hF
            refine gx_rVa (gx_runIN (As := []) (rest := [.ref (ad59 i57), .int 4, .ref (ad59 i56)]) X hG hS (c_X5_init l D cA base ad59 σ58 n i57 hT_i57 hz) k_128 q_126 k_127 k_3 rfl (h_X5_init.2) rfl rfl ⟨by decide, by decide⟩ rfl hl.1 rfl (Nat.le_of_ble_eq_true rfl) dX11_init_66 ⟨by decide, by decide⟩) hS (fun ad61 H locs hG hS hX hA2 => ?_)
            have hl : lv_has ls 2 [(1, .int 4), (0, .ref (ad61 a0))] := by rw [hA2 a0 hT_a0.1]; exact hl
            refine W.eq (g2 := F0 m 69 ls [.ref (ad61 i57), .int 4, .ref (ad61 i56)]) (by rw [hA2 i57 hT_i57.1, hA2 i56 hT_i56.1] <;> rfl) ?_
            replace hA := hA.trans hE.1 hA2
            have hT_a0 := hX.T hT_a0
            have hT_i56 := hX.T hT_i56
            have hT_i57 := hX.T hT_i57
            replace hE := hE.trans hX
            refine gx_qast (t0 := 2) (ci := 5) (r := (RX5, TX5, 5)) (v := (some i57)) X hG hS hT_i56 (by decide) (by decide) rfl rfl (by decide) (oT.some hT_i57) rfl hF dX11_init_69 (fun σ62 H locs hG hS hX hF => ?_)
            have hT_a0 := hX.T hT_a0
            replace hE := hE.trans hX
            refine lv_iinc (v := 5) (lv' := [(1, .int 5), (0, .ref (ad61 a0))]) X.1 X.2.1 dX11_init_70 hl (k := 0) rfl (by decide) (by decide) rfl (fun ls hl => ?_)
            refine lv_goto (tgt := 48) X.1 X.2.1 dX11_init_73 (by decide) ?_
            refine lv_iload_n X.1 X.2.1 dX11_init_48 rfl (lv_at hl 0 rfl) ?_
            refine lv_aload_n X.1 X.2.1 dX11_init_49 rfl (lv_at hl 1 rfl) ?_
            obtain ⟨i63, hr, hF⟩ := b1_ex hF
            have hT_i63 : hT σ62 i63 15 := gw_T hG hT_a0 (by decide) hr
            refine gx_get 4 (v := .ref (ad61 i63)) X hG hT_a0.1 (hT_a0.eq (by decide)) (by decide) rfl inX11 (by decide) k_155 (fun _ h => h) (gx_rfv hr) dX11_init_50 ?_
            refine gx_alen (t0 := 2) X hG hT_i63 (by decide) (by decide) rfl dX11_init_53 ?_
            obtain ⟨hcc, hF⟩ := ck_ex hF
            refine lv_icmp_ge (tgt := 76) X.1 X.2.1 dX11_init_54 (by decide) (fun hc => ?_) (fun hc => ?_)
            · exact absurd hc hcc
            · clear hc
              refine lv_aload_n X.1 X.2.1 dX11_init_57 rfl (lv_at hl 1 rfl) ?_
              obtain ⟨i64, hr, hF⟩ := b1_ex hF
              have hT_i64 : hT σ62 i64 15 := gw_T hG hT_a0 (by decide) hr
              refine gx_get 4 (v := .ref (ad61 i64)) X hG hT_a0.1 (hT_a0.eq (by decide)) (by decide) rfl inX11 (by decide) k_155 (fun _ h => h) (gx_rfv hr) dX11_init_58 ?_
              refine lv_iload_n X.1 X.2.1 dX11_init_61 rfl (lv_at hl 0 rfl) ?_
              refine gx_new X hG hS (by decide) rfl inX5 tyX5_ok df5 k_123 k_125 k_3 rfl (by decide) (by decide) dX11_init_62 hF (fun i65 σ66 ad67 H hG hS hX hA2 hT_i65 hF => ?_)
              have hl : lv_has ls 2 [(1, .int 5), (0, .ref (ad67 a0))] := by rw [hA2 a0 hT_a0.1]; exact hl
              refine W.eq (g2 := F0 m 65 ls [.ref (ad67 i65), .int 5, .ref (ad67 i64)]) (by rw [hA2 i64 hT_i64.1] <;> rfl) ?_
              replace hA := hA.trans hE.1 hA2
              have hT_a0 := hX.T hT_a0
              have hT_i64 := hX.T hT_i64
              replace hE := hE.trans hX
              refine lv_dup X.1 X.2.1 dX11_init_65 rfl ?_
              obtain ⟨σ68, hz, hF⟩ := b1_ex hF
              refine gx_rVa (gx_runIN (As := []) (rest := [.ref (ad67 i65), .int 5, .ref (ad67 i64)]) X hG hS (c_X5_init l D cA base ad67 σ66 n i65 hT_i65 hz) k_128 q_126 k_127 k_3 rfl (h_X5_init.2) rfl rfl ⟨by decide, by decide⟩ rfl hl.1 rfl (Nat.le_of_ble_eq_true rfl) dX11_init_66 ⟨by decide, by decide⟩) hS (fun ad69 H locs hG hS hX hA2 => ?_)
              have hl : lv_has ls 2 [(1, .int 5), (0, .ref (ad69 a0))] := by rw [hA2 a0 hT_a0.1]; exact hl
              refine W.eq (g2 := F0 m 69 ls [.ref (ad69 i65), .int 5, .ref (ad69 i64)]) (by rw [hA2 i65 hT_i65.1, hA2 i64 hT_i64.1] <;> rfl) ?_
              replace hA := hA.trans hE.1 hA2
              have hT_a0 := hX.T hT_a0
              have hT_i64 := hX.T hT_i64
              have hT_i65 := hX.T hT_i65
              replace hE := hE.trans hX
              refine gx_qast (t0 := 2) (ci := 5) (r := (RX5, TX5, 5)) (v := (some i65)) X hG hS hT_i64 (by decide) (by decide) rfl rfl (by decide) (oT.some hT_i65) rfl hF dX11_init_69 (fun σ70 H locs hG hS hX hF => ?_)
              have hT_a0 := hX.T hT_a0
              replace hE := hE.trans hX
              refine lv_iinc (v := 6) (lv' := [(1, .int 6), (0, .ref (ad69 a0))]) X.1 X.2.1 dX11_init_70 hl (k := 0) rfl (by decide) (by decide) rfl (fun ls hl => ?_)
              refine lv_goto (tgt := 48) X.1 X.2.1 dX11_init_73 (by decide) ?_
              refine lv_iload_n X.1 X.2.1 dX11_init_48 rfl (lv_at hl 0 rfl) ?_
              refine lv_aload_n X.1 X.2.1 dX11_init_49 rfl (lv_at hl 1 rfl) ?_
              obtain ⟨i71, hr, hF⟩ := b1_ex hF
              have hT_i71 : hT σ70 i71 15 := gw_T hG hT_a0 (by decide) hr
              refine gx_get 4 (v := .ref (ad69 i71)) X hG hT_a0.1 (hT_a0.eq (by decide)) (by decide) rfl inX11 (by decide) k_155 (fun _ h => h) (gx_rfv hr) dX11_init_50 ?_
              refine gx_alen (t0 := 2) X hG hT_i71 (by decide) (by decide) rfl dX11_init_53 ?_
              obtain ⟨hcc, hF⟩ := ck_ex hF
              refine lv_icmp_ge (tgt := 76) X.1 X.2.1 dX11_init_54 (by decide) (fun hc => ?_) (fun hc => ?_)
              · exact absurd hc hcc
              · clear hc
                refine lv_aload_n X.1 X.2.1 dX11_init_57 rfl (lv_at hl 1 rfl) ?_
                obtain ⟨i72, hr, hF⟩ := b1_ex hF
                have hT_i72 : hT σ70 i72 15 := gw_T hG hT_a0 (by decide) hr
                refine gx_get 4 (v := .ref (ad69 i72)) X hG hT_a0.1 (hT_a0.eq (by decide)) (by decide) rfl inX11 (by decide) k_155 (fun _ h => h) (gx_rfv hr) dX11_init_58 ?_
                refine lv_iload_n X.1 X.2.1 dX11_init_61 rfl (lv_at hl 0 rfl) ?_
                refine gx_new X hG hS (by decide) rfl inX5 tyX5_ok df5 k_123 k_125 k_3 rfl (by decide) (by decide) dX11_init_62 hF (fun i73 σ74 ad75 H hG hS hX hA2 hT_i73 hF => ?_)
                have hl : lv_has ls 2 [(1, .int 6), (0, .ref (ad75 a0))] := by rw [hA2 a0 hT_a0.1]; exact hl
                refine W.eq (g2 := F0 m 65 ls [.ref (ad75 i73), .int 6, .ref (ad75 i72)]) (by rw [hA2 i72 hT_i72.1] <;> rfl) ?_
                replace hA := hA.trans hE.1 hA2
                have hT_a0 := hX.T hT_a0
                have hT_i72 := hX.T hT_i72
                replace hE := hE.trans hX
                refine lv_dup X.1 X.2.1 dX11_init_65 rfl ?_
                obtain ⟨σ76, hz, hF⟩ := b1_ex hF
                refine gx_rVa (gx_runIN (As := []) (rest := [.ref (ad75 i73), .int 6, .ref (ad75 i72)]) X hG hS (c_X5_init l D cA base ad75 σ74 n i73 hT_i73 hz) k_128 q_126 k_127 k_3 rfl (h_X5_init.2) rfl rfl ⟨by decide, by decide⟩ rfl hl.1 rfl (Nat.le_of_ble_eq_true rfl) dX11_init_66 ⟨by decide, by decide⟩) hS (fun ad77 H locs hG hS hX hA2 => ?_)
                have hl : lv_has ls 2 [(1, .int 6), (0, .ref (ad77 a0))] := by rw [hA2 a0 hT_a0.1]; exact hl
                refine W.eq (g2 := F0 m 69 ls [.ref (ad77 i73), .int 6, .ref (ad77 i72)]) (by rw [hA2 i73 hT_i73.1, hA2 i72 hT_i72.1] <;> rfl) ?_
                replace hA := hA.trans hE.1 hA2
                have hT_a0 := hX.T hT_a0
                have hT_i72 := hX.T hT_i72
                have hT_i73 := hX.T hT_i73
                replace hE := hE.trans hX
                refine gx_qast (t0 := 2) (ci := 5) (r := (RX5, TX5, 5)) (v := (some i73)) X hG hS hT_i72 (by decide) (by decide) rfl rfl (by decide) (oT.some hT_i73) rfl hF dX11_init_69 (fun σ78 H locs hG hS hX hF => ?_)
                have hT_a0 := hX.T hT_a0
                replace hE := hE.trans hX
                refine lv_iinc (v := 7) (lv' := [(1, .int 7), (0, .ref (ad77 a0))]) X.1 X.2.1 dX11_init_70 hl (k := 0) rfl (by decide) (by decide) rfl (fun ls hl => ?_)
                refine lv_goto (tgt := 48) X.1 X.2.1 dX11_init_73 (by decide) ?_
                refine lv_iload_n X.1 X.2.1 dX11_init_48 rfl (lv_at hl 0 rfl) ?_
                refine lv_aload_n X.1 X.2.1 dX11_init_49 rfl (lv_at hl 1 rfl) ?_
                obtain ⟨i79, hr, hF⟩ := b1_ex hF
                have hT_i79 : hT σ78 i79 15 := gw_T hG hT_a0 (by decide) hr
                refine gx_get 4 (v := .ref (ad77 i79)) X hG hT_a0.1 (hT_a0.eq (by decide)) (by decide) rfl inX11 (by decide) k_155 (fun _ h => h) (gx_rfv hr) dX11_init_50 ?_
                refine gx_alen (t0 := 2) X hG hT_i79 (by decide) (by decide) rfl dX11_init_53 ?_
                obtain ⟨hcc, hF⟩ := ck_ex hF
                refine lv_icmp_ge (tgt := 76) X.1 X.2.1 dX11_init_54 (by decide) (fun hc => ?_) (fun hc => ?_)
                · exact absurd hc hcc
                · clear hc
                  refine lv_aload_n X.1 X.2.1 dX11_init_57 rfl (lv_at hl 1 rfl) ?_
                  obtain ⟨i80, hr, hF⟩ := b1_ex hF
                  have hT_i80 : hT σ78 i80 15 := gw_T hG hT_a0 (by decide) hr
                  refine gx_get 4 (v := .ref (ad77 i80)) X hG hT_a0.1 (hT_a0.eq (by decide)) (by decide) rfl inX11 (by decide) k_155 (fun _ h => h) (gx_rfv hr) dX11_init_58 ?_
                  refine lv_iload_n X.1 X.2.1 dX11_init_61 rfl (lv_at hl 0 rfl) ?_
                  refine gx_new X hG hS (by decide) rfl inX5 tyX5_ok df5 k_123 k_125 k_3 rfl (by decide) (by decide) dX11_init_62 hF (fun i81 σ82 ad83 H hG hS hX hA2 hT_i81 hF => ?_)
                  have hl : lv_has ls 2 [(1, .int 7), (0, .ref (ad83 a0))] := by rw [hA2 a0 hT_a0.1]; exact hl
                  refine W.eq (g2 := F0 m 65 ls [.ref (ad83 i81), .int 7, .ref (ad83 i80)]) (by rw [hA2 i80 hT_i80.1] <;> rfl) ?_
                  replace hA := hA.trans hE.1 hA2
                  have hT_a0 := hX.T hT_a0
                  have hT_i80 := hX.T hT_i80
                  replace hE := hE.trans hX
                  refine lv_dup X.1 X.2.1 dX11_init_65 rfl ?_
                  obtain ⟨σ84, hz, hF⟩ := b1_ex hF
                  refine gx_rVa (gx_runIN (As := []) (rest := [.ref (ad83 i81), .int 7, .ref (ad83 i80)]) X hG hS (c_X5_init l D cA base ad83 σ82 n i81 hT_i81 hz) k_128 q_126 k_127 k_3 rfl (h_X5_init.2) rfl rfl ⟨by decide, by decide⟩ rfl hl.1 rfl (Nat.le_of_ble_eq_true rfl) dX11_init_66 ⟨by decide, by decide⟩) hS (fun ad85 H locs hG hS hX hA2 => ?_)
                  have hl : lv_has ls 2 [(1, .int 7), (0, .ref (ad85 a0))] := by rw [hA2 a0 hT_a0.1]; exact hl
                  refine W.eq (g2 := F0 m 69 ls [.ref (ad85 i81), .int 7, .ref (ad85 i80)]) (by rw [hA2 i81 hT_i81.1, hA2 i80 hT_i80.1] <;> rfl) ?_
                  replace hA := hA.trans hE.1 hA2
                  have hT_a0 := hX.T hT_a0
                  have hT_i80 := hX.T hT_i80
                  have hT_i81 := hX.T hT_i81
                  replace hE := hE.trans hX
                  refine gx_qast (t0 := 2) (ci := 5) (r := (RX5, TX5, 5)) (v := (some i81)) X hG hS hT_i80 (by decide) (by decide) rfl rfl (by decide) (oT.some hT_i81) rfl hF dX11_init_69 (fun σ86 H locs hG hS hX hF => ?_)
                  have hT_a0 := hX.T hT_a0
                  replace hE := hE.trans hX
                  refine lv_iinc (v := 8) (lv' := [(1, .int 8), (0, .ref (ad85 a0))]) X.1 X.2.1 dX11_init_70 hl (k := 0) rfl (by decide) (by decide) rfl (fun ls hl => ?_)
                  refine lv_goto (tgt := 48) X.1 X.2.1 dX11_init_73 (by decide) ?_
                  refine lv_iload_n X.1 X.2.1 dX11_init_48 rfl (lv_at hl 0 rfl) ?_
                  refine lv_aload_n X.1 X.2.1 dX11_init_49 rfl (lv_at hl 1 rfl) ?_
                  obtain ⟨i87, hr, hF⟩ := b1_ex hF
                  have hT_i87 : hT σ86 i87 15 := gw_T hG hT_a0 (by decide) hr
                  refine gx_get 4 (v := .ref (ad85 i87)) X hG hT_a0.1 (hT_a0.eq (by decide)) (by decide) rfl inX11 (by decide) k_155 (fun _ h => h) (gx_rfv hr) dX11_init_50 ?_
                  refine gx_alen (t0 := 2) X hG hT_i87 (by decide) (by decide) rfl dX11_init_53 ?_
                  obtain ⟨hcc, hF⟩ := ck_ex hF
                  refine lv_icmp_ge (tgt := 76) X.1 X.2.1 dX11_init_54 (by decide) (fun hc => ?_) (fun hc => ?_)
                  · clear hc
                    refine W.widen (k := 47) (n := 1187) (by decide) (by decide) ?_
                    exact gx_vretA X hG hS hE hA hF dX11_init_76
                  · exact absurd hcc hc
theorem c_X11_store (l : Launch) (D : va_G) (cA : Nat → ClassId) (base : Nat) (ad : Nat → Nat) (σ : Hp) (n : Nat) (a0 : Nat) (a1 : Int32) (a2 : Int32) (hT_a0 : hT σ a0 13) {τ : Hp} (hF : F_X11_store n a0 a1 a2 σ = some τ) : MV l yX11_store cX11_store 3 rm_X11_store D cA base ad σ [.ref (ad a0), .int a1, .int a2] τ := by
  refine Met.ofW (cc := cX11_store) (maxL := 3) (ret := none) (by decide) rfl ?_
  intro p e s m args below meth c s₁ B hml hv
  obtain ⟨rfl, hv⟩ := hv
  have X : SX D cA base p s m ([.ref (ad a0), .int a1, .int a2] : List Value).toArray meth c cX11_store 3 none RX11 := sx_of B hml hv
  have hG := hv.1
  have hS : va_S (bA base) s.heap s.heap [] := va_S.rf
  have hE := xT.rf σ
  have hl := lv_entry ([.ref (ad a0), .int a1, .int a2]) (n := 3) (Nat.le_of_ble_eq_true rfl)
  rw [lg_entry_eq]
  generalize (lg_sl ([.ref (ad a0), .int a1, .int a2]) ++ List.replicate (3 - (lg_sl ([.ref (ad a0), .int a1, .int a2])).length) Slot.unset).toArray = ls at hl ⊢
  have hl : lv_has ls 3 [(0, .ref (ad a0)), (1, .int a1), (2, .int a2)] := hl
  unfold F_X11_store at hF
  refine lv_iload_n X.1 X.2.1 dX11_store_0 rfl (lv_at hl 1 rfl) ?_
  refine lv_if_lt (tgt := 14) X.1 X.2.1 dX11_store_1 (by decide) (fun hc => ?_) (fun hc => ?_)
  · replace hF := it_t hF hc
    exact gx_vret X hG hS hE hF dX11_store_14
  · replace hF := it_f hF hc
    refine lv_iload_n X.1 X.2.1 dX11_store_4 rfl (lv_at hl 1 rfl) ?_
    refine lv_aload_n X.1 X.2.1 dX11_store_5 rfl (lv_at hl 0 rfl) ?_
    refine gx_alen (t0 := 0) X hG hT_a0 (by decide) (by decide) rfl dX11_store_6 ?_
    refine lv_icmp_ge (tgt := 14) X.1 X.2.1 dX11_store_7 (by decide) (fun hc => ?_) (fun hc => ?_)
    · replace hF := it_t hF hc
      exact gx_vret X hG hS hE hF dX11_store_14
    · replace hF := it_f hF hc
      refine lv_aload_n X.1 X.2.1 dX11_store_10 rfl (lv_at hl 0 rfl) ?_
      refine lv_iload_n X.1 X.2.1 dX11_store_11 rfl (lv_at hl 1 rfl) ?_
      refine lv_iload_n X.1 X.2.1 dX11_store_12 rfl (lv_at hl 2 rfl) ?_
      refine gx_iast X hG hS hT_a0 hF dX11_store_13 (fun σ1 H locs hG hS hX hF => ?_)
      have hT_a0 := hX.T hT_a0
      replace hE := hE.trans hX
      exact gx_vret X hG hS hE hF dX11_store_14
theorem c_X11_thing (l : Launch) (D : va_G) (cA : Nat → ClassId) (base : Nat) (ad : Nat → Nat) (σ : Hp) (n : Nat) (a0 : Nat) (a1 : Int32) (hT_a0 : hT σ a0 11) {τ : Hp} {r : Int32} (hF : F_X11_thing n a0 a1 σ = some (r, τ)) : MI l yX11_thing cX11_thing 2 (some .int) rm_X11_thing D cA base ad σ [.ref (ad a0), .int a1] r τ := by
  refine Met.ofW (cc := cX11_thing) (maxL := 2) (ret := (some .int)) (by decide) rfl ?_
  intro p e s m args below meth c s₁ B hml hv
  obtain ⟨rfl, hv⟩ := hv
  have X : SX D cA base p s m ([.ref (ad a0), .int a1] : List Value).toArray meth c cX11_thing 2 (some .int) RX11 := sx_of B hml hv
  have hG := hv.1
  have hS : va_S (bA base) s.heap s.heap [] := va_S.rf
  have hE := xT.rf σ
  have hl := lv_entry ([.ref (ad a0), .int a1]) (n := 2) (Nat.le_of_ble_eq_true rfl)
  rw [lg_entry_eq]
  generalize (lg_sl ([.ref (ad a0), .int a1]) ++ List.replicate (2 - (lg_sl ([.ref (ad a0), .int a1])).length) Slot.unset).toArray = ls at hl ⊢
  have hl : lv_has ls 2 [(0, .ref (ad a0)), (1, .int a1)] := hl
  unfold F_X11_thing at hF
  refine lv_iload_n X.1 X.2.1 dX11_thing_0 rfl (lv_at hl 1 rfl) ?_
  refine lv_bipush (v := (-20)) X.1 X.2.1 dX11_thing_1 (by decide) ?_
  refine lv_icmp_lt (tgt := 12) X.1 X.2.1 dX11_thing_3 (by decide) (fun hc => ?_) (fun hc => ?_)
  · replace hF := it_t hF hc
    refine lv_iconst (v := (-1)) X.1 X.2.1 dX11_thing_12 (by decide) ?_
    exact gx_iret X hG hS hE hF dX11_thing_13
  · replace hF := it_f hF hc
    refine lv_iload_n X.1 X.2.1 dX11_thing_6 rfl (lv_at hl 1 rfl) ?_
    refine lv_bipush (v := 20) X.1 X.2.1 dX11_thing_7 (by decide) ?_
    refine lv_icmp_le (tgt := 14) X.1 X.2.1 dX11_thing_9 (by decide) (fun hc => ?_) (fun hc => ?_)
    · replace hF := it_t hF hc
      refine lv_aload_n X.1 X.2.1 dX11_thing_14 rfl (lv_at hl 0 rfl) ?_
      obtain ⟨i1, hr, hF⟩ := b1_ex hF
      have hT_i1 : hT σ i1 3 := gw_T hG hT_a0 (by decide) hr
      refine gx_get 0 (v := .ref (ad i1)) X hG hT_a0.1 (hT_a0.eq (by decide)) (by decide) rfl inX11 (by decide) k_151 (fun _ h => h) (gx_rfv hr) dX11_thing_15 ?_
      refine gx_getN 0 (v := .int (hI σ i1 0)) X hG hT_i1.1 (hT_i1.eq (by decide)) (by decide) rfl inX3 (by decide) q_40 (fun _ h => h) rfl dX11_thing_18 ?_
      refine lv_bipush (v := 12) X.1 X.2.1 dX11_thing_21 (by decide) ?_
      refine lv_icmp_lt (tgt := 29) X.1 X.2.1 dX11_thing_23 (by decide) (fun hc => ?_) (fun hc => ?_)
      · replace hF := it_t hF hc
        refine lv_aload_n X.1 X.2.1 dX11_thing_29 rfl (lv_at hl 0 rfl) ?_
        obtain ⟨i2, hr, hF⟩ := b1_ex hF
        have hT_i2 : hT σ i2 3 := gw_T hG hT_a0 (by decide) hr
        refine gx_get 0 (v := .ref (ad i2)) X hG hT_a0.1 (hT_a0.eq (by decide)) (by decide) rfl inX11 (by decide) k_151 (fun _ h => h) (gx_rfv hr) dX11_thing_30 ?_
        obtain ⟨i3, hr, hF⟩ := b1_ex hF
        have hT_i3 : hT σ i3 13 := gw_T hG hT_i2 (by decide) hr
        refine gx_getN 1 (v := .ref (ad i3)) X hG hT_i2.1 (hT_i2.eq (by decide)) (by decide) rfl inX3 (by decide) q_43 (fun _ h => h) (gx_rfv hr) dX11_thing_33 ?_
        refine lv_aload_n X.1 X.2.1 dX11_thing_36 rfl (lv_at hl 0 rfl) ?_
        obtain ⟨i4, hr, hF⟩ := b1_ex hF
        have hT_i4 : hT σ i4 3 := gw_T hG hT_a0 (by decide) hr
        refine gx_get 0 (v := .ref (ad i4)) X hG hT_a0.1 (hT_a0.eq (by decide)) (by decide) rfl inX11 (by decide) k_151 (fun _ h => h) (gx_rfv hr) dX11_thing_37 ?_
        refine gx_getN 0 (v := .int (hI σ i4 0)) X hG hT_i4.1 (hT_i4.eq (by decide)) (by decide) rfl inX3 (by decide) q_40 (fun _ h => h) rfl dX11_thing_40 ?_
        refine lv_iload_n X.1 X.2.1 dX11_thing_43 rfl (lv_at hl 1 rfl) ?_
        obtain ⟨σ5, hz, hF⟩ := b1_ex hF
        refine gx_rV (gx_runS (As := [.ref (ad i3), .int (hI σ i4 0), .int a1]) (rest := []) X hG hS (c_X11_store l D cA base ad σ n i3 (hI σ i4 0) a1 hT_i3 hz) k_173 k_171 k_172 k_1 (h_X11_store.2) rfl rfl ⟨by decide, by decide⟩ rfl hl.1 rfl (Nat.le_of_ble_eq_true rfl) dX11_thing_44 ⟨Nat.zero_le _, Nat.zero_le _⟩) hS (fun H locs hG hS hX => ?_)
        have hT_a0 := hX.T hT_a0
        replace hE := hE.trans hX
        refine lv_aload_n X.1 X.2.1 dX11_thing_47 rfl (lv_at hl 0 rfl) ?_
        obtain ⟨i6, hr, hF⟩ := b1_ex hF
        have hT_i6 : hT σ5 i6 3 := gw_T hG hT_a0 (by decide) hr
        refine gx_get 0 (v := .ref (ad i6)) X hG hT_a0.1 (hT_a0.eq (by decide)) (by decide) rfl inX11 (by decide) k_151 (fun _ h => h) (gx_rfv hr) dX11_thing_48 ?_
        refine lv_dup X.1 X.2.1 dX11_thing_51 rfl ?_
        refine gx_getN 0 (v := .int (hI σ5 i6 0)) X hG hT_i6.1 (hT_i6.eq (by decide)) (by decide) rfl inX3 (by decide) q_40 (fun _ h => h) rfl dX11_thing_52 ?_
        refine lv_iconst (v := 1) X.1 X.2.1 dX11_thing_55 (by decide) ?_
        refine lv_iadd X.1 X.2.1 dX11_thing_56 ?_
        refine gx_putIN 0  X hG hS hT_i6.1 (hT_i6.eq (by decide)) (by decide) rfl inX3 tyX3_ok nmX3 (by decide) q_40 (fun _ h => h) rfl rfl rfl rfl (Nat.le_of_ble_eq_true rfl) dX11_thing_57 hF (fun σ7 H locs hG hS hX hF => ?_)
        have hT_a0 := hX.T hT_a0
        replace hE := hE.trans hX
        refine lv_aload_n X.1 X.2.1 dX11_thing_60 rfl (lv_at hl 0 rfl) ?_
        obtain ⟨i8, hr, hF⟩ := b1_ex hF
        have hT_i8 : hT σ7 i8 3 := gw_T hG hT_a0 (by decide) hr
        refine gx_get 0 (v := .ref (ad i8)) X hG hT_a0.1 (hT_a0.eq (by decide)) (by decide) rfl inX11 (by decide) k_151 (fun _ h => h) (gx_rfv hr) dX11_thing_61 ?_
        refine gx_getN 0 (v := .int (hI σ7 i8 0)) X hG hT_i8.1 (hT_i8.eq (by decide)) (by decide) rfl inX3 (by decide) q_40 (fun _ h => h) rfl dX11_thing_64 ?_
        refine lv_iconst (v := 1) X.1 X.2.1 dX11_thing_67 (by decide) ?_
        refine lv_isub X.1 X.2.1 dX11_thing_68 ?_
        exact gx_iret X hG hS hE hF dX11_thing_69
      · replace hF := it_f hF hc
        refine lv_bipush (v := (-2)) X.1 X.2.1 dX11_thing_26 (by decide) ?_
        exact gx_iret X hG hS hE hF dX11_thing_28
    · replace hF := it_f hF hc
      refine lv_iconst (v := (-1)) X.1 X.2.1 dX11_thing_12 (by decide) ?_
      exact gx_iret X hG hS hE hF dX11_thing_13
theorem c_X11_isToldRight (l : Launch) (D : va_G) (cA : Nat → ClassId) (base : Nat) (ad : Nat → Nat) (σ : Hp) (n : Nat) (a0 : Int32)  {τ : Hp} {r : Int32} (hF : F_X11_isToldRight n a0 σ = some (r, τ)) : MI l yX11_isToldRight cX11_isToldRight 1 (some .boolean) rm_X11_isToldRight D cA base ad σ [.int a0] r τ := by
  refine Met.ofW (cc := cX11_isToldRight) (maxL := 1) (ret := (some .boolean)) (by decide) rfl ?_
  intro p e s m args below meth c s₁ B hml hv
  obtain ⟨rfl, hv⟩ := hv
  have X : SX D cA base p s m ([.int a0] : List Value).toArray meth c cX11_isToldRight 1 (some .boolean) RX11 := sx_of B hml hv
  have hG := hv.1
  have hS : va_S (bA base) s.heap s.heap [] := va_S.rf
  have hE := xT.rf σ
  have hl := lv_entry ([.int a0]) (n := 1) (Nat.le_of_ble_eq_true rfl)
  rw [lg_entry_eq]
  generalize (lg_sl ([.int a0]) ++ List.replicate (1 - (lg_sl ([.int a0])).length) Slot.unset).toArray = ls at hl ⊢
  have hl : lv_has ls 1 [(0, .int a0)] := hl
  unfold F_X11_isToldRight at hF
  refine lv_iload_n X.1 X.2.1 dX11_isToldRight_0 rfl (lv_at hl 0 rfl) ?_
  refine lv_if_lt (tgt := 32) X.1 X.2.1 dX11_isToldRight_1 (by decide) (fun hc => ?_) (fun hc => ?_)
  · replace hF := it_t hF hc
    refine lv_iconst (v := 0) X.1 X.2.1 dX11_isToldRight_32 (by decide) ?_
    exact gx_zret X hG hS hE hF rfl dX11_isToldRight_33
  · replace hF := it_f hF hc
    refine lv_iload_n X.1 X.2.1 dX11_isToldRight_4 rfl (lv_at hl 0 rfl) ?_
    refine lv_sipush (v := 8000) X.1 X.2.1 dX11_isToldRight_5 (by decide) ?_
    refine lv_icmp_ge (tgt := 32) X.1 X.2.1 dX11_isToldRight_8 (by decide) (fun hc => ?_) (fun hc => ?_)
    · replace hF := it_t hF hc
      refine lv_iconst (v := 0) X.1 X.2.1 dX11_isToldRight_32 (by decide) ?_
      exact gx_zret X hG hS hE hF rfl dX11_isToldRight_33
    · replace hF := it_f hF hc
      refine lv_iload_n X.1 X.2.1 dX11_isToldRight_11 rfl (lv_at hl 0 rfl) ?_
      refine lv_bipush (v := 100) X.1 X.2.1 dX11_isToldRight_12 (by decide) ?_
      refine lv_irem X.1 X.2.1 dX11_isToldRight_14 (by decide) ?_
      refine lv_iconst (v := 1) X.1 X.2.1 dX11_isToldRight_15 (by decide) ?_
      refine lv_icmp_lt (tgt := 32) X.1 X.2.1 dX11_isToldRight_16 (by decide) (fun hc => ?_) (fun hc => ?_)
      · replace hF := it_t hF hc
        refine lv_iconst (v := 0) X.1 X.2.1 dX11_isToldRight_32 (by decide) ?_
        exact gx_zret X hG hS hE hF rfl dX11_isToldRight_33
      · replace hF := it_f hF hc
        refine lv_iload_n X.1 X.2.1 dX11_isToldRight_19 rfl (lv_at hl 0 rfl) ?_
        refine lv_bipush (v := 100) X.1 X.2.1 dX11_isToldRight_20 (by decide) ?_
        refine lv_irem X.1 X.2.1 dX11_isToldRight_22 (by decide) ?_
        refine lv_bipush (v := 30) X.1 X.2.1 dX11_isToldRight_23 (by decide) ?_
        refine lv_icmp_gt (tgt := 32) X.1 X.2.1 dX11_isToldRight_25 (by decide) (fun hc => ?_) (fun hc => ?_)
        · replace hF := it_t hF hc
          refine lv_iconst (v := 0) X.1 X.2.1 dX11_isToldRight_32 (by decide) ?_
          exact gx_zret X hG hS hE hF rfl dX11_isToldRight_33
        · replace hF := it_f hF hc
          refine lv_iconst (v := 1) X.1 X.2.1 dX11_isToldRight_28 (by decide) ?_
          refine lv_goto (tgt := 33) X.1 X.2.1 dX11_isToldRight_29 (by decide) ?_
          exact gx_zret X hG hS hE hF rfl dX11_isToldRight_33
theorem c_X3_lawAt (l : Launch) (D : va_G) (cA : Nat → ClassId) (base : Nat) (ad : Nat → Nat) (σ : Hp) (n : Nat) (a0 : Nat) (a1 : Int32) (hT_a0 : hT σ a0 3) {τ : Hp} {r : Option Nat} (hF : F_X3_lawAt n a0 a1 σ = some (r, τ)) : MQ2 l yX3_lawAt cX3_lawAt 2 (some (.object "ElevenOne$Law")) rm_X3_lawAt D cA base ad σ [.ref (ad a0), .int a1] r τ 1 := by
  refine Met.ofW (cc := cX3_lawAt) (maxL := 2) (ret := (some (.object "ElevenOne$Law"))) (by decide) rfl ?_
  intro p e s m args below meth c s₁ B hml hv
  obtain ⟨rfl, hv⟩ := hv
  have X : SX D cA base p s m ([.ref (ad a0), .int a1] : List Value).toArray meth c cX3_lawAt 2 (some (.object "ElevenOne$Law")) RX3 := sx_of B hml hv
  have hG := hv.1
  have hS : va_S (bA base) s.heap s.heap [] := va_S.rf
  have hE := xT.rf σ
  have hl := lv_entry ([.ref (ad a0), .int a1]) (n := 2) (Nat.le_of_ble_eq_true rfl)
  rw [lg_entry_eq]
  generalize (lg_sl ([.ref (ad a0), .int a1]) ++ List.replicate (2 - (lg_sl ([.ref (ad a0), .int a1])).length) Slot.unset).toArray = ls at hl ⊢
  have hl : lv_has ls 2 [(0, .ref (ad a0)), (1, .int a1)] := hl
  unfold F_X3_lawAt at hF
  refine lv_iload_n X.1 X.2.1 dX3_lawAt_0 rfl (lv_at hl 1 rfl) ?_
  refine lv_if_lt (tgt := 30) X.1 X.2.1 dX3_lawAt_1 (by decide) (fun hc => ?_) (fun hc => ?_)
  · replace hF := it_t hF hc
    refine lv_null X.1 X.2.1 dX3_lawAt_30 ?_
    exact gx_qret (v := none) X hG hS hE oT.none hF dX3_lawAt_31
  · replace hF := it_f hF hc
    refine lv_iload_n X.1 X.2.1 dX3_lawAt_4 rfl (lv_at hl 1 rfl) ?_
    refine lv_aload_n X.1 X.2.1 dX3_lawAt_5 rfl (lv_at hl 0 rfl) ?_
    refine gx_get 5 (v := .int (hI σ a0 5)) X hG hT_a0.1 (hT_a0.eq (by decide)) (by decide) rfl inX3 (by decide) k_54 (fun _ h => h) rfl dX3_lawAt_6 ?_
    refine lv_icmp_ge (tgt := 30) X.1 X.2.1 dX3_lawAt_9 (by decide) (fun hc => ?_) (fun hc => ?_)
    · replace hF := it_t hF hc
      refine lv_null X.1 X.2.1 dX3_lawAt_30 ?_
      exact gx_qret (v := none) X hG hS hE oT.none hF dX3_lawAt_31
    · replace hF := it_f hF hc
      refine lv_iload_n X.1 X.2.1 dX3_lawAt_12 rfl (lv_at hl 1 rfl) ?_
      refine lv_aload_n X.1 X.2.1 dX3_lawAt_13 rfl (lv_at hl 0 rfl) ?_
      obtain ⟨i1, hr, hF⟩ := b1_ex hF
      have hT_i1 : hT σ i1 14 := gw_T hG hT_a0 (by decide) hr
      refine gx_get 6 (v := .ref (ad i1)) X hG hT_a0.1 (hT_a0.eq (by decide)) (by decide) rfl inX3 (by decide) k_55 (fun _ h => h) (gx_rfv hr) dX3_lawAt_14 ?_
      refine gx_alen (t0 := 1) X hG hT_i1 (by decide) (by decide) rfl dX3_lawAt_17 ?_
      refine lv_icmp_ge (tgt := 30) X.1 X.2.1 dX3_lawAt_18 (by decide) (fun hc => ?_) (fun hc => ?_)
      · replace hF := it_t hF hc
        refine lv_null X.1 X.2.1 dX3_lawAt_30 ?_
        exact gx_qret (v := none) X hG hS hE oT.none hF dX3_lawAt_31
      · replace hF := it_f hF hc
        refine lv_aload_n X.1 X.2.1 dX3_lawAt_21 rfl (lv_at hl 0 rfl) ?_
        obtain ⟨i2, hr, hF⟩ := b1_ex hF
        have hT_i2 : hT σ i2 14 := gw_T hG hT_a0 (by decide) hr
        refine gx_get 6 (v := .ref (ad i2)) X hG hT_a0.1 (hT_a0.eq (by decide)) (by decide) rfl inX3 (by decide) k_55 (fun _ h => h) (gx_rfv hr) dX3_lawAt_22 ?_
        refine lv_iload_n X.1 X.2.1 dX3_lawAt_25 rfl (lv_at hl 1 rfl) ?_
        refine gx_qald (t0 := 1) X hG hT_i2 (by decide) (by decide) rfl hF dX3_lawAt_26 (fun q3 hO_q3 hF => ?_)
        replace hO_q3 : oT σ q3 1 := hO_q3
        refine lv_goto (tgt := 31) X.1 X.2.1 dX3_lawAt_27 (by decide) ?_
        exact gx_qret (v := q3) X hG hS hE hO_q3 hF dX3_lawAt_31
theorem c_X10_init (l : Launch) (D : va_G) (cA : Nat → ClassId) (base : Nat) (ad : Nat → Nat) (σ : Hp) (n : Nat) (a0 : Nat) (a1 : Int32) (a2 : Int32) (a3 : Int32) (a4 : Int32) (a5 : Int32) (a6 : Option Nat) (hT_a0 : hT σ a0 100) (hO_a6 : oT σ a6 1) {τ : Hp} (hF : F_X10_init n a0 a1 a2 a3 a4 a5 a6 σ = some τ) : MV l yX10_init cX10_init 7 rm_X10_init D cA base ad σ [.ref (ad a0), .int a1, .int a2, .int a3, .int a4, .int a5, va_rf (Option.map ad a6)] τ := by
  refine Met.ofW (cc := cX10_init) (maxL := 7) (ret := none) (by decide) rfl ?_
  intro p e s m args below meth c s₁ B hml hv
  obtain ⟨rfl, hv⟩ := hv
  have X : SX D cA base p s m ([.ref (ad a0), .int a1, .int a2, .int a3, .int a4, .int a5, va_rf (Option.map ad a6)] : List Value).toArray meth c cX10_init 7 none RX10 := sx_of B hml hv
  have hG := hv.1
  have hS : va_S (bA base) s.heap s.heap [] := va_S.rf
  have hE := xT.rf σ
  have hin : meth.name = "<init>" := (name_of_methodNamed B.named B.method).1
  have hl : lv_has ((lg_sl ([.ref (ad a0), .int a1, .int a2, .int a3, .int a4, .int a5, va_rf (Option.map ad a6)]) ++ List.replicate (7 - (lg_sl ([.ref (ad a0), .int a1, .int a2, .int a3, .int a4, .int a5, va_rf (Option.map ad a6)])).length) Slot.unset).toArray) 7 (lv_args 0 ([.ref (ad a0), .int a1, .int a2, .int a3, .int a4, .int a5, va_rf (Option.map ad a6)])) := by cases a6 <;> exact lv_entry _ (Nat.le_of_ble_eq_true rfl)
  rw [lg_entry_eq]
  generalize (lg_sl ([.ref (ad a0), .int a1, .int a2, .int a3, .int a4, .int a5, va_rf (Option.map ad a6)]) ++ List.replicate (7 - (lg_sl ([.ref (ad a0), .int a1, .int a2, .int a3, .int a4, .int a5, va_rf (Option.map ad a6)])).length) Slot.unset).toArray = ls at hl ⊢
  have hl : lv_has ls 7 [(0, .ref (ad a0)), (1, .int a1), (2, .int a2), (3, .int a3), (4, .int a4), (5, .int a5), (6, va_rf (Option.map ad a6))] := by cases a6 <;> exact hl
  unfold F_X10_init at hF
  refine lv_aload_n X.1 X.2.1 dX10_init_0 rfl (lv_at hl 0 rfl) ?_
  refine W.objInit X.1 X.2.1 X.2.2.2.2.2.1 (X.w k_197) (X.w k_28) (X.w k_29) rfl (by rw [X.2.2.1]; exact hl.1) rfl dX10_init_1 (Nat.le_of_ble_eq_true rfl) (Nat.le_of_ble_eq_true rfl) ?_
  refine W.eq (g2 := F0 m 4 ls []) rfl ?_
  refine lv_aload_n X.1 X.2.1 dX10_init_4 rfl (lv_at hl 0 rfl) ?_
  refine lv_iload_n X.1 X.2.1 dX10_init_5 rfl (lv_at hl 1 rfl) ?_
  refine gx_putFTI 0 X hG hS hT_a0 (by decide) k_198 hin rfl rfl rfl rfl rfl rfl dX10_init_6 hF (fun σ1 H locs hG hS hX hF => ?_)
  have hT_a0 := hX.T hT_a0
  have hO_a6 := hX.O hO_a6
  replace hE := hE.trans hX
  refine lv_aload_n X.1 X.2.1 dX10_init_9 rfl (lv_at hl 0 rfl) ?_
  refine lv_iload_n X.1 X.2.1 dX10_init_10 rfl (lv_at hl 2 rfl) ?_
  refine lv_sipush (v := 1000) X.1 X.2.1 dX10_init_11 (by decide) ?_
  refine lv_idiv X.1 X.2.1 dX10_init_14 (by decide) ?_
  refine gx_putFTI 1 X hG hS hT_a0 (by decide) k_200 hin rfl rfl rfl rfl rfl rfl dX10_init_15 hF (fun σ2 H locs hG hS hX hF => ?_)
  have hT_a0 := hX.T hT_a0
  have hO_a6 := hX.O hO_a6
  replace hE := hE.trans hX
  refine lv_aload_n X.1 X.2.1 dX10_init_18 rfl (lv_at hl 0 rfl) ?_
  refine lv_iload_n X.1 X.2.1 dX10_init_19 rfl (lv_at hl 2 rfl) ?_
  refine lv_bipush (v := 100) X.1 X.2.1 dX10_init_20 (by decide) ?_
  refine lv_idiv X.1 X.2.1 dX10_init_22 (by decide) ?_
  refine lv_bipush (v := 10) X.1 X.2.1 dX10_init_23 (by decide) ?_
  refine lv_irem X.1 X.2.1 dX10_init_25 (by decide) ?_
  refine gx_putFTI 2 X hG hS hT_a0 (by decide) k_202 hin rfl rfl rfl rfl rfl rfl dX10_init_26 hF (fun σ3 H locs hG hS hX hF => ?_)
  have hT_a0 := hX.T hT_a0
  have hO_a6 := hX.O hO_a6
  replace hE := hE.trans hX
  refine lv_aload_n X.1 X.2.1 dX10_init_29 rfl (lv_at hl 0 rfl) ?_
  refine lv_iload_n X.1 X.2.1 dX10_init_30 rfl (lv_at hl 2 rfl) ?_
  refine lv_bipush (v := 100) X.1 X.2.1 dX10_init_31 (by decide) ?_
  refine lv_irem X.1 X.2.1 dX10_init_33 (by decide) ?_
  refine gx_putFTI 3 X hG hS hT_a0 (by decide) k_213 hin rfl rfl rfl rfl rfl rfl dX10_init_34 hF (fun σ4 H locs hG hS hX hF => ?_)
  have hT_a0 := hX.T hT_a0
  have hO_a6 := hX.O hO_a6
  replace hE := hE.trans hX
  refine lv_aload_n X.1 X.2.1 dX10_init_37 rfl (lv_at hl 0 rfl) ?_
  refine lv_iload_n X.1 X.2.1 dX10_init_38 rfl (lv_at hl 3 rfl) ?_
  refine gx_putFTI 4 X hG hS hT_a0 (by decide) k_216 hin rfl rfl rfl rfl rfl rfl dX10_init_39 hF (fun σ5 H locs hG hS hX hF => ?_)
  have hT_a0 := hX.T hT_a0
  have hO_a6 := hX.O hO_a6
  replace hE := hE.trans hX
  refine lv_aload_n X.1 X.2.1 dX10_init_42 rfl (lv_at hl 0 rfl) ?_
  refine lv_iload X.1 X.2.1 dX10_init_43 (lv_at hl 4 rfl) ?_
  refine gx_putFTI 5 X hG hS hT_a0 (by decide) k_220 hin rfl rfl rfl rfl rfl rfl dX10_init_45 hF (fun σ6 H locs hG hS hX hF => ?_)
  have hT_a0 := hX.T hT_a0
  have hO_a6 := hX.O hO_a6
  replace hE := hE.trans hX
  refine lv_aload_n X.1 X.2.1 dX10_init_48 rfl (lv_at hl 0 rfl) ?_
  refine lv_iload X.1 X.2.1 dX10_init_49 (lv_at hl 5 rfl) ?_
  refine gx_putFTI 6 X hG hS hT_a0 (by decide) k_224 hin rfl rfl rfl rfl rfl rfl dX10_init_51 hF (fun σ7 H locs hG hS hX hF => ?_)
  have hT_a0 := hX.T hT_a0
  have hO_a6 := hX.O hO_a6
  replace hE := hE.trans hX
  refine lv_aload_n X.1 X.2.1 dX10_init_54 rfl (lv_at hl 0 rfl) ?_
  refine gx_aload X.1 X.2.1 dX10_init_55 (lv_at hl 6 rfl) ?_
  refine gx_putFTR (x := a6) X hG hS hT_a0 k_226 hin hO_a6 dX10_init_57 hF (fun σ8 H locs hG hS hX hF => ?_)
  have hT_a0 := hX.T hT_a0
  have hO_a6 := hX.O hO_a6
  replace hE := hE.trans hX
  exact gx_vret X hG hS hE hF dX10_init_60
theorem c_X9_init (l : Launch) (D : va_G) (cA : Nat → ClassId) (base : Nat) (ad : Nat → Nat) (σ : Hp) (n : Nat) (a0 : Nat) (a1 : Int32) (a2 : Int32) (a3 : Int32) (a4 : Int32) (a5 : Int32) (a6 : Option Nat) (hT_a0 : hT σ a0 102) (hO_a6 : oT σ a6 1) {τ : Hp} (hF : F_X9_init n a0 a1 a2 a3 a4 a5 a6 σ = some τ) : MV l yX9_init cX9_init 7 rm_X9_init D cA base ad σ [.ref (ad a0), .int a1, .int a2, .int a3, .int a4, .int a5, va_rf (Option.map ad a6)] τ := by
  refine Met.ofW (cc := cX9_init) (maxL := 7) (ret := none) (by decide) rfl ?_
  intro p e s m args below meth c s₁ B hml hv
  obtain ⟨rfl, hv⟩ := hv
  have X : SX D cA base p s m ([.ref (ad a0), .int a1, .int a2, .int a3, .int a4, .int a5, va_rf (Option.map ad a6)] : List Value).toArray meth c cX9_init 7 none RX9 := sx_of B hml hv
  have hG := hv.1
  have hS : va_S (bA base) s.heap s.heap [] := va_S.rf
  have hE := xT.rf σ
  have hin : meth.name = "<init>" := (name_of_methodNamed B.named B.method).1
  have hl : lv_has ((lg_sl ([.ref (ad a0), .int a1, .int a2, .int a3, .int a4, .int a5, va_rf (Option.map ad a6)]) ++ List.replicate (7 - (lg_sl ([.ref (ad a0), .int a1, .int a2, .int a3, .int a4, .int a5, va_rf (Option.map ad a6)])).length) Slot.unset).toArray) 7 (lv_args 0 ([.ref (ad a0), .int a1, .int a2, .int a3, .int a4, .int a5, va_rf (Option.map ad a6)])) := by cases a6 <;> exact lv_entry _ (Nat.le_of_ble_eq_true rfl)
  rw [lg_entry_eq]
  generalize (lg_sl ([.ref (ad a0), .int a1, .int a2, .int a3, .int a4, .int a5, va_rf (Option.map ad a6)]) ++ List.replicate (7 - (lg_sl ([.ref (ad a0), .int a1, .int a2, .int a3, .int a4, .int a5, va_rf (Option.map ad a6)])).length) Slot.unset).toArray = ls at hl ⊢
  have hl : lv_has ls 7 [(0, .ref (ad a0)), (1, .int a1), (2, .int a2), (3, .int a3), (4, .int a4), (5, .int a5), (6, va_rf (Option.map ad a6))] := by cases a6 <;> exact hl
  unfold F_X9_init at hF
  refine lv_aload_n X.1 X.2.1 dX9_init_0 rfl (lv_at hl 0 rfl) ?_
  refine lv_iload_n X.1 X.2.1 dX9_init_1 rfl (lv_at hl 1 rfl) ?_
  refine lv_iload_n X.1 X.2.1 dX9_init_2 rfl (lv_at hl 2 rfl) ?_
  refine lv_iload_n X.1 X.2.1 dX9_init_3 rfl (lv_at hl 3 rfl) ?_
  refine lv_iload X.1 X.2.1 dX9_init_4 (lv_at hl 4 rfl) ?_
  refine lv_iload X.1 X.2.1 dX9_init_6 (lv_at hl 5 rfl) ?_
  refine gx_aload X.1 X.2.1 dX9_init_8 (lv_at hl 6 rfl) ?_
  obtain ⟨σ1, hz, hF⟩ := b1_ex hF
  refine gx_rV (gx_runI (As := [.int a1, .int a2, .int a3, .int a4, .int a5, va_rf (Option.map ad a6)]) (rest := []) X hG hS (c_X10_init l D cA base ad σ n a0 a1 a2 a3 a4 a5 a6 (hT_a0.up (by decide)) hO_a6 hz) k_196 k_194 k_195 k_5 rfl (h_X10_init.2) rfl rfl ⟨by decide, by decide⟩ rfl hl.1 rfl (Nat.le_of_ble_eq_true rfl) dX9_init_10 ⟨Nat.zero_le _, Nat.zero_le _⟩) hS (fun H locs hG hS hX => ?_)
  have hT_a0 := hX.T hT_a0
  have hO_a6 := hX.O hO_a6
  replace hE := hE.trans hX
  exact gx_vret X hG hS hE hF dX9_init_13
theorem c_X0_init (l : Launch) (D : va_G) (cA : Nat → ClassId) (base : Nat) (ad : Nat → Nat) (σ : Hp) (n : Nat) (a0 : Nat) (a1 : Int32) (a2 : Int32) (a3 : Int32) (a4 : Int32) (a5 : Int32) (a6 : Option Nat) (hT_a0 : hT σ a0 101) (hO_a6 : oT σ a6 1) {τ : Hp} (hF : F_X0_init n a0 a1 a2 a3 a4 a5 a6 σ = some τ) : MV l yX0_init cX0_init 7 rm_X0_init D cA base ad σ [.ref (ad a0), .int a1, .int a2, .int a3, .int a4, .int a5, va_rf (Option.map ad a6)] τ := by
  refine Met.ofW (cc := cX0_init) (maxL := 7) (ret := none) (by decide) rfl ?_
  intro p e s m args below meth c s₁ B hml hv
  obtain ⟨rfl, hv⟩ := hv
  have X : SX D cA base p s m ([.ref (ad a0), .int a1, .int a2, .int a3, .int a4, .int a5, va_rf (Option.map ad a6)] : List Value).toArray meth c cX0_init 7 none RX0 := sx_of B hml hv
  have hG := hv.1
  have hS : va_S (bA base) s.heap s.heap [] := va_S.rf
  have hE := xT.rf σ
  have hin : meth.name = "<init>" := (name_of_methodNamed B.named B.method).1
  have hl : lv_has ((lg_sl ([.ref (ad a0), .int a1, .int a2, .int a3, .int a4, .int a5, va_rf (Option.map ad a6)]) ++ List.replicate (7 - (lg_sl ([.ref (ad a0), .int a1, .int a2, .int a3, .int a4, .int a5, va_rf (Option.map ad a6)])).length) Slot.unset).toArray) 7 (lv_args 0 ([.ref (ad a0), .int a1, .int a2, .int a3, .int a4, .int a5, va_rf (Option.map ad a6)])) := by cases a6 <;> exact lv_entry _ (Nat.le_of_ble_eq_true rfl)
  rw [lg_entry_eq]
  generalize (lg_sl ([.ref (ad a0), .int a1, .int a2, .int a3, .int a4, .int a5, va_rf (Option.map ad a6)]) ++ List.replicate (7 - (lg_sl ([.ref (ad a0), .int a1, .int a2, .int a3, .int a4, .int a5, va_rf (Option.map ad a6)])).length) Slot.unset).toArray = ls at hl ⊢
  have hl : lv_has ls 7 [(0, .ref (ad a0)), (1, .int a1), (2, .int a2), (3, .int a3), (4, .int a4), (5, .int a5), (6, va_rf (Option.map ad a6))] := by cases a6 <;> exact hl
  unfold F_X0_init at hF
  refine lv_aload_n X.1 X.2.1 dX0_init_0 rfl (lv_at hl 0 rfl) ?_
  refine lv_iload_n X.1 X.2.1 dX0_init_1 rfl (lv_at hl 1 rfl) ?_
  refine lv_iload_n X.1 X.2.1 dX0_init_2 rfl (lv_at hl 2 rfl) ?_
  refine lv_iload_n X.1 X.2.1 dX0_init_3 rfl (lv_at hl 3 rfl) ?_
  refine lv_iload X.1 X.2.1 dX0_init_4 (lv_at hl 4 rfl) ?_
  refine lv_iload X.1 X.2.1 dX0_init_6 (lv_at hl 5 rfl) ?_
  refine gx_aload X.1 X.2.1 dX0_init_8 (lv_at hl 6 rfl) ?_
  obtain ⟨σ1, hz, hF⟩ := b1_ex hF
  refine gx_rV (gx_runI (As := [.int a1, .int a2, .int a3, .int a4, .int a5, va_rf (Option.map ad a6)]) (rest := []) X hG hS (c_X10_init l D cA base ad σ n a0 a1 a2 a3 a4 a5 a6 (hT_a0.up (by decide)) hO_a6 hz) k_196 k_250 k_195 k_5 rfl (h_X10_init.2) rfl rfl ⟨by decide, by decide⟩ rfl hl.1 rfl (Nat.le_of_ble_eq_true rfl) dX0_init_10 ⟨Nat.zero_le _, Nat.zero_le _⟩) hS (fun H locs hG hS hX => ?_)
  have hT_a0 := hX.T hT_a0
  have hO_a6 := hX.O hO_a6
  replace hE := hE.trans hX
  exact gx_vret X hG hS hE hF dX0_init_13
theorem c_X2_init (l : Launch) (D : va_G) (cA : Nat → ClassId) (base : Nat) (ad : Nat → Nat) (σ : Hp) (n : Nat) (a0 : Nat) (a1 : Int32) (a2 : Int32) (a3 : Int32) (a4 : Int32) (a5 : Int32) (a6 : Option Nat) (hT_a0 : hT σ a0 2) (hO_a6 : oT σ a6 1) {τ : Hp} (hF : F_X2_init n a0 a1 a2 a3 a4 a5 a6 σ = some τ) : MV l yX2_init cX2_init 7 rm_X2_init D cA base ad σ [.ref (ad a0), .int a1, .int a2, .int a3, .int a4, .int a5, va_rf (Option.map ad a6)] τ := by
  refine Met.ofW (cc := cX2_init) (maxL := 7) (ret := none) (by decide) rfl ?_
  intro p e s m args below meth c s₁ B hml hv
  obtain ⟨rfl, hv⟩ := hv
  have X : SX D cA base p s m ([.ref (ad a0), .int a1, .int a2, .int a3, .int a4, .int a5, va_rf (Option.map ad a6)] : List Value).toArray meth c cX2_init 7 none RX2 := sx_of B hml hv
  have hG := hv.1
  have hS : va_S (bA base) s.heap s.heap [] := va_S.rf
  have hE := xT.rf σ
  have hin : meth.name = "<init>" := (name_of_methodNamed B.named B.method).1
  have hl : lv_has ((lg_sl ([.ref (ad a0), .int a1, .int a2, .int a3, .int a4, .int a5, va_rf (Option.map ad a6)]) ++ List.replicate (7 - (lg_sl ([.ref (ad a0), .int a1, .int a2, .int a3, .int a4, .int a5, va_rf (Option.map ad a6)])).length) Slot.unset).toArray) 7 (lv_args 0 ([.ref (ad a0), .int a1, .int a2, .int a3, .int a4, .int a5, va_rf (Option.map ad a6)])) := by cases a6 <;> exact lv_entry _ (Nat.le_of_ble_eq_true rfl)
  rw [lg_entry_eq]
  generalize (lg_sl ([.ref (ad a0), .int a1, .int a2, .int a3, .int a4, .int a5, va_rf (Option.map ad a6)]) ++ List.replicate (7 - (lg_sl ([.ref (ad a0), .int a1, .int a2, .int a3, .int a4, .int a5, va_rf (Option.map ad a6)])).length) Slot.unset).toArray = ls at hl ⊢
  have hl : lv_has ls 7 [(0, .ref (ad a0)), (1, .int a1), (2, .int a2), (3, .int a3), (4, .int a4), (5, .int a5), (6, va_rf (Option.map ad a6))] := by cases a6 <;> exact hl
  unfold F_X2_init at hF
  refine lv_aload_n X.1 X.2.1 dX2_init_0 rfl (lv_at hl 0 rfl) ?_
  refine lv_iload_n X.1 X.2.1 dX2_init_1 rfl (lv_at hl 1 rfl) ?_
  refine lv_iload_n X.1 X.2.1 dX2_init_2 rfl (lv_at hl 2 rfl) ?_
  refine lv_iload_n X.1 X.2.1 dX2_init_3 rfl (lv_at hl 3 rfl) ?_
  refine lv_iload X.1 X.2.1 dX2_init_4 (lv_at hl 4 rfl) ?_
  refine lv_iload X.1 X.2.1 dX2_init_6 (lv_at hl 5 rfl) ?_
  refine gx_aload X.1 X.2.1 dX2_init_8 (lv_at hl 6 rfl) ?_
  obtain ⟨σ1, hz, hF⟩ := b1_ex hF
  refine gx_rV (gx_runI (As := [.int a1, .int a2, .int a3, .int a4, .int a5, va_rf (Option.map ad a6)]) (rest := []) X hG hS (c_X0_init l D cA base ad σ n a0 a1 a2 a3 a4 a5 a6 (hT_a0.to (by decide) rfl) hO_a6 hz) k_249 k_265 k_248 k_7 rfl (h_X0_init.2) rfl rfl ⟨by decide, by decide⟩ rfl hl.1 rfl (Nat.le_of_ble_eq_true rfl) dX2_init_10 ⟨Nat.zero_le _, Nat.zero_le _⟩) hS (fun H locs hG hS hX => ?_)
  have hT_a0 := hX.T hT_a0
  have hO_a6 := hX.O hO_a6
  replace hE := hE.trans hX
  exact gx_vret X hG hS hE hF dX2_init_13
theorem c_X8_init (l : Launch) (D : va_G) (cA : Nat → ClassId) (base : Nat) (ad : Nat → Nat) (σ : Hp) (n : Nat) (a0 : Nat) (a1 : Int32) (a2 : Int32) (a3 : Int32) (a4 : Int32) (a5 : Int32) (a6 : Option Nat) (hT_a0 : hT σ a0 8) (hO_a6 : oT σ a6 1) {τ : Hp} (hF : F_X8_init n a0 a1 a2 a3 a4 a5 a6 σ = some τ) : MV l yX8_init cX8_init 7 rm_X8_init D cA base ad σ [.ref (ad a0), .int a1, .int a2, .int a3, .int a4, .int a5, va_rf (Option.map ad a6)] τ := by
  refine Met.ofW (cc := cX8_init) (maxL := 7) (ret := none) (by decide) rfl ?_
  intro p e s m args below meth c s₁ B hml hv
  obtain ⟨rfl, hv⟩ := hv
  have X : SX D cA base p s m ([.ref (ad a0), .int a1, .int a2, .int a3, .int a4, .int a5, va_rf (Option.map ad a6)] : List Value).toArray meth c cX8_init 7 none RX8 := sx_of B hml hv
  have hG := hv.1
  have hS : va_S (bA base) s.heap s.heap [] := va_S.rf
  have hE := xT.rf σ
  have hin : meth.name = "<init>" := (name_of_methodNamed B.named B.method).1
  have hl : lv_has ((lg_sl ([.ref (ad a0), .int a1, .int a2, .int a3, .int a4, .int a5, va_rf (Option.map ad a6)]) ++ List.replicate (7 - (lg_sl ([.ref (ad a0), .int a1, .int a2, .int a3, .int a4, .int a5, va_rf (Option.map ad a6)])).length) Slot.unset).toArray) 7 (lv_args 0 ([.ref (ad a0), .int a1, .int a2, .int a3, .int a4, .int a5, va_rf (Option.map ad a6)])) := by cases a6 <;> exact lv_entry _ (Nat.le_of_ble_eq_true rfl)
  rw [lg_entry_eq]
  generalize (lg_sl ([.ref (ad a0), .int a1, .int a2, .int a3, .int a4, .int a5, va_rf (Option.map ad a6)]) ++ List.replicate (7 - (lg_sl ([.ref (ad a0), .int a1, .int a2, .int a3, .int a4, .int a5, va_rf (Option.map ad a6)])).length) Slot.unset).toArray = ls at hl ⊢
  have hl : lv_has ls 7 [(0, .ref (ad a0)), (1, .int a1), (2, .int a2), (3, .int a3), (4, .int a4), (5, .int a5), (6, va_rf (Option.map ad a6))] := by cases a6 <;> exact hl
  unfold F_X8_init at hF
  refine lv_aload_n X.1 X.2.1 dX8_init_0 rfl (lv_at hl 0 rfl) ?_
  refine lv_iload_n X.1 X.2.1 dX8_init_1 rfl (lv_at hl 1 rfl) ?_
  refine lv_iload_n X.1 X.2.1 dX8_init_2 rfl (lv_at hl 2 rfl) ?_
  refine lv_iload_n X.1 X.2.1 dX8_init_3 rfl (lv_at hl 3 rfl) ?_
  refine lv_iload X.1 X.2.1 dX8_init_4 (lv_at hl 4 rfl) ?_
  refine lv_iload X.1 X.2.1 dX8_init_6 (lv_at hl 5 rfl) ?_
  refine gx_aload X.1 X.2.1 dX8_init_8 (lv_at hl 6 rfl) ?_
  obtain ⟨σ1, hz, hF⟩ := b1_ex hF
  refine gx_rV (gx_runI (As := [.int a1, .int a2, .int a3, .int a4, .int a5, va_rf (Option.map ad a6)]) (rest := []) X hG hS (c_X9_init l D cA base ad σ n a0 a1 a2 a3 a4 a5 a6 (hT_a0.to (by decide) rfl) hO_a6 hz) k_193 k_280 k_192 k_6 rfl (h_X9_init.2) rfl rfl ⟨by decide, by decide⟩ rfl hl.1 rfl (Nat.le_of_ble_eq_true rfl) dX8_init_10 ⟨Nat.zero_le _, Nat.zero_le _⟩) hS (fun H locs hG hS hX => ?_)
  have hT_a0 := hX.T hT_a0
  have hO_a6 := hX.O hO_a6
  replace hE := hE.trans hX
  exact gx_vret X hG hS hE hF dX8_init_13
end W_class0
