/-! class1: printed by wip/whole/gen.py -/
section W_class1
variable {p : Program} {l : Launch} {e : Env} {s : State} {m : MethodId} {args : Array Value} {below : List Frame} {meth : Method} {c : Code} {D : va_G} {cA : Nat → ClassId} {base : Nat} {ad : Nat → Nat}
abbrev rm_X4_init : Room := { frames := 2, cells := 0, slots := 0, locals := 50 }
theorem h_X4_init : yX4_init.cls = RX4 ∧ yX4_init.cls ≠ "java/lang/invoke/MethodHandle" ∧ yX4_init.cls ≠ "java/lang/invoke/VarHandle" ∧ (parseMethodDescriptor yX4_init.desc).map (fun d => d.parameters.length) = some 6 := by decide +kernel
def F_X4_init (n : Nat) (a0 : Nat) (a1 : Int32) (a2 : Int32) (a3 : Int32) (a4 : Int32) (a5 : Int32) (a6 : Option Nat) (σ : Hp) : Option Hp := b1 (F_X10_init n a0 a1 a2 a3 a4 a5 a6 σ) fun (σ1 : Hp) => some σ1
abbrev rm_X6_init : Room := { frames := 2, cells := 0, slots := 0, locals := 50 }
theorem h_X6_init : yX6_init.cls = RX6 ∧ yX6_init.cls ≠ "java/lang/invoke/MethodHandle" ∧ yX6_init.cls ≠ "java/lang/invoke/VarHandle" ∧ (parseMethodDescriptor yX6_init.desc).map (fun d => d.parameters.length) = some 6 := by decide +kernel
def F_X6_init (n : Nat) (a0 : Nat) (a1 : Int32) (a2 : Int32) (a3 : Int32) (a4 : Int32) (a5 : Int32) (a6 : Option Nat) (σ : Hp) : Option Hp := b1 (F_X10_init n a0 a1 a2 a3 a4 a5 a6 σ) fun (σ1 : Hp) => some σ1
abbrev rm_X7_init : Room := { frames := 3, cells := 0, slots := 0, locals := 76 }
theorem h_X7_init : yX7_init.cls = RX7 ∧ yX7_init.cls ≠ "java/lang/invoke/MethodHandle" ∧ yX7_init.cls ≠ "java/lang/invoke/VarHandle" ∧ (parseMethodDescriptor yX7_init.desc).map (fun d => d.parameters.length) = some 6 := by decide +kernel
def F_X7_init (n : Nat) (a0 : Nat) (a1 : Int32) (a2 : Int32) (a3 : Int32) (a4 : Int32) (a5 : Int32) (a6 : Option Nat) (σ : Hp) : Option Hp := b1 (F_X6_init n a0 a1 a2 a3 a4 a5 a6 σ) fun (σ1 : Hp) => some σ1
abbrev rm_X11_newTurn : Room := { frames := 4, cells := 1, slots := 8, locals := 102 }
theorem h_X11_newTurn : yX11_newTurn.cls = RX11 ∧ yX11_newTurn.cls ≠ "java/lang/invoke/MethodHandle" ∧ yX11_newTurn.cls ≠ "java/lang/invoke/VarHandle" ∧ (parseMethodDescriptor yX11_newTurn.desc).map (fun d => d.parameters.length) = some 5 := by decide +kernel
def F_X11_newTurn (n : Nat) (a0 : Nat) (a1 : Int32) (a2 : Int32) (a3 : Int32) (a4 : Int32) (a5 : Int32) (σ : Hp) : Option (Option Nat × Hp) := b1 (hR σ a0 0) fun (i1 : Nat) => b2 (F_X3_lawAt n i1 a5 σ) fun (r3 : Option Nat) (σ2 : Hp) => if (a2 / 1000) = 1 then (nb σ2 9 0 fun (i8 : Nat) (σ9 : Hp) => b1 (F_X9_init n i8 a1 a2 a3 a4 a5 r3 σ9) fun (σ11 : Hp) => some ((some i8), σ11)) else (if (a2 / 1000) = 2 then (nb σ2 0 0 fun (i12 : Nat) (σ13 : Hp) => b1 (F_X0_init n i12 a1 a2 a3 a4 a5 r3 σ13) fun (σ15 : Hp) => some ((some i12), σ15)) else (if (a2 / 1000) = 3 then (nb σ2 2 0 fun (i16 : Nat) (σ17 : Hp) => b1 (F_X2_init n i16 a1 a2 a3 a4 a5 r3 σ17) fun (σ19 : Hp) => some ((some i16), σ19)) else (if (a2 / 1000) = 4 then (nb σ2 8 0 fun (i20 : Nat) (σ21 : Hp) => b1 (F_X8_init n i20 a1 a2 a3 a4 a5 r3 σ21) fun (σ23 : Hp) => some ((some i20), σ23)) else (if (a2 / 1000) = 5 then (nb σ2 4 0 fun (i24 : Nat) (σ25 : Hp) => b1 (F_X4_init n i24 a1 a2 a3 a4 a5 r3 σ25) fun (σ27 : Hp) => some ((some i24), σ27)) else (if (a2 / 1000) = 6 then (nb σ2 6 0 fun (i28 : Nat) (σ29 : Hp) => b1 (F_X6_init n i28 a1 a2 a3 a4 a5 r3 σ29) fun (σ31 : Hp) => some ((some i28), σ31)) else (if (a2 / 1000) = 7 then (nb σ2 7 0 fun (i32 : Nat) (σ33 : Hp) => b1 (F_X7_init n i32 a1 a2 a3 a4 a5 r3 σ33) fun (σ35 : Hp) => some ((some i32), σ35)) else (nb σ2 10 0 fun (i4 : Nat) (σ5 : Hp) => b1 (F_X10_init n i4 a1 a2 a3 a4 a5 r3 σ5) fun (σ7 : Hp) => some ((some i4), σ7))))))))
abbrev rm_X3_sit : Room := { frames := 1, cells := 0, slots := 0, locals := 22 }
theorem h_X3_sit : yX3_sit.cls = RX3 ∧ yX3_sit.cls ≠ "java/lang/invoke/MethodHandle" ∧ yX3_sit.cls ≠ "java/lang/invoke/VarHandle" ∧ (parseMethodDescriptor yX3_sit.desc).map (fun d => d.parameters.length) = some 2 := by decide +kernel
def F_X3_sit (n : Nat) (a0 : Nat) (a1 : Option Nat) (a2 : Int32) (σ : Hp) : Option Hp := if (hI σ a0 2) < 0 then (some σ) else (b1 (hR σ a0 3) fun (i1 : Nat) => if (nI (hL σ i1)) ≤ (hI σ a0 2) then (some σ) else (b1 (hR σ a0 3) fun (i2 : Nat) => ck (¬ ((hI σ a0 2) < 0 ∨ hL σ i2 ≤ (hI σ a0 2).toNatClampNeg)) (lt (pR σ i2 (hI σ a0 2).toNatClampNeg a1) fun (σ3 : Hp) => b1 (hR σ3 a0 4) fun (i4 : Nat) => b1 (F_X11_store n i4 (hI σ3 a0 2) a2 σ3) fun (σ5 : Hp) => lt (pI σ5 a0 2 ((hI σ5 a0 2) + 1)) fun (σ6 : Hp) => some σ6)))
abbrev rm_X11_at : Room := { frames := 0, cells := 0, slots := 0, locals := 0 }
theorem h_X11_at : yX11_at.cls = RX11 ∧ yX11_at.cls ≠ "java/lang/invoke/MethodHandle" ∧ yX11_at.cls ≠ "java/lang/invoke/VarHandle" ∧ (parseMethodDescriptor yX11_at.desc).map (fun d => d.parameters.length) = some 2 := by decide +kernel
def F_X11_at (n : Nat) (a0 : Nat) (a1 : Int32) (σ : Hp) : Option (Int32 × Hp) := if a1 < 0 then (some (0, σ)) else (if (nI (hL σ a0)) ≤ a1 then (some (0, σ)) else (ck (¬ (a1 < 0 ∨ hL σ a0 ≤ a1.toNatClampNeg)) (some (hI σ a0 a1.toNatClampNeg, σ))))
abbrev rm_X3_toldToAll : Room := { frames := 1, cells := 0, slots := 0, locals := 21 }
theorem h_X3_toldToAll : yX3_toldToAll.cls = RX3 ∧ yX3_toldToAll.cls ≠ "java/lang/invoke/MethodHandle" ∧ yX3_toldToAll.cls ≠ "java/lang/invoke/VarHandle" ∧ (parseMethodDescriptor yX3_toldToAll.desc).map (fun d => d.parameters.length) = some 0 := by decide +kernel
def F_X3_toldToAll_11 (n : Nat)  : Nat → Nat → Int32 → Int32 → Hp → Option (Int32 × Hp)
  | 0, _, _, _, _ => none
  | f + 1, v0, v1, v2, σ => if (hI σ v0 2) ≤ v2 then (some (v1, σ)) else (b1 (hR σ v0 4) fun (i1 : Nat) => b2 (F_X11_at n i1 v2 σ) fun (r3 : Int32) (σ2 : Hp) => (F_X3_toldToAll_11 n  f) v0 (v1 &&& r3) (v2 + 1) σ2)
def F_X3_toldToAll (n : Nat) (a0 : Nat) (σ : Hp) : Option (Int32 × Hp) := F_X3_toldToAll_11 n  n a0 ((1 <<< ((hI σ a0 0) &&& 31)) - 1) 0 σ
abbrev rm_X3_weigh : Room := { frames := 1, cells := 0, slots := 0, locals := 21 }
theorem h_X3_weigh : yX3_weigh.cls = RX3 ∧ yX3_weigh.cls ≠ "java/lang/invoke/MethodHandle" ∧ yX3_weigh.cls ≠ "java/lang/invoke/VarHandle" ∧ (parseMethodDescriptor yX3_weigh.desc).map (fun d => d.parameters.length) = some 1 := by decide +kernel
def F_X3_weigh_32 (n : Nat) (K_4 : Nat → Int32 → Int32 → Int32 → Hp → Option (Int32 × Hp)) (v0 : Nat) (v1 : Int32) (v2 : Int32) (v3 : Int32) (σ : Hp) : Option (Int32 × Hp) := K_4 v0 v1 v2 (v3 + 1) σ
def F_X3_weigh_4 (n : Nat)  : Nat → Nat → Int32 → Int32 → Int32 → Hp → Option (Int32 × Hp)
  | 0, _, _, _, _, _ => none
  | f + 1, v0, v1, v2, v3, σ => if (hI σ v0 0) ≤ v3 then (some (v2, σ)) else (if ((v1 >>> (v3 &&& 31)) &&& 1) = 1 then (b1 (hR σ v0 1) fun (i1 : Nat) => b2 (F_X11_at n i1 v3 σ) fun (r3 : Int32) (σ2 : Hp) => F_X3_weigh_32 n (F_X3_weigh_4 n  f) v0 v1 (v2 + r3) v3 σ2) else (F_X3_weigh_32 n (F_X3_weigh_4 n  f) v0 v1 v2 v3 σ))
def F_X3_weigh (n : Nat) (a0 : Nat) (a1 : Int32) (σ : Hp) : Option (Int32 × Hp) := F_X3_weigh_4 n  n a0 a1 0 0 σ
abbrev rm_X3_standAsTold : Room := { frames := 2, cells := 0, slots := 0, locals := 44 }
theorem h_X3_standAsTold : yX3_standAsTold.cls = RX3 ∧ yX3_standAsTold.cls ≠ "java/lang/invoke/MethodHandle" ∧ yX3_standAsTold.cls ≠ "java/lang/invoke/VarHandle" ∧ (parseMethodDescriptor yX3_standAsTold.desc).map (fun d => d.parameters.length) = some 0 := by decide +kernel
def F_X3_standAsTold_30 (n : Nat)  : Nat → Nat → Int32 → Hp → Option Hp
  | 0, _, _, _ => none
  | f + 1, v0, v1, σ => if (hI σ v0 2) ≤ v1 then (some σ) else (b1 (hR σ v0 15) fun (i1 : Nat) => b1 (hR σ v0 4) fun (i2 : Nat) => b2 (F_X11_at n i2 v1 σ) fun (r4 : Int32) (σ3 : Hp) => b1 (F_X11_store n i1 v1 r4 σ3) fun (σ5 : Hp) => b1 (hR σ5 v0 16) fun (i6 : Nat) => b1 (hR σ5 v0 4) fun (i7 : Nat) => b2 (F_X11_at n i7 v1 σ5) fun (r9 : Int32) (σ8 : Hp) => b2 (F_X3_weigh n v0 r9 σ8) fun (r11 : Int32) (σ10 : Hp) => b1 (F_X11_store n i6 v1 r11 σ10) fun (σ12 : Hp) => b1 (hR σ12 v0 17) fun (i13 : Nat) => b1 (F_X11_store n i13 v1 0 σ12) fun (σ14 : Hp) => b1 (hR σ14 v0 18) fun (i15 : Nat) => b1 (F_X11_store n i15 v1 (-1) σ14) fun (σ16 : Hp) => (F_X3_standAsTold_30 n  f) v0 (v1 + 1) σ16)
def F_X3_standAsTold (n : Nat) (a0 : Nat) (σ : Hp) : Option Hp := lt (pI σ a0 10 0) fun (σ17 : Hp) => lt (pI σ17 a0 11 0) fun (σ18 : Hp) => lt (pI σ18 a0 12 0) fun (σ19 : Hp) => lt (pI σ19 a0 13 0) fun (σ20 : Hp) => b2 (F_X3_toldToAll n a0 σ20) fun (r22 : Int32) (σ21 : Hp) => lt (pI σ21 a0 14 r22) fun (σ23 : Hp) => F_X3_standAsTold_30 n  n a0 0 σ23
theorem c_X4_init (l : Launch) (D : va_G) (cA : Nat → ClassId) (base : Nat) (ad : Nat → Nat) (σ : Hp) (n : Nat) (a0 : Nat) (a1 : Int32) (a2 : Int32) (a3 : Int32) (a4 : Int32) (a5 : Int32) (a6 : Option Nat) (hT_a0 : hT σ a0 4) (hO_a6 : oT σ a6 1) {τ : Hp} (hF : F_X4_init n a0 a1 a2 a3 a4 a5 a6 σ = some τ) : MV l yX4_init cX4_init 7 rm_X4_init D cA base ad σ [.ref (ad a0), .int a1, .int a2, .int a3, .int a4, .int a5, va_rf (Option.map ad a6)] τ := by
  refine Met.ofW (cc := cX4_init) (maxL := 7) (ret := none) (by decide) rfl ?_
  intro p e s m args below meth c s₁ B hml hv
  obtain ⟨rfl, hv⟩ := hv
  have X : SX D cA base p s m ([.ref (ad a0), .int a1, .int a2, .int a3, .int a4, .int a5, va_rf (Option.map ad a6)] : List Value).toArray meth c cX4_init 7 none RX4 := sx_of B hml hv
  have hG := hv.1
  have hS : va_S (bA base) s.heap s.heap [] := va_S.rf
  have hE := xT.rf σ
  have hin : meth.name = "<init>" := (name_of_methodNamed B.named B.method).1
  have hl : lv_has ((lg_sl ([.ref (ad a0), .int a1, .int a2, .int a3, .int a4, .int a5, va_rf (Option.map ad a6)]) ++ List.replicate (7 - (lg_sl ([.ref (ad a0), .int a1, .int a2, .int a3, .int a4, .int a5, va_rf (Option.map ad a6)])).length) Slot.unset).toArray) 7 (lv_args 0 ([.ref (ad a0), .int a1, .int a2, .int a3, .int a4, .int a5, va_rf (Option.map ad a6)])) := by cases a6 <;> exact lv_entry _ (Nat.le_of_ble_eq_true rfl)
  rw [lg_entry_eq]
  generalize (lg_sl ([.ref (ad a0), .int a1, .int a2, .int a3, .int a4, .int a5, va_rf (Option.map ad a6)]) ++ List.replicate (7 - (lg_sl ([.ref (ad a0), .int a1, .int a2, .int a3, .int a4, .int a5, va_rf (Option.map ad a6)])).length) Slot.unset).toArray = ls at hl ⊢
  have hl : lv_has ls 7 [(0, .ref (ad a0)), (1, .int a1), (2, .int a2), (3, .int a3), (4, .int a4), (5, .int a5), (6, va_rf (Option.map ad a6))] := by cases a6 <;> exact hl
  unfold F_X4_init at hF
  refine lv_aload_n X.1 X.2.1 dX4_init_0 rfl (lv_at hl 0 rfl) ?_
  refine lv_iload_n X.1 X.2.1 dX4_init_1 rfl (lv_at hl 1 rfl) ?_
  refine lv_iload_n X.1 X.2.1 dX4_init_2 rfl (lv_at hl 2 rfl) ?_
  refine lv_iload_n X.1 X.2.1 dX4_init_3 rfl (lv_at hl 3 rfl) ?_
  refine lv_iload X.1 X.2.1 dX4_init_4 (lv_at hl 4 rfl) ?_
  refine lv_iload X.1 X.2.1 dX4_init_6 (lv_at hl 5 rfl) ?_
  refine gx_aload X.1 X.2.1 dX4_init_8 (lv_at hl 6 rfl) ?_
  obtain ⟨σ1, hz, hF⟩ := b1_ex hF
  refine gx_rV (gx_runI (As := [.int a1, .int a2, .int a3, .int a4, .int a5, va_rf (Option.map ad a6)]) (rest := []) X hG hS (c_X10_init l D cA base ad σ n a0 a1 a2 a3 a4 a5 a6 (hT_a0.to (by decide) rfl) hO_a6 hz) k_196 k_295 k_195 k_5 rfl (h_X10_init.2) rfl rfl ⟨by decide, by decide⟩ rfl hl.1 rfl (Nat.le_of_ble_eq_true rfl) dX4_init_10 ⟨Nat.zero_le _, Nat.zero_le _⟩) hS (fun H locs hG hS hX => ?_)
  have hT_a0 := hX.T hT_a0
  have hO_a6 := hX.O hO_a6
  replace hE := hE.trans hX
  exact gx_vret X hG hS hE hF dX4_init_13
theorem c_X6_init (l : Launch) (D : va_G) (cA : Nat → ClassId) (base : Nat) (ad : Nat → Nat) (σ : Hp) (n : Nat) (a0 : Nat) (a1 : Int32) (a2 : Int32) (a3 : Int32) (a4 : Int32) (a5 : Int32) (a6 : Option Nat) (hT_a0 : hT σ a0 103) (hO_a6 : oT σ a6 1) {τ : Hp} (hF : F_X6_init n a0 a1 a2 a3 a4 a5 a6 σ = some τ) : MV l yX6_init cX6_init 7 rm_X6_init D cA base ad σ [.ref (ad a0), .int a1, .int a2, .int a3, .int a4, .int a5, va_rf (Option.map ad a6)] τ := by
  refine Met.ofW (cc := cX6_init) (maxL := 7) (ret := none) (by decide) rfl ?_
  intro p e s m args below meth c s₁ B hml hv
  obtain ⟨rfl, hv⟩ := hv
  have X : SX D cA base p s m ([.ref (ad a0), .int a1, .int a2, .int a3, .int a4, .int a5, va_rf (Option.map ad a6)] : List Value).toArray meth c cX6_init 7 none RX6 := sx_of B hml hv
  have hG := hv.1
  have hS : va_S (bA base) s.heap s.heap [] := va_S.rf
  have hE := xT.rf σ
  have hin : meth.name = "<init>" := (name_of_methodNamed B.named B.method).1
  have hl : lv_has ((lg_sl ([.ref (ad a0), .int a1, .int a2, .int a3, .int a4, .int a5, va_rf (Option.map ad a6)]) ++ List.replicate (7 - (lg_sl ([.ref (ad a0), .int a1, .int a2, .int a3, .int a4, .int a5, va_rf (Option.map ad a6)])).length) Slot.unset).toArray) 7 (lv_args 0 ([.ref (ad a0), .int a1, .int a2, .int a3, .int a4, .int a5, va_rf (Option.map ad a6)])) := by cases a6 <;> exact lv_entry _ (Nat.le_of_ble_eq_true rfl)
  rw [lg_entry_eq]
  generalize (lg_sl ([.ref (ad a0), .int a1, .int a2, .int a3, .int a4, .int a5, va_rf (Option.map ad a6)]) ++ List.replicate (7 - (lg_sl ([.ref (ad a0), .int a1, .int a2, .int a3, .int a4, .int a5, va_rf (Option.map ad a6)])).length) Slot.unset).toArray = ls at hl ⊢
  have hl : lv_has ls 7 [(0, .ref (ad a0)), (1, .int a1), (2, .int a2), (3, .int a3), (4, .int a4), (5, .int a5), (6, va_rf (Option.map ad a6))] := by cases a6 <;> exact hl
  unfold F_X6_init at hF
  refine lv_aload_n X.1 X.2.1 dX6_init_0 rfl (lv_at hl 0 rfl) ?_
  refine lv_iload_n X.1 X.2.1 dX6_init_1 rfl (lv_at hl 1 rfl) ?_
  refine lv_iload_n X.1 X.2.1 dX6_init_2 rfl (lv_at hl 2 rfl) ?_
  refine lv_iload_n X.1 X.2.1 dX6_init_3 rfl (lv_at hl 3 rfl) ?_
  refine lv_iload X.1 X.2.1 dX6_init_4 (lv_at hl 4 rfl) ?_
  refine lv_iload X.1 X.2.1 dX6_init_6 (lv_at hl 5 rfl) ?_
  refine gx_aload X.1 X.2.1 dX6_init_8 (lv_at hl 6 rfl) ?_
  obtain ⟨σ1, hz, hF⟩ := b1_ex hF
  refine gx_rV (gx_runI (As := [.int a1, .int a2, .int a3, .int a4, .int a5, va_rf (Option.map ad a6)]) (rest := []) X hG hS (c_X10_init l D cA base ad σ n a0 a1 a2 a3 a4 a5 a6 (hT_a0.up (by decide)) hO_a6 hz) k_196 k_310 k_195 k_5 rfl (h_X10_init.2) rfl rfl ⟨by decide, by decide⟩ rfl hl.1 rfl (Nat.le_of_ble_eq_true rfl) dX6_init_10 ⟨Nat.zero_le _, Nat.zero_le _⟩) hS (fun H locs hG hS hX => ?_)
  have hT_a0 := hX.T hT_a0
  have hO_a6 := hX.O hO_a6
  replace hE := hE.trans hX
  exact gx_vret X hG hS hE hF dX6_init_13
theorem c_X7_init (l : Launch) (D : va_G) (cA : Nat → ClassId) (base : Nat) (ad : Nat → Nat) (σ : Hp) (n : Nat) (a0 : Nat) (a1 : Int32) (a2 : Int32) (a3 : Int32) (a4 : Int32) (a5 : Int32) (a6 : Option Nat) (hT_a0 : hT σ a0 7) (hO_a6 : oT σ a6 1) {τ : Hp} (hF : F_X7_init n a0 a1 a2 a3 a4 a5 a6 σ = some τ) : MV l yX7_init cX7_init 7 rm_X7_init D cA base ad σ [.ref (ad a0), .int a1, .int a2, .int a3, .int a4, .int a5, va_rf (Option.map ad a6)] τ := by
  refine Met.ofW (cc := cX7_init) (maxL := 7) (ret := none) (by decide) rfl ?_
  intro p e s m args below meth c s₁ B hml hv
  obtain ⟨rfl, hv⟩ := hv
  have X : SX D cA base p s m ([.ref (ad a0), .int a1, .int a2, .int a3, .int a4, .int a5, va_rf (Option.map ad a6)] : List Value).toArray meth c cX7_init 7 none RX7 := sx_of B hml hv
  have hG := hv.1
  have hS : va_S (bA base) s.heap s.heap [] := va_S.rf
  have hE := xT.rf σ
  have hin : meth.name = "<init>" := (name_of_methodNamed B.named B.method).1
  have hl : lv_has ((lg_sl ([.ref (ad a0), .int a1, .int a2, .int a3, .int a4, .int a5, va_rf (Option.map ad a6)]) ++ List.replicate (7 - (lg_sl ([.ref (ad a0), .int a1, .int a2, .int a3, .int a4, .int a5, va_rf (Option.map ad a6)])).length) Slot.unset).toArray) 7 (lv_args 0 ([.ref (ad a0), .int a1, .int a2, .int a3, .int a4, .int a5, va_rf (Option.map ad a6)])) := by cases a6 <;> exact lv_entry _ (Nat.le_of_ble_eq_true rfl)
  rw [lg_entry_eq]
  generalize (lg_sl ([.ref (ad a0), .int a1, .int a2, .int a3, .int a4, .int a5, va_rf (Option.map ad a6)]) ++ List.replicate (7 - (lg_sl ([.ref (ad a0), .int a1, .int a2, .int a3, .int a4, .int a5, va_rf (Option.map ad a6)])).length) Slot.unset).toArray = ls at hl ⊢
  have hl : lv_has ls 7 [(0, .ref (ad a0)), (1, .int a1), (2, .int a2), (3, .int a3), (4, .int a4), (5, .int a5), (6, va_rf (Option.map ad a6))] := by cases a6 <;> exact hl
  unfold F_X7_init at hF
  refine lv_aload_n X.1 X.2.1 dX7_init_0 rfl (lv_at hl 0 rfl) ?_
  refine lv_iload_n X.1 X.2.1 dX7_init_1 rfl (lv_at hl 1 rfl) ?_
  refine lv_iload_n X.1 X.2.1 dX7_init_2 rfl (lv_at hl 2 rfl) ?_
  refine lv_iload_n X.1 X.2.1 dX7_init_3 rfl (lv_at hl 3 rfl) ?_
  refine lv_iload X.1 X.2.1 dX7_init_4 (lv_at hl 4 rfl) ?_
  refine lv_iload X.1 X.2.1 dX7_init_6 (lv_at hl 5 rfl) ?_
  refine gx_aload X.1 X.2.1 dX7_init_8 (lv_at hl 6 rfl) ?_
  obtain ⟨σ1, hz, hF⟩ := b1_ex hF
  refine gx_rV (gx_runI (As := [.int a1, .int a2, .int a3, .int a4, .int a5, va_rf (Option.map ad a6)]) (rest := []) X hG hS (c_X6_init l D cA base ad σ n a0 a1 a2 a3 a4 a5 a6 (hT_a0.to (by decide) rfl) hO_a6 hz) k_309 k_325 k_308 k_11 rfl (h_X6_init.2) rfl rfl ⟨by decide, by decide⟩ rfl hl.1 rfl (Nat.le_of_ble_eq_true rfl) dX7_init_10 ⟨Nat.zero_le _, Nat.zero_le _⟩) hS (fun H locs hG hS hX => ?_)
  have hT_a0 := hX.T hT_a0
  have hO_a6 := hX.O hO_a6
  replace hE := hE.trans hX
  exact gx_vret X hG hS hE hF dX7_init_13
theorem c_X11_newTurn (l : Launch) (D : va_G) (cA : Nat → ClassId) (base : Nat) (ad : Nat → Nat) (σ : Hp) (n : Nat) (a0 : Nat) (a1 : Int32) (a2 : Int32) (a3 : Int32) (a4 : Int32) (a5 : Int32) (hT_a0 : hT σ a0 11) {τ : Hp} {r : Option Nat} (hF : F_X11_newTurn n a0 a1 a2 a3 a4 a5 σ = some (r, τ)) : MQa l yX11_newTurn cX11_newTurn 7 (some (.object "ElevenOne$Turn")) rm_X11_newTurn D cA base ad σ [.ref (ad a0), .int a1, .int a2, .int a3, .int a4, .int a5] r τ 100 1 8 := by
  refine Met.ofW (cc := cX11_newTurn) (maxL := 7) (ret := (some (.object "ElevenOne$Turn"))) (by decide) rfl ?_
  intro p e s m args below meth c s₁ B hml hv
  obtain ⟨rfl, hv⟩ := hv
  have X : SX D cA base p s m ([.ref (ad a0), .int a1, .int a2, .int a3, .int a4, .int a5] : List Value).toArray meth c cX11_newTurn 7 (some (.object "ElevenOne$Turn")) RX11 := sx_of B hml hv
  have hG := hv.1
  have hS : va_S (bA base) s.heap s.heap [] := va_S.rf
  have hE := xT.rf σ
  have hA := adE.rf σ ad
  have hl := lv_entry ([.ref (ad a0), .int a1, .int a2, .int a3, .int a4, .int a5]) (n := 7) (Nat.le_of_ble_eq_true rfl)
  rw [lg_entry_eq]
  generalize (lg_sl ([.ref (ad a0), .int a1, .int a2, .int a3, .int a4, .int a5]) ++ List.replicate (7 - (lg_sl ([.ref (ad a0), .int a1, .int a2, .int a3, .int a4, .int a5])).length) Slot.unset).toArray = ls at hl ⊢
  have hl : lv_has ls 7 [(0, .ref (ad a0)), (1, .int a1), (2, .int a2), (3, .int a3), (4, .int a4), (5, .int a5)] := hl
  unfold F_X11_newTurn at hF
  refine lv_aload_n X.1 X.2.1 dX11_newTurn_0 rfl (lv_at hl 0 rfl) ?_
  obtain ⟨i1, hr, hF⟩ := b1_ex hF
  have hT_i1 : hT σ i1 3 := gw_T hG hT_a0 (by decide) hr
  refine gx_get 0 (v := .ref (ad i1)) X hG hT_a0.1 (hT_a0.eq (by decide)) (by decide) rfl inX11 (by decide) k_151 (fun _ h => h) (gx_rfv hr) dX11_newTurn_1 ?_
  refine lv_iload X.1 X.2.1 dX11_newTurn_4 (lv_at hl 5 rfl) ?_
  obtain ⟨r3, σ2, hz, hF⟩ := b2_ex hF
  refine gx_rQ (gx_runV (As := [.int a5]) (rest := []) X hG hS hT_i1.1 (hT_i1.eq (by decide)) (by decide) rfl (c_X3_lawAt l D cA base ad σ n i1 a5 hT_i1 hz) k_188 k_185 k_186 k_187 k_2 (h_X3_lawAt) rfl rfl ⟨by decide, by decide⟩ rfl hl.1 rfl (Nat.le_of_ble_eq_true rfl) dX11_newTurn_6 ⟨by decide, by decide⟩) hS (fun H locs hG hS hX hO_r3 => ?_)
  have hT_a0 := hX.T hT_a0
  replace hE := hE.trans hX
  refine gx_astore (lv' := [(6, va_rf (Option.map ad r3)), (0, .ref (ad a0)), (1, .int a1), (2, .int a2), (3, .int a3), (4, .int a4), (5, .int a5)]) X.1 X.2.1 dX11_newTurn_9 hl (by decide) (by cases r3 <;> rfl) (fun ls hl => ?_)
  refine lv_iload_n X.1 X.2.1 dX11_newTurn_11 rfl (lv_at hl 3 rfl) ?_
  refine lv_sipush (v := 1000) X.1 X.2.1 dX11_newTurn_12 (by decide) ?_
  refine lv_idiv X.1 X.2.1 dX11_newTurn_15 (by decide) ?_
  by_cases hc0 : (a2 / 1000) = 1
  · replace hF := it_t hF hc0
    refine lv_tableIn (tgt := 60) X.1 X.2.1 dX11_newTurn_16 (by rw [hc0]; decide) (by rw [hc0]; decide) (by rw [hc0]; rfl) (by decide) ?_
    refine gx_new X hG hS (by decide) rfl inX9 tyX9_ok df9 k_189 k_190 k_6 rfl (by decide) (by decide) dX11_newTurn_60 hF (fun i8 σ9 ad10 H hG hS hX hA2 hT_i8 hF => ?_)
    have hl : lv_has ls 7 [(6, va_rf (Option.map ad10 r3)), (0, .ref (ad10 a0)), (1, .int a1), (2, .int a2), (3, .int a3), (4, .int a4), (5, .int a5)] := by rw [hA2.O hO_r3, hA2 a0 hT_a0.1]; exact hl
    replace hA := hA.trans hE.1 hA2
    have hT_a0 := hX.T hT_a0
    have hO_r3 := hX.O hO_r3
    replace hE := hE.trans hX
    refine lv_dup X.1 X.2.1 dX11_newTurn_63 rfl ?_
    refine lv_iload_n X.1 X.2.1 dX11_newTurn_64 rfl (lv_at hl 2 rfl) ?_
    refine lv_iload_n X.1 X.2.1 dX11_newTurn_65 rfl (lv_at hl 3 rfl) ?_
    refine lv_iload_n X.1 X.2.1 dX11_newTurn_66 rfl (lv_at hl 4 rfl) ?_
    refine lv_iload X.1 X.2.1 dX11_newTurn_67 (lv_at hl 5 rfl) ?_
    refine lv_iload X.1 X.2.1 dX11_newTurn_69 (lv_at hl 6 rfl) ?_
    refine gx_aload X.1 X.2.1 dX11_newTurn_71 (lv_at hl 0 rfl) ?_
    obtain ⟨σ11, hz, hF⟩ := b1_ex hF
    refine gx_rV (gx_runI (As := [.int a1, .int a2, .int a3, .int a4, .int a5, va_rf (Option.map ad10 r3)]) (rest := [.ref (ad10 i8)]) X hG hS (c_X9_init l D cA base ad10 σ9 n i8 a1 a2 a3 a4 a5 r3 (hT_i8.to (by decide) rfl) hO_r3 hz) k_193 k_191 k_192 k_6 rfl (h_X9_init.2) rfl rfl ⟨by decide, by decide⟩ rfl hl.1 rfl (Nat.le_of_ble_eq_true rfl) dX11_newTurn_73 ⟨by decide, by decide⟩) hS (fun H locs hG hS hX => ?_)
    have hT_a0 := hX.T hT_a0
    have hT_i8 := hX.T hT_i8
    have hO_r3 := hX.O hO_r3
    replace hE := hE.trans hX
    refine W.widen (k := 1) (n := 8) (by decide) (by decide) ?_
    exact gx_qretA (v := (some i8)) X hG hS hE hA (oT.some (hT_i8.to (by decide) rfl)) hF dX11_newTurn_76
  replace hF := it_f hF hc0
  by_cases hc1 : (a2 / 1000) = 2
  · replace hF := it_t hF hc1
    refine lv_tableIn (tgt := 77) X.1 X.2.1 dX11_newTurn_16 (by rw [hc1]; decide) (by rw [hc1]; decide) (by rw [hc1]; rfl) (by decide) ?_
    refine gx_new X hG hS (by decide) rfl inX0 tyX0_ok df0 k_245 k_246 k_7 rfl (by decide) (by decide) dX11_newTurn_77 hF (fun i12 σ13 ad14 H hG hS hX hA2 hT_i12 hF => ?_)
    have hl : lv_has ls 7 [(6, va_rf (Option.map ad14 r3)), (0, .ref (ad14 a0)), (1, .int a1), (2, .int a2), (3, .int a3), (4, .int a4), (5, .int a5)] := by rw [hA2.O hO_r3, hA2 a0 hT_a0.1]; exact hl
    replace hA := hA.trans hE.1 hA2
    have hT_a0 := hX.T hT_a0
    have hO_r3 := hX.O hO_r3
    replace hE := hE.trans hX
    refine lv_dup X.1 X.2.1 dX11_newTurn_80 rfl ?_
    refine lv_iload_n X.1 X.2.1 dX11_newTurn_81 rfl (lv_at hl 2 rfl) ?_
    refine lv_iload_n X.1 X.2.1 dX11_newTurn_82 rfl (lv_at hl 3 rfl) ?_
    refine lv_iload_n X.1 X.2.1 dX11_newTurn_83 rfl (lv_at hl 4 rfl) ?_
    refine lv_iload X.1 X.2.1 dX11_newTurn_84 (lv_at hl 5 rfl) ?_
    refine lv_iload X.1 X.2.1 dX11_newTurn_86 (lv_at hl 6 rfl) ?_
    refine gx_aload X.1 X.2.1 dX11_newTurn_88 (lv_at hl 0 rfl) ?_
    obtain ⟨σ15, hz, hF⟩ := b1_ex hF
    refine gx_rV (gx_runI (As := [.int a1, .int a2, .int a3, .int a4, .int a5, va_rf (Option.map ad14 r3)]) (rest := [.ref (ad14 i12)]) X hG hS (c_X0_init l D cA base ad14 σ13 n i12 a1 a2 a3 a4 a5 r3 (hT_i12.to (by decide) rfl) hO_r3 hz) k_249 k_247 k_248 k_7 rfl (h_X0_init.2) rfl rfl ⟨by decide, by decide⟩ rfl hl.1 rfl (Nat.le_of_ble_eq_true rfl) dX11_newTurn_90 ⟨by decide, by decide⟩) hS (fun H locs hG hS hX => ?_)
    have hT_a0 := hX.T hT_a0
    have hT_i12 := hX.T hT_i12
    have hO_r3 := hX.O hO_r3
    replace hE := hE.trans hX
    refine W.widen (k := 1) (n := 8) (by decide) (by decide) ?_
    exact gx_qretA (v := (some i12)) X hG hS hE hA (oT.some (hT_i12.to (by decide) rfl)) hF dX11_newTurn_93
  replace hF := it_f hF hc1
  by_cases hc2 : (a2 / 1000) = 3
  · replace hF := it_t hF hc2
    refine lv_tableIn (tgt := 94) X.1 X.2.1 dX11_newTurn_16 (by rw [hc2]; decide) (by rw [hc2]; decide) (by rw [hc2]; rfl) (by decide) ?_
    refine gx_new X hG hS (by decide) rfl inX2 tyX2_ok df2 k_260 k_261 k_8 rfl (by decide) (by decide) dX11_newTurn_94 hF (fun i16 σ17 ad18 H hG hS hX hA2 hT_i16 hF => ?_)
    have hl : lv_has ls 7 [(6, va_rf (Option.map ad18 r3)), (0, .ref (ad18 a0)), (1, .int a1), (2, .int a2), (3, .int a3), (4, .int a4), (5, .int a5)] := by rw [hA2.O hO_r3, hA2 a0 hT_a0.1]; exact hl
    replace hA := hA.trans hE.1 hA2
    have hT_a0 := hX.T hT_a0
    have hO_r3 := hX.O hO_r3
    replace hE := hE.trans hX
    refine lv_dup X.1 X.2.1 dX11_newTurn_97 rfl ?_
    refine lv_iload_n X.1 X.2.1 dX11_newTurn_98 rfl (lv_at hl 2 rfl) ?_
    refine lv_iload_n X.1 X.2.1 dX11_newTurn_99 rfl (lv_at hl 3 rfl) ?_
    refine lv_iload_n X.1 X.2.1 dX11_newTurn_100 rfl (lv_at hl 4 rfl) ?_
    refine lv_iload X.1 X.2.1 dX11_newTurn_101 (lv_at hl 5 rfl) ?_
    refine lv_iload X.1 X.2.1 dX11_newTurn_103 (lv_at hl 6 rfl) ?_
    refine gx_aload X.1 X.2.1 dX11_newTurn_105 (lv_at hl 0 rfl) ?_
    obtain ⟨σ19, hz, hF⟩ := b1_ex hF
    refine gx_rV (gx_runI (As := [.int a1, .int a2, .int a3, .int a4, .int a5, va_rf (Option.map ad18 r3)]) (rest := [.ref (ad18 i16)]) X hG hS (c_X2_init l D cA base ad18 σ17 n i16 a1 a2 a3 a4 a5 r3 hT_i16 hO_r3 hz) k_264 k_262 k_263 k_8 rfl (h_X2_init.2) rfl rfl ⟨by decide, by decide⟩ rfl hl.1 rfl (Nat.le_of_ble_eq_true rfl) dX11_newTurn_107 ⟨by decide, by decide⟩) hS (fun H locs hG hS hX => ?_)
    have hT_a0 := hX.T hT_a0
    have hT_i16 := hX.T hT_i16
    have hO_r3 := hX.O hO_r3
    replace hE := hE.trans hX
    refine W.widen (k := 1) (n := 8) (by decide) (by decide) ?_
    exact gx_qretA (v := (some i16)) X hG hS hE hA (oT.some (hT_i16.to (by decide) rfl)) hF dX11_newTurn_110
  replace hF := it_f hF hc2
  by_cases hc3 : (a2 / 1000) = 4
  · replace hF := it_t hF hc3
    refine lv_tableIn (tgt := 111) X.1 X.2.1 dX11_newTurn_16 (by rw [hc3]; decide) (by rw [hc3]; decide) (by rw [hc3]; rfl) (by decide) ?_
    refine gx_new X hG hS (by decide) rfl inX8 tyX8_ok df8 k_275 k_276 k_9 rfl (by decide) (by decide) dX11_newTurn_111 hF (fun i20 σ21 ad22 H hG hS hX hA2 hT_i20 hF => ?_)
    have hl : lv_has ls 7 [(6, va_rf (Option.map ad22 r3)), (0, .ref (ad22 a0)), (1, .int a1), (2, .int a2), (3, .int a3), (4, .int a4), (5, .int a5)] := by rw [hA2.O hO_r3, hA2 a0 hT_a0.1]; exact hl
    replace hA := hA.trans hE.1 hA2
    have hT_a0 := hX.T hT_a0
    have hO_r3 := hX.O hO_r3
    replace hE := hE.trans hX
    refine lv_dup X.1 X.2.1 dX11_newTurn_114 rfl ?_
    refine lv_iload_n X.1 X.2.1 dX11_newTurn_115 rfl (lv_at hl 2 rfl) ?_
    refine lv_iload_n X.1 X.2.1 dX11_newTurn_116 rfl (lv_at hl 3 rfl) ?_
    refine lv_iload_n X.1 X.2.1 dX11_newTurn_117 rfl (lv_at hl 4 rfl) ?_
    refine lv_iload X.1 X.2.1 dX11_newTurn_118 (lv_at hl 5 rfl) ?_
    refine lv_iload X.1 X.2.1 dX11_newTurn_120 (lv_at hl 6 rfl) ?_
    refine gx_aload X.1 X.2.1 dX11_newTurn_122 (lv_at hl 0 rfl) ?_
    obtain ⟨σ23, hz, hF⟩ := b1_ex hF
    refine gx_rV (gx_runI (As := [.int a1, .int a2, .int a3, .int a4, .int a5, va_rf (Option.map ad22 r3)]) (rest := [.ref (ad22 i20)]) X hG hS (c_X8_init l D cA base ad22 σ21 n i20 a1 a2 a3 a4 a5 r3 hT_i20 hO_r3 hz) k_279 k_277 k_278 k_9 rfl (h_X8_init.2) rfl rfl ⟨by decide, by decide⟩ rfl hl.1 rfl (Nat.le_of_ble_eq_true rfl) dX11_newTurn_124 ⟨by decide, by decide⟩) hS (fun H locs hG hS hX => ?_)
    have hT_a0 := hX.T hT_a0
    have hT_i20 := hX.T hT_i20
    have hO_r3 := hX.O hO_r3
    replace hE := hE.trans hX
    refine W.widen (k := 1) (n := 8) (by decide) (by decide) ?_
    exact gx_qretA (v := (some i20)) X hG hS hE hA (oT.some (hT_i20.to (by decide) rfl)) hF dX11_newTurn_127
  replace hF := it_f hF hc3
  by_cases hc4 : (a2 / 1000) = 5
  · replace hF := it_t hF hc4
    refine lv_tableIn (tgt := 128) X.1 X.2.1 dX11_newTurn_16 (by rw [hc4]; decide) (by rw [hc4]; decide) (by rw [hc4]; rfl) (by decide) ?_
    refine gx_new X hG hS (by decide) rfl inX4 tyX4_ok df4 k_290 k_291 k_10 rfl (by decide) (by decide) dX11_newTurn_128 hF (fun i24 σ25 ad26 H hG hS hX hA2 hT_i24 hF => ?_)
    have hl : lv_has ls 7 [(6, va_rf (Option.map ad26 r3)), (0, .ref (ad26 a0)), (1, .int a1), (2, .int a2), (3, .int a3), (4, .int a4), (5, .int a5)] := by rw [hA2.O hO_r3, hA2 a0 hT_a0.1]; exact hl
    replace hA := hA.trans hE.1 hA2
    have hT_a0 := hX.T hT_a0
    have hO_r3 := hX.O hO_r3
    replace hE := hE.trans hX
    refine lv_dup X.1 X.2.1 dX11_newTurn_131 rfl ?_
    refine lv_iload_n X.1 X.2.1 dX11_newTurn_132 rfl (lv_at hl 2 rfl) ?_
    refine lv_iload_n X.1 X.2.1 dX11_newTurn_133 rfl (lv_at hl 3 rfl) ?_
    refine lv_iload_n X.1 X.2.1 dX11_newTurn_134 rfl (lv_at hl 4 rfl) ?_
    refine lv_iload X.1 X.2.1 dX11_newTurn_135 (lv_at hl 5 rfl) ?_
    refine lv_iload X.1 X.2.1 dX11_newTurn_137 (lv_at hl 6 rfl) ?_
    refine gx_aload X.1 X.2.1 dX11_newTurn_139 (lv_at hl 0 rfl) ?_
    obtain ⟨σ27, hz, hF⟩ := b1_ex hF
    refine gx_rV (gx_runI (As := [.int a1, .int a2, .int a3, .int a4, .int a5, va_rf (Option.map ad26 r3)]) (rest := [.ref (ad26 i24)]) X hG hS (c_X4_init l D cA base ad26 σ25 n i24 a1 a2 a3 a4 a5 r3 hT_i24 hO_r3 hz) k_294 k_292 k_293 k_10 rfl (h_X4_init.2) rfl rfl ⟨by decide, by decide⟩ rfl hl.1 rfl (Nat.le_of_ble_eq_true rfl) dX11_newTurn_141 ⟨by decide, by decide⟩) hS (fun H locs hG hS hX => ?_)
    have hT_a0 := hX.T hT_a0
    have hT_i24 := hX.T hT_i24
    have hO_r3 := hX.O hO_r3
    replace hE := hE.trans hX
    refine W.widen (k := 1) (n := 8) (by decide) (by decide) ?_
    exact gx_qretA (v := (some i24)) X hG hS hE hA (oT.some (hT_i24.to (by decide) rfl)) hF dX11_newTurn_144
  replace hF := it_f hF hc4
  by_cases hc5 : (a2 / 1000) = 6
  · replace hF := it_t hF hc5
    refine lv_tableIn (tgt := 145) X.1 X.2.1 dX11_newTurn_16 (by rw [hc5]; decide) (by rw [hc5]; decide) (by rw [hc5]; rfl) (by decide) ?_
    refine gx_new X hG hS (by decide) rfl inX6 tyX6_ok df6 k_305 k_306 k_11 rfl (by decide) (by decide) dX11_newTurn_145 hF (fun i28 σ29 ad30 H hG hS hX hA2 hT_i28 hF => ?_)
    have hl : lv_has ls 7 [(6, va_rf (Option.map ad30 r3)), (0, .ref (ad30 a0)), (1, .int a1), (2, .int a2), (3, .int a3), (4, .int a4), (5, .int a5)] := by rw [hA2.O hO_r3, hA2 a0 hT_a0.1]; exact hl
    replace hA := hA.trans hE.1 hA2
    have hT_a0 := hX.T hT_a0
    have hO_r3 := hX.O hO_r3
    replace hE := hE.trans hX
    refine lv_dup X.1 X.2.1 dX11_newTurn_148 rfl ?_
    refine lv_iload_n X.1 X.2.1 dX11_newTurn_149 rfl (lv_at hl 2 rfl) ?_
    refine lv_iload_n X.1 X.2.1 dX11_newTurn_150 rfl (lv_at hl 3 rfl) ?_
    refine lv_iload_n X.1 X.2.1 dX11_newTurn_151 rfl (lv_at hl 4 rfl) ?_
    refine lv_iload X.1 X.2.1 dX11_newTurn_152 (lv_at hl 5 rfl) ?_
    refine lv_iload X.1 X.2.1 dX11_newTurn_154 (lv_at hl 6 rfl) ?_
    refine gx_aload X.1 X.2.1 dX11_newTurn_156 (lv_at hl 0 rfl) ?_
    obtain ⟨σ31, hz, hF⟩ := b1_ex hF
    refine gx_rV (gx_runI (As := [.int a1, .int a2, .int a3, .int a4, .int a5, va_rf (Option.map ad30 r3)]) (rest := [.ref (ad30 i28)]) X hG hS (c_X6_init l D cA base ad30 σ29 n i28 a1 a2 a3 a4 a5 r3 (hT_i28.to (by decide) rfl) hO_r3 hz) k_309 k_307 k_308 k_11 rfl (h_X6_init.2) rfl rfl ⟨by decide, by decide⟩ rfl hl.1 rfl (Nat.le_of_ble_eq_true rfl) dX11_newTurn_158 ⟨by decide, by decide⟩) hS (fun H locs hG hS hX => ?_)
    have hT_a0 := hX.T hT_a0
    have hT_i28 := hX.T hT_i28
    have hO_r3 := hX.O hO_r3
    replace hE := hE.trans hX
    refine W.widen (k := 1) (n := 8) (by decide) (by decide) ?_
    exact gx_qretA (v := (some i28)) X hG hS hE hA (oT.some (hT_i28.to (by decide) rfl)) hF dX11_newTurn_161
  replace hF := it_f hF hc5
  by_cases hc6 : (a2 / 1000) = 7
  · replace hF := it_t hF hc6
    refine lv_tableIn (tgt := 162) X.1 X.2.1 dX11_newTurn_16 (by rw [hc6]; decide) (by rw [hc6]; decide) (by rw [hc6]; rfl) (by decide) ?_
    refine gx_new X hG hS (by decide) rfl inX7 tyX7_ok df7 k_320 k_321 k_12 rfl (by decide) (by decide) dX11_newTurn_162 hF (fun i32 σ33 ad34 H hG hS hX hA2 hT_i32 hF => ?_)
    have hl : lv_has ls 7 [(6, va_rf (Option.map ad34 r3)), (0, .ref (ad34 a0)), (1, .int a1), (2, .int a2), (3, .int a3), (4, .int a4), (5, .int a5)] := by rw [hA2.O hO_r3, hA2 a0 hT_a0.1]; exact hl
    replace hA := hA.trans hE.1 hA2
    have hT_a0 := hX.T hT_a0
    have hO_r3 := hX.O hO_r3
    replace hE := hE.trans hX
    refine lv_dup X.1 X.2.1 dX11_newTurn_165 rfl ?_
    refine lv_iload_n X.1 X.2.1 dX11_newTurn_166 rfl (lv_at hl 2 rfl) ?_
    refine lv_iload_n X.1 X.2.1 dX11_newTurn_167 rfl (lv_at hl 3 rfl) ?_
    refine lv_iload_n X.1 X.2.1 dX11_newTurn_168 rfl (lv_at hl 4 rfl) ?_
    refine lv_iload X.1 X.2.1 dX11_newTurn_169 (lv_at hl 5 rfl) ?_
    refine lv_iload X.1 X.2.1 dX11_newTurn_171 (lv_at hl 6 rfl) ?_
    refine gx_aload X.1 X.2.1 dX11_newTurn_173 (lv_at hl 0 rfl) ?_
    obtain ⟨σ35, hz, hF⟩ := b1_ex hF
    refine gx_rV (gx_runI (As := [.int a1, .int a2, .int a3, .int a4, .int a5, va_rf (Option.map ad34 r3)]) (rest := [.ref (ad34 i32)]) X hG hS (c_X7_init l D cA base ad34 σ33 n i32 a1 a2 a3 a4 a5 r3 hT_i32 hO_r3 hz) k_324 k_322 k_323 k_12 rfl (h_X7_init.2) rfl rfl ⟨by decide, by decide⟩ rfl hl.1 rfl (Nat.le_of_ble_eq_true rfl) dX11_newTurn_175 ⟨by decide, by decide⟩) hS (fun H locs hG hS hX => ?_)
    have hT_a0 := hX.T hT_a0
    have hT_i32 := hX.T hT_i32
    have hO_r3 := hX.O hO_r3
    replace hE := hE.trans hX
    refine W.widen (k := 1) (n := 8) (by decide) (by decide) ?_
    exact gx_qretA (v := (some i32)) X hG hS hE hA (oT.some (hT_i32.to (by decide) rfl)) hF dX11_newTurn_178
  replace hF := it_f hF hc6
  have hz0 := ne_lit hc0 (z := 1) (by decide)
  have hz1 := ne_lit hc1 (z := 2) (by decide)
  have hz2 := ne_lit hc2 (z := 3) (by decide)
  have hz3 := ne_lit hc3 (z := 4) (by decide)
  have hz4 := ne_lit hc4 (z := 5) (by decide)
  have hz5 := ne_lit hc5 (z := 6) (by decide)
  have hz6 := ne_lit hc6 (z := 7) (by decide)
  refine lv_tableOut (tgt := 179) X.1 X.2.1 dX11_newTurn_16 (by omega) (by decide) ?_
  refine gx_new X hG hS (by decide) rfl inX10 tyX10_ok df10 k_335 k_336 k_5 rfl (by decide) (by decide) dX11_newTurn_179 hF (fun i4 σ5 ad6 H hG hS hX hA2 hT_i4 hF => ?_)
  have hl : lv_has ls 7 [(6, va_rf (Option.map ad6 r3)), (0, .ref (ad6 a0)), (1, .int a1), (2, .int a2), (3, .int a3), (4, .int a4), (5, .int a5)] := by rw [hA2.O hO_r3, hA2 a0 hT_a0.1]; exact hl
  replace hA := hA.trans hE.1 hA2
  have hT_a0 := hX.T hT_a0
  have hO_r3 := hX.O hO_r3
  replace hE := hE.trans hX
  refine lv_dup X.1 X.2.1 dX11_newTurn_182 rfl ?_
  refine lv_iload_n X.1 X.2.1 dX11_newTurn_183 rfl (lv_at hl 2 rfl) ?_
  refine lv_iload_n X.1 X.2.1 dX11_newTurn_184 rfl (lv_at hl 3 rfl) ?_
  refine lv_iload_n X.1 X.2.1 dX11_newTurn_185 rfl (lv_at hl 4 rfl) ?_
  refine lv_iload X.1 X.2.1 dX11_newTurn_186 (lv_at hl 5 rfl) ?_
  refine lv_iload X.1 X.2.1 dX11_newTurn_188 (lv_at hl 6 rfl) ?_
  refine gx_aload X.1 X.2.1 dX11_newTurn_190 (lv_at hl 0 rfl) ?_
  obtain ⟨σ7, hz, hF⟩ := b1_ex hF
  refine gx_rV (gx_runI (As := [.int a1, .int a2, .int a3, .int a4, .int a5, va_rf (Option.map ad6 r3)]) (rest := [.ref (ad6 i4)]) X hG hS (c_X10_init l D cA base ad6 σ5 n i4 a1 a2 a3 a4 a5 r3 (hT_i4.to (by decide) rfl) hO_r3 hz) k_196 k_337 k_195 k_5 rfl (h_X10_init.2) rfl rfl ⟨by decide, by decide⟩ rfl hl.1 rfl (Nat.le_of_ble_eq_true rfl) dX11_newTurn_192 ⟨by decide, by decide⟩) hS (fun H locs hG hS hX => ?_)
  have hT_a0 := hX.T hT_a0
  have hT_i4 := hX.T hT_i4
  have hO_r3 := hX.O hO_r3
  replace hE := hE.trans hX
  refine W.widen (k := 1) (n := 8) (by decide) (by decide) ?_
  exact gx_qretA (v := (some i4)) X hG hS hE hA (oT.some (hT_i4.to (by decide) rfl)) hF dX11_newTurn_195
theorem c_X3_sit (l : Launch) (D : va_G) (cA : Nat → ClassId) (base : Nat) (ad : Nat → Nat) (σ : Hp) (n : Nat) (a0 : Nat) (a1 : Option Nat) (a2 : Int32) (hT_a0 : hT σ a0 3) (hO_a1 : oT σ a1 100) {τ : Hp} (hF : F_X3_sit n a0 a1 a2 σ = some τ) : MV l yX3_sit cX3_sit 3 rm_X3_sit D cA base ad σ [.ref (ad a0), va_rf (Option.map ad a1), .int a2] τ := by
  refine Met.ofW (cc := cX3_sit) (maxL := 3) (ret := none) (by decide) rfl ?_
  intro p e s m args below meth c s₁ B hml hv
  obtain ⟨rfl, hv⟩ := hv
  have X : SX D cA base p s m ([.ref (ad a0), va_rf (Option.map ad a1), .int a2] : List Value).toArray meth c cX3_sit 3 none RX3 := sx_of B hml hv
  have hG := hv.1
  have hS : va_S (bA base) s.heap s.heap [] := va_S.rf
  have hE := xT.rf σ
  have hl : lv_has ((lg_sl ([.ref (ad a0), va_rf (Option.map ad a1), .int a2]) ++ List.replicate (3 - (lg_sl ([.ref (ad a0), va_rf (Option.map ad a1), .int a2])).length) Slot.unset).toArray) 3 (lv_args 0 ([.ref (ad a0), va_rf (Option.map ad a1), .int a2])) := by cases a1 <;> exact lv_entry _ (Nat.le_of_ble_eq_true rfl)
  rw [lg_entry_eq]
  generalize (lg_sl ([.ref (ad a0), va_rf (Option.map ad a1), .int a2]) ++ List.replicate (3 - (lg_sl ([.ref (ad a0), va_rf (Option.map ad a1), .int a2])).length) Slot.unset).toArray = ls at hl ⊢
  have hl : lv_has ls 3 [(0, .ref (ad a0)), (1, va_rf (Option.map ad a1)), (2, .int a2)] := by cases a1 <;> exact hl
  unfold F_X3_sit at hF
  refine lv_aload_n X.1 X.2.1 dX3_sit_0 rfl (lv_at hl 0 rfl) ?_
  refine gx_get 2 (v := .int (hI σ a0 2)) X hG hT_a0.1 (hT_a0.eq (by decide)) (by decide) rfl inX3 (by decide) k_45 (fun _ h => h) rfl dX3_sit_1 ?_
  refine lv_if_lt (tgt := 51) X.1 X.2.1 dX3_sit_4 (by decide) (fun hc => ?_) (fun hc => ?_)
  · replace hF := it_t hF hc
    exact gx_vret X hG hS hE hF dX3_sit_51
  · replace hF := it_f hF hc
    refine lv_aload_n X.1 X.2.1 dX3_sit_7 rfl (lv_at hl 0 rfl) ?_
    refine gx_get 2 (v := .int (hI σ a0 2)) X hG hT_a0.1 (hT_a0.eq (by decide)) (by decide) rfl inX3 (by decide) k_45 (fun _ h => h) rfl dX3_sit_8 ?_
    refine lv_aload_n X.1 X.2.1 dX3_sit_11 rfl (lv_at hl 0 rfl) ?_
    obtain ⟨i1, hr, hF⟩ := b1_ex hF
    have hT_i1 : hT σ i1 16 := gw_T hG hT_a0 (by decide) hr
    refine gx_get 3 (v := .ref (ad i1)) X hG hT_a0.1 (hT_a0.eq (by decide)) (by decide) rfl inX3 (by decide) k_50 (fun _ h => h) (gx_rfv hr) dX3_sit_12 ?_
    refine gx_alen (t0 := 3) X hG hT_i1 (by decide) (by decide) rfl dX3_sit_15 ?_
    refine lv_icmp_ge (tgt := 51) X.1 X.2.1 dX3_sit_16 (by decide) (fun hc => ?_) (fun hc => ?_)
    · replace hF := it_t hF hc
      exact gx_vret X hG hS hE hF dX3_sit_51
    · replace hF := it_f hF hc
      refine lv_aload_n X.1 X.2.1 dX3_sit_19 rfl (lv_at hl 0 rfl) ?_
      obtain ⟨i2, hr, hF⟩ := b1_ex hF
      have hT_i2 : hT σ i2 16 := gw_T hG hT_a0 (by decide) hr
      refine gx_get 3 (v := .ref (ad i2)) X hG hT_a0.1 (hT_a0.eq (by decide)) (by decide) rfl inX3 (by decide) k_50 (fun _ h => h) (gx_rfv hr) dX3_sit_20 ?_
      refine lv_aload_n X.1 X.2.1 dX3_sit_23 rfl (lv_at hl 0 rfl) ?_
      refine gx_get 2 (v := .int (hI σ a0 2)) X hG hT_a0.1 (hT_a0.eq (by decide)) (by decide) rfl inX3 (by decide) k_45 (fun _ h => h) rfl dX3_sit_24 ?_
      refine gx_aload_n X.1 X.2.1 dX3_sit_27 rfl (lv_at hl 1 rfl) ?_
      refine gx_qastT (v := a1) X hG hS hT_i2 hO_a1 hF dX3_sit_28 (fun σ3 H locs hG hS hX hF => ?_)
      have hT_a0 := hX.T hT_a0
      have hO_a1 := hX.O hO_a1
      replace hE := hE.trans hX
      refine lv_aload_n X.1 X.2.1 dX3_sit_29 rfl (lv_at hl 0 rfl) ?_
      obtain ⟨i4, hr, hF⟩ := b1_ex hF
      have hT_i4 : hT σ3 i4 13 := gw_T hG hT_a0 (by decide) hr
      refine gx_get 4 (v := .ref (ad i4)) X hG hT_a0.1 (hT_a0.eq (by decide)) (by decide) rfl inX3 (by decide) k_51 (fun _ h => h) (gx_rfv hr) dX3_sit_30 ?_
      refine lv_aload_n X.1 X.2.1 dX3_sit_33 rfl (lv_at hl 0 rfl) ?_
      refine gx_get 2 (v := .int (hI σ3 a0 2)) X hG hT_a0.1 (hT_a0.eq (by decide)) (by decide) rfl inX3 (by decide) k_45 (fun _ h => h) rfl dX3_sit_34 ?_
      refine lv_iload_n X.1 X.2.1 dX3_sit_37 rfl (lv_at hl 2 rfl) ?_
      obtain ⟨σ5, hz, hF⟩ := b1_ex hF
      refine gx_rV (gx_runSN (As := [.ref (ad i4), .int (hI σ3 a0 2), .int a2]) (rest := []) X hG hS (c_X11_store l D cA base ad σ3 n i4 (hI σ3 a0 2) a2 hT_i4 hz) k_173 q_351 k_172 k_1 (h_X11_store.2) rfl rfl ⟨by decide, by decide⟩ rfl hl.1 rfl (Nat.le_of_ble_eq_true rfl) dX3_sit_38 ⟨Nat.zero_le _, Nat.zero_le _⟩) hS (fun H locs hG hS hX => ?_)
      have hT_a0 := hX.T hT_a0
      have hO_a1 := hX.O hO_a1
      replace hE := hE.trans hX
      refine lv_aload_n X.1 X.2.1 dX3_sit_41 rfl (lv_at hl 0 rfl) ?_
      refine lv_dup X.1 X.2.1 dX3_sit_42 rfl ?_
      refine gx_get 2 (v := .int (hI σ5 a0 2)) X hG hT_a0.1 (hT_a0.eq (by decide)) (by decide) rfl inX3 (by decide) k_45 (fun _ h => h) rfl dX3_sit_43 ?_
      refine lv_iconst (v := 1) X.1 X.2.1 dX3_sit_46 (by decide) ?_
      refine lv_iadd X.1 X.2.1 dX3_sit_47 ?_
      refine gx_putI 2  X hG hS hT_a0.1 (hT_a0.eq (by decide)) (by decide) rfl inX3 tyX3_ok nmX3 (by decide) k_45 (fun _ h => h) rfl rfl rfl rfl (Nat.le_of_ble_eq_true rfl) dX3_sit_48 hF (fun σ6 H locs hG hS hX hF => ?_)
      have hT_a0 := hX.T hT_a0
      have hO_a1 := hX.O hO_a1
      replace hE := hE.trans hX
      exact gx_vret X hG hS hE hF dX3_sit_51
theorem c_X11_at (l : Launch) (D : va_G) (cA : Nat → ClassId) (base : Nat) (ad : Nat → Nat) (σ : Hp) (n : Nat) (a0 : Nat) (a1 : Int32) (hT_a0 : hT σ a0 13) {τ : Hp} {r : Int32} (hF : F_X11_at n a0 a1 σ = some (r, τ)) : MI l yX11_at cX11_at 2 (some .int) rm_X11_at D cA base ad σ [.ref (ad a0), .int a1] r τ := by
  refine Met.ofW (cc := cX11_at) (maxL := 2) (ret := (some .int)) (by decide) rfl ?_
  intro p e s m args below meth c s₁ B hml hv
  obtain ⟨rfl, hv⟩ := hv
  have X : SX D cA base p s m ([.ref (ad a0), .int a1] : List Value).toArray meth c cX11_at 2 (some .int) RX11 := sx_of B hml hv
  have hG := hv.1
  have hS : va_S (bA base) s.heap s.heap [] := va_S.rf
  have hE := xT.rf σ
  have hl := lv_entry ([.ref (ad a0), .int a1]) (n := 2) (Nat.le_of_ble_eq_true rfl)
  rw [lg_entry_eq]
  generalize (lg_sl ([.ref (ad a0), .int a1]) ++ List.replicate (2 - (lg_sl ([.ref (ad a0), .int a1])).length) Slot.unset).toArray = ls at hl ⊢
  have hl : lv_has ls 2 [(0, .ref (ad a0)), (1, .int a1)] := hl
  unfold F_X11_at at hF
  refine lv_iload_n X.1 X.2.1 dX11_at_0 rfl (lv_at hl 1 rfl) ?_
  refine lv_if_lt (tgt := 16) X.1 X.2.1 dX11_at_1 (by decide) (fun hc => ?_) (fun hc => ?_)
  · replace hF := it_t hF hc
    refine lv_iconst (v := 0) X.1 X.2.1 dX11_at_16 (by decide) ?_
    exact gx_iret X hG hS hE hF dX11_at_17
  · replace hF := it_f hF hc
    refine lv_iload_n X.1 X.2.1 dX11_at_4 rfl (lv_at hl 1 rfl) ?_
    refine lv_aload_n X.1 X.2.1 dX11_at_5 rfl (lv_at hl 0 rfl) ?_
    refine gx_alen (t0 := 0) X hG hT_a0 (by decide) (by decide) rfl dX11_at_6 ?_
    refine lv_icmp_ge (tgt := 16) X.1 X.2.1 dX11_at_7 (by decide) (fun hc => ?_) (fun hc => ?_)
    · replace hF := it_t hF hc
      refine lv_iconst (v := 0) X.1 X.2.1 dX11_at_16 (by decide) ?_
      exact gx_iret X hG hS hE hF dX11_at_17
    · replace hF := it_f hF hc
      refine lv_aload_n X.1 X.2.1 dX11_at_10 rfl (lv_at hl 0 rfl) ?_
      refine lv_iload_n X.1 X.2.1 dX11_at_11 rfl (lv_at hl 1 rfl) ?_
      refine gx_iald X hG hT_a0 hF dX11_at_12 (fun hF => ?_)
      refine lv_goto (tgt := 17) X.1 X.2.1 dX11_at_13 (by decide) ?_
      exact gx_iret X hG hS hE hF dX11_at_17
theorem w_X3_toldToAll_11 {σ0 τ : Hp} {r : Int32} (X : SX D cA base p s m args meth c cX3_toldToAll 3 (some .int) RX3) (n : Nat)  : ∀ f : Nat, ∀ (v0 : Nat) (v1 : Int32) (v2 : Int32) (σ : Hp) (H : Heap) (locs : List Loc) (ls : Array Slot), hT σ v0 3 → GW D cA base ad σ H → va_S (bA base) s.heap H locs → xT σ0 σ → lv_has ls 3 [(0, .ref (ad v0)), (1, .int v1), (2, .int v2)] → F_X3_toldToAll_11 n  f v0 v1 v2 σ = some (r, τ) → W p l e rm_X3_toldToAll s m args below meth c H locs 0 0 (ZI below s args D cA base ad σ0 r τ) (F0 m 11 ls []) := by
  intro f
  induction f with
  | zero => intro v0 v1 v2 σ H locs ls h0 hG hS hE hl hF
            rw [F_X3_toldToAll_11] at hF; cases hF
  | succ f ih =>
    intro v0 v1 v2 σ H locs ls hT_v0 hG hS hE hl hF
    rw [F_X3_toldToAll_11] at hF
    refine lv_iload_n X.1 X.2.1 dX3_toldToAll_11 rfl (lv_at hl 2 rfl) ?_
    refine lv_aload_n X.1 X.2.1 dX3_toldToAll_12 rfl (lv_at hl 0 rfl) ?_
    refine gx_get 2 (v := .int (hI σ v0 2)) X hG hT_v0.1 (hT_v0.eq (by decide)) (by decide) rfl inX3 (by decide) k_45 (fun _ h => h) rfl dX3_toldToAll_13 ?_
    refine lv_icmp_ge (tgt := 36) X.1 X.2.1 dX3_toldToAll_16 (by decide) (fun hc => ?_) (fun hc => ?_)
    · replace hF := it_t hF hc
      refine lv_iload_n X.1 X.2.1 dX3_toldToAll_36 rfl (lv_at hl 1 rfl) ?_
      exact gx_iret X hG hS hE hF dX3_toldToAll_37
    · replace hF := it_f hF hc
      refine lv_iload_n X.1 X.2.1 dX3_toldToAll_19 rfl (lv_at hl 1 rfl) ?_
      refine lv_aload_n X.1 X.2.1 dX3_toldToAll_20 rfl (lv_at hl 0 rfl) ?_
      obtain ⟨i1, hr, hF⟩ := b1_ex hF
      have hT_i1 : hT σ i1 13 := gw_T hG hT_v0 (by decide) hr
      refine gx_get 4 (v := .ref (ad i1)) X hG hT_v0.1 (hT_v0.eq (by decide)) (by decide) rfl inX3 (by decide) k_51 (fun _ h => h) (gx_rfv hr) dX3_toldToAll_21 ?_
      refine lv_iload_n X.1 X.2.1 dX3_toldToAll_24 rfl (lv_at hl 2 rfl) ?_
      obtain ⟨r3, σ2, hz, hF⟩ := b2_ex hF
      refine gx_rI (gx_runSN (As := [.ref (ad i1), .int v2]) (rest := [.int v1]) X hG hS (c_X11_at l D cA base ad σ n i1 v2 hT_i1 hz) k_362 q_360 k_361 k_1 (h_X11_at.2) rfl rfl ⟨by decide, by decide⟩ rfl hl.1 rfl (Nat.le_of_ble_eq_true rfl) dX3_toldToAll_25 ⟨Nat.zero_le _, Nat.zero_le _⟩) hS (fun H locs hG hS hX => ?_)
      have hT_v0 := hX.T hT_v0
      replace hE := hE.trans hX
      refine lv_iand X.1 X.2.1 dX3_toldToAll_28 ?_
      refine lv_istore_n (lv' := [(1, .int (v1 &&& r3)), (0, .ref (ad v0)), (2, .int v2)]) X.1 X.2.1 dX3_toldToAll_29 rfl hl (by decide) rfl (fun ls hl => ?_)
      refine lv_iinc (v := v2 + 1) (lv' := [(2, .int (v2 + 1)), (1, .int (v1 &&& r3)), (0, .ref (ad v0))]) X.1 X.2.1 dX3_toldToAll_30 hl (k := 2) rfl rfl (by decide) rfl (fun ls hl => ?_)
      refine lv_goto (tgt := 11) X.1 X.2.1 dX3_toldToAll_33 (by decide) ?_
      exact ih v0 (v1 &&& r3) (v2 + 1) σ2 _ _ ls hT_v0 hG hS hE (lv_sub hl [2, 1, 0] rfl) hF
theorem c_X3_toldToAll (l : Launch) (D : va_G) (cA : Nat → ClassId) (base : Nat) (ad : Nat → Nat) (σ : Hp) (n : Nat) (a0 : Nat) (hT_a0 : hT σ a0 3) {τ : Hp} {r : Int32} (hF : F_X3_toldToAll n a0 σ = some (r, τ)) : MI l yX3_toldToAll cX3_toldToAll 3 (some .int) rm_X3_toldToAll D cA base ad σ [.ref (ad a0)] r τ := by
  refine Met.ofW (cc := cX3_toldToAll) (maxL := 3) (ret := (some .int)) (by decide) rfl ?_
  intro p e s m args below meth c s₁ B hml hv
  obtain ⟨rfl, hv⟩ := hv
  have X : SX D cA base p s m ([.ref (ad a0)] : List Value).toArray meth c cX3_toldToAll 3 (some .int) RX3 := sx_of B hml hv
  have hG := hv.1
  have hS : va_S (bA base) s.heap s.heap [] := va_S.rf
  have hE := xT.rf σ
  have hl := lv_entry ([.ref (ad a0)]) (n := 3) (Nat.le_of_ble_eq_true rfl)
  rw [lg_entry_eq]
  generalize (lg_sl ([.ref (ad a0)]) ++ List.replicate (3 - (lg_sl ([.ref (ad a0)])).length) Slot.unset).toArray = ls at hl ⊢
  have hl : lv_has ls 3 [(0, .ref (ad a0))] := hl
  unfold F_X3_toldToAll at hF
  refine lv_iconst (v := 1) X.1 X.2.1 dX3_toldToAll_0 (by decide) ?_
  refine lv_aload_n X.1 X.2.1 dX3_toldToAll_1 rfl (lv_at hl 0 rfl) ?_
  refine gx_get 0 (v := .int (hI σ a0 0)) X hG hT_a0.1 (hT_a0.eq (by decide)) (by decide) rfl inX3 (by decide) k_41 (fun _ h => h) rfl dX3_toldToAll_2 ?_
  refine lv_ishl X.1 X.2.1 dX3_toldToAll_5 ?_
  refine lv_iconst (v := 1) X.1 X.2.1 dX3_toldToAll_6 (by decide) ?_
  refine lv_isub X.1 X.2.1 dX3_toldToAll_7 ?_
  refine lv_istore_n (lv' := [(1, .int ((1 <<< ((hI σ a0 0) &&& 31)) - 1)), (0, .ref (ad a0))]) X.1 X.2.1 dX3_toldToAll_8 rfl hl (by decide) rfl (fun ls hl => ?_)
  refine lv_iconst (v := 0) X.1 X.2.1 dX3_toldToAll_9 (by decide) ?_
  refine lv_istore_n (lv' := [(2, .int 0), (1, .int ((1 <<< ((hI σ a0 0) &&& 31)) - 1)), (0, .ref (ad a0))]) X.1 X.2.1 dX3_toldToAll_10 rfl hl (by decide) rfl (fun ls hl => ?_)
  exact w_X3_toldToAll_11 X n  n a0 ((1 <<< ((hI σ a0 0) &&& 31)) - 1) 0 σ _ _ ls hT_a0 hG hS hE (lv_sub hl [2, 1, 0] rfl) hF
theorem w_X3_weigh_32 {σ0 τ : Hp} {r : Int32} (X : SX D cA base p s m args meth c cX3_weigh 4 (some .int) RX3) (n : Nat) (K_4 : Nat → Int32 → Int32 → Int32 → Hp → Option (Int32 × Hp)) (hK_4 : ∀ (v0 : Nat) (v1 : Int32) (v2 : Int32) (v3 : Int32) (σ : Hp) (H : Heap) (locs : List Loc) (ls : Array Slot), hT σ v0 3 → GW D cA base ad σ H → va_S (bA base) s.heap H locs → xT σ0 σ → lv_has ls 4 [(0, .ref (ad v0)), (1, .int v1), (2, .int v2), (3, .int v3)] → K_4 v0 v1 v2 v3 σ = some (r, τ) → W p l e rm_X3_weigh s m args below meth c H locs 0 0 (ZI below s args D cA base ad σ0 r τ) (F0 m 4 ls [])) : ∀ (v0 : Nat) (v1 : Int32) (v2 : Int32) (v3 : Int32) (σ : Hp) (H : Heap) (locs : List Loc) (ls : Array Slot), hT σ v0 3 → GW D cA base ad σ H → va_S (bA base) s.heap H locs → xT σ0 σ → lv_has ls 4 [(0, .ref (ad v0)), (1, .int v1), (2, .int v2), (3, .int v3)] → F_X3_weigh_32 n K_4 v0 v1 v2 v3 σ = some (r, τ) → W p l e rm_X3_weigh s m args below meth c H locs 0 0 (ZI below s args D cA base ad σ0 r τ) (F0 m 32 ls []) := by
  intro v0 v1 v2 v3 σ H locs ls hT_v0 hG hS hE hl hF
  unfold F_X3_weigh_32 at hF
  refine lv_iinc (v := v3 + 1) (lv' := [(3, .int (v3 + 1)), (0, .ref (ad v0)), (1, .int v1), (2, .int v2)]) X.1 X.2.1 dX3_weigh_32 hl (k := 3) rfl rfl (by decide) rfl (fun ls hl => ?_)
  refine lv_goto (tgt := 4) X.1 X.2.1 dX3_weigh_35 (by decide) ?_
  exact hK_4 v0 v1 v2 (v3 + 1) σ _ _ ls hT_v0 hG hS hE (lv_sub hl [1, 2, 3, 0] rfl) hF
theorem w_X3_weigh_4 {σ0 τ : Hp} {r : Int32} (X : SX D cA base p s m args meth c cX3_weigh 4 (some .int) RX3) (n : Nat)  : ∀ f : Nat, ∀ (v0 : Nat) (v1 : Int32) (v2 : Int32) (v3 : Int32) (σ : Hp) (H : Heap) (locs : List Loc) (ls : Array Slot), hT σ v0 3 → GW D cA base ad σ H → va_S (bA base) s.heap H locs → xT σ0 σ → lv_has ls 4 [(0, .ref (ad v0)), (1, .int v1), (2, .int v2), (3, .int v3)] → F_X3_weigh_4 n  f v0 v1 v2 v3 σ = some (r, τ) → W p l e rm_X3_weigh s m args below meth c H locs 0 0 (ZI below s args D cA base ad σ0 r τ) (F0 m 4 ls []) := by
  intro f
  induction f with
  | zero => intro v0 v1 v2 v3 σ H locs ls h0 hG hS hE hl hF
            rw [F_X3_weigh_4] at hF; cases hF
  | succ f ih =>
    intro v0 v1 v2 v3 σ H locs ls hT_v0 hG hS hE hl hF
    rw [F_X3_weigh_4] at hF
    refine lv_iload_n X.1 X.2.1 dX3_weigh_4 rfl (lv_at hl 3 rfl) ?_
    refine lv_aload_n X.1 X.2.1 dX3_weigh_5 rfl (lv_at hl 0 rfl) ?_
    refine gx_get 0 (v := .int (hI σ v0 0)) X hG hT_v0.1 (hT_v0.eq (by decide)) (by decide) rfl inX3 (by decide) k_41 (fun _ h => h) rfl dX3_weigh_6 ?_
    refine lv_icmp_ge (tgt := 38) X.1 X.2.1 dX3_weigh_9 (by decide) (fun hc => ?_) (fun hc => ?_)
    · replace hF := it_t hF hc
      refine lv_iload_n X.1 X.2.1 dX3_weigh_38 rfl (lv_at hl 2 rfl) ?_
      exact gx_iret X hG hS hE hF dX3_weigh_39
    · replace hF := it_f hF hc
      refine lv_iload_n X.1 X.2.1 dX3_weigh_12 rfl (lv_at hl 1 rfl) ?_
      refine lv_iload_n X.1 X.2.1 dX3_weigh_13 rfl (lv_at hl 3 rfl) ?_
      refine lv_ishr X.1 X.2.1 dX3_weigh_14 ?_
      refine lv_iconst (v := 1) X.1 X.2.1 dX3_weigh_15 (by decide) ?_
      refine lv_iand X.1 X.2.1 dX3_weigh_16 ?_
      refine lv_iconst (v := 1) X.1 X.2.1 dX3_weigh_17 (by decide) ?_
      refine lv_icmp_ne (tgt := 32) X.1 X.2.1 dX3_weigh_18 (by decide) (fun hc => ?_) (fun hc => ?_)
      · replace hF := it_f hF hc
        exact w_X3_weigh_32 X n (F_X3_weigh_4 n  f) ih v0 v1 v2 v3 σ _ _ ls hT_v0 hG hS hE (lv_sub hl [0, 1, 2, 3] rfl) hF
      · replace hF := it_t hF hc
        refine lv_iload_n X.1 X.2.1 dX3_weigh_21 rfl (lv_at hl 2 rfl) ?_
        refine lv_aload_n X.1 X.2.1 dX3_weigh_22 rfl (lv_at hl 0 rfl) ?_
        obtain ⟨i1, hr, hF⟩ := b1_ex hF
        have hT_i1 : hT σ i1 13 := gw_T hG hT_v0 (by decide) hr
        refine gx_get 1 (v := .ref (ad i1)) X hG hT_v0.1 (hT_v0.eq (by decide)) (by decide) rfl inX3 (by decide) k_42 (fun _ h => h) (gx_rfv hr) dX3_weigh_23 ?_
        refine lv_iload_n X.1 X.2.1 dX3_weigh_26 rfl (lv_at hl 3 rfl) ?_
        obtain ⟨r3, σ2, hz, hF⟩ := b2_ex hF
        refine gx_rI (gx_runSN (As := [.ref (ad i1), .int v3]) (rest := [.int v2]) X hG hS (c_X11_at l D cA base ad σ n i1 v3 hT_i1 hz) k_362 q_360 k_361 k_1 (h_X11_at.2) rfl rfl ⟨by decide, by decide⟩ rfl hl.1 rfl (Nat.le_of_ble_eq_true rfl) dX3_weigh_27 ⟨Nat.zero_le _, Nat.zero_le _⟩) hS (fun H locs hG hS hX => ?_)
        have hT_v0 := hX.T hT_v0
        replace hE := hE.trans hX
        refine lv_iadd X.1 X.2.1 dX3_weigh_30 ?_
        refine lv_istore_n (lv' := [(2, .int (v2 + r3)), (0, .ref (ad v0)), (1, .int v1), (3, .int v3)]) X.1 X.2.1 dX3_weigh_31 rfl hl (by decide) rfl (fun ls hl => ?_)
        exact w_X3_weigh_32 X n (F_X3_weigh_4 n  f) ih v0 v1 (v2 + r3) v3 σ2 _ _ ls hT_v0 hG hS hE (lv_sub hl [1, 2, 0, 3] rfl) hF
theorem c_X3_weigh (l : Launch) (D : va_G) (cA : Nat → ClassId) (base : Nat) (ad : Nat → Nat) (σ : Hp) (n : Nat) (a0 : Nat) (a1 : Int32) (hT_a0 : hT σ a0 3) {τ : Hp} {r : Int32} (hF : F_X3_weigh n a0 a1 σ = some (r, τ)) : MI l yX3_weigh cX3_weigh 4 (some .int) rm_X3_weigh D cA base ad σ [.ref (ad a0), .int a1] r τ := by
  refine Met.ofW (cc := cX3_weigh) (maxL := 4) (ret := (some .int)) (by decide) rfl ?_
  intro p e s m args below meth c s₁ B hml hv
  obtain ⟨rfl, hv⟩ := hv
  have X : SX D cA base p s m ([.ref (ad a0), .int a1] : List Value).toArray meth c cX3_weigh 4 (some .int) RX3 := sx_of B hml hv
  have hG := hv.1
  have hS : va_S (bA base) s.heap s.heap [] := va_S.rf
  have hE := xT.rf σ
  have hl := lv_entry ([.ref (ad a0), .int a1]) (n := 4) (Nat.le_of_ble_eq_true rfl)
  rw [lg_entry_eq]
  generalize (lg_sl ([.ref (ad a0), .int a1]) ++ List.replicate (4 - (lg_sl ([.ref (ad a0), .int a1])).length) Slot.unset).toArray = ls at hl ⊢
  have hl : lv_has ls 4 [(0, .ref (ad a0)), (1, .int a1)] := hl
  unfold F_X3_weigh at hF
  refine lv_iconst (v := 0) X.1 X.2.1 dX3_weigh_0 (by decide) ?_
  refine lv_istore_n (lv' := [(2, .int 0), (0, .ref (ad a0)), (1, .int a1)]) X.1 X.2.1 dX3_weigh_1 rfl hl (by decide) rfl (fun ls hl => ?_)
  refine lv_iconst (v := 0) X.1 X.2.1 dX3_weigh_2 (by decide) ?_
  refine lv_istore_n (lv' := [(3, .int 0), (2, .int 0), (0, .ref (ad a0)), (1, .int a1)]) X.1 X.2.1 dX3_weigh_3 rfl hl (by decide) rfl (fun ls hl => ?_)
  exact w_X3_weigh_4 X n  n a0 a1 0 0 σ _ _ ls hT_a0 hG hS hE (lv_sub hl [2, 3, 1, 0] rfl) hF
theorem w_X3_standAsTold_30 {σ0 τ : Hp} (X : SX D cA base p s m args meth c cX3_standAsTold 2 none RX3) (n : Nat)  : ∀ f : Nat, ∀ (v0 : Nat) (v1 : Int32) (σ : Hp) (H : Heap) (locs : List Loc) (ls : Array Slot), hT σ v0 3 → GW D cA base ad σ H → va_S (bA base) s.heap H locs → xT σ0 σ → lv_has ls 2 [(0, .ref (ad v0)), (1, .int v1)] → F_X3_standAsTold_30 n  f v0 v1 σ = some τ → W p l e rm_X3_standAsTold s m args below meth c H locs 0 0 (ZV below s args D cA base ad σ0 τ) (F0 m 30 ls []) := by
  intro f
  induction f with
  | zero => intro v0 v1 σ H locs ls h0 hG hS hE hl hF
            rw [F_X3_standAsTold_30] at hF; cases hF
  | succ f ih =>
    intro v0 v1 σ H locs ls hT_v0 hG hS hE hl hF
    rw [F_X3_standAsTold_30] at hF
    refine lv_iload_n X.1 X.2.1 dX3_standAsTold_30 rfl (lv_at hl 1 rfl) ?_
    refine lv_aload_n X.1 X.2.1 dX3_standAsTold_31 rfl (lv_at hl 0 rfl) ?_
    refine gx_get 2 (v := .int (hI σ v0 2)) X hG hT_v0.1 (hT_v0.eq (by decide)) (by decide) rfl inX3 (by decide) k_45 (fun _ h => h) rfl dX3_standAsTold_32 ?_
    refine lv_icmp_ge (tgt := 98) X.1 X.2.1 dX3_standAsTold_35 (by decide) (fun hc => ?_) (fun hc => ?_)
    · replace hF := it_t hF hc
      exact gx_vret X hG hS hE hF dX3_standAsTold_98
    · replace hF := it_f hF hc
      refine lv_aload_n X.1 X.2.1 dX3_standAsTold_38 rfl (lv_at hl 0 rfl) ?_
      obtain ⟨i1, hr, hF⟩ := b1_ex hF
      have hT_i1 : hT σ i1 13 := gw_T hG hT_v0 (by decide) hr
      refine gx_get 15 (v := .ref (ad i1)) X hG hT_v0.1 (hT_v0.eq (by decide)) (by decide) rfl inX3 (by decide) k_74 (fun _ h => h) (gx_rfv hr) dX3_standAsTold_39 ?_
      refine lv_iload_n X.1 X.2.1 dX3_standAsTold_42 rfl (lv_at hl 1 rfl) ?_
      refine lv_aload_n X.1 X.2.1 dX3_standAsTold_43 rfl (lv_at hl 0 rfl) ?_
      obtain ⟨i2, hr, hF⟩ := b1_ex hF
      have hT_i2 : hT σ i2 13 := gw_T hG hT_v0 (by decide) hr
      refine gx_get 4 (v := .ref (ad i2)) X hG hT_v0.1 (hT_v0.eq (by decide)) (by decide) rfl inX3 (by decide) k_51 (fun _ h => h) (gx_rfv hr) dX3_standAsTold_44 ?_
      refine lv_iload_n X.1 X.2.1 dX3_standAsTold_47 rfl (lv_at hl 1 rfl) ?_
      obtain ⟨r4, σ3, hz, hF⟩ := b2_ex hF
      refine gx_rI (gx_runSN (As := [.ref (ad i2), .int v1]) (rest := [.int v1, .ref (ad i1)]) X hG hS (c_X11_at l D cA base ad σ n i2 v1 hT_i2 hz) k_362 q_360 k_361 k_1 (h_X11_at.2) rfl rfl ⟨by decide, by decide⟩ rfl hl.1 rfl (Nat.le_of_ble_eq_true rfl) dX3_standAsTold_48 ⟨Nat.zero_le _, Nat.zero_le _⟩) hS (fun H locs hG hS hX => ?_)
      have hT_v0 := hX.T hT_v0
      have hT_i1 := hX.T hT_i1
      replace hE := hE.trans hX
      obtain ⟨σ5, hz, hF⟩ := b1_ex hF
      refine gx_rV (gx_runSN (As := [.ref (ad i1), .int v1, .int r4]) (rest := []) X hG hS (c_X11_store l D cA base ad σ3 n i1 v1 r4 hT_i1 hz) k_173 q_351 k_172 k_1 (h_X11_store.2) rfl rfl ⟨by decide, by decide⟩ rfl hl.1 rfl (Nat.le_of_ble_eq_true rfl) dX3_standAsTold_51 ⟨Nat.zero_le _, Nat.zero_le _⟩) hS (fun H locs hG hS hX => ?_)
      have hT_v0 := hX.T hT_v0
      replace hE := hE.trans hX
      refine lv_aload_n X.1 X.2.1 dX3_standAsTold_54 rfl (lv_at hl 0 rfl) ?_
      obtain ⟨i6, hr, hF⟩ := b1_ex hF
      have hT_i6 : hT σ5 i6 13 := gw_T hG hT_v0 (by decide) hr
      refine gx_get 16 (v := .ref (ad i6)) X hG hT_v0.1 (hT_v0.eq (by decide)) (by decide) rfl inX3 (by decide) k_76 (fun _ h => h) (gx_rfv hr) dX3_standAsTold_55 ?_
      refine lv_iload_n X.1 X.2.1 dX3_standAsTold_58 rfl (lv_at hl 1 rfl) ?_
      refine lv_aload_n X.1 X.2.1 dX3_standAsTold_59 rfl (lv_at hl 0 rfl) ?_
      refine lv_aload_n X.1 X.2.1 dX3_standAsTold_60 rfl (lv_at hl 0 rfl) ?_
      obtain ⟨i7, hr, hF⟩ := b1_ex hF
      have hT_i7 : hT σ5 i7 13 := gw_T hG hT_v0 (by decide) hr
      refine gx_get 4 (v := .ref (ad i7)) X hG hT_v0.1 (hT_v0.eq (by decide)) (by decide) rfl inX3 (by decide) k_51 (fun _ h => h) (gx_rfv hr) dX3_standAsTold_61 ?_
      refine lv_iload_n X.1 X.2.1 dX3_standAsTold_64 rfl (lv_at hl 1 rfl) ?_
      obtain ⟨r9, σ8, hz, hF⟩ := b2_ex hF
      refine gx_rI (gx_runSN (As := [.ref (ad i7), .int v1]) (rest := [.ref (ad v0), .int v1, .ref (ad i6)]) X hG hS (c_X11_at l D cA base ad σ5 n i7 v1 hT_i7 hz) k_362 q_360 k_361 k_1 (h_X11_at.2) rfl rfl ⟨by decide, by decide⟩ rfl hl.1 rfl (Nat.le_of_ble_eq_true rfl) dX3_standAsTold_65 ⟨Nat.zero_le _, Nat.zero_le _⟩) hS (fun H locs hG hS hX => ?_)
      have hT_v0 := hX.T hT_v0
      have hT_i6 := hX.T hT_i6
      replace hE := hE.trans hX
      obtain ⟨r11, σ10, hz, hF⟩ := b2_ex hF
      refine gx_rI (gx_runV (As := [.int r9]) (rest := [.int v1, .ref (ad i6)]) X hG hS hT_v0.1 (hT_v0.eq (by decide)) (by decide) rfl (c_X3_weigh l D cA base ad σ8 n v0 r9 hT_v0 hz) k_366 k_363 k_364 k_365 k_2 (h_X3_weigh) rfl rfl ⟨by decide, by decide⟩ rfl hl.1 rfl (Nat.le_of_ble_eq_true rfl) dX3_standAsTold_68 ⟨Nat.zero_le _, Nat.zero_le _⟩) hS (fun H locs hG hS hX => ?_)
      have hT_v0 := hX.T hT_v0
      have hT_i6 := hX.T hT_i6
      replace hE := hE.trans hX
      obtain ⟨σ12, hz, hF⟩ := b1_ex hF
      refine gx_rV (gx_runSN (As := [.ref (ad i6), .int v1, .int r11]) (rest := []) X hG hS (c_X11_store l D cA base ad σ10 n i6 v1 r11 hT_i6 hz) k_173 q_351 k_172 k_1 (h_X11_store.2) rfl rfl ⟨by decide, by decide⟩ rfl hl.1 rfl (Nat.le_of_ble_eq_true rfl) dX3_standAsTold_71 ⟨Nat.zero_le _, Nat.zero_le _⟩) hS (fun H locs hG hS hX => ?_)
      have hT_v0 := hX.T hT_v0
      replace hE := hE.trans hX
      refine lv_aload_n X.1 X.2.1 dX3_standAsTold_74 rfl (lv_at hl 0 rfl) ?_
      obtain ⟨i13, hr, hF⟩ := b1_ex hF
      have hT_i13 : hT σ12 i13 13 := gw_T hG hT_v0 (by decide) hr
      refine gx_get 17 (v := .ref (ad i13)) X hG hT_v0.1 (hT_v0.eq (by decide)) (by decide) rfl inX3 (by decide) k_78 (fun _ h => h) (gx_rfv hr) dX3_standAsTold_75 ?_
      refine lv_iload_n X.1 X.2.1 dX3_standAsTold_78 rfl (lv_at hl 1 rfl) ?_
      refine lv_iconst (v := 0) X.1 X.2.1 dX3_standAsTold_79 (by decide) ?_
      obtain ⟨σ14, hz, hF⟩ := b1_ex hF
      refine gx_rV (gx_runSN (As := [.ref (ad i13), .int v1, .int 0]) (rest := []) X hG hS (c_X11_store l D cA base ad σ12 n i13 v1 0 hT_i13 hz) k_173 q_351 k_172 k_1 (h_X11_store.2) rfl rfl ⟨by decide, by decide⟩ rfl hl.1 rfl (Nat.le_of_ble_eq_true rfl) dX3_standAsTold_80 ⟨Nat.zero_le _, Nat.zero_le _⟩) hS (fun H locs hG hS hX => ?_)
      have hT_v0 := hX.T hT_v0
      replace hE := hE.trans hX
      refine lv_aload_n X.1 X.2.1 dX3_standAsTold_83 rfl (lv_at hl 0 rfl) ?_
      obtain ⟨i15, hr, hF⟩ := b1_ex hF
      have hT_i15 : hT σ14 i15 13 := gw_T hG hT_v0 (by decide) hr
      refine gx_get 18 (v := .ref (ad i15)) X hG hT_v0.1 (hT_v0.eq (by decide)) (by decide) rfl inX3 (by decide) k_81 (fun _ h => h) (gx_rfv hr) dX3_standAsTold_84 ?_
      refine lv_iload_n X.1 X.2.1 dX3_standAsTold_87 rfl (lv_at hl 1 rfl) ?_
      refine lv_iconst (v := (-1)) X.1 X.2.1 dX3_standAsTold_88 (by decide) ?_
      obtain ⟨σ16, hz, hF⟩ := b1_ex hF
      refine gx_rV (gx_runSN (As := [.ref (ad i15), .int v1, .int (-1)]) (rest := []) X hG hS (c_X11_store l D cA base ad σ14 n i15 v1 (-1) hT_i15 hz) k_173 q_351 k_172 k_1 (h_X11_store.2) rfl rfl ⟨by decide, by decide⟩ rfl hl.1 rfl (Nat.le_of_ble_eq_true rfl) dX3_standAsTold_89 ⟨Nat.zero_le _, Nat.zero_le _⟩) hS (fun H locs hG hS hX => ?_)
      have hT_v0 := hX.T hT_v0
      replace hE := hE.trans hX
      refine lv_iinc (v := v1 + 1) (lv' := [(1, .int (v1 + 1)), (0, .ref (ad v0))]) X.1 X.2.1 dX3_standAsTold_92 hl (k := 1) rfl rfl (by decide) rfl (fun ls hl => ?_)
      refine lv_goto (tgt := 30) X.1 X.2.1 dX3_standAsTold_95 (by decide) ?_
      exact ih v0 (v1 + 1) σ16 _ _ ls hT_v0 hG hS hE (lv_sub hl [1, 0] rfl) hF
theorem c_X3_standAsTold (l : Launch) (D : va_G) (cA : Nat → ClassId) (base : Nat) (ad : Nat → Nat) (σ : Hp) (n : Nat) (a0 : Nat) (hT_a0 : hT σ a0 3) {τ : Hp} (hF : F_X3_standAsTold n a0 σ = some τ) : MV l yX3_standAsTold cX3_standAsTold 2 rm_X3_standAsTold D cA base ad σ [.ref (ad a0)] τ := by
  refine Met.ofW (cc := cX3_standAsTold) (maxL := 2) (ret := none) (by decide) rfl ?_
  intro p e s m args below meth c s₁ B hml hv
  obtain ⟨rfl, hv⟩ := hv
  have X : SX D cA base p s m ([.ref (ad a0)] : List Value).toArray meth c cX3_standAsTold 2 none RX3 := sx_of B hml hv
  have hG := hv.1
  have hS : va_S (bA base) s.heap s.heap [] := va_S.rf
  have hE := xT.rf σ
  have hl := lv_entry ([.ref (ad a0)]) (n := 2) (Nat.le_of_ble_eq_true rfl)
  rw [lg_entry_eq]
  generalize (lg_sl ([.ref (ad a0)]) ++ List.replicate (2 - (lg_sl ([.ref (ad a0)])).length) Slot.unset).toArray = ls at hl ⊢
  have hl : lv_has ls 2 [(0, .ref (ad a0))] := hl
  unfold F_X3_standAsTold at hF
  refine lv_aload_n X.1 X.2.1 dX3_standAsTold_0 rfl (lv_at hl 0 rfl) ?_
  refine lv_iconst (v := 0) X.1 X.2.1 dX3_standAsTold_1 (by decide) ?_
  refine gx_putI 10  X hG hS hT_a0.1 (hT_a0.eq (by decide)) (by decide) rfl inX3 tyX3_ok nmX3 (by decide) k_63 (fun _ h => h) rfl rfl rfl rfl (Nat.le_of_ble_eq_true rfl) dX3_standAsTold_2 hF (fun σ17 H locs hG hS hX hF => ?_)
  have hT_a0 := hX.T hT_a0
  replace hE := hE.trans hX
  refine lv_aload_n X.1 X.2.1 dX3_standAsTold_5 rfl (lv_at hl 0 rfl) ?_
  refine lv_iconst (v := 0) X.1 X.2.1 dX3_standAsTold_6 (by decide) ?_
  refine gx_putI 11  X hG hS hT_a0.1 (hT_a0.eq (by decide)) (by decide) rfl inX3 tyX3_ok nmX3 (by decide) k_65 (fun _ h => h) rfl rfl rfl rfl (Nat.le_of_ble_eq_true rfl) dX3_standAsTold_7 hF (fun σ18 H locs hG hS hX hF => ?_)
  have hT_a0 := hX.T hT_a0
  replace hE := hE.trans hX
  refine lv_aload_n X.1 X.2.1 dX3_standAsTold_10 rfl (lv_at hl 0 rfl) ?_
  refine lv_iconst (v := 0) X.1 X.2.1 dX3_standAsTold_11 (by decide) ?_
  refine gx_putI 12  X hG hS hT_a0.1 (hT_a0.eq (by decide)) (by decide) rfl inX3 tyX3_ok nmX3 (by decide) k_69 (fun _ h => h) rfl rfl rfl rfl (Nat.le_of_ble_eq_true rfl) dX3_standAsTold_12 hF (fun σ19 H locs hG hS hX hF => ?_)
  have hT_a0 := hX.T hT_a0
  replace hE := hE.trans hX
  refine lv_aload_n X.1 X.2.1 dX3_standAsTold_15 rfl (lv_at hl 0 rfl) ?_
  refine lv_iconst (v := 0) X.1 X.2.1 dX3_standAsTold_16 (by decide) ?_
  refine gx_putI 13  X hG hS hT_a0.1 (hT_a0.eq (by decide)) (by decide) rfl inX3 tyX3_ok nmX3 (by decide) k_71 (fun _ h => h) rfl rfl rfl rfl (Nat.le_of_ble_eq_true rfl) dX3_standAsTold_17 hF (fun σ20 H locs hG hS hX hF => ?_)
  have hT_a0 := hX.T hT_a0
  replace hE := hE.trans hX
  refine lv_aload_n X.1 X.2.1 dX3_standAsTold_20 rfl (lv_at hl 0 rfl) ?_
  refine lv_aload_n X.1 X.2.1 dX3_standAsTold_21 rfl (lv_at hl 0 rfl) ?_
  obtain ⟨r22, σ21, hz, hF⟩ := b2_ex hF
  refine gx_rI (gx_runV (As := []) (rest := [.ref (ad a0)]) X hG hS hT_a0.1 (hT_a0.eq (by decide)) (by decide) rfl (c_X3_toldToAll l D cA base ad σ20 n a0 hT_a0 hz) k_359 k_356 k_357 k_358 k_2 (h_X3_toldToAll) rfl rfl ⟨by decide, by decide⟩ rfl hl.1 rfl (Nat.le_of_ble_eq_true rfl) dX3_standAsTold_22 ⟨Nat.zero_le _, Nat.zero_le _⟩) hS (fun H locs hG hS hX => ?_)
  have hT_a0 := hX.T hT_a0
  replace hE := hE.trans hX
  refine gx_putI 14  X hG hS hT_a0.1 (hT_a0.eq (by decide)) (by decide) rfl inX3 tyX3_ok nmX3 (by decide) k_73 (fun _ h => h) rfl rfl rfl rfl (Nat.le_of_ble_eq_true rfl) dX3_standAsTold_25 hF (fun σ23 H locs hG hS hX hF => ?_)
  have hT_a0 := hX.T hT_a0
  replace hE := hE.trans hX
  refine lv_iconst (v := 0) X.1 X.2.1 dX3_standAsTold_28 (by decide) ?_
  refine lv_istore_n (lv' := [(1, .int 0), (0, .ref (ad a0))]) X.1 X.2.1 dX3_standAsTold_29 rfl hl (by decide) rfl (fun ls hl => ?_)
  exact w_X3_standAsTold_30 X n  n a0 0 σ23 _ _ ls hT_a0 hG hS hE (lv_sub hl [1, 0] rfl) hF
end W_class1
