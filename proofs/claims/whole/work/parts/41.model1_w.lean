/-! model1: printed by wip/whole/gen.py -/
section W_model1
variable {p : Program} {l : Launch} {e : Env} {s : State} {m : MethodId} {args : Array Value} {below : List Frame} {meth : Method} {c : Code} {D : va_G} {cA : Nat → ClassId} {base : Nat} {ad : Nat → Nat}
abbrev rm_X12_juror : Room := { frames := 1, cells := 0, slots := 0, locals := 25 }
theorem h_X12_juror : yX12_juror.cls = RX12 ∧ yX12_juror.cls ≠ "java/lang/invoke/MethodHandle" ∧ yX12_juror.cls ≠ "java/lang/invoke/VarHandle" ∧ (parseMethodDescriptor yX12_juror.desc).map (fun d => d.parameters.length) = some 4 := by decide +kernel
def F_X12_juror (n : Nat) (a0 : Nat) (a1 : Int32) (a2 : Int32) (a3 : Int32) (a4 : Int32) (σ : Hp) : Option (Int32 × Hp) := b2 (F_X12_isIn n a1.toInt64 0 7999 σ) fun (r2 : Int32) (σ1 : Hp) => if r2 = 0 then (some ((-1), σ1)) else (b2 (F_X12_isIn n ((a1 - a1 / 100 * 100).toInt64) 1 30 σ1) fun (r4 : Int32) (σ3 : Hp) => if r4 = 0 then (some ((-1), σ3)) else (b2 (F_X12_isIn n a2.toInt64 (-99) 99 σ3) fun (r6 : Int32) (σ5 : Hp) => if r6 = 0 then (some ((-1), σ5)) else (b2 (F_X12_isIn n a3.toInt64 0 999 σ5) fun (r8 : Int32) (σ7 : Hp) => if r8 = 0 then (some ((-1), σ7)) else (b1 (hR σ7 a0 0) fun (i9 : Nat) => ck (¬ ((2 : Int32) < 0 ∨ hL σ7 i9 ≤ (2 : Int32).toNatClampNeg)) (b2 (F_X12_isIn n a4.toInt64 (-1) (((hI σ7 i9 (2 : Int32).toNatClampNeg) - 1).toInt64) σ7) fun (r11 : Int32) (σ10 : Hp) => if r11 = 0 then (some ((-1), σ10)) else (b1 (hR σ10 a0 0) fun (i12 : Nat) => ck (¬ ((1 : Int32) < 0 ∨ hL σ10 i12 ≤ (1 : Int32).toNatClampNeg)) (if (hI σ10 i12 (1 : Int32).toNatClampNeg) = 12 then (some ((-2), σ10)) else (b1 (hR σ10 a0 0) fun (i13 : Nat) => ck (¬ ((1 : Int32) < 0 ∨ hL σ10 i13 ≤ (1 : Int32).toNatClampNeg)) (lt (19 + (7 * (hI σ10 i13 (1 : Int32).toNatClampNeg))) fun (x14 : Int32) => b1 (hR σ10 a0 0) fun (i15 : Nat) => ck (¬ (x14 < 0 ∨ hL σ10 i15 ≤ x14.toNatClampNeg)) (lt (pI σ10 i15 x14.toNatClampNeg (a1 / 1000)) fun (σ16 : Hp) => b1 (hR σ16 a0 0) fun (i17 : Nat) => ck (¬ ((x14 + 1) < 0 ∨ hL σ16 i17 ≤ (x14 + 1).toNatClampNeg)) (lt (pI σ16 i17 (x14 + 1).toNatClampNeg ((a1 / 100) - (a1 / 100) / 10 * 10)) fun (σ18 : Hp) => b1 (hR σ18 a0 0) fun (i19 : Nat) => ck (¬ ((x14 + 2) < 0 ∨ hL σ18 i19 ≤ (x14 + 2).toNatClampNeg)) (lt (pI σ18 i19 (x14 + 2).toNatClampNeg (a1 - a1 / 100 * 100)) fun (σ20 : Hp) => b1 (hR σ20 a0 0) fun (i21 : Nat) => ck (¬ ((x14 + 3) < 0 ∨ hL σ20 i21 ≤ (x14 + 3).toNatClampNeg)) (lt (pI σ20 i21 (x14 + 3).toNatClampNeg a2) fun (σ22 : Hp) => b1 (hR σ22 a0 0) fun (i23 : Nat) => ck (¬ ((x14 + 4) < 0 ∨ hL σ22 i23 ≤ (x14 + 4).toNatClampNeg)) (lt (pI σ22 i23 (x14 + 4).toNatClampNeg a3) fun (σ24 : Hp) => b1 (hR σ24 a0 0) fun (i25 : Nat) => ck (¬ ((x14 + 5) < 0 ∨ hL σ24 i25 ≤ (x14 + 5).toNatClampNeg)) (lt (pI σ24 i25 (x14 + 5).toNatClampNeg a4) fun (σ26 : Hp) => b1 (hR σ26 a0 0) fun (i27 : Nat) => ck (¬ ((x14 + 6) < 0 ∨ hL σ26 i27 ≤ (x14 + 6).toNatClampNeg)) (lt (pI σ26 i27 (x14 + 6).toNatClampNeg 0) fun (σ28 : Hp) => b1 (hR σ28 a0 0) fun (i29 : Nat) => ck (¬ ((1 : Int32) < 0 ∨ hL σ28 i29 ≤ (1 : Int32).toNatClampNeg)) (ck (¬ ((1 : Int32) < 0 ∨ hL σ28 i29 ≤ (1 : Int32).toNatClampNeg)) (lt (pI σ28 i29 (1 : Int32).toNatClampNeg ((hI σ28 i29 (1 : Int32).toNatClampNeg) + 1)) fun (σ30 : Hp) => b1 (hR σ30 a0 4) fun (i31 : Nat) => ck (¬ ((6 : Int32) < 0 ∨ hL σ30 i31 ≤ (6 : Int32).toNatClampNeg)) (lt (pI σ30 i31 (6 : Int32).toNatClampNeg 0) fun (σ32 : Hp) => b1 (hR σ32 a0 0) fun (i33 : Nat) => ck (¬ ((1 : Int32) < 0 ∨ hL σ32 i33 ≤ (1 : Int32).toNatClampNeg)) (some ((hI σ32 i33 (1 : Int32).toNatClampNeg) - 1, σ32)))))))))))))))))))))
abbrev rm_X12_isSet : Room := { frames := 1, cells := 0, slots := 0, locals := 25 }
theorem h_X12_isSet : yX12_isSet.cls = RX12 ∧ yX12_isSet.cls ≠ "java/lang/invoke/MethodHandle" ∧ yX12_isSet.cls ≠ "java/lang/invoke/VarHandle" ∧ (parseMethodDescriptor yX12_isSet.desc).map (fun d => d.parameters.length) = some 1 := by decide +kernel
def F_X12_isSet (n : Nat) (a0 : Nat) (a1 : Int32) (σ : Hp) : Option (Int32 × Hp) := b1 (hR σ a0 0) fun (i1 : Nat) => ck (¬ ((0 : Int32) < 0 ∨ hL σ i1 ≤ (0 : Int32).toNatClampNeg)) (b2 (F_X12_isIn n a1.toInt64 0 (((1 <<< ((hI σ i1 (0 : Int32).toNatClampNeg) &&& 31)) - 1).toInt64) σ) fun (r3 : Int32) (σ2 : Hp) => ck (r3 = 0 ∨ r3 = 1) (some (r3, σ2)))
abbrev rm_X12_holds : Room := { frames := 2, cells := 0, slots := 0, locals := 46 }
theorem h_X12_holds : yX12_holds.cls = RX12 ∧ yX12_holds.cls ≠ "java/lang/invoke/MethodHandle" ∧ yX12_holds.cls ≠ "java/lang/invoke/VarHandle" ∧ (parseMethodDescriptor yX12_holds.desc).map (fun d => d.parameters.length) = some 2 := by decide +kernel
def F_X12_holds (n : Nat) (a0 : Nat) (a1 : Int32) (a2 : Int32) (σ : Hp) : Option (Int32 × Hp) := b2 (F_X12_isJuror n a0 a1 σ) fun (r2 : Int32) (σ1 : Hp) => if r2 = 0 then (some ((-1), σ1)) else (b2 (F_X12_isSet n a0 a2 σ1) fun (r4 : Int32) (σ3 : Hp) => if r4 = 0 then (some ((-1), σ3)) else (b2 (F_X12_becomes n a0 ((19 + (7 * a1)) + 6) a2 σ3) fun (r6 : Int32) (σ5 : Hp) => some (r6, σ5)))
abbrev rm_X12_hasBegun : Room := { frames := 0, cells := 0, slots := 0, locals := 0 }
theorem h_X12_hasBegun : yX12_hasBegun.cls = RX12 ∧ yX12_hasBegun.cls ≠ "java/lang/invoke/MethodHandle" ∧ yX12_hasBegun.cls ≠ "java/lang/invoke/VarHandle" ∧ (parseMethodDescriptor yX12_hasBegun.desc).map (fun d => d.parameters.length) = some 0 := by decide +kernel
def F_X12_hasBegun (n : Nat) (a0 : Nat) (σ : Hp) : Option (Int32 × Hp) := b1 (hR σ a0 4) fun (i1 : Nat) => ck (¬ ((6 : Int32) < 0 ∨ hL σ i1 ≤ (6 : Int32).toNatClampNeg)) (if (hI σ i1 (6 : Int32).toNatClampNeg) = 1 then (some (1, σ)) else (some (0, σ)))
abbrev rm_X12_of : Room := { frames := 2, cells := 0, slots := 0, locals := 46 }
theorem h_X12_of : yX12_of.cls = RX12 ∧ yX12_of.cls ≠ "java/lang/invoke/MethodHandle" ∧ yX12_of.cls ≠ "java/lang/invoke/VarHandle" ∧ (parseMethodDescriptor yX12_of.desc).map (fun d => d.parameters.length) = some 2 := by decide +kernel
def F_X12_of (n : Nat) (a0 : Nat) (a1 : Int32) (a2 : Int32) (σ : Hp) : Option (Int32 × Hp) := b2 (F_X12_isJuror n a0 a1 σ) fun (r2 : Int32) (σ1 : Hp) => if r2 = 0 then (some ((-1000000001), σ1)) else (b2 (F_X12_isIn n a2.toInt64 0 9 σ1) fun (r4 : Int32) (σ3 : Hp) => if r4 = 0 then (some ((-1000000001), σ3)) else (if 6 ≤ a2 then (b2 (F_X12_hasBegun n a0 σ3) fun (r6 : Int32) (σ5 : Hp) => if r6 = 0 then (if a2 = 6 then (b2 (F_X12_get n a0 a1 6 σ5) fun (r12 : Int32) (σ11 : Hp) => some (r12, σ11)) else (some (0, σ5))) else (if a2 = 6 then (b1 (hR σ5 a0 4) fun (i8 : Nat) => ck (¬ ((19 + a1) < 0 ∨ hL σ5 i8 ≤ (19 + a1).toNatClampNeg)) (some (hI σ5 i8 (19 + a1).toNatClampNeg, σ5))) else (if a2 = 7 then (b1 (hR σ5 a0 4) fun (i9 : Nat) => ck (¬ ((31 + a1) < 0 ∨ hL σ5 i9 ≤ (31 + a1).toNatClampNeg)) (some (hI σ5 i9 (31 + a1).toNatClampNeg, σ5))) else (if a2 = 8 then (b1 (hR σ5 a0 4) fun (i10 : Nat) => ck (¬ ((43 + a1) < 0 ∨ hL σ5 i10 ≤ (43 + a1).toNatClampNeg)) (some (hI σ5 i10 (43 + a1).toNatClampNeg, σ5))) else (b1 (hR σ5 a0 4) fun (i7 : Nat) => ck (¬ ((55 + a1) < 0 ∨ hL σ5 i7 ≤ (55 + a1).toNatClampNeg)) (if (hI σ5 i7 (55 + a1).toNatClampNeg) ≤ 0 then (some (0, σ5)) else (some (1, σ5)))))))) else (b2 (F_X12_get n a0 a1 a2 σ3) fun (r14 : Int32) (σ13 : Hp) => some (r14, σ13))))
abbrev rm_X12_sign : Room := { frames := 0, cells := 0, slots := 0, locals := 0 }
theorem h_X12_sign : yX12_sign.cls = RX12 ∧ yX12_sign.cls ≠ "java/lang/invoke/MethodHandle" ∧ yX12_sign.cls ≠ "java/lang/invoke/VarHandle" ∧ (parseMethodDescriptor yX12_sign.desc).map (fun d => d.parameters.length) = some 0 := by decide +kernel
def F_X12_sign (n : Nat) (a0 : Nat) (σ : Hp) : Option (Int32 × Hp) := if (hI σ a0 18) ≤ (hI σ a0 16) then (some ((-1000), σ)) else (b1 (hR σ a0 15) fun (i1 : Nat) => ck (¬ (((hI σ a0 17) + (hI σ a0 16)) < 0 ∨ hL σ i1 ≤ ((hI σ a0 17) + (hI σ a0 16)).toNatClampNeg)) (some (hI σ i1 ((hI σ a0 17) + (hI σ a0 16)).toNatClampNeg, σ)))
theorem c_X12_juror (l : Launch) (D : va_G) (cA : Nat → ClassId) (base : Nat) (ad : Nat → Nat) (σ : Hp) (n : Nat) (a0 : Nat) (a1 : Int32) (a2 : Int32) (a3 : Int32) (a4 : Int32) (hT_a0 : hT σ a0 12) {τ : Hp} {r : Int32} (hF : F_X12_juror n a0 a1 a2 a3 a4 σ = some (r, τ)) : MI l yX12_juror cX12_juror 6 (some .int) rm_X12_juror D cA base ad σ [.ref (ad a0), .int a1, .int a2, .int a3, .int a4] r τ := by
  refine Met.ofW (cc := cX12_juror) (maxL := 6) (ret := (some .int)) (by decide) rfl ?_
  intro p e s m args below meth c s₁ B hml hv
  obtain ⟨rfl, hv⟩ := hv
  have X : SX D cA base p s m ([.ref (ad a0), .int a1, .int a2, .int a3, .int a4] : List Value).toArray meth c cX12_juror 6 (some .int) RX12 := sx_of B hml hv
  have hG := hv.1
  have hS : va_S (bA base) s.heap s.heap [] := va_S.rf
  have hE := xT.rf σ
  have hl := lv_entry ([.ref (ad a0), .int a1, .int a2, .int a3, .int a4]) (n := 6) (Nat.le_of_ble_eq_true rfl)
  rw [lg_entry_eq]
  generalize (lg_sl ([.ref (ad a0), .int a1, .int a2, .int a3, .int a4]) ++ List.replicate (6 - (lg_sl ([.ref (ad a0), .int a1, .int a2, .int a3, .int a4])).length) Slot.unset).toArray = ls at hl ⊢
  have hl : lv_has ls 6 [(0, .ref (ad a0)), (1, .int a1), (2, .int a2), (3, .int a3), (4, .int a4)] := hl
  unfold F_X12_juror at hF
  refine lv_iload_n X.1 X.2.1 dX12_juror_0 rfl (lv_at hl 1 rfl) ?_
  refine lv_i2l X.1 X.2.1 dX12_juror_1 rfl ?_
  refine lv_lconst (v := 0) X.1 X.2.1 dX12_juror_2 (by decide) ?_
  refine lv_ldc2 (v := 7999) X.1 X.2.1 X.2.2.2.2.2.1 (X.w k_1068) dX12_juror_3 ?_
  obtain ⟨r2, σ1, hz, hF⟩ := b2_ex hF
  refine gx_rI (gx_runS (As := [.long a1.toInt64, .long 0, .long 7999]) (rest := []) X hG hS (c_X12_isIn l D cA base ad σ n a1.toInt64 0 7999 hz) k_1063 k_1061 k_1062 k_4 (h_X12_isIn.2) rfl rfl ⟨by decide, by decide⟩ rfl hl.1 rfl (Nat.le_of_ble_eq_true rfl) dX12_juror_6 ⟨Nat.zero_le _, Nat.zero_le _⟩) hS (fun H locs hG hS hX => ?_)
  have hT_a0 := hX.T hT_a0
  replace hE := hE.trans hX
  refine lv_if_eq (tgt := 74) X.1 X.2.1 dX12_juror_9 (by decide) (fun hc => ?_) (fun hc => ?_)
  · replace hF := it_t hF hc
    refine lv_iconst (v := (-1)) X.1 X.2.1 dX12_juror_74 (by decide) ?_
    exact gx_iret X hG hS hE hF dX12_juror_75
  · replace hF := it_f hF hc
    refine lv_iload_n X.1 X.2.1 dX12_juror_12 rfl (lv_at hl 1 rfl) ?_
    refine lv_bipush (v := 100) X.1 X.2.1 dX12_juror_13 (by decide) ?_
    refine lv_irem X.1 X.2.1 dX12_juror_15 (by decide) ?_
    refine lv_i2l X.1 X.2.1 dX12_juror_16 rfl ?_
    refine lv_lconst (v := 1) X.1 X.2.1 dX12_juror_17 (by decide) ?_
    refine lv_ldc2 (v := 30) X.1 X.2.1 X.2.2.2.2.2.1 (X.w k_1069) dX12_juror_18 ?_
    obtain ⟨r4, σ3, hz, hF⟩ := b2_ex hF
    refine gx_rI (gx_runS (As := [.long ((a1 - a1 / 100 * 100).toInt64), .long 1, .long 30]) (rest := []) X hG hS (c_X12_isIn l D cA base ad σ1 n ((a1 - a1 / 100 * 100).toInt64) 1 30 hz) k_1063 k_1061 k_1062 k_4 (h_X12_isIn.2) rfl rfl ⟨by decide, by decide⟩ rfl hl.1 rfl (Nat.le_of_ble_eq_true rfl) dX12_juror_21 ⟨Nat.zero_le _, Nat.zero_le _⟩) hS (fun H locs hG hS hX => ?_)
    have hT_a0 := hX.T hT_a0
    replace hE := hE.trans hX
    refine lv_if_eq (tgt := 74) X.1 X.2.1 dX12_juror_24 (by decide) (fun hc => ?_) (fun hc => ?_)
    · replace hF := it_t hF hc
      refine lv_iconst (v := (-1)) X.1 X.2.1 dX12_juror_74 (by decide) ?_
      exact gx_iret X hG hS hE hF dX12_juror_75
    · replace hF := it_f hF hc
      refine lv_iload_n X.1 X.2.1 dX12_juror_27 rfl (lv_at hl 2 rfl) ?_
      refine lv_i2l X.1 X.2.1 dX12_juror_28 rfl ?_
      refine lv_ldc2 (v := (-99)) X.1 X.2.1 X.2.2.2.2.2.1 (X.w k_1070) dX12_juror_29 ?_
      refine lv_ldc2 (v := 99) X.1 X.2.1 X.2.2.2.2.2.1 (X.w k_1071) dX12_juror_32 ?_
      obtain ⟨r6, σ5, hz, hF⟩ := b2_ex hF
      refine gx_rI (gx_runS (As := [.long a2.toInt64, .long (-99), .long 99]) (rest := []) X hG hS (c_X12_isIn l D cA base ad σ3 n a2.toInt64 (-99) 99 hz) k_1063 k_1061 k_1062 k_4 (h_X12_isIn.2) rfl rfl ⟨by decide, by decide⟩ rfl hl.1 rfl (Nat.le_of_ble_eq_true rfl) dX12_juror_35 ⟨Nat.zero_le _, Nat.zero_le _⟩) hS (fun H locs hG hS hX => ?_)
      have hT_a0 := hX.T hT_a0
      replace hE := hE.trans hX
      refine lv_if_eq (tgt := 74) X.1 X.2.1 dX12_juror_38 (by decide) (fun hc => ?_) (fun hc => ?_)
      · replace hF := it_t hF hc
        refine lv_iconst (v := (-1)) X.1 X.2.1 dX12_juror_74 (by decide) ?_
        exact gx_iret X hG hS hE hF dX12_juror_75
      · replace hF := it_f hF hc
        refine lv_iload_n X.1 X.2.1 dX12_juror_41 rfl (lv_at hl 3 rfl) ?_
        refine lv_i2l X.1 X.2.1 dX12_juror_42 rfl ?_
        refine lv_lconst (v := 0) X.1 X.2.1 dX12_juror_43 (by decide) ?_
        refine lv_ldc2 (v := 999) X.1 X.2.1 X.2.2.2.2.2.1 (X.w k_1072) dX12_juror_44 ?_
        obtain ⟨r8, σ7, hz, hF⟩ := b2_ex hF
        refine gx_rI (gx_runS (As := [.long a3.toInt64, .long 0, .long 999]) (rest := []) X hG hS (c_X12_isIn l D cA base ad σ5 n a3.toInt64 0 999 hz) k_1063 k_1061 k_1062 k_4 (h_X12_isIn.2) rfl rfl ⟨by decide, by decide⟩ rfl hl.1 rfl (Nat.le_of_ble_eq_true rfl) dX12_juror_47 ⟨Nat.zero_le _, Nat.zero_le _⟩) hS (fun H locs hG hS hX => ?_)
        have hT_a0 := hX.T hT_a0
        replace hE := hE.trans hX
        refine lv_if_eq (tgt := 74) X.1 X.2.1 dX12_juror_50 (by decide) (fun hc => ?_) (fun hc => ?_)
        · replace hF := it_t hF hc
          refine lv_iconst (v := (-1)) X.1 X.2.1 dX12_juror_74 (by decide) ?_
          exact gx_iret X hG hS hE hF dX12_juror_75
        · replace hF := it_f hF hc
          refine lv_iload X.1 X.2.1 dX12_juror_53 (lv_at hl 4 rfl) ?_
          refine lv_i2l X.1 X.2.1 dX12_juror_55 rfl ?_
          refine lv_ldc2 (v := (-1)) X.1 X.2.1 X.2.2.2.2.2.1 (X.w k_1073) dX12_juror_56 ?_
          refine lv_aload_n X.1 X.2.1 dX12_juror_59 rfl (lv_at hl 0 rfl) ?_
          obtain ⟨i9, hr, hF⟩ := b1_ex hF
          have hT_i9 : hT σ7 i9 13 := gw_T hG hT_a0 (by decide) hr
          refine gx_get 0 (v := .ref (ad i9)) X hG hT_a0.1 (hT_a0.eq (by decide)) (by decide) rfl inX12 (by decide) k_960 (fun _ h => h) (gx_rfv hr) dX12_juror_60 ?_
          refine lv_iconst (v := 2) X.1 X.2.1 dX12_juror_63 (by decide) ?_
          refine gx_iald X hG hT_i9 hF dX12_juror_64 (fun hF => ?_)
          refine lv_iconst (v := 1) X.1 X.2.1 dX12_juror_65 (by decide) ?_
          refine lv_isub X.1 X.2.1 dX12_juror_66 ?_
          refine lv_i2l X.1 X.2.1 dX12_juror_67 rfl ?_
          obtain ⟨r11, σ10, hz, hF⟩ := b2_ex hF
          refine gx_rI (gx_runS (As := [.long a4.toInt64, .long (-1), .long (((hI σ7 i9 (2 : Int32).toNatClampNeg) - 1).toInt64)]) (rest := []) X hG hS (c_X12_isIn l D cA base ad σ7 n a4.toInt64 (-1) (((hI σ7 i9 (2 : Int32).toNatClampNeg) - 1).toInt64) hz) k_1063 k_1061 k_1062 k_4 (h_X12_isIn.2) rfl rfl ⟨by decide, by decide⟩ rfl hl.1 rfl (Nat.le_of_ble_eq_true rfl) dX12_juror_68 ⟨Nat.zero_le _, Nat.zero_le _⟩) hS (fun H locs hG hS hX => ?_)
          have hT_a0 := hX.T hT_a0
          replace hE := hE.trans hX
          refine lv_if_ne (tgt := 76) X.1 X.2.1 dX12_juror_71 (by decide) (fun hc => ?_) (fun hc => ?_)
          · replace hF := it_f hF hc
            refine lv_aload_n X.1 X.2.1 dX12_juror_76 rfl (lv_at hl 0 rfl) ?_
            obtain ⟨i12, hr, hF⟩ := b1_ex hF
            have hT_i12 : hT σ10 i12 13 := gw_T hG hT_a0 (by decide) hr
            refine gx_get 0 (v := .ref (ad i12)) X hG hT_a0.1 (hT_a0.eq (by decide)) (by decide) rfl inX12 (by decide) k_960 (fun _ h => h) (gx_rfv hr) dX12_juror_77 ?_
            refine lv_iconst (v := 1) X.1 X.2.1 dX12_juror_80 (by decide) ?_
            refine gx_iald X hG hT_i12 hF dX12_juror_81 (fun hF => ?_)
            refine lv_bipush (v := 12) X.1 X.2.1 dX12_juror_82 (by decide) ?_
            refine lv_icmp_ne (tgt := 90) X.1 X.2.1 dX12_juror_84 (by decide) (fun hc => ?_) (fun hc => ?_)
            · replace hF := it_f hF hc
              refine lv_bipush (v := 19) X.1 X.2.1 dX12_juror_90 (by decide) ?_
              refine lv_bipush (v := 7) X.1 X.2.1 dX12_juror_92 (by decide) ?_
              refine lv_aload_n X.1 X.2.1 dX12_juror_94 rfl (lv_at hl 0 rfl) ?_
              obtain ⟨i13, hr, hF⟩ := b1_ex hF
              have hT_i13 : hT σ10 i13 13 := gw_T hG hT_a0 (by decide) hr
              refine gx_get 0 (v := .ref (ad i13)) X hG hT_a0.1 (hT_a0.eq (by decide)) (by decide) rfl inX12 (by decide) k_960 (fun _ h => h) (gx_rfv hr) dX12_juror_95 ?_
              refine lv_iconst (v := 1) X.1 X.2.1 dX12_juror_98 (by decide) ?_
              refine gx_iald X hG hT_i13 hF dX12_juror_99 (fun hF => ?_)
              refine lv_imul X.1 X.2.1 dX12_juror_100 ?_
              refine lv_iadd X.1 X.2.1 dX12_juror_101 ?_
              refine lv_topi (fun x14 ex14 => ?_)
              replace hF := lt_nm hF ex14
              refine lv_istore (lv' := [(5, .int x14), (0, .ref (ad a0)), (1, .int a1), (2, .int a2), (3, .int a3), (4, .int a4)]) X.1 X.2.1 dX12_juror_102 hl (by decide) rfl (fun ls hl => ?_)
              refine lv_aload_n X.1 X.2.1 dX12_juror_104 rfl (lv_at hl 1 rfl) ?_
              obtain ⟨i15, hr, hF⟩ := b1_ex hF
              have hT_i15 : hT σ10 i15 13 := gw_T hG hT_a0 (by decide) hr
              refine gx_get 0 (v := .ref (ad i15)) X hG hT_a0.1 (hT_a0.eq (by decide)) (by decide) rfl inX12 (by decide) k_960 (fun _ h => h) (gx_rfv hr) dX12_juror_105 ?_
              refine lv_iload X.1 X.2.1 dX12_juror_108 (lv_at hl 0 rfl) ?_
              refine lv_iload_n X.1 X.2.1 dX12_juror_110 rfl (lv_at hl 2 rfl) ?_
              refine lv_sipush (v := 1000) X.1 X.2.1 dX12_juror_111 (by decide) ?_
              refine lv_idiv X.1 X.2.1 dX12_juror_114 (by decide) ?_
              refine gx_iast X hG hS hT_i15 hF dX12_juror_115 (fun σ16 H locs hG hS hX hF => ?_)
              have hT_a0 := hX.T hT_a0
              replace hE := hE.trans hX
              refine lv_aload_n X.1 X.2.1 dX12_juror_116 rfl (lv_at hl 1 rfl) ?_
              obtain ⟨i17, hr, hF⟩ := b1_ex hF
              have hT_i17 : hT σ16 i17 13 := gw_T hG hT_a0 (by decide) hr
              refine gx_get 0 (v := .ref (ad i17)) X hG hT_a0.1 (hT_a0.eq (by decide)) (by decide) rfl inX12 (by decide) k_960 (fun _ h => h) (gx_rfv hr) dX12_juror_117 ?_
              refine lv_iload X.1 X.2.1 dX12_juror_120 (lv_at hl 0 rfl) ?_
              refine lv_iconst (v := 1) X.1 X.2.1 dX12_juror_122 (by decide) ?_
              refine lv_iadd X.1 X.2.1 dX12_juror_123 ?_
              refine lv_iload_n X.1 X.2.1 dX12_juror_124 rfl (lv_at hl 2 rfl) ?_
              refine lv_bipush (v := 100) X.1 X.2.1 dX12_juror_125 (by decide) ?_
              refine lv_idiv X.1 X.2.1 dX12_juror_127 (by decide) ?_
              refine lv_bipush (v := 10) X.1 X.2.1 dX12_juror_128 (by decide) ?_
              refine lv_irem X.1 X.2.1 dX12_juror_130 (by decide) ?_
              refine gx_iast X hG hS hT_i17 hF dX12_juror_131 (fun σ18 H locs hG hS hX hF => ?_)
              have hT_a0 := hX.T hT_a0
              replace hE := hE.trans hX
              refine lv_aload_n X.1 X.2.1 dX12_juror_132 rfl (lv_at hl 1 rfl) ?_
              obtain ⟨i19, hr, hF⟩ := b1_ex hF
              have hT_i19 : hT σ18 i19 13 := gw_T hG hT_a0 (by decide) hr
              refine gx_get 0 (v := .ref (ad i19)) X hG hT_a0.1 (hT_a0.eq (by decide)) (by decide) rfl inX12 (by decide) k_960 (fun _ h => h) (gx_rfv hr) dX12_juror_133 ?_
              refine lv_iload X.1 X.2.1 dX12_juror_136 (lv_at hl 0 rfl) ?_
              refine lv_iconst (v := 2) X.1 X.2.1 dX12_juror_138 (by decide) ?_
              refine lv_iadd X.1 X.2.1 dX12_juror_139 ?_
              refine lv_iload_n X.1 X.2.1 dX12_juror_140 rfl (lv_at hl 2 rfl) ?_
              refine lv_bipush (v := 100) X.1 X.2.1 dX12_juror_141 (by decide) ?_
              refine lv_irem X.1 X.2.1 dX12_juror_143 (by decide) ?_
              refine gx_iast X hG hS hT_i19 hF dX12_juror_144 (fun σ20 H locs hG hS hX hF => ?_)
              have hT_a0 := hX.T hT_a0
              replace hE := hE.trans hX
              refine lv_aload_n X.1 X.2.1 dX12_juror_145 rfl (lv_at hl 1 rfl) ?_
              obtain ⟨i21, hr, hF⟩ := b1_ex hF
              have hT_i21 : hT σ20 i21 13 := gw_T hG hT_a0 (by decide) hr
              refine gx_get 0 (v := .ref (ad i21)) X hG hT_a0.1 (hT_a0.eq (by decide)) (by decide) rfl inX12 (by decide) k_960 (fun _ h => h) (gx_rfv hr) dX12_juror_146 ?_
              refine lv_iload X.1 X.2.1 dX12_juror_149 (lv_at hl 0 rfl) ?_
              refine lv_iconst (v := 3) X.1 X.2.1 dX12_juror_151 (by decide) ?_
              refine lv_iadd X.1 X.2.1 dX12_juror_152 ?_
              refine lv_iload_n X.1 X.2.1 dX12_juror_153 rfl (lv_at hl 3 rfl) ?_
              refine gx_iast X hG hS hT_i21 hF dX12_juror_154 (fun σ22 H locs hG hS hX hF => ?_)
              have hT_a0 := hX.T hT_a0
              replace hE := hE.trans hX
              refine lv_aload_n X.1 X.2.1 dX12_juror_155 rfl (lv_at hl 1 rfl) ?_
              obtain ⟨i23, hr, hF⟩ := b1_ex hF
              have hT_i23 : hT σ22 i23 13 := gw_T hG hT_a0 (by decide) hr
              refine gx_get 0 (v := .ref (ad i23)) X hG hT_a0.1 (hT_a0.eq (by decide)) (by decide) rfl inX12 (by decide) k_960 (fun _ h => h) (gx_rfv hr) dX12_juror_156 ?_
              refine lv_iload X.1 X.2.1 dX12_juror_159 (lv_at hl 0 rfl) ?_
              refine lv_iconst (v := 4) X.1 X.2.1 dX12_juror_161 (by decide) ?_
              refine lv_iadd X.1 X.2.1 dX12_juror_162 ?_
              refine lv_iload_n X.1 X.2.1 dX12_juror_163 rfl (lv_at hl 4 rfl) ?_
              refine gx_iast X hG hS hT_i23 hF dX12_juror_164 (fun σ24 H locs hG hS hX hF => ?_)
              have hT_a0 := hX.T hT_a0
              replace hE := hE.trans hX
              refine lv_aload_n X.1 X.2.1 dX12_juror_165 rfl (lv_at hl 1 rfl) ?_
              obtain ⟨i25, hr, hF⟩ := b1_ex hF
              have hT_i25 : hT σ24 i25 13 := gw_T hG hT_a0 (by decide) hr
              refine gx_get 0 (v := .ref (ad i25)) X hG hT_a0.1 (hT_a0.eq (by decide)) (by decide) rfl inX12 (by decide) k_960 (fun _ h => h) (gx_rfv hr) dX12_juror_166 ?_
              refine lv_iload X.1 X.2.1 dX12_juror_169 (lv_at hl 0 rfl) ?_
              refine lv_iconst (v := 5) X.1 X.2.1 dX12_juror_171 (by decide) ?_
              refine lv_iadd X.1 X.2.1 dX12_juror_172 ?_
              refine lv_iload X.1 X.2.1 dX12_juror_173 (lv_at hl 5 rfl) ?_
              refine gx_iast X hG hS hT_i25 hF dX12_juror_175 (fun σ26 H locs hG hS hX hF => ?_)
              have hT_a0 := hX.T hT_a0
              replace hE := hE.trans hX
              refine lv_aload_n X.1 X.2.1 dX12_juror_176 rfl (lv_at hl 1 rfl) ?_
              obtain ⟨i27, hr, hF⟩ := b1_ex hF
              have hT_i27 : hT σ26 i27 13 := gw_T hG hT_a0 (by decide) hr
              refine gx_get 0 (v := .ref (ad i27)) X hG hT_a0.1 (hT_a0.eq (by decide)) (by decide) rfl inX12 (by decide) k_960 (fun _ h => h) (gx_rfv hr) dX12_juror_177 ?_
              refine lv_iload X.1 X.2.1 dX12_juror_180 (lv_at hl 0 rfl) ?_
              refine lv_bipush (v := 6) X.1 X.2.1 dX12_juror_182 (by decide) ?_
              refine lv_iadd X.1 X.2.1 dX12_juror_184 ?_
              refine lv_iconst (v := 0) X.1 X.2.1 dX12_juror_185 (by decide) ?_
              refine gx_iast X hG hS hT_i27 hF dX12_juror_186 (fun σ28 H locs hG hS hX hF => ?_)
              have hT_a0 := hX.T hT_a0
              replace hE := hE.trans hX
              refine lv_aload_n X.1 X.2.1 dX12_juror_187 rfl (lv_at hl 1 rfl) ?_
              obtain ⟨i29, hr, hF⟩ := b1_ex hF
              have hT_i29 : hT σ28 i29 13 := gw_T hG hT_a0 (by decide) hr
              refine gx_get 0 (v := .ref (ad i29)) X hG hT_a0.1 (hT_a0.eq (by decide)) (by decide) rfl inX12 (by decide) k_960 (fun _ h => h) (gx_rfv hr) dX12_juror_188 ?_
              refine lv_iconst (v := 1) X.1 X.2.1 dX12_juror_191 (by decide) ?_
              refine lv_dup2_11 X.1 X.2.1 dX12_juror_192 rfl rfl ?_
              refine gx_iald X hG hT_i29 hF dX12_juror_193 (fun hF => ?_)
              refine lv_iconst (v := 1) X.1 X.2.1 dX12_juror_194 (by decide) ?_
              refine lv_iadd X.1 X.2.1 dX12_juror_195 ?_
              refine gx_iast X hG hS hT_i29 hF dX12_juror_196 (fun σ30 H locs hG hS hX hF => ?_)
              have hT_a0 := hX.T hT_a0
              replace hE := hE.trans hX
              refine lv_aload_n X.1 X.2.1 dX12_juror_197 rfl (lv_at hl 1 rfl) ?_
              obtain ⟨i31, hr, hF⟩ := b1_ex hF
              have hT_i31 : hT σ30 i31 13 := gw_T hG hT_a0 (by decide) hr
              refine gx_get 4 (v := .ref (ad i31)) X hG hT_a0.1 (hT_a0.eq (by decide)) (by decide) rfl inX12 (by decide) k_964 (fun _ h => h) (gx_rfv hr) dX12_juror_198 ?_
              refine lv_bipush (v := 6) X.1 X.2.1 dX12_juror_201 (by decide) ?_
              refine lv_iconst (v := 0) X.1 X.2.1 dX12_juror_203 (by decide) ?_
              refine gx_iast X hG hS hT_i31 hF dX12_juror_204 (fun σ32 H locs hG hS hX hF => ?_)
              have hT_a0 := hX.T hT_a0
              replace hE := hE.trans hX
              refine lv_aload_n X.1 X.2.1 dX12_juror_205 rfl (lv_at hl 1 rfl) ?_
              obtain ⟨i33, hr, hF⟩ := b1_ex hF
              have hT_i33 : hT σ32 i33 13 := gw_T hG hT_a0 (by decide) hr
              refine gx_get 0 (v := .ref (ad i33)) X hG hT_a0.1 (hT_a0.eq (by decide)) (by decide) rfl inX12 (by decide) k_960 (fun _ h => h) (gx_rfv hr) dX12_juror_206 ?_
              refine lv_iconst (v := 1) X.1 X.2.1 dX12_juror_209 (by decide) ?_
              refine gx_iald X hG hT_i33 hF dX12_juror_210 (fun hF => ?_)
              refine lv_iconst (v := 1) X.1 X.2.1 dX12_juror_211 (by decide) ?_
              refine lv_isub X.1 X.2.1 dX12_juror_212 ?_
              exact gx_iret X hG hS hE hF dX12_juror_213
            · replace hF := it_t hF hc
              refine lv_bipush (v := (-2)) X.1 X.2.1 dX12_juror_87 (by decide) ?_
              exact gx_iret X hG hS hE hF dX12_juror_89
          · replace hF := it_t hF hc
            refine lv_iconst (v := (-1)) X.1 X.2.1 dX12_juror_74 (by decide) ?_
            exact gx_iret X hG hS hE hF dX12_juror_75
theorem c_X12_isSet (l : Launch) (D : va_G) (cA : Nat → ClassId) (base : Nat) (ad : Nat → Nat) (σ : Hp) (n : Nat) (a0 : Nat) (a1 : Int32) (hT_a0 : hT σ a0 12) {τ : Hp} {r : Int32} (hF : F_X12_isSet n a0 a1 σ = some (r, τ)) : MI l yX12_isSet cX12_isSet 2 (some .boolean) rm_X12_isSet D cA base ad σ [.ref (ad a0), .int a1] r τ := by
  refine Met.ofW (cc := cX12_isSet) (maxL := 2) (ret := (some .boolean)) (by decide) rfl ?_
  intro p e s m args below meth c s₁ B hml hv
  obtain ⟨rfl, hv⟩ := hv
  have X : SX D cA base p s m ([.ref (ad a0), .int a1] : List Value).toArray meth c cX12_isSet 2 (some .boolean) RX12 := sx_of B hml hv
  have hG := hv.1
  have hS : va_S (bA base) s.heap s.heap [] := va_S.rf
  have hE := xT.rf σ
  have hl := lv_entry ([.ref (ad a0), .int a1]) (n := 2) (Nat.le_of_ble_eq_true rfl)
  rw [lg_entry_eq]
  generalize (lg_sl ([.ref (ad a0), .int a1]) ++ List.replicate (2 - (lg_sl ([.ref (ad a0), .int a1])).length) Slot.unset).toArray = ls at hl ⊢
  have hl : lv_has ls 2 [(0, .ref (ad a0)), (1, .int a1)] := hl
  unfold F_X12_isSet at hF
  refine lv_iload_n X.1 X.2.1 dX12_isSet_0 rfl (lv_at hl 1 rfl) ?_
  refine lv_i2l X.1 X.2.1 dX12_isSet_1 rfl ?_
  refine lv_lconst (v := 0) X.1 X.2.1 dX12_isSet_2 (by decide) ?_
  refine lv_iconst (v := 1) X.1 X.2.1 dX12_isSet_3 (by decide) ?_
  refine lv_aload_n X.1 X.2.1 dX12_isSet_4 rfl (lv_at hl 0 rfl) ?_
  obtain ⟨i1, hr, hF⟩ := b1_ex hF
  have hT_i1 : hT σ i1 13 := gw_T hG hT_a0 (by decide) hr
  refine gx_get 0 (v := .ref (ad i1)) X hG hT_a0.1 (hT_a0.eq (by decide)) (by decide) rfl inX12 (by decide) k_960 (fun _ h => h) (gx_rfv hr) dX12_isSet_5 ?_
  refine lv_iconst (v := 0) X.1 X.2.1 dX12_isSet_8 (by decide) ?_
  refine gx_iald X hG hT_i1 hF dX12_isSet_9 (fun hF => ?_)
  refine lv_ishl X.1 X.2.1 dX12_isSet_10 ?_
  refine lv_iconst (v := 1) X.1 X.2.1 dX12_isSet_11 (by decide) ?_
  refine lv_isub X.1 X.2.1 dX12_isSet_12 ?_
  refine lv_i2l X.1 X.2.1 dX12_isSet_13 rfl ?_
  obtain ⟨r3, σ2, hz, hF⟩ := b2_ex hF
  refine gx_rI (gx_runS (As := [.long a1.toInt64, .long 0, .long (((1 <<< ((hI σ i1 (0 : Int32).toNatClampNeg) &&& 31)) - 1).toInt64)]) (rest := []) X hG hS (c_X12_isIn l D cA base ad σ n a1.toInt64 0 (((1 <<< ((hI σ i1 (0 : Int32).toNatClampNeg) &&& 31)) - 1).toInt64) hz) k_1063 k_1061 k_1062 k_4 (h_X12_isIn.2) rfl rfl ⟨by decide, by decide⟩ rfl hl.1 rfl (Nat.le_of_ble_eq_true rfl) dX12_isSet_14 ⟨Nat.zero_le _, Nat.zero_le _⟩) hS (fun H locs hG hS hX => ?_)
  have hT_a0 := hX.T hT_a0
  replace hE := hE.trans hX
  obtain ⟨hz01, hF⟩ := ck_ex hF
  exact gx_zret X hG hS hE hF (nz_b hz01) dX12_isSet_17
theorem c_X12_holds (l : Launch) (D : va_G) (cA : Nat → ClassId) (base : Nat) (ad : Nat → Nat) (σ : Hp) (n : Nat) (a0 : Nat) (a1 : Int32) (a2 : Int32) (hT_a0 : hT σ a0 12) {τ : Hp} {r : Int32} (hF : F_X12_holds n a0 a1 a2 σ = some (r, τ)) : MI l yX12_holds cX12_holds 3 (some .int) rm_X12_holds D cA base ad σ [.ref (ad a0), .int a1, .int a2] r τ := by
  refine Met.ofW (cc := cX12_holds) (maxL := 3) (ret := (some .int)) (by decide) rfl ?_
  intro p e s m args below meth c s₁ B hml hv
  obtain ⟨rfl, hv⟩ := hv
  have X : SX D cA base p s m ([.ref (ad a0), .int a1, .int a2] : List Value).toArray meth c cX12_holds 3 (some .int) RX12 := sx_of B hml hv
  have hG := hv.1
  have hS : va_S (bA base) s.heap s.heap [] := va_S.rf
  have hE := xT.rf σ
  have hl := lv_entry ([.ref (ad a0), .int a1, .int a2]) (n := 3) (Nat.le_of_ble_eq_true rfl)
  rw [lg_entry_eq]
  generalize (lg_sl ([.ref (ad a0), .int a1, .int a2]) ++ List.replicate (3 - (lg_sl ([.ref (ad a0), .int a1, .int a2])).length) Slot.unset).toArray = ls at hl ⊢
  have hl : lv_has ls 3 [(0, .ref (ad a0)), (1, .int a1), (2, .int a2)] := hl
  unfold F_X12_holds at hF
  refine lv_aload_n X.1 X.2.1 dX12_holds_0 rfl (lv_at hl 0 rfl) ?_
  refine lv_iload_n X.1 X.2.1 dX12_holds_1 rfl (lv_at hl 1 rfl) ?_
  obtain ⟨r2, σ1, hz, hF⟩ := b2_ex hF
  refine gx_rI (gx_runV (As := [.int a1]) (rest := []) X hG hS hT_a0.1 (hT_a0.eq (by decide)) (by decide) rfl (c_X12_isJuror l D cA base ad σ n a0 a1 hT_a0 hz) k_1081 k_1078 k_1080 ks_16 k_4 (h_X12_isJuror) rfl rfl ⟨by decide, by decide⟩ rfl hl.1 rfl (Nat.le_of_ble_eq_true rfl) dX12_holds_2 ⟨Nat.zero_le _, Nat.zero_le _⟩) hS (fun H locs hG hS hX => ?_)
  have hT_a0 := hX.T hT_a0
  replace hE := hE.trans hX
  refine lv_if_eq (tgt := 34) X.1 X.2.1 dX12_holds_5 (by decide) (fun hc => ?_) (fun hc => ?_)
  · replace hF := it_t hF hc
    refine lv_iconst (v := (-1)) X.1 X.2.1 dX12_holds_34 (by decide) ?_
    exact gx_iret X hG hS hE hF dX12_holds_35
  · replace hF := it_f hF hc
    refine lv_aload_n X.1 X.2.1 dX12_holds_8 rfl (lv_at hl 0 rfl) ?_
    refine lv_iload_n X.1 X.2.1 dX12_holds_9 rfl (lv_at hl 2 rfl) ?_
    obtain ⟨r4, σ3, hz, hF⟩ := b2_ex hF
    refine gx_rI (gx_runV (As := [.int a2]) (rest := []) X hG hS hT_a0.1 (hT_a0.eq (by decide)) (by decide) rfl (c_X12_isSet l D cA base ad σ1 n a0 a2 hT_a0 hz) k_1085 k_1082 k_1084 ks_17 k_4 (h_X12_isSet) rfl rfl ⟨by decide, by decide⟩ rfl hl.1 rfl (Nat.le_of_ble_eq_true rfl) dX12_holds_10 ⟨Nat.zero_le _, Nat.zero_le _⟩) hS (fun H locs hG hS hX => ?_)
    have hT_a0 := hX.T hT_a0
    replace hE := hE.trans hX
    refine lv_if_eq (tgt := 34) X.1 X.2.1 dX12_holds_13 (by decide) (fun hc => ?_) (fun hc => ?_)
    · replace hF := it_t hF hc
      refine lv_iconst (v := (-1)) X.1 X.2.1 dX12_holds_34 (by decide) ?_
      exact gx_iret X hG hS hE hF dX12_holds_35
    · replace hF := it_f hF hc
      refine lv_aload_n X.1 X.2.1 dX12_holds_16 rfl (lv_at hl 0 rfl) ?_
      refine lv_bipush (v := 19) X.1 X.2.1 dX12_holds_17 (by decide) ?_
      refine lv_bipush (v := 7) X.1 X.2.1 dX12_holds_19 (by decide) ?_
      refine lv_iload_n X.1 X.2.1 dX12_holds_21 rfl (lv_at hl 1 rfl) ?_
      refine lv_imul X.1 X.2.1 dX12_holds_22 ?_
      refine lv_iadd X.1 X.2.1 dX12_holds_23 ?_
      refine lv_bipush (v := 6) X.1 X.2.1 dX12_holds_24 (by decide) ?_
      refine lv_iadd X.1 X.2.1 dX12_holds_26 ?_
      refine lv_iload_n X.1 X.2.1 dX12_holds_27 rfl (lv_at hl 2 rfl) ?_
      obtain ⟨r6, σ5, hz, hF⟩ := b2_ex hF
      refine gx_rI (gx_runV (As := [.int ((19 + (7 * a1)) + 6), .int a2]) (rest := []) X hG hS hT_a0.1 (hT_a0.eq (by decide)) (by decide) rfl (c_X12_becomes l D cA base ad σ3 n a0 ((19 + (7 * a1)) + 6) a2 hT_a0 hz) k_1089 k_1086 k_1088 ks_18 k_4 (h_X12_becomes) rfl rfl ⟨by decide, by decide⟩ rfl hl.1 rfl (Nat.le_of_ble_eq_true rfl) dX12_holds_28 ⟨Nat.zero_le _, Nat.zero_le _⟩) hS (fun H locs hG hS hX => ?_)
      have hT_a0 := hX.T hT_a0
      replace hE := hE.trans hX
      refine lv_goto (tgt := 35) X.1 X.2.1 dX12_holds_31 (by decide) ?_
      exact gx_iret X hG hS hE hF dX12_holds_35
theorem c_X12_hasBegun (l : Launch) (D : va_G) (cA : Nat → ClassId) (base : Nat) (ad : Nat → Nat) (σ : Hp) (n : Nat) (a0 : Nat) (hT_a0 : hT σ a0 12) {τ : Hp} {r : Int32} (hF : F_X12_hasBegun n a0 σ = some (r, τ)) : MI l yX12_hasBegun cX12_hasBegun 1 (some .boolean) rm_X12_hasBegun D cA base ad σ [.ref (ad a0)] r τ := by
  refine Met.ofW (cc := cX12_hasBegun) (maxL := 1) (ret := (some .boolean)) (by decide) rfl ?_
  intro p e s m args below meth c s₁ B hml hv
  obtain ⟨rfl, hv⟩ := hv
  have X : SX D cA base p s m ([.ref (ad a0)] : List Value).toArray meth c cX12_hasBegun 1 (some .boolean) RX12 := sx_of B hml hv
  have hG := hv.1
  have hS : va_S (bA base) s.heap s.heap [] := va_S.rf
  have hE := xT.rf σ
  have hl := lv_entry ([.ref (ad a0)]) (n := 1) (Nat.le_of_ble_eq_true rfl)
  rw [lg_entry_eq]
  generalize (lg_sl ([.ref (ad a0)]) ++ List.replicate (1 - (lg_sl ([.ref (ad a0)])).length) Slot.unset).toArray = ls at hl ⊢
  have hl : lv_has ls 1 [(0, .ref (ad a0))] := hl
  unfold F_X12_hasBegun at hF
  refine lv_aload_n X.1 X.2.1 dX12_hasBegun_0 rfl (lv_at hl 0 rfl) ?_
  obtain ⟨i1, hr, hF⟩ := b1_ex hF
  have hT_i1 : hT σ i1 13 := gw_T hG hT_a0 (by decide) hr
  refine gx_get 4 (v := .ref (ad i1)) X hG hT_a0.1 (hT_a0.eq (by decide)) (by decide) rfl inX12 (by decide) k_964 (fun _ h => h) (gx_rfv hr) dX12_hasBegun_1 ?_
  refine lv_bipush (v := 6) X.1 X.2.1 dX12_hasBegun_4 (by decide) ?_
  refine gx_iald X hG hT_i1 hF dX12_hasBegun_6 (fun hF => ?_)
  refine lv_iconst (v := 1) X.1 X.2.1 dX12_hasBegun_7 (by decide) ?_
  refine lv_icmp_ne (tgt := 15) X.1 X.2.1 dX12_hasBegun_8 (by decide) (fun hc => ?_) (fun hc => ?_)
  · replace hF := it_f hF hc
    refine lv_iconst (v := 0) X.1 X.2.1 dX12_hasBegun_15 (by decide) ?_
    exact gx_zret X hG hS hE hF rfl dX12_hasBegun_16
  · replace hF := it_t hF hc
    refine lv_iconst (v := 1) X.1 X.2.1 dX12_hasBegun_11 (by decide) ?_
    refine lv_goto (tgt := 16) X.1 X.2.1 dX12_hasBegun_12 (by decide) ?_
    exact gx_zret X hG hS hE hF rfl dX12_hasBegun_16
theorem c_X12_of (l : Launch) (D : va_G) (cA : Nat → ClassId) (base : Nat) (ad : Nat → Nat) (σ : Hp) (n : Nat) (a0 : Nat) (a1 : Int32) (a2 : Int32) (hT_a0 : hT σ a0 12) {τ : Hp} {r : Int32} (hF : F_X12_of n a0 a1 a2 σ = some (r, τ)) : MI l yX12_of cX12_of 3 (some .int) rm_X12_of D cA base ad σ [.ref (ad a0), .int a1, .int a2] r τ := by
  refine Met.ofW (cc := cX12_of) (maxL := 3) (ret := (some .int)) (by decide) rfl ?_
  intro p e s m args below meth c s₁ B hml hv
  obtain ⟨rfl, hv⟩ := hv
  have X : SX D cA base p s m ([.ref (ad a0), .int a1, .int a2] : List Value).toArray meth c cX12_of 3 (some .int) RX12 := sx_of B hml hv
  have hG := hv.1
  have hS : va_S (bA base) s.heap s.heap [] := va_S.rf
  have hE := xT.rf σ
  have hl := lv_entry ([.ref (ad a0), .int a1, .int a2]) (n := 3) (Nat.le_of_ble_eq_true rfl)
  rw [lg_entry_eq]
  generalize (lg_sl ([.ref (ad a0), .int a1, .int a2]) ++ List.replicate (3 - (lg_sl ([.ref (ad a0), .int a1, .int a2])).length) Slot.unset).toArray = ls at hl ⊢
  have hl : lv_has ls 3 [(0, .ref (ad a0)), (1, .int a1), (2, .int a2)] := hl
  unfold F_X12_of at hF
  refine lv_aload_n X.1 X.2.1 dX12_of_0 rfl (lv_at hl 0 rfl) ?_
  refine lv_iload_n X.1 X.2.1 dX12_of_1 rfl (lv_at hl 1 rfl) ?_
  obtain ⟨r2, σ1, hz, hF⟩ := b2_ex hF
  refine gx_rI (gx_runV (As := [.int a1]) (rest := []) X hG hS hT_a0.1 (hT_a0.eq (by decide)) (by decide) rfl (c_X12_isJuror l D cA base ad σ n a0 a1 hT_a0 hz) k_1081 k_1078 k_1080 ks_16 k_4 (h_X12_isJuror) rfl rfl ⟨by decide, by decide⟩ rfl hl.1 rfl (Nat.le_of_ble_eq_true rfl) dX12_of_2 ⟨Nat.zero_le _, Nat.zero_le _⟩) hS (fun H locs hG hS hX => ?_)
  have hT_a0 := hX.T hT_a0
  replace hE := hE.trans hX
  refine lv_if_eq (tgt := 20) X.1 X.2.1 dX12_of_5 (by decide) (fun hc => ?_) (fun hc => ?_)
  · replace hF := it_t hF hc
    refine lv_ldc (v := (-1000000001)) X.1 X.2.1 X.2.2.2.2.2.1 (X.w k_1095) dX12_of_20 ?_
    exact gx_iret X hG hS hE hF dX12_of_22
  · replace hF := it_f hF hc
    refine lv_iload_n X.1 X.2.1 dX12_of_8 rfl (lv_at hl 2 rfl) ?_
    refine lv_i2l X.1 X.2.1 dX12_of_9 rfl ?_
    refine lv_lconst (v := 0) X.1 X.2.1 dX12_of_10 (by decide) ?_
    refine lv_ldc2 (v := 9) X.1 X.2.1 X.2.2.2.2.2.1 (X.w k_1094) dX12_of_11 ?_
    obtain ⟨r4, σ3, hz, hF⟩ := b2_ex hF
    refine gx_rI (gx_runS (As := [.long a2.toInt64, .long 0, .long 9]) (rest := []) X hG hS (c_X12_isIn l D cA base ad σ1 n a2.toInt64 0 9 hz) k_1063 k_1061 k_1062 k_4 (h_X12_isIn.2) rfl rfl ⟨by decide, by decide⟩ rfl hl.1 rfl (Nat.le_of_ble_eq_true rfl) dX12_of_14 ⟨Nat.zero_le _, Nat.zero_le _⟩) hS (fun H locs hG hS hX => ?_)
    have hT_a0 := hX.T hT_a0
    replace hE := hE.trans hX
    refine lv_if_ne (tgt := 23) X.1 X.2.1 dX12_of_17 (by decide) (fun hc => ?_) (fun hc => ?_)
    · replace hF := it_f hF hc
      refine lv_iload_n X.1 X.2.1 dX12_of_23 rfl (lv_at hl 2 rfl) ?_
      refine lv_bipush (v := 6) X.1 X.2.1 dX12_of_24 (by decide) ?_
      refine lv_icmp_ge (tgt := 36) X.1 X.2.1 dX12_of_26 (by decide) (fun hc => ?_) (fun hc => ?_)
      · replace hF := it_t hF hc
        refine lv_aload_n X.1 X.2.1 dX12_of_36 rfl (lv_at hl 0 rfl) ?_
        obtain ⟨r6, σ5, hz, hF⟩ := b2_ex hF
        refine gx_rI (gx_runV (As := []) (rest := []) X hG hS hT_a0.1 (hT_a0.eq (by decide)) (by decide) rfl (c_X12_hasBegun l D cA base ad σ3 n a0 hT_a0 hz) k_1103 k_1100 k_1102 ks_20 k_4 (h_X12_hasBegun) rfl rfl ⟨by decide, by decide⟩ rfl hl.1 rfl (Nat.le_of_ble_eq_true rfl) dX12_of_37 ⟨Nat.zero_le _, Nat.zero_le _⟩) hS (fun H locs hG hS hX => ?_)
        have hT_a0 := hX.T hT_a0
        replace hE := hE.trans hX
        refine lv_if_ne (tgt := 61) X.1 X.2.1 dX12_of_40 (by decide) (fun hc => ?_) (fun hc => ?_)
        · replace hF := it_f hF hc
          refine lv_iload_n X.1 X.2.1 dX12_of_61 rfl (lv_at hl 2 rfl) ?_
          by_cases hc0 : a2 = 6
          · replace hF := it_t hF hc0
            refine lv_tableIn (tgt := 88) X.1 X.2.1 dX12_of_62 (by rw [hc0]; decide) (by rw [hc0]; decide) (by rw [hc0]; rfl) (by decide) ?_
            refine lv_aload_n X.1 X.2.1 dX12_of_88 rfl (lv_at hl 0 rfl) ?_
            obtain ⟨i8, hr, hF⟩ := b1_ex hF
            have hT_i8 : hT σ5 i8 13 := gw_T hG hT_a0 (by decide) hr
            refine gx_get 4 (v := .ref (ad i8)) X hG hT_a0.1 (hT_a0.eq (by decide)) (by decide) rfl inX12 (by decide) k_964 (fun _ h => h) (gx_rfv hr) dX12_of_89 ?_
            refine lv_bipush (v := 19) X.1 X.2.1 dX12_of_92 (by decide) ?_
            refine lv_iload_n X.1 X.2.1 dX12_of_94 rfl (lv_at hl 1 rfl) ?_
            refine lv_iadd X.1 X.2.1 dX12_of_95 ?_
            refine gx_iald X hG hT_i8 hF dX12_of_96 (fun hF => ?_)
            exact gx_iret X hG hS hE hF dX12_of_97
          replace hF := it_f hF hc0
          by_cases hc1 : a2 = 7
          · replace hF := it_t hF hc1
            refine lv_tableIn (tgt := 98) X.1 X.2.1 dX12_of_62 (by rw [hc1]; decide) (by rw [hc1]; decide) (by rw [hc1]; rfl) (by decide) ?_
            refine lv_aload_n X.1 X.2.1 dX12_of_98 rfl (lv_at hl 0 rfl) ?_
            obtain ⟨i9, hr, hF⟩ := b1_ex hF
            have hT_i9 : hT σ5 i9 13 := gw_T hG hT_a0 (by decide) hr
            refine gx_get 4 (v := .ref (ad i9)) X hG hT_a0.1 (hT_a0.eq (by decide)) (by decide) rfl inX12 (by decide) k_964 (fun _ h => h) (gx_rfv hr) dX12_of_99 ?_
            refine lv_bipush (v := 31) X.1 X.2.1 dX12_of_102 (by decide) ?_
            refine lv_iload_n X.1 X.2.1 dX12_of_104 rfl (lv_at hl 1 rfl) ?_
            refine lv_iadd X.1 X.2.1 dX12_of_105 ?_
            refine gx_iald X hG hT_i9 hF dX12_of_106 (fun hF => ?_)
            exact gx_iret X hG hS hE hF dX12_of_107
          replace hF := it_f hF hc1
          by_cases hc2 : a2 = 8
          · replace hF := it_t hF hc2
            refine lv_tableIn (tgt := 108) X.1 X.2.1 dX12_of_62 (by rw [hc2]; decide) (by rw [hc2]; decide) (by rw [hc2]; rfl) (by decide) ?_
            refine lv_aload_n X.1 X.2.1 dX12_of_108 rfl (lv_at hl 0 rfl) ?_
            obtain ⟨i10, hr, hF⟩ := b1_ex hF
            have hT_i10 : hT σ5 i10 13 := gw_T hG hT_a0 (by decide) hr
            refine gx_get 4 (v := .ref (ad i10)) X hG hT_a0.1 (hT_a0.eq (by decide)) (by decide) rfl inX12 (by decide) k_964 (fun _ h => h) (gx_rfv hr) dX12_of_109 ?_
            refine lv_bipush (v := 43) X.1 X.2.1 dX12_of_112 (by decide) ?_
            refine lv_iload_n X.1 X.2.1 dX12_of_114 rfl (lv_at hl 1 rfl) ?_
            refine lv_iadd X.1 X.2.1 dX12_of_115 ?_
            refine gx_iald X hG hT_i10 hF dX12_of_116 (fun hF => ?_)
            exact gx_iret X hG hS hE hF dX12_of_117
          replace hF := it_f hF hc2
          have hz0 := ne_lit hc0 (z := 6) (by decide)
          have hz1 := ne_lit hc1 (z := 7) (by decide)
          have hz2 := ne_lit hc2 (z := 8) (by decide)
          refine lv_tableOut (tgt := 118) X.1 X.2.1 dX12_of_62 (by omega) (by decide) ?_
          refine lv_aload_n X.1 X.2.1 dX12_of_118 rfl (lv_at hl 0 rfl) ?_
          obtain ⟨i7, hr, hF⟩ := b1_ex hF
          have hT_i7 : hT σ5 i7 13 := gw_T hG hT_a0 (by decide) hr
          refine gx_get 4 (v := .ref (ad i7)) X hG hT_a0.1 (hT_a0.eq (by decide)) (by decide) rfl inX12 (by decide) k_964 (fun _ h => h) (gx_rfv hr) dX12_of_119 ?_
          refine lv_bipush (v := 55) X.1 X.2.1 dX12_of_122 (by decide) ?_
          refine lv_iload_n X.1 X.2.1 dX12_of_124 rfl (lv_at hl 1 rfl) ?_
          refine lv_iadd X.1 X.2.1 dX12_of_125 ?_
          refine gx_iald X hG hT_i7 hF dX12_of_126 (fun hF => ?_)
          refine lv_if_le (tgt := 134) X.1 X.2.1 dX12_of_127 (by decide) (fun hc => ?_) (fun hc => ?_)
          · replace hF := it_t hF hc
            refine lv_iconst (v := 0) X.1 X.2.1 dX12_of_134 (by decide) ?_
            exact gx_iret X hG hS hE hF dX12_of_135
          · replace hF := it_f hF hc
            refine lv_iconst (v := 1) X.1 X.2.1 dX12_of_130 (by decide) ?_
            refine lv_goto (tgt := 135) X.1 X.2.1 dX12_of_131 (by decide) ?_
            exact gx_iret X hG hS hE hF dX12_of_135
        · replace hF := it_t hF hc
          refine lv_iload_n X.1 X.2.1 dX12_of_43 rfl (lv_at hl 2 rfl) ?_
          refine lv_bipush (v := 6) X.1 X.2.1 dX12_of_44 (by decide) ?_
          refine lv_icmp_ne (tgt := 59) X.1 X.2.1 dX12_of_46 (by decide) (fun hc => ?_) (fun hc => ?_)
          · replace hF := it_f hF hc
            refine lv_iconst (v := 0) X.1 X.2.1 dX12_of_59 (by decide) ?_
            exact gx_iret X hG hS hE hF dX12_of_60
          · replace hF := it_t hF hc
            refine lv_aload_n X.1 X.2.1 dX12_of_49 rfl (lv_at hl 0 rfl) ?_
            refine lv_iload_n X.1 X.2.1 dX12_of_50 rfl (lv_at hl 1 rfl) ?_
            refine lv_bipush (v := 6) X.1 X.2.1 dX12_of_51 (by decide) ?_
            obtain ⟨r12, σ11, hz, hF⟩ := b2_ex hF
            refine gx_rI (gx_runV (As := [.int a1, .int 6]) (rest := []) X hG hS hT_a0.1 (hT_a0.eq (by decide)) (by decide) rfl (c_X12_get l D cA base ad σ5 n a0 a1 6 hT_a0 hz) k_1099 k_1096 k_1098 ks_19 k_4 (h_X12_get) rfl rfl ⟨by decide, by decide⟩ rfl hl.1 rfl (Nat.le_of_ble_eq_true rfl) dX12_of_53 ⟨Nat.zero_le _, Nat.zero_le _⟩) hS (fun H locs hG hS hX => ?_)
            have hT_a0 := hX.T hT_a0
            replace hE := hE.trans hX
            refine lv_goto (tgt := 60) X.1 X.2.1 dX12_of_56 (by decide) ?_
            exact gx_iret X hG hS hE hF dX12_of_60
      · replace hF := it_f hF hc
        refine lv_aload_n X.1 X.2.1 dX12_of_29 rfl (lv_at hl 0 rfl) ?_
        refine lv_iload_n X.1 X.2.1 dX12_of_30 rfl (lv_at hl 1 rfl) ?_
        refine lv_iload_n X.1 X.2.1 dX12_of_31 rfl (lv_at hl 2 rfl) ?_
        obtain ⟨r14, σ13, hz, hF⟩ := b2_ex hF
        refine gx_rI (gx_runV (As := [.int a1, .int a2]) (rest := []) X hG hS hT_a0.1 (hT_a0.eq (by decide)) (by decide) rfl (c_X12_get l D cA base ad σ3 n a0 a1 a2 hT_a0 hz) k_1099 k_1096 k_1098 ks_19 k_4 (h_X12_get) rfl rfl ⟨by decide, by decide⟩ rfl hl.1 rfl (Nat.le_of_ble_eq_true rfl) dX12_of_32 ⟨Nat.zero_le _, Nat.zero_le _⟩) hS (fun H locs hG hS hX => ?_)
        have hT_a0 := hX.T hT_a0
        replace hE := hE.trans hX
        exact gx_iret X hG hS hE hF dX12_of_35
    · replace hF := it_t hF hc
      refine lv_ldc (v := (-1000000001)) X.1 X.2.1 X.2.2.2.2.2.1 (X.w k_1095) dX12_of_20 ?_
      exact gx_iret X hG hS hE hF dX12_of_22
theorem c_X12_sign (l : Launch) (D : va_G) (cA : Nat → ClassId) (base : Nat) (ad : Nat → Nat) (σ : Hp) (n : Nat) (a0 : Nat) (hT_a0 : hT σ a0 12) {τ : Hp} {r : Int32} (hF : F_X12_sign n a0 σ = some (r, τ)) : MI l yX12_sign cX12_sign 1 (some .int) rm_X12_sign D cA base ad σ [.ref (ad a0)] r τ := by
  refine Met.ofW (cc := cX12_sign) (maxL := 1) (ret := (some .int)) (by decide) rfl ?_
  intro p e s m args below meth c s₁ B hml hv
  obtain ⟨rfl, hv⟩ := hv
  have X : SX D cA base p s m ([.ref (ad a0)] : List Value).toArray meth c cX12_sign 1 (some .int) RX12 := sx_of B hml hv
  have hG := hv.1
  have hS : va_S (bA base) s.heap s.heap [] := va_S.rf
  have hE := xT.rf σ
  have hl := lv_entry ([.ref (ad a0)]) (n := 1) (Nat.le_of_ble_eq_true rfl)
  rw [lg_entry_eq]
  generalize (lg_sl ([.ref (ad a0)]) ++ List.replicate (1 - (lg_sl ([.ref (ad a0)])).length) Slot.unset).toArray = ls at hl ⊢
  have hl : lv_has ls 1 [(0, .ref (ad a0))] := hl
  unfold F_X12_sign at hF
  refine lv_aload_n X.1 X.2.1 dX12_sign_0 rfl (lv_at hl 0 rfl) ?_
  refine gx_get 16 (v := .int (hI σ a0 16)) X hG hT_a0.1 (hT_a0.eq (by decide)) (by decide) rfl inX12 (by decide) k_976 (fun _ h => h) rfl dX12_sign_1 ?_
  refine lv_aload_n X.1 X.2.1 dX12_sign_4 rfl (lv_at hl 0 rfl) ?_
  refine gx_get 18 (v := .int (hI σ a0 18)) X hG hT_a0.1 (hT_a0.eq (by decide)) (by decide) rfl inX12 (by decide) k_978 (fun _ h => h) rfl dX12_sign_5 ?_
  refine lv_icmp_ge (tgt := 28) X.1 X.2.1 dX12_sign_8 (by decide) (fun hc => ?_) (fun hc => ?_)
  · replace hF := it_t hF hc
    refine lv_sipush (v := (-1000)) X.1 X.2.1 dX12_sign_28 (by decide) ?_
    exact gx_iret X hG hS hE hF dX12_sign_31
  · replace hF := it_f hF hc
    refine lv_aload_n X.1 X.2.1 dX12_sign_11 rfl (lv_at hl 0 rfl) ?_
    obtain ⟨i1, hr, hF⟩ := b1_ex hF
    have hT_i1 : hT σ i1 13 := gw_T hG hT_a0 (by decide) hr
    refine gx_get 15 (v := .ref (ad i1)) X hG hT_a0.1 (hT_a0.eq (by decide)) (by decide) rfl inX12 (by decide) k_975 (fun _ h => h) (gx_rfv hr) dX12_sign_12 ?_
    refine lv_aload_n X.1 X.2.1 dX12_sign_15 rfl (lv_at hl 0 rfl) ?_
    refine gx_get 17 (v := .int (hI σ a0 17)) X hG hT_a0.1 (hT_a0.eq (by decide)) (by decide) rfl inX12 (by decide) k_977 (fun _ h => h) rfl dX12_sign_16 ?_
    refine lv_aload_n X.1 X.2.1 dX12_sign_19 rfl (lv_at hl 0 rfl) ?_
    refine gx_get 16 (v := .int (hI σ a0 16)) X hG hT_a0.1 (hT_a0.eq (by decide)) (by decide) rfl inX12 (by decide) k_976 (fun _ h => h) rfl dX12_sign_20 ?_
    refine lv_iadd X.1 X.2.1 dX12_sign_23 ?_
    refine gx_iald X hG hT_i1 hF dX12_sign_24 (fun hF => ?_)
    refine lv_goto (tgt := 31) X.1 X.2.1 dX12_sign_25 (by decide) ?_
    exact gx_iret X hG hS hE hF dX12_sign_31
end W_model1
