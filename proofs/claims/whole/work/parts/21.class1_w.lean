/-! class1: printed by wip/whole/gen.py -/
section W_class1
variable {p : Program} {l : Launch} {e : Env} {s : State} {m : MethodId} {args : Array Value} {below : List Frame} {meth : Method} {c : Code} {D : va_G} {cA : Nat → ClassId} {base : Nat} {ad : Nat → Nat}
abbrev rm_X11_holds : Room := { frames := 3, cells := 0, slots := 0, locals := 65 }
theorem h_X11_holds : yX11_holds.cls = RX11 ∧ yX11_holds.cls ≠ "java/lang/invoke/MethodHandle" ∧ yX11_holds.cls ≠ "java/lang/invoke/VarHandle" ∧ (parseMethodDescriptor yX11_holds.desc).map (fun d => d.parameters.length) = some 2 := by decide +kernel
def F_X11_holds (n : Nat) (a0 : Nat) (a1 : Int32) (a2 : Int32) (σ : Hp) : Option (Int32 × Hp) := b1 (hR σ a0 0) fun (i1 : Nat) => b2 (F_X3_isSeat n i1 a1 σ) fun (r3 : Int32) (σ2 : Hp) => if r3 = 0 then (some ((-1), σ2)) else (if a2 < 0 then (some ((-1), σ2)) else (b1 (hR σ2 a0 0) fun (i4 : Nat) => if a2 < (1 <<< ((hI σ2 i4 0) &&& 31)) then (b1 (hR σ2 a0 0) fun (i5 : Nat) => b1 (hR σ2 i5 4) fun (i6 : Nat) => b2 (F_X11_at n i6 a1 σ2) fun (r8 : Int32) (σ7 : Hp) => b1 (hR σ7 a0 0) fun (i9 : Nat) => b1 (hR σ7 i9 4) fun (i10 : Nat) => b1 (F_X11_store n i10 a1 a2 σ7) fun (σ11 : Hp) => b1 (hR σ11 a0 0) fun (i12 : Nat) => if (hI σ11 i12 8) = 0 then (b1 (hR σ11 a0 0) fun (i13 : Nat) => b1 (F_X3_standAsTold n i13 σ11) fun (σ14 : Hp) => some (r8, σ14)) else (some (r8, σ11))) else (some ((-1), σ2))))
abbrev rm_X3_turnAt : Room := { frames := 1, cells := 0, slots := 0, locals := 21 }
theorem h_X3_turnAt : yX3_turnAt.cls = RX3 ∧ yX3_turnAt.cls ≠ "java/lang/invoke/MethodHandle" ∧ yX3_turnAt.cls ≠ "java/lang/invoke/VarHandle" ∧ (parseMethodDescriptor yX3_turnAt.desc).map (fun d => d.parameters.length) = some 1 := by decide +kernel
def F_X3_turnAt (n : Nat) (a0 : Nat) (a1 : Int32) (σ : Hp) : Option (Option Nat × Hp) := b2 (F_X3_isSeat n a0 a1 σ) fun (r2 : Int32) (σ1 : Hp) => if r2 = 0 then (some ((none : Option Nat), σ1)) else (b1 (hR σ1 a0 3) fun (i3 : Nat) => if (nI (hL σ1 i3)) ≤ a1 then (some ((none : Option Nat), σ1)) else (b1 (hR σ1 a0 3) fun (i4 : Nat) => ck (¬ (a1 < 0 ∨ hL σ1 i4 ≤ a1.toNatClampNeg)) (lt (hR σ1 i4 a1.toNatClampNeg) fun (q5 : Option Nat) => some (q5, σ1))))
abbrev rm_X3_gaveIn : Room := { frames := 1, cells := 0, slots := 0, locals := 21 }
theorem h_X3_gaveIn : yX3_gaveIn.cls = RX3 ∧ yX3_gaveIn.cls ≠ "java/lang/invoke/MethodHandle" ∧ yX3_gaveIn.cls ≠ "java/lang/invoke/VarHandle" ∧ (parseMethodDescriptor yX3_gaveIn.desc).map (fun d => d.parameters.length) = some 1 := by decide +kernel
def F_X3_gaveIn (n : Nat) (a0 : Nat) (a1 : Int32) (σ : Hp) : Option (Int32 × Hp) := b1 (hR σ a0 18) fun (i1 : Nat) => b2 (F_X11_at n i1 a1 σ) fun (r3 : Int32) (σ2 : Hp) => if r3 < 0 then (some (0, σ2)) else (some (1, σ2))
abbrev rm_X11_of : Room := { frames := 2, cells := 0, slots := 0, locals := 42 }
theorem h_X11_of : yX11_of.cls = RX11 ∧ yX11_of.cls ≠ "java/lang/invoke/MethodHandle" ∧ yX11_of.cls ≠ "java/lang/invoke/VarHandle" ∧ (parseMethodDescriptor yX11_of.desc).map (fun d => d.parameters.length) = some 2 := by decide +kernel
def F_X11_of (n : Nat) (a0 : Nat) (a1 : Int32) (a2 : Int32) (σ : Hp) : Option (Int32 × Hp) := b1 (hR σ a0 0) fun (i1 : Nat) => b2 (F_X3_turnAt n i1 a1 σ) fun (r3 : Option Nat) (σ2 : Hp) => om r3 (some ((-1000000001), σ2)) (fun i4 => if a2 = 0 then (some (hI σ2 i4 1, σ2)) else (if a2 = 1 then (some (hI σ2 i4 2, σ2)) else (if a2 = 2 then (some (hI σ2 i4 3, σ2)) else (if a2 = 3 then (some (hI σ2 i4 4, σ2)) else (if a2 = 4 then (some (hI σ2 i4 5, σ2)) else (if a2 = 5 then (some (hI σ2 i4 6, σ2)) else (if a2 = 6 then (b1 (hR σ2 a0 0) fun (i5 : Nat) => b1 (hR σ2 i5 15) fun (i6 : Nat) => b2 (F_X11_at n i6 a1 σ2) fun (r8 : Int32) (σ7 : Hp) => some (r8, σ7)) else (if a2 = 7 then (b1 (hR σ2 a0 0) fun (i9 : Nat) => b1 (hR σ2 i9 17) fun (i10 : Nat) => b2 (F_X11_at n i10 a1 σ2) fun (r12 : Int32) (σ11 : Hp) => some (r12, σ11)) else (if a2 = 8 then (b1 (hR σ2 a0 0) fun (i13 : Nat) => some (((hI σ2 i13 12) >>> (a1 &&& 31)) &&& 1, σ2)) else (if a2 = 9 then (b1 (hR σ2 a0 0) fun (i14 : Nat) => b2 (F_X3_gaveIn n i14 a1 σ2) fun (r16 : Int32) (σ15 : Hp) => if r16 = 0 then (some (0, σ15)) else (some (1, σ15))) else (some ((-1000000001), σ2))))))))))))
abbrev rm_J6_bitCount_0f7a4 : Room := { frames := 0, cells := 0, slots := 0, locals := 0 }
theorem h_J6_bitCount_0f7a4 : yJ6_bitCount_0f7a4.cls = "java/lang/Integer" ∧ yJ6_bitCount_0f7a4.cls ≠ "java/lang/invoke/MethodHandle" ∧ yJ6_bitCount_0f7a4.cls ≠ "java/lang/invoke/VarHandle" ∧ (parseMethodDescriptor yJ6_bitCount_0f7a4.desc).map (fun d => d.parameters.length) = some 1 := by decide +kernel
def F_J6_bitCount_0f7a4 (n : Nat) (a0 : Int32) (σ : Hp) : Option (Int32 × Hp) := lt (a0 - (((a0.toUInt32 >>> ((1 : Int32).toUInt32 &&& Int32.toUInt32 31)).toInt32) &&& 1431655765)) fun (x1 : Int32) => lt ((x1 &&& 858993459) + (((x1.toUInt32 >>> ((2 : Int32).toUInt32 &&& Int32.toUInt32 31)).toInt32) &&& 858993459)) fun (x2 : Int32) => lt ((x2 + ((x2.toUInt32 >>> ((4 : Int32).toUInt32 &&& Int32.toUInt32 31)).toInt32)) &&& 252645135) fun (x3 : Int32) => lt (x3 + ((x3.toUInt32 >>> ((8 : Int32).toUInt32 &&& Int32.toUInt32 31)).toInt32)) fun (x4 : Int32) => lt (x4 + ((x4.toUInt32 >>> ((16 : Int32).toUInt32 &&& Int32.toUInt32 31)).toInt32)) fun (x5 : Int32) => some (x5 &&& 63, σ)
abbrev rm_X3_yes : Room := { frames := 1, cells := 0, slots := 0, locals := 20 }
theorem h_X3_yes : yX3_yes.cls = RX3 ∧ yX3_yes.cls ≠ "java/lang/invoke/MethodHandle" ∧ yX3_yes.cls ≠ "java/lang/invoke/VarHandle" ∧ (parseMethodDescriptor yX3_yes.desc).map (fun d => d.parameters.length) = some 0 := by decide +kernel
def F_X3_yes (n : Nat) (a0 : Nat) (σ : Hp) : Option (Int32 × Hp) := b2 (F_J6_bitCount_0f7a4 n (hI σ a0 12) σ) fun (r2 : Int32) (σ1 : Hp) => some (r2, σ1)
abbrev rm_X3_no : Room := { frames := 2, cells := 0, slots := 0, locals := 40 }
theorem h_X3_no : yX3_no.cls = RX3 ∧ yX3_no.cls ≠ "java/lang/invoke/MethodHandle" ∧ yX3_no.cls ≠ "java/lang/invoke/VarHandle" ∧ (parseMethodDescriptor yX3_no.desc).map (fun d => d.parameters.length) = some 0 := by decide +kernel
def F_X3_no (n : Nat) (a0 : Nat) (σ : Hp) : Option (Int32 × Hp) := b2 (F_X3_yes n a0 σ) fun (r2 : Int32) (σ1 : Hp) => some ((hI σ a0 2) - r2, σ1)
abbrev rm_X1_isMark : Room := { frames := 0, cells := 0, slots := 0, locals := 0 }
theorem h_X1_isMark : yX1_isMark.cls = RX1 ∧ yX1_isMark.cls ≠ "java/lang/invoke/MethodHandle" ∧ yX1_isMark.cls ≠ "java/lang/invoke/VarHandle" ∧ (parseMethodDescriptor yX1_isMark.desc).map (fun d => d.parameters.length) = some 1 := by decide +kernel
def F_X1_isMark_30 (n : Nat)   (σ : Hp) : Option (Int32 × Hp) := some (1, σ)
def F_X1_isMark (n : Nat) (a0 : Int32) (σ : Hp) : Option (Int32 × Hp) := if a0 = 43 then (F_X1_isMark_30 n  σ) else (if a0 = 45 then (F_X1_isMark_30 n  σ) else (if a0 = 42 then (F_X1_isMark_30 n  σ) else (if a0 = 47 then (F_X1_isMark_30 n  σ) else (if a0 = 44 then (F_X1_isMark_30 n  σ) else (some (0, σ))))))
abbrev rm_X1_joined : Room := { frames := 0, cells := 0, slots := 0, locals := 0 }
theorem h_X1_joined : yX1_joined.cls = RX1 ∧ yX1_joined.cls ≠ "java/lang/invoke/MethodHandle" ∧ yX1_joined.cls ≠ "java/lang/invoke/VarHandle" ∧ (parseMethodDescriptor yX1_joined.desc).map (fun d => d.parameters.length) = some 3 := by decide +kernel
def F_X1_joined_64 (n : Nat)  (v1 : Int32) (v2 : Int32) (σ : Hp) : Option (Int32 × Hp) := if v1 ≤ v2 then (some (v2, σ)) else (some (v1, σ))
def F_X1_joined (n : Nat) (a0 : Int32) (a1 : Int32) (a2 : Int32) (σ : Hp) : Option (Int32 × Hp) := if a0 = 42 then (some (a1 * a2, σ)) else (if a0 = 43 then (some (a1 + a2, σ)) else (if a0 = 44 then (F_X1_joined_64 n  a1 a2 σ) else (if a0 = 45 then (some (a1 - a2, σ)) else (if a0 = 46 then (F_X1_joined_64 n  a1 a2 σ) else (if a0 = 47 then (if a2 = 0 then (some (0, σ)) else (ck (¬ a2 = 0) (some (a1 / a2, σ)))) else (F_X1_joined_64 n  a1 a2 σ))))))
abbrev rm_X1_single : Room := { frames := 0, cells := 0, slots := 0, locals := 0 }
theorem h_X1_single : yX1_single.cls = RX1 ∧ yX1_single.cls ≠ "java/lang/invoke/MethodHandle" ∧ yX1_single.cls ≠ "java/lang/invoke/VarHandle" ∧ (parseMethodDescriptor yX1_single.desc).map (fun d => d.parameters.length) = some 6 := by decide +kernel
def F_X1_single (n : Nat) (a0 : Int32) (a1 : Int32) (a2 : Int32) (a3 : Int32) (a4 : Int32) (a5 : Int32) (σ : Hp) : Option (Int32 × Hp) := if a0 = 109 then (some (a5, σ)) else (if a0 = 110 then (some (a4, σ)) else (if a0 = 111 then (some ((-1) - a0, σ)) else (if a0 = 112 then (some (a2, σ)) else (if a0 = 113 then (some ((-1) - a0, σ)) else (if a0 = 114 then (some ((-1) - a0, σ)) else (if a0 = 115 then (some ((-1) - a0, σ)) else (if a0 = 116 then (some (a1, σ)) else (if a0 = 117 then (some ((-1) - a0, σ)) else (if a0 = 118 then (some ((-1) - a0, σ)) else (if a0 = 119 then (some ((-1) - a0, σ)) else (if a0 = 120 then (some ((-1) - a0, σ)) else (if a0 = 121 then (some (a3, σ)) else (some ((-1) - a0, σ))))))))))))))
theorem c_X11_holds (l : Launch) (D : va_G) (cA : Nat → ClassId) (base : Nat) (ad : Nat → Nat) (σ : Hp) (n : Nat) (a0 : Nat) (a1 : Int32) (a2 : Int32) (hT_a0 : hT σ a0 11) {τ : Hp} {r : Int32} (hF : F_X11_holds n a0 a1 a2 σ = some (r, τ)) : MI l yX11_holds cX11_holds 4 (some .int) rm_X11_holds D cA base ad σ [.ref (ad a0), .int a1, .int a2] r τ := by
  refine Met.ofW (cc := cX11_holds) (maxL := 4) (ret := (some .int)) (by decide) rfl ?_
  intro p e s m args below meth c s₁ B hml hv
  obtain ⟨rfl, hv⟩ := hv
  have X : SX D cA base p s m ([.ref (ad a0), .int a1, .int a2] : List Value).toArray meth c cX11_holds 4 (some .int) RX11 := sx_of B hml hv
  have hG := hv.1
  have hS : va_S (bA base) s.heap s.heap [] := va_S.rf
  have hE := xT.rf σ
  have hl := lv_entry ([.ref (ad a0), .int a1, .int a2]) (n := 4) (Nat.le_of_ble_eq_true rfl)
  rw [lg_entry_eq]
  generalize (lg_sl ([.ref (ad a0), .int a1, .int a2]) ++ List.replicate (4 - (lg_sl ([.ref (ad a0), .int a1, .int a2])).length) Slot.unset).toArray = ls at hl ⊢
  have hl : lv_has ls 4 [(0, .ref (ad a0)), (1, .int a1), (2, .int a2)] := hl
  unfold F_X11_holds at hF
  refine lv_aload_n X.1 X.2.1 dX11_holds_0 rfl (lv_at hl 0 rfl) ?_
  obtain ⟨i1, hr, hF⟩ := b1_ex hF
  have hT_i1 : hT σ i1 3 := gw_T hG hT_a0 (by decide) hr
  refine gx_get 0 (v := .ref (ad i1)) X hG hT_a0.1 (hT_a0.eq (by decide)) (by decide) rfl inX11 (by decide) k_151 (fun _ h => h) (gx_rfv hr) dX11_holds_1 ?_
  refine lv_iload_n X.1 X.2.1 dX11_holds_4 rfl (lv_at hl 1 rfl) ?_
  obtain ⟨r3, σ2, hz, hF⟩ := b2_ex hF
  refine gx_rI (gx_runV (As := [.int a1]) (rest := []) X hG hS hT_i1.1 (hT_i1.eq (by decide)) (by decide) rfl (c_X3_isSeat l D cA base ad σ n i1 a1 hT_i1 hz) k_374 k_371 k_372 k_373 k_2 (h_X3_isSeat) rfl rfl ⟨by decide, by decide⟩ rfl hl.1 rfl (Nat.le_of_ble_eq_true rfl) dX11_holds_5 ⟨Nat.zero_le _, Nat.zero_le _⟩) hS (fun H locs hG hS hX => ?_)
  have hT_a0 := hX.T hT_a0
  replace hE := hE.trans hX
  refine lv_if_eq (tgt := 28) X.1 X.2.1 dX11_holds_8 (by decide) (fun hc => ?_) (fun hc => ?_)
  · replace hF := it_t hF hc
    refine lv_iconst (v := (-1)) X.1 X.2.1 dX11_holds_28 (by decide) ?_
    exact gx_iret X hG hS hE hF dX11_holds_29
  · replace hF := it_f hF hc
    refine lv_iload_n X.1 X.2.1 dX11_holds_11 rfl (lv_at hl 2 rfl) ?_
    refine lv_if_lt (tgt := 28) X.1 X.2.1 dX11_holds_12 (by decide) (fun hc => ?_) (fun hc => ?_)
    · replace hF := it_t hF hc
      refine lv_iconst (v := (-1)) X.1 X.2.1 dX11_holds_28 (by decide) ?_
      exact gx_iret X hG hS hE hF dX11_holds_29
    · replace hF := it_f hF hc
      refine lv_iload_n X.1 X.2.1 dX11_holds_15 rfl (lv_at hl 2 rfl) ?_
      refine lv_iconst (v := 1) X.1 X.2.1 dX11_holds_16 (by decide) ?_
      refine lv_aload_n X.1 X.2.1 dX11_holds_17 rfl (lv_at hl 0 rfl) ?_
      obtain ⟨i4, hr, hF⟩ := b1_ex hF
      have hT_i4 : hT σ2 i4 3 := gw_T hG hT_a0 (by decide) hr
      refine gx_get 0 (v := .ref (ad i4)) X hG hT_a0.1 (hT_a0.eq (by decide)) (by decide) rfl inX11 (by decide) k_151 (fun _ h => h) (gx_rfv hr) dX11_holds_18 ?_
      refine gx_getN 0 (v := .int (hI σ2 i4 0)) X hG hT_i4.1 (hT_i4.eq (by decide)) (by decide) rfl inX3 (by decide) q_40 (fun _ h => h) rfl dX11_holds_21 ?_
      refine lv_ishl X.1 X.2.1 dX11_holds_24 ?_
      refine lv_icmp_lt (tgt := 30) X.1 X.2.1 dX11_holds_25 (by decide) (fun hc => ?_) (fun hc => ?_)
      · replace hF := it_t hF hc
        refine lv_aload_n X.1 X.2.1 dX11_holds_30 rfl (lv_at hl 0 rfl) ?_
        obtain ⟨i5, hr, hF⟩ := b1_ex hF
        have hT_i5 : hT σ2 i5 3 := gw_T hG hT_a0 (by decide) hr
        refine gx_get 0 (v := .ref (ad i5)) X hG hT_a0.1 (hT_a0.eq (by decide)) (by decide) rfl inX11 (by decide) k_151 (fun _ h => h) (gx_rfv hr) dX11_holds_31 ?_
        obtain ⟨i6, hr, hF⟩ := b1_ex hF
        have hT_i6 : hT σ2 i6 13 := gw_T hG hT_i5 (by decide) hr
        refine gx_getN 4 (v := .ref (ad i6)) X hG hT_i5.1 (hT_i5.eq (by decide)) (by decide) rfl inX3 (by decide) q_52 (fun _ h => h) (gx_rfv hr) dX11_holds_34 ?_
        refine lv_iload_n X.1 X.2.1 dX11_holds_37 rfl (lv_at hl 1 rfl) ?_
        obtain ⟨r8, σ7, hz, hF⟩ := b2_ex hF
        refine gx_rI (gx_runS (As := [.ref (ad i6), .int a1]) (rest := []) X hG hS (c_X11_at l D cA base ad σ2 n i6 a1 hT_i6 hz) k_362 k_375 k_361 k_1 (h_X11_at.2) rfl rfl ⟨by decide, by decide⟩ rfl hl.1 rfl (Nat.le_of_ble_eq_true rfl) dX11_holds_38 ⟨Nat.zero_le _, Nat.zero_le _⟩) hS (fun H locs hG hS hX => ?_)
        have hT_a0 := hX.T hT_a0
        replace hE := hE.trans hX
        refine lv_istore_n (lv' := [(3, .int r8), (0, .ref (ad a0)), (1, .int a1), (2, .int a2)]) X.1 X.2.1 dX11_holds_41 rfl hl (by decide) rfl (fun ls hl => ?_)
        refine lv_aload_n X.1 X.2.1 dX11_holds_42 rfl (lv_at hl 1 rfl) ?_
        obtain ⟨i9, hr, hF⟩ := b1_ex hF
        have hT_i9 : hT σ7 i9 3 := gw_T hG hT_a0 (by decide) hr
        refine gx_get 0 (v := .ref (ad i9)) X hG hT_a0.1 (hT_a0.eq (by decide)) (by decide) rfl inX11 (by decide) k_151 (fun _ h => h) (gx_rfv hr) dX11_holds_43 ?_
        obtain ⟨i10, hr, hF⟩ := b1_ex hF
        have hT_i10 : hT σ7 i10 13 := gw_T hG hT_i9 (by decide) hr
        refine gx_getN 4 (v := .ref (ad i10)) X hG hT_i9.1 (hT_i9.eq (by decide)) (by decide) rfl inX3 (by decide) q_52 (fun _ h => h) (gx_rfv hr) dX11_holds_46 ?_
        refine lv_iload_n X.1 X.2.1 dX11_holds_49 rfl (lv_at hl 2 rfl) ?_
        refine lv_iload_n X.1 X.2.1 dX11_holds_50 rfl (lv_at hl 3 rfl) ?_
        obtain ⟨σ11, hz, hF⟩ := b1_ex hF
        refine gx_rV (gx_runS (As := [.ref (ad i10), .int a1, .int a2]) (rest := []) X hG hS (c_X11_store l D cA base ad σ7 n i10 a1 a2 hT_i10 hz) k_173 k_171 k_172 k_1 (h_X11_store.2) rfl rfl ⟨by decide, by decide⟩ rfl hl.1 rfl (Nat.le_of_ble_eq_true rfl) dX11_holds_51 ⟨Nat.zero_le _, Nat.zero_le _⟩) hS (fun H locs hG hS hX => ?_)
        have hT_a0 := hX.T hT_a0
        replace hE := hE.trans hX
        refine lv_aload_n X.1 X.2.1 dX11_holds_54 rfl (lv_at hl 1 rfl) ?_
        obtain ⟨i12, hr, hF⟩ := b1_ex hF
        have hT_i12 : hT σ11 i12 3 := gw_T hG hT_a0 (by decide) hr
        refine gx_get 0 (v := .ref (ad i12)) X hG hT_a0.1 (hT_a0.eq (by decide)) (by decide) rfl inX11 (by decide) k_151 (fun _ h => h) (gx_rfv hr) dX11_holds_55 ?_
        refine gx_getN 8 (v := .int (hI σ11 i12 8)) X hG hT_i12.1 (hT_i12.eq (by decide)) (by decide) rfl inX3 (by decide) q_58 (fun _ h => h) rfl dX11_holds_58 ?_
        refine lv_if_ne (tgt := 71) X.1 X.2.1 dX11_holds_61 (by decide) (fun hc => ?_) (fun hc => ?_)
        · replace hF := it_f hF hc
          refine lv_iload_n X.1 X.2.1 dX11_holds_71 rfl (lv_at hl 0 rfl) ?_
          exact gx_iret X hG hS hE hF dX11_holds_72
        · replace hF := it_t hF hc
          refine lv_aload_n X.1 X.2.1 dX11_holds_64 rfl (lv_at hl 1 rfl) ?_
          obtain ⟨i13, hr, hF⟩ := b1_ex hF
          have hT_i13 : hT σ11 i13 3 := gw_T hG hT_a0 (by decide) hr
          refine gx_get 0 (v := .ref (ad i13)) X hG hT_a0.1 (hT_a0.eq (by decide)) (by decide) rfl inX11 (by decide) k_151 (fun _ h => h) (gx_rfv hr) dX11_holds_65 ?_
          obtain ⟨σ14, hz, hF⟩ := b1_ex hF
          refine gx_rV (gx_runV (As := []) (rest := []) X hG hS hT_i13.1 (hT_i13.eq (by decide)) (by decide) rfl (c_X3_standAsTold l D cA base ad σ11 n i13 hT_i13 hz) k_355 k_352 k_353 k_354 k_2 (h_X3_standAsTold) rfl rfl ⟨by decide, by decide⟩ rfl hl.1 rfl (Nat.le_of_ble_eq_true rfl) dX11_holds_68 ⟨Nat.zero_le _, Nat.zero_le _⟩) hS (fun H locs hG hS hX => ?_)
          have hT_a0 := hX.T hT_a0
          replace hE := hE.trans hX
          refine lv_iload_n X.1 X.2.1 dX11_holds_71 rfl (lv_at hl 0 rfl) ?_
          exact gx_iret X hG hS hE hF dX11_holds_72
      · replace hF := it_f hF hc
        refine lv_iconst (v := (-1)) X.1 X.2.1 dX11_holds_28 (by decide) ?_
        exact gx_iret X hG hS hE hF dX11_holds_29
theorem c_X3_turnAt (l : Launch) (D : va_G) (cA : Nat → ClassId) (base : Nat) (ad : Nat → Nat) (σ : Hp) (n : Nat) (a0 : Nat) (a1 : Int32) (hT_a0 : hT σ a0 3) {τ : Hp} {r : Option Nat} (hF : F_X3_turnAt n a0 a1 σ = some (r, τ)) : MQ2 l yX3_turnAt cX3_turnAt 2 (some (.object "ElevenOne$Turn")) rm_X3_turnAt D cA base ad σ [.ref (ad a0), .int a1] r τ 100 := by
  refine Met.ofW (cc := cX3_turnAt) (maxL := 2) (ret := (some (.object "ElevenOne$Turn"))) (by decide) rfl ?_
  intro p e s m args below meth c s₁ B hml hv
  obtain ⟨rfl, hv⟩ := hv
  have X : SX D cA base p s m ([.ref (ad a0), .int a1] : List Value).toArray meth c cX3_turnAt 2 (some (.object "ElevenOne$Turn")) RX3 := sx_of B hml hv
  have hG := hv.1
  have hS : va_S (bA base) s.heap s.heap [] := va_S.rf
  have hE := xT.rf σ
  have hl := lv_entry ([.ref (ad a0), .int a1]) (n := 2) (Nat.le_of_ble_eq_true rfl)
  rw [lg_entry_eq]
  generalize (lg_sl ([.ref (ad a0), .int a1]) ++ List.replicate (2 - (lg_sl ([.ref (ad a0), .int a1])).length) Slot.unset).toArray = ls at hl ⊢
  have hl : lv_has ls 2 [(0, .ref (ad a0)), (1, .int a1)] := hl
  unfold F_X3_turnAt at hF
  refine lv_aload_n X.1 X.2.1 dX3_turnAt_0 rfl (lv_at hl 0 rfl) ?_
  refine lv_iload_n X.1 X.2.1 dX3_turnAt_1 rfl (lv_at hl 1 rfl) ?_
  obtain ⟨r2, σ1, hz, hF⟩ := b2_ex hF
  refine gx_rI (gx_runV (As := [.int a1]) (rest := []) X hG hS hT_a0.1 (hT_a0.eq (by decide)) (by decide) rfl (c_X3_isSeat l D cA base ad σ n a0 a1 hT_a0 hz) k_374 k_384 k_372 k_373 k_2 (h_X3_isSeat) rfl rfl ⟨by decide, by decide⟩ rfl hl.1 rfl (Nat.le_of_ble_eq_true rfl) dX3_turnAt_2 ⟨Nat.zero_le _, Nat.zero_le _⟩) hS (fun H locs hG hS hX => ?_)
  have hT_a0 := hX.T hT_a0
  replace hE := hE.trans hX
  refine lv_if_eq (tgt := 26) X.1 X.2.1 dX3_turnAt_5 (by decide) (fun hc => ?_) (fun hc => ?_)
  · replace hF := it_t hF hc
    refine lv_null X.1 X.2.1 dX3_turnAt_26 ?_
    exact gx_qret (v := none) X hG hS hE oT.none hF dX3_turnAt_27
  · replace hF := it_f hF hc
    refine lv_iload_n X.1 X.2.1 dX3_turnAt_8 rfl (lv_at hl 1 rfl) ?_
    refine lv_aload_n X.1 X.2.1 dX3_turnAt_9 rfl (lv_at hl 0 rfl) ?_
    obtain ⟨i3, hr, hF⟩ := b1_ex hF
    have hT_i3 : hT σ1 i3 16 := gw_T hG hT_a0 (by decide) hr
    refine gx_get 3 (v := .ref (ad i3)) X hG hT_a0.1 (hT_a0.eq (by decide)) (by decide) rfl inX3 (by decide) k_50 (fun _ h => h) (gx_rfv hr) dX3_turnAt_10 ?_
    refine gx_alen (t0 := 3) X hG hT_i3 (by decide) (by decide) rfl dX3_turnAt_13 ?_
    refine lv_icmp_ge (tgt := 26) X.1 X.2.1 dX3_turnAt_14 (by decide) (fun hc => ?_) (fun hc => ?_)
    · replace hF := it_t hF hc
      refine lv_null X.1 X.2.1 dX3_turnAt_26 ?_
      exact gx_qret (v := none) X hG hS hE oT.none hF dX3_turnAt_27
    · replace hF := it_f hF hc
      refine lv_aload_n X.1 X.2.1 dX3_turnAt_17 rfl (lv_at hl 0 rfl) ?_
      obtain ⟨i4, hr, hF⟩ := b1_ex hF
      have hT_i4 : hT σ1 i4 16 := gw_T hG hT_a0 (by decide) hr
      refine gx_get 3 (v := .ref (ad i4)) X hG hT_a0.1 (hT_a0.eq (by decide)) (by decide) rfl inX3 (by decide) k_50 (fun _ h => h) (gx_rfv hr) dX3_turnAt_18 ?_
      refine lv_iload_n X.1 X.2.1 dX3_turnAt_21 rfl (lv_at hl 1 rfl) ?_
      refine gx_qald (t0 := 3) X hG hT_i4 (by decide) (by decide) rfl hF dX3_turnAt_22 (fun q5 hO_q5 hF => ?_)
      replace hO_q5 : oT σ1 q5 100 := hO_q5
      refine lv_goto (tgt := 27) X.1 X.2.1 dX3_turnAt_23 (by decide) ?_
      exact gx_qret (v := q5) X hG hS hE hO_q5 hF dX3_turnAt_27
theorem c_X3_gaveIn (l : Launch) (D : va_G) (cA : Nat → ClassId) (base : Nat) (ad : Nat → Nat) (σ : Hp) (n : Nat) (a0 : Nat) (a1 : Int32) (hT_a0 : hT σ a0 3) {τ : Hp} {r : Int32} (hF : F_X3_gaveIn n a0 a1 σ = some (r, τ)) : MI l yX3_gaveIn cX3_gaveIn 2 (some .boolean) rm_X3_gaveIn D cA base ad σ [.ref (ad a0), .int a1] r τ := by
  refine Met.ofW (cc := cX3_gaveIn) (maxL := 2) (ret := (some .boolean)) (by decide) rfl ?_
  intro p e s m args below meth c s₁ B hml hv
  obtain ⟨rfl, hv⟩ := hv
  have X : SX D cA base p s m ([.ref (ad a0), .int a1] : List Value).toArray meth c cX3_gaveIn 2 (some .boolean) RX3 := sx_of B hml hv
  have hG := hv.1
  have hS : va_S (bA base) s.heap s.heap [] := va_S.rf
  have hE := xT.rf σ
  have hl := lv_entry ([.ref (ad a0), .int a1]) (n := 2) (Nat.le_of_ble_eq_true rfl)
  rw [lg_entry_eq]
  generalize (lg_sl ([.ref (ad a0), .int a1]) ++ List.replicate (2 - (lg_sl ([.ref (ad a0), .int a1])).length) Slot.unset).toArray = ls at hl ⊢
  have hl : lv_has ls 2 [(0, .ref (ad a0)), (1, .int a1)] := hl
  unfold F_X3_gaveIn at hF
  refine lv_aload_n X.1 X.2.1 dX3_gaveIn_0 rfl (lv_at hl 0 rfl) ?_
  obtain ⟨i1, hr, hF⟩ := b1_ex hF
  have hT_i1 : hT σ i1 13 := gw_T hG hT_a0 (by decide) hr
  refine gx_get 18 (v := .ref (ad i1)) X hG hT_a0.1 (hT_a0.eq (by decide)) (by decide) rfl inX3 (by decide) k_81 (fun _ h => h) (gx_rfv hr) dX3_gaveIn_1 ?_
  refine lv_iload_n X.1 X.2.1 dX3_gaveIn_4 rfl (lv_at hl 1 rfl) ?_
  obtain ⟨r3, σ2, hz, hF⟩ := b2_ex hF
  refine gx_rI (gx_runSN (As := [.ref (ad i1), .int a1]) (rest := []) X hG hS (c_X11_at l D cA base ad σ n i1 a1 hT_i1 hz) k_362 q_360 k_361 k_1 (h_X11_at.2) rfl rfl ⟨by decide, by decide⟩ rfl hl.1 rfl (Nat.le_of_ble_eq_true rfl) dX3_gaveIn_5 ⟨Nat.zero_le _, Nat.zero_le _⟩) hS (fun H locs hG hS hX => ?_)
  have hT_a0 := hX.T hT_a0
  replace hE := hE.trans hX
  refine lv_if_lt (tgt := 15) X.1 X.2.1 dX3_gaveIn_8 (by decide) (fun hc => ?_) (fun hc => ?_)
  · replace hF := it_t hF hc
    refine lv_iconst (v := 0) X.1 X.2.1 dX3_gaveIn_15 (by decide) ?_
    exact gx_zret X hG hS hE hF rfl dX3_gaveIn_16
  · replace hF := it_f hF hc
    refine lv_iconst (v := 1) X.1 X.2.1 dX3_gaveIn_11 (by decide) ?_
    refine lv_goto (tgt := 16) X.1 X.2.1 dX3_gaveIn_12 (by decide) ?_
    exact gx_zret X hG hS hE hF rfl dX3_gaveIn_16
theorem c_X11_of (l : Launch) (D : va_G) (cA : Nat → ClassId) (base : Nat) (ad : Nat → Nat) (σ : Hp) (n : Nat) (a0 : Nat) (a1 : Int32) (a2 : Int32) (hT_a0 : hT σ a0 11) {τ : Hp} {r : Int32} (hF : F_X11_of n a0 a1 a2 σ = some (r, τ)) : MI l yX11_of cX11_of 4 (some .int) rm_X11_of D cA base ad σ [.ref (ad a0), .int a1, .int a2] r τ := by
  refine Met.ofW (cc := cX11_of) (maxL := 4) (ret := (some .int)) (by decide) rfl ?_
  intro p e s m args below meth c s₁ B hml hv
  obtain ⟨rfl, hv⟩ := hv
  have X : SX D cA base p s m ([.ref (ad a0), .int a1, .int a2] : List Value).toArray meth c cX11_of 4 (some .int) RX11 := sx_of B hml hv
  have hG := hv.1
  have hS : va_S (bA base) s.heap s.heap [] := va_S.rf
  have hE := xT.rf σ
  have hl := lv_entry ([.ref (ad a0), .int a1, .int a2]) (n := 4) (Nat.le_of_ble_eq_true rfl)
  rw [lg_entry_eq]
  generalize (lg_sl ([.ref (ad a0), .int a1, .int a2]) ++ List.replicate (4 - (lg_sl ([.ref (ad a0), .int a1, .int a2])).length) Slot.unset).toArray = ls at hl ⊢
  have hl : lv_has ls 4 [(0, .ref (ad a0)), (1, .int a1), (2, .int a2)] := hl
  unfold F_X11_of at hF
  refine lv_aload_n X.1 X.2.1 dX11_of_0 rfl (lv_at hl 0 rfl) ?_
  obtain ⟨i1, hr, hF⟩ := b1_ex hF
  have hT_i1 : hT σ i1 3 := gw_T hG hT_a0 (by decide) hr
  refine gx_get 0 (v := .ref (ad i1)) X hG hT_a0.1 (hT_a0.eq (by decide)) (by decide) rfl inX11 (by decide) k_151 (fun _ h => h) (gx_rfv hr) dX11_of_1 ?_
  refine lv_iload_n X.1 X.2.1 dX11_of_4 rfl (lv_at hl 1 rfl) ?_
  obtain ⟨r3, σ2, hz, hF⟩ := b2_ex hF
  refine gx_rQ (gx_runV (As := [.int a1]) (rest := []) X hG hS hT_i1.1 (hT_i1.eq (by decide)) (by decide) rfl (c_X3_turnAt l D cA base ad σ n i1 a1 hT_i1 hz) k_383 k_380 k_381 k_382 k_2 (h_X3_turnAt) rfl rfl ⟨by decide, by decide⟩ rfl hl.1 rfl (Nat.le_of_ble_eq_true rfl) dX11_of_5 ⟨Nat.zero_le _, Nat.zero_le _⟩) hS (fun H locs hG hS hX hO_r3 => ?_)
  have hT_a0 := hX.T hT_a0
  replace hE := hE.trans hX
  refine gx_astore_n (lv' := [(3, va_rf (Option.map ad r3)), (0, .ref (ad a0)), (1, .int a1), (2, .int a2)]) X.1 X.2.1 dX11_of_8 rfl hl (by decide) (by cases r3 <;> rfl) (fun ls hl => ?_)
  refine gx_aload_n X.1 X.2.1 dX11_of_9 rfl (lv_at hl 0 rfl) ?_
  refine gx_ifnonnull (tgt := 16) X.1 X.2.1 dX11_of_10 (by decide) hF (fun hr hF2i4 => ?_) (fun i4 hr hF2i4 => ?_)
  · subst hr
    have hF := hF2i4
    have hl : lv_has ls 4 [(3, .null), (0, .ref (ad a0)), (1, .int a1), (2, .int a2)] := hl
    refine lv_ldc (v := (-1000000001)) X.1 X.2.1 X.2.2.2.2.2.1 (X.w k_385) dX11_of_13 ?_
    exact gx_iret X hG hS hE hF dX11_of_15
  · subst hr
    have hF := hF2i4
    have hT_i4 := hO_r3 i4 rfl
    have hl : lv_has ls 4 [(3, .ref (ad i4)), (0, .ref (ad a0)), (1, .int a1), (2, .int a2)] := hl
    refine lv_iload_n X.1 X.2.1 dX11_of_16 rfl (lv_at hl 3 rfl) ?_
    by_cases hc0 : a2 = 0
    · replace hF := it_t hF hc0
      refine lv_tableIn (tgt := 72) X.1 X.2.1 dX11_of_17 (by rw [hc0]; decide) (by rw [hc0]; decide) (by rw [hc0]; rfl) (by decide) ?_
      refine lv_aload_n X.1 X.2.1 dX11_of_72 rfl (lv_at hl 0 rfl) ?_
      refine gx_getT 1 (v := .int (hI σ2 i4 1)) X hG hT_i4 (by decide) k_201 (fun _ h => h) rfl dX11_of_73 ?_
      exact gx_iret X hG hS hE hF dX11_of_76
    replace hF := it_f hF hc0
    by_cases hc1 : a2 = 1
    · replace hF := it_t hF hc1
      refine lv_tableIn (tgt := 77) X.1 X.2.1 dX11_of_17 (by rw [hc1]; decide) (by rw [hc1]; decide) (by rw [hc1]; rfl) (by decide) ?_
      refine lv_aload_n X.1 X.2.1 dX11_of_77 rfl (lv_at hl 0 rfl) ?_
      refine gx_getT 2 (v := .int (hI σ2 i4 2)) X hG hT_i4 (by decide) k_211 (fun _ h => h) rfl dX11_of_78 ?_
      exact gx_iret X hG hS hE hF dX11_of_81
    replace hF := it_f hF hc1
    by_cases hc2 : a2 = 2
    · replace hF := it_t hF hc2
      refine lv_tableIn (tgt := 82) X.1 X.2.1 dX11_of_17 (by rw [hc2]; decide) (by rw [hc2]; decide) (by rw [hc2]; rfl) (by decide) ?_
      refine lv_aload_n X.1 X.2.1 dX11_of_82 rfl (lv_at hl 0 rfl) ?_
      refine gx_getT 3 (v := .int (hI σ2 i4 3)) X hG hT_i4 (by decide) k_214 (fun _ h => h) rfl dX11_of_83 ?_
      exact gx_iret X hG hS hE hF dX11_of_86
    replace hF := it_f hF hc2
    by_cases hc3 : a2 = 3
    · replace hF := it_t hF hc3
      refine lv_tableIn (tgt := 87) X.1 X.2.1 dX11_of_17 (by rw [hc3]; decide) (by rw [hc3]; decide) (by rw [hc3]; rfl) (by decide) ?_
      refine lv_aload_n X.1 X.2.1 dX11_of_87 rfl (lv_at hl 0 rfl) ?_
      refine gx_getT 4 (v := .int (hI σ2 i4 4)) X hG hT_i4 (by decide) k_218 (fun _ h => h) rfl dX11_of_88 ?_
      exact gx_iret X hG hS hE hF dX11_of_91
    replace hF := it_f hF hc3
    by_cases hc4 : a2 = 4
    · replace hF := it_t hF hc4
      refine lv_tableIn (tgt := 92) X.1 X.2.1 dX11_of_17 (by rw [hc4]; decide) (by rw [hc4]; decide) (by rw [hc4]; rfl) (by decide) ?_
      refine lv_aload_n X.1 X.2.1 dX11_of_92 rfl (lv_at hl 0 rfl) ?_
      refine gx_getT 5 (v := .int (hI σ2 i4 5)) X hG hT_i4 (by decide) k_223 (fun _ h => h) rfl dX11_of_93 ?_
      exact gx_iret X hG hS hE hF dX11_of_96
    replace hF := it_f hF hc4
    by_cases hc5 : a2 = 5
    · replace hF := it_t hF hc5
      refine lv_tableIn (tgt := 97) X.1 X.2.1 dX11_of_17 (by rw [hc5]; decide) (by rw [hc5]; decide) (by rw [hc5]; rfl) (by decide) ?_
      refine lv_aload_n X.1 X.2.1 dX11_of_97 rfl (lv_at hl 0 rfl) ?_
      refine gx_getT 6 (v := .int (hI σ2 i4 6)) X hG hT_i4 (by decide) k_225 (fun _ h => h) rfl dX11_of_98 ?_
      exact gx_iret X hG hS hE hF dX11_of_101
    replace hF := it_f hF hc5
    by_cases hc6 : a2 = 6
    · replace hF := it_t hF hc6
      refine lv_tableIn (tgt := 102) X.1 X.2.1 dX11_of_17 (by rw [hc6]; decide) (by rw [hc6]; decide) (by rw [hc6]; rfl) (by decide) ?_
      refine lv_aload_n X.1 X.2.1 dX11_of_102 rfl (lv_at hl 1 rfl) ?_
      obtain ⟨i5, hr, hF⟩ := b1_ex hF
      have hT_i5 : hT σ2 i5 3 := gw_T hG hT_a0 (by decide) hr
      refine gx_get 0 (v := .ref (ad i5)) X hG hT_a0.1 (hT_a0.eq (by decide)) (by decide) rfl inX11 (by decide) k_151 (fun _ h => h) (gx_rfv hr) dX11_of_103 ?_
      obtain ⟨i6, hr, hF⟩ := b1_ex hF
      have hT_i6 : hT σ2 i6 13 := gw_T hG hT_i5 (by decide) hr
      refine gx_getN 15 (v := .ref (ad i6)) X hG hT_i5.1 (hT_i5.eq (by decide)) (by decide) rfl inX3 (by decide) q_75 (fun _ h => h) (gx_rfv hr) dX11_of_106 ?_
      refine lv_iload_n X.1 X.2.1 dX11_of_109 rfl (lv_at hl 2 rfl) ?_
      obtain ⟨r8, σ7, hz, hF⟩ := b2_ex hF
      refine gx_rI (gx_runS (As := [.ref (ad i6), .int a1]) (rest := []) X hG hS (c_X11_at l D cA base ad σ2 n i6 a1 hT_i6 hz) k_362 k_375 k_361 k_1 (h_X11_at.2) rfl rfl ⟨by decide, by decide⟩ rfl hl.1 rfl (Nat.le_of_ble_eq_true rfl) dX11_of_110 ⟨Nat.zero_le _, Nat.zero_le _⟩) hS (fun H locs hG hS hX => ?_)
      have hT_a0 := hX.T hT_a0
      have hT_i4 := hX.T hT_i4
      replace hE := hE.trans hX
      exact gx_iret X hG hS hE hF dX11_of_113
    replace hF := it_f hF hc6
    by_cases hc7 : a2 = 7
    · replace hF := it_t hF hc7
      refine lv_tableIn (tgt := 114) X.1 X.2.1 dX11_of_17 (by rw [hc7]; decide) (by rw [hc7]; decide) (by rw [hc7]; rfl) (by decide) ?_
      refine lv_aload_n X.1 X.2.1 dX11_of_114 rfl (lv_at hl 1 rfl) ?_
      obtain ⟨i9, hr, hF⟩ := b1_ex hF
      have hT_i9 : hT σ2 i9 3 := gw_T hG hT_a0 (by decide) hr
      refine gx_get 0 (v := .ref (ad i9)) X hG hT_a0.1 (hT_a0.eq (by decide)) (by decide) rfl inX11 (by decide) k_151 (fun _ h => h) (gx_rfv hr) dX11_of_115 ?_
      obtain ⟨i10, hr, hF⟩ := b1_ex hF
      have hT_i10 : hT σ2 i10 13 := gw_T hG hT_i9 (by decide) hr
      refine gx_getN 17 (v := .ref (ad i10)) X hG hT_i9.1 (hT_i9.eq (by decide)) (by decide) rfl inX3 (by decide) q_80 (fun _ h => h) (gx_rfv hr) dX11_of_118 ?_
      refine lv_iload_n X.1 X.2.1 dX11_of_121 rfl (lv_at hl 2 rfl) ?_
      obtain ⟨r12, σ11, hz, hF⟩ := b2_ex hF
      refine gx_rI (gx_runS (As := [.ref (ad i10), .int a1]) (rest := []) X hG hS (c_X11_at l D cA base ad σ2 n i10 a1 hT_i10 hz) k_362 k_375 k_361 k_1 (h_X11_at.2) rfl rfl ⟨by decide, by decide⟩ rfl hl.1 rfl (Nat.le_of_ble_eq_true rfl) dX11_of_122 ⟨Nat.zero_le _, Nat.zero_le _⟩) hS (fun H locs hG hS hX => ?_)
      have hT_a0 := hX.T hT_a0
      have hT_i4 := hX.T hT_i4
      replace hE := hE.trans hX
      exact gx_iret X hG hS hE hF dX11_of_125
    replace hF := it_f hF hc7
    by_cases hc8 : a2 = 8
    · replace hF := it_t hF hc8
      refine lv_tableIn (tgt := 126) X.1 X.2.1 dX11_of_17 (by rw [hc8]; decide) (by rw [hc8]; decide) (by rw [hc8]; rfl) (by decide) ?_
      refine lv_aload_n X.1 X.2.1 dX11_of_126 rfl (lv_at hl 1 rfl) ?_
      obtain ⟨i13, hr, hF⟩ := b1_ex hF
      have hT_i13 : hT σ2 i13 3 := gw_T hG hT_a0 (by decide) hr
      refine gx_get 0 (v := .ref (ad i13)) X hG hT_a0.1 (hT_a0.eq (by decide)) (by decide) rfl inX11 (by decide) k_151 (fun _ h => h) (gx_rfv hr) dX11_of_127 ?_
      refine gx_getN 12 (v := .int (hI σ2 i13 12)) X hG hT_i13.1 (hT_i13.eq (by decide)) (by decide) rfl inX3 (by decide) q_68 (fun _ h => h) rfl dX11_of_130 ?_
      refine lv_iload_n X.1 X.2.1 dX11_of_133 rfl (lv_at hl 2 rfl) ?_
      refine lv_ishr X.1 X.2.1 dX11_of_134 ?_
      refine lv_iconst (v := 1) X.1 X.2.1 dX11_of_135 (by decide) ?_
      refine lv_iand X.1 X.2.1 dX11_of_136 ?_
      exact gx_iret X hG hS hE hF dX11_of_137
    replace hF := it_f hF hc8
    by_cases hc9 : a2 = 9
    · replace hF := it_t hF hc9
      refine lv_tableIn (tgt := 138) X.1 X.2.1 dX11_of_17 (by rw [hc9]; decide) (by rw [hc9]; decide) (by rw [hc9]; rfl) (by decide) ?_
      refine lv_aload_n X.1 X.2.1 dX11_of_138 rfl (lv_at hl 1 rfl) ?_
      obtain ⟨i14, hr, hF⟩ := b1_ex hF
      have hT_i14 : hT σ2 i14 3 := gw_T hG hT_a0 (by decide) hr
      refine gx_get 0 (v := .ref (ad i14)) X hG hT_a0.1 (hT_a0.eq (by decide)) (by decide) rfl inX11 (by decide) k_151 (fun _ h => h) (gx_rfv hr) dX11_of_139 ?_
      refine lv_iload_n X.1 X.2.1 dX11_of_142 rfl (lv_at hl 2 rfl) ?_
      obtain ⟨r16, σ15, hz, hF⟩ := b2_ex hF
      refine gx_rI (gx_runV (As := [.int a1]) (rest := []) X hG hS hT_i14.1 (hT_i14.eq (by decide)) (by decide) rfl (c_X3_gaveIn l D cA base ad σ2 n i14 a1 hT_i14 hz) k_389 k_386 k_387 k_388 k_2 (h_X3_gaveIn) rfl rfl ⟨by decide, by decide⟩ rfl hl.1 rfl (Nat.le_of_ble_eq_true rfl) dX11_of_143 ⟨Nat.zero_le _, Nat.zero_le _⟩) hS (fun H locs hG hS hX => ?_)
      have hT_a0 := hX.T hT_a0
      have hT_i4 := hX.T hT_i4
      replace hE := hE.trans hX
      refine lv_if_eq (tgt := 153) X.1 X.2.1 dX11_of_146 (by decide) (fun hc => ?_) (fun hc => ?_)
      · replace hF := it_t hF hc
        refine lv_iconst (v := 0) X.1 X.2.1 dX11_of_153 (by decide) ?_
        exact gx_iret X hG hS hE hF dX11_of_154
      · replace hF := it_f hF hc
        refine lv_iconst (v := 1) X.1 X.2.1 dX11_of_149 (by decide) ?_
        refine lv_goto (tgt := 154) X.1 X.2.1 dX11_of_150 (by decide) ?_
        exact gx_iret X hG hS hE hF dX11_of_154
    replace hF := it_f hF hc9
    have hz0 := ne_lit hc0 (z := 0) (by decide)
    have hz1 := ne_lit hc1 (z := 1) (by decide)
    have hz2 := ne_lit hc2 (z := 2) (by decide)
    have hz3 := ne_lit hc3 (z := 3) (by decide)
    have hz4 := ne_lit hc4 (z := 4) (by decide)
    have hz5 := ne_lit hc5 (z := 5) (by decide)
    have hz6 := ne_lit hc6 (z := 6) (by decide)
    have hz7 := ne_lit hc7 (z := 7) (by decide)
    have hz8 := ne_lit hc8 (z := 8) (by decide)
    have hz9 := ne_lit hc9 (z := 9) (by decide)
    refine lv_tableOut (tgt := 155) X.1 X.2.1 dX11_of_17 (by omega) (by decide) ?_
    refine lv_ldc (v := (-1000000001)) X.1 X.2.1 X.2.2.2.2.2.1 (X.w k_385) dX11_of_155 ?_
    exact gx_iret X hG hS hE hF dX11_of_157
theorem c_J6_bitCount_0f7a4 (l : Launch) (D : va_G) (cA : Nat → ClassId) (base : Nat) (ad : Nat → Nat) (σ : Hp) (n : Nat) (a0 : Int32)  {τ : Hp} {r : Int32} (hF : F_J6_bitCount_0f7a4 n a0 σ = some (r, τ)) : MI l yJ6_bitCount_0f7a4 cJ6_bitCount_0f7a4 1 (some .int) rm_J6_bitCount_0f7a4 D cA base ad σ [.int a0] r τ := by
  refine Met.ofW (cc := cJ6_bitCount_0f7a4) (maxL := 1) (ret := (some .int)) (by decide) rfl ?_
  intro p e s m args below meth c s₁ B hml hv
  obtain ⟨rfl, hv⟩ := hv
  have X : SX D cA base p s m ([.int a0] : List Value).toArray meth c cJ6_bitCount_0f7a4 1 (some .int) "java/lang/Integer" := sx_of B hml hv
  have hG := hv.1
  have hS : va_S (bA base) s.heap s.heap [] := va_S.rf
  have hE := xT.rf σ
  have hl := lv_entry ([.int a0]) (n := 1) (Nat.le_of_ble_eq_true rfl)
  rw [lg_entry_eq]
  generalize (lg_sl ([.int a0]) ++ List.replicate (1 - (lg_sl ([.int a0])).length) Slot.unset).toArray = ls at hl ⊢
  have hl : lv_has ls 1 [(0, .int a0)] := hl
  unfold F_J6_bitCount_0f7a4 at hF
  refine lv_iload_n X.1 X.2.1 dJ6_bitCount_0f7a4_0 rfl (lv_at hl 0 rfl) ?_
  refine lv_iload_n X.1 X.2.1 dJ6_bitCount_0f7a4_1 rfl (lv_at hl 0 rfl) ?_
  refine lv_iconst (v := 1) X.1 X.2.1 dJ6_bitCount_0f7a4_2 (by decide) ?_
  refine lv_iushr X.1 X.2.1 dJ6_bitCount_0f7a4_3 rfl ?_
  refine lv_ldcw (v := 1431655765) X.1 X.2.1 X.2.2.2.2.2.1 (X.w k_401) dJ6_bitCount_0f7a4_4 ?_
  refine lv_iand X.1 X.2.1 dJ6_bitCount_0f7a4_7 ?_
  refine lv_isub X.1 X.2.1 dJ6_bitCount_0f7a4_8 ?_
  refine lv_topi (fun x1 ex1 => ?_)
  replace hF := lt_nm hF ex1
  refine lv_istore_n (lv' := [(0, .int x1)]) X.1 X.2.1 dJ6_bitCount_0f7a4_9 rfl hl (by decide) rfl (fun ls hl => ?_)
  refine lv_iload_n X.1 X.2.1 dJ6_bitCount_0f7a4_10 rfl (lv_at hl 0 rfl) ?_
  refine lv_ldcw (v := 858993459) X.1 X.2.1 X.2.2.2.2.2.1 (X.w k_402) dJ6_bitCount_0f7a4_11 ?_
  refine lv_iand X.1 X.2.1 dJ6_bitCount_0f7a4_14 ?_
  refine lv_iload_n X.1 X.2.1 dJ6_bitCount_0f7a4_15 rfl (lv_at hl 0 rfl) ?_
  refine lv_iconst (v := 2) X.1 X.2.1 dJ6_bitCount_0f7a4_16 (by decide) ?_
  refine lv_iushr X.1 X.2.1 dJ6_bitCount_0f7a4_17 rfl ?_
  refine lv_ldcw (v := 858993459) X.1 X.2.1 X.2.2.2.2.2.1 (X.w k_402) dJ6_bitCount_0f7a4_18 ?_
  refine lv_iand X.1 X.2.1 dJ6_bitCount_0f7a4_21 ?_
  refine lv_iadd X.1 X.2.1 dJ6_bitCount_0f7a4_22 ?_
  refine lv_topi (fun x2 ex2 => ?_)
  replace hF := lt_nm hF ex2
  refine lv_istore_n (lv' := [(0, .int x2)]) X.1 X.2.1 dJ6_bitCount_0f7a4_23 rfl hl (by decide) rfl (fun ls hl => ?_)
  refine lv_iload_n X.1 X.2.1 dJ6_bitCount_0f7a4_24 rfl (lv_at hl 0 rfl) ?_
  refine lv_iload_n X.1 X.2.1 dJ6_bitCount_0f7a4_25 rfl (lv_at hl 0 rfl) ?_
  refine lv_iconst (v := 4) X.1 X.2.1 dJ6_bitCount_0f7a4_26 (by decide) ?_
  refine lv_iushr X.1 X.2.1 dJ6_bitCount_0f7a4_27 rfl ?_
  refine lv_iadd X.1 X.2.1 dJ6_bitCount_0f7a4_28 ?_
  refine lv_ldcw (v := 252645135) X.1 X.2.1 X.2.2.2.2.2.1 (X.w k_403) dJ6_bitCount_0f7a4_29 ?_
  refine lv_iand X.1 X.2.1 dJ6_bitCount_0f7a4_32 ?_
  refine lv_topi (fun x3 ex3 => ?_)
  replace hF := lt_nm hF ex3
  refine lv_istore_n (lv' := [(0, .int x3)]) X.1 X.2.1 dJ6_bitCount_0f7a4_33 rfl hl (by decide) rfl (fun ls hl => ?_)
  refine lv_iload_n X.1 X.2.1 dJ6_bitCount_0f7a4_34 rfl (lv_at hl 0 rfl) ?_
  refine lv_iload_n X.1 X.2.1 dJ6_bitCount_0f7a4_35 rfl (lv_at hl 0 rfl) ?_
  refine lv_bipush (v := 8) X.1 X.2.1 dJ6_bitCount_0f7a4_36 (by decide) ?_
  refine lv_iushr X.1 X.2.1 dJ6_bitCount_0f7a4_38 rfl ?_
  refine lv_iadd X.1 X.2.1 dJ6_bitCount_0f7a4_39 ?_
  refine lv_topi (fun x4 ex4 => ?_)
  replace hF := lt_nm hF ex4
  refine lv_istore_n (lv' := [(0, .int x4)]) X.1 X.2.1 dJ6_bitCount_0f7a4_40 rfl hl (by decide) rfl (fun ls hl => ?_)
  refine lv_iload_n X.1 X.2.1 dJ6_bitCount_0f7a4_41 rfl (lv_at hl 0 rfl) ?_
  refine lv_iload_n X.1 X.2.1 dJ6_bitCount_0f7a4_42 rfl (lv_at hl 0 rfl) ?_
  refine lv_bipush (v := 16) X.1 X.2.1 dJ6_bitCount_0f7a4_43 (by decide) ?_
  refine lv_iushr X.1 X.2.1 dJ6_bitCount_0f7a4_45 rfl ?_
  refine lv_iadd X.1 X.2.1 dJ6_bitCount_0f7a4_46 ?_
  refine lv_topi (fun x5 ex5 => ?_)
  replace hF := lt_nm hF ex5
  refine lv_istore_n (lv' := [(0, .int x5)]) X.1 X.2.1 dJ6_bitCount_0f7a4_47 rfl hl (by decide) rfl (fun ls hl => ?_)
  refine lv_iload_n X.1 X.2.1 dJ6_bitCount_0f7a4_48 rfl (lv_at hl 0 rfl) ?_
  refine lv_bipush (v := 63) X.1 X.2.1 dJ6_bitCount_0f7a4_49 (by decide) ?_
  refine lv_iand X.1 X.2.1 dJ6_bitCount_0f7a4_51 ?_
  exact gx_iret X hG hS hE hF dJ6_bitCount_0f7a4_52
theorem c_X3_yes (l : Launch) (D : va_G) (cA : Nat → ClassId) (base : Nat) (ad : Nat → Nat) (σ : Hp) (n : Nat) (a0 : Nat) (hT_a0 : hT σ a0 3) {τ : Hp} {r : Int32} (hF : F_X3_yes n a0 σ = some (r, τ)) : MI l yX3_yes cX3_yes 1 (some .int) rm_X3_yes D cA base ad σ [.ref (ad a0)] r τ := by
  refine Met.ofW (cc := cX3_yes) (maxL := 1) (ret := (some .int)) (by decide) rfl ?_
  intro p e s m args below meth c s₁ B hml hv
  obtain ⟨rfl, hv⟩ := hv
  have X : SX D cA base p s m ([.ref (ad a0)] : List Value).toArray meth c cX3_yes 1 (some .int) RX3 := sx_of B hml hv
  have hG := hv.1
  have hS : va_S (bA base) s.heap s.heap [] := va_S.rf
  have hE := xT.rf σ
  have hl := lv_entry ([.ref (ad a0)]) (n := 1) (Nat.le_of_ble_eq_true rfl)
  rw [lg_entry_eq]
  generalize (lg_sl ([.ref (ad a0)]) ++ List.replicate (1 - (lg_sl ([.ref (ad a0)])).length) Slot.unset).toArray = ls at hl ⊢
  have hl : lv_has ls 1 [(0, .ref (ad a0))] := hl
  unfold F_X3_yes at hF
  refine lv_aload_n X.1 X.2.1 dX3_yes_0 rfl (lv_at hl 0 rfl) ?_
  refine gx_get 12 (v := .int (hI σ a0 12)) X hG hT_a0.1 (hT_a0.eq (by decide)) (by decide) rfl inX3 (by decide) k_69 (fun _ h => h) rfl dX3_yes_1 ?_
  obtain ⟨r2, σ1, hz, hF⟩ := b2_ex hF
  refine gx_rI (gx_runS (As := [.int (hI σ a0 12)]) (rest := []) X hG hS (c_J6_bitCount_0f7a4 l D cA base ad σ n (hI σ a0 12)  hz) k_400 k_398 k_399 k_13 (h_J6_bitCount_0f7a4.2) rfl rfl ⟨by decide, by decide⟩ rfl hl.1 rfl (Nat.le_of_ble_eq_true rfl) dX3_yes_4 ⟨Nat.zero_le _, Nat.zero_le _⟩) hS (fun H locs hG hS hX => ?_)
  have hT_a0 := hX.T hT_a0
  replace hE := hE.trans hX
  exact gx_iret X hG hS hE hF dX3_yes_7
theorem c_X3_no (l : Launch) (D : va_G) (cA : Nat → ClassId) (base : Nat) (ad : Nat → Nat) (σ : Hp) (n : Nat) (a0 : Nat) (hT_a0 : hT σ a0 3) {τ : Hp} {r : Int32} (hF : F_X3_no n a0 σ = some (r, τ)) : MI l yX3_no cX3_no 1 (some .int) rm_X3_no D cA base ad σ [.ref (ad a0)] r τ := by
  refine Met.ofW (cc := cX3_no) (maxL := 1) (ret := (some .int)) (by decide) rfl ?_
  intro p e s m args below meth c s₁ B hml hv
  obtain ⟨rfl, hv⟩ := hv
  have X : SX D cA base p s m ([.ref (ad a0)] : List Value).toArray meth c cX3_no 1 (some .int) RX3 := sx_of B hml hv
  have hG := hv.1
  have hS : va_S (bA base) s.heap s.heap [] := va_S.rf
  have hE := xT.rf σ
  have hl := lv_entry ([.ref (ad a0)]) (n := 1) (Nat.le_of_ble_eq_true rfl)
  rw [lg_entry_eq]
  generalize (lg_sl ([.ref (ad a0)]) ++ List.replicate (1 - (lg_sl ([.ref (ad a0)])).length) Slot.unset).toArray = ls at hl ⊢
  have hl : lv_has ls 1 [(0, .ref (ad a0))] := hl
  unfold F_X3_no at hF
  refine lv_aload_n X.1 X.2.1 dX3_no_0 rfl (lv_at hl 0 rfl) ?_
  refine gx_get 2 (v := .int (hI σ a0 2)) X hG hT_a0.1 (hT_a0.eq (by decide)) (by decide) rfl inX3 (by decide) k_45 (fun _ h => h) rfl dX3_no_1 ?_
  refine lv_aload_n X.1 X.2.1 dX3_no_4 rfl (lv_at hl 0 rfl) ?_
  obtain ⟨r2, σ1, hz, hF⟩ := b2_ex hF
  refine gx_rI (gx_runV (As := []) (rest := [.int (hI σ a0 2)]) X hG hS hT_a0.1 (hT_a0.eq (by decide)) (by decide) rfl (c_X3_yes l D cA base ad σ n a0 hT_a0 hz) k_397 k_408 k_395 k_396 k_2 (h_X3_yes) rfl rfl ⟨by decide, by decide⟩ rfl hl.1 rfl (Nat.le_of_ble_eq_true rfl) dX3_no_5 ⟨Nat.zero_le _, Nat.zero_le _⟩) hS (fun H locs hG hS hX => ?_)
  have hT_a0 := hX.T hT_a0
  replace hE := hE.trans hX
  refine lv_isub X.1 X.2.1 dX3_no_8 ?_
  exact gx_iret X hG hS hE hF dX3_no_9
theorem w_X1_isMark_30 {σ0 τ : Hp} {r : Int32} (X : SX D cA base p s m args meth c cX1_isMark 1 (some .boolean) RX1) (n : Nat)  : ∀  (σ : Hp) (H : Heap) (locs : List Loc) (ls : Array Slot), GW D cA base ad σ H → va_S (bA base) s.heap H locs → xT σ0 σ → lv_has ls 1 [] → F_X1_isMark_30 n  σ = some (r, τ) → W p l e rm_X1_isMark s m args below meth c H locs 0 0 (ZI below s args D cA base ad σ0 r τ) (F0 m 30 ls []) := by
  intro σ H locs ls hG hS hE hl hF
  unfold F_X1_isMark_30 at hF
  refine lv_iconst (v := 1) X.1 X.2.1 dX1_isMark_30 (by decide) ?_
  refine lv_goto (tgt := 35) X.1 X.2.1 dX1_isMark_31 (by decide) ?_
  exact gx_zret X hG hS hE hF rfl dX1_isMark_35
theorem c_X1_isMark (l : Launch) (D : va_G) (cA : Nat → ClassId) (base : Nat) (ad : Nat → Nat) (σ : Hp) (n : Nat) (a0 : Int32)  {τ : Hp} {r : Int32} (hF : F_X1_isMark n a0 σ = some (r, τ)) : MI l yX1_isMark cX1_isMark 1 (some .boolean) rm_X1_isMark D cA base ad σ [.int a0] r τ := by
  refine Met.ofW (cc := cX1_isMark) (maxL := 1) (ret := (some .boolean)) (by decide) rfl ?_
  intro p e s m args below meth c s₁ B hml hv
  obtain ⟨rfl, hv⟩ := hv
  have X : SX D cA base p s m ([.int a0] : List Value).toArray meth c cX1_isMark 1 (some .boolean) RX1 := sx_of B hml hv
  have hG := hv.1
  have hS : va_S (bA base) s.heap s.heap [] := va_S.rf
  have hE := xT.rf σ
  have hl := lv_entry ([.int a0]) (n := 1) (Nat.le_of_ble_eq_true rfl)
  rw [lg_entry_eq]
  generalize (lg_sl ([.int a0]) ++ List.replicate (1 - (lg_sl ([.int a0])).length) Slot.unset).toArray = ls at hl ⊢
  have hl : lv_has ls 1 [(0, .int a0)] := hl
  unfold F_X1_isMark at hF
  refine lv_iload_n X.1 X.2.1 dX1_isMark_0 rfl (lv_at hl 0 rfl) ?_
  refine lv_bipush (v := 43) X.1 X.2.1 dX1_isMark_1 (by decide) ?_
  refine lv_icmp_eq (tgt := 30) X.1 X.2.1 dX1_isMark_3 (by decide) (fun hc => ?_) (fun hc => ?_)
  · replace hF := it_t hF hc
    exact w_X1_isMark_30 X n  σ _ _ ls  hG hS hE (lv_sub hl [] rfl) hF
  · replace hF := it_f hF hc
    refine lv_iload_n X.1 X.2.1 dX1_isMark_6 rfl (lv_at hl 0 rfl) ?_
    refine lv_bipush (v := 45) X.1 X.2.1 dX1_isMark_7 (by decide) ?_
    refine lv_icmp_eq (tgt := 30) X.1 X.2.1 dX1_isMark_9 (by decide) (fun hc => ?_) (fun hc => ?_)
    · replace hF := it_t hF hc
      exact w_X1_isMark_30 X n  σ _ _ ls  hG hS hE (lv_sub hl [] rfl) hF
    · replace hF := it_f hF hc
      refine lv_iload_n X.1 X.2.1 dX1_isMark_12 rfl (lv_at hl 0 rfl) ?_
      refine lv_bipush (v := 42) X.1 X.2.1 dX1_isMark_13 (by decide) ?_
      refine lv_icmp_eq (tgt := 30) X.1 X.2.1 dX1_isMark_15 (by decide) (fun hc => ?_) (fun hc => ?_)
      · replace hF := it_t hF hc
        exact w_X1_isMark_30 X n  σ _ _ ls  hG hS hE (lv_sub hl [] rfl) hF
      · replace hF := it_f hF hc
        refine lv_iload_n X.1 X.2.1 dX1_isMark_18 rfl (lv_at hl 0 rfl) ?_
        refine lv_bipush (v := 47) X.1 X.2.1 dX1_isMark_19 (by decide) ?_
        refine lv_icmp_eq (tgt := 30) X.1 X.2.1 dX1_isMark_21 (by decide) (fun hc => ?_) (fun hc => ?_)
        · replace hF := it_t hF hc
          exact w_X1_isMark_30 X n  σ _ _ ls  hG hS hE (lv_sub hl [] rfl) hF
        · replace hF := it_f hF hc
          refine lv_iload_n X.1 X.2.1 dX1_isMark_24 rfl (lv_at hl 0 rfl) ?_
          refine lv_bipush (v := 44) X.1 X.2.1 dX1_isMark_25 (by decide) ?_
          refine lv_icmp_ne (tgt := 34) X.1 X.2.1 dX1_isMark_27 (by decide) (fun hc => ?_) (fun hc => ?_)
          · replace hF := it_f hF hc
            refine lv_iconst (v := 0) X.1 X.2.1 dX1_isMark_34 (by decide) ?_
            exact gx_zret X hG hS hE hF rfl dX1_isMark_35
          · replace hF := it_t hF hc
            exact w_X1_isMark_30 X n  σ _ _ ls  hG hS hE (lv_sub hl [] rfl) hF
theorem w_X1_joined_64 {σ0 τ : Hp} {r : Int32} (X : SX D cA base p s m args meth c cX1_joined 3 (some .int) RX1) (n : Nat)  : ∀ (v1 : Int32) (v2 : Int32) (σ : Hp) (H : Heap) (locs : List Loc) (ls : Array Slot), GW D cA base ad σ H → va_S (bA base) s.heap H locs → xT σ0 σ → lv_has ls 3 [(1, .int v1), (2, .int v2)] → F_X1_joined_64 n  v1 v2 σ = some (r, τ) → W p l e rm_X1_joined s m args below meth c H locs 0 0 (ZI below s args D cA base ad σ0 r τ) (F0 m 64 ls []) := by
  intro v1 v2 σ H locs ls hG hS hE hl hF
  unfold F_X1_joined_64 at hF
  refine lv_iload_n X.1 X.2.1 dX1_joined_64 rfl (lv_at hl 0 rfl) ?_
  refine lv_iload_n X.1 X.2.1 dX1_joined_65 rfl (lv_at hl 1 rfl) ?_
  refine lv_icmp_le (tgt := 73) X.1 X.2.1 dX1_joined_66 (by decide) (fun hc => ?_) (fun hc => ?_)
  · replace hF := it_t hF hc
    refine lv_iload_n X.1 X.2.1 dX1_joined_73 rfl (lv_at hl 1 rfl) ?_
    exact gx_iret X hG hS hE hF dX1_joined_74
  · replace hF := it_f hF hc
    refine lv_iload_n X.1 X.2.1 dX1_joined_69 rfl (lv_at hl 0 rfl) ?_
    refine lv_goto (tgt := 74) X.1 X.2.1 dX1_joined_70 (by decide) ?_
    exact gx_iret X hG hS hE hF dX1_joined_74
theorem c_X1_joined (l : Launch) (D : va_G) (cA : Nat → ClassId) (base : Nat) (ad : Nat → Nat) (σ : Hp) (n : Nat) (a0 : Int32) (a1 : Int32) (a2 : Int32)  {τ : Hp} {r : Int32} (hF : F_X1_joined n a0 a1 a2 σ = some (r, τ)) : MI l yX1_joined cX1_joined 3 (some .int) rm_X1_joined D cA base ad σ [.int a0, .int a1, .int a2] r τ := by
  refine Met.ofW (cc := cX1_joined) (maxL := 3) (ret := (some .int)) (by decide) rfl ?_
  intro p e s m args below meth c s₁ B hml hv
  obtain ⟨rfl, hv⟩ := hv
  have X : SX D cA base p s m ([.int a0, .int a1, .int a2] : List Value).toArray meth c cX1_joined 3 (some .int) RX1 := sx_of B hml hv
  have hG := hv.1
  have hS : va_S (bA base) s.heap s.heap [] := va_S.rf
  have hE := xT.rf σ
  have hl := lv_entry ([.int a0, .int a1, .int a2]) (n := 3) (Nat.le_of_ble_eq_true rfl)
  rw [lg_entry_eq]
  generalize (lg_sl ([.int a0, .int a1, .int a2]) ++ List.replicate (3 - (lg_sl ([.int a0, .int a1, .int a2])).length) Slot.unset).toArray = ls at hl ⊢
  have hl : lv_has ls 3 [(0, .int a0), (1, .int a1), (2, .int a2)] := hl
  unfold F_X1_joined at hF
  refine lv_iload_n X.1 X.2.1 dX1_joined_0 rfl (lv_at hl 0 rfl) ?_
  by_cases hc0 : a0 = 42
  · replace hF := it_t hF hc0
    refine lv_tableIn (tgt := 48) X.1 X.2.1 dX1_joined_1 (by rw [hc0]; decide) (by rw [hc0]; decide) (by rw [hc0]; rfl) (by decide) ?_
    refine lv_iload_n X.1 X.2.1 dX1_joined_48 rfl (lv_at hl 1 rfl) ?_
    refine lv_iload_n X.1 X.2.1 dX1_joined_49 rfl (lv_at hl 2 rfl) ?_
    refine lv_imul X.1 X.2.1 dX1_joined_50 ?_
    exact gx_iret X hG hS hE hF dX1_joined_51
  replace hF := it_f hF hc0
  by_cases hc1 : a0 = 43
  · replace hF := it_t hF hc1
    refine lv_tableIn (tgt := 40) X.1 X.2.1 dX1_joined_1 (by rw [hc1]; decide) (by rw [hc1]; decide) (by rw [hc1]; rfl) (by decide) ?_
    refine lv_iload_n X.1 X.2.1 dX1_joined_40 rfl (lv_at hl 1 rfl) ?_
    refine lv_iload_n X.1 X.2.1 dX1_joined_41 rfl (lv_at hl 2 rfl) ?_
    refine lv_iadd X.1 X.2.1 dX1_joined_42 ?_
    exact gx_iret X hG hS hE hF dX1_joined_43
  replace hF := it_f hF hc1
  by_cases hc2 : a0 = 44
  · replace hF := it_t hF hc2
    refine lv_tableIn (tgt := 64) X.1 X.2.1 dX1_joined_1 (by rw [hc2]; decide) (by rw [hc2]; decide) (by rw [hc2]; rfl) (by decide) ?_
    exact w_X1_joined_64 X n  a1 a2 σ _ _ ls  hG hS hE (lv_sub hl [1, 2] rfl) hF
  replace hF := it_f hF hc2
  by_cases hc3 : a0 = 45
  · replace hF := it_t hF hc3
    refine lv_tableIn (tgt := 44) X.1 X.2.1 dX1_joined_1 (by rw [hc3]; decide) (by rw [hc3]; decide) (by rw [hc3]; rfl) (by decide) ?_
    refine lv_iload_n X.1 X.2.1 dX1_joined_44 rfl (lv_at hl 1 rfl) ?_
    refine lv_iload_n X.1 X.2.1 dX1_joined_45 rfl (lv_at hl 2 rfl) ?_
    refine lv_isub X.1 X.2.1 dX1_joined_46 ?_
    exact gx_iret X hG hS hE hF dX1_joined_47
  replace hF := it_f hF hc3
  by_cases hc4 : a0 = 46
  · replace hF := it_t hF hc4
    refine lv_tableIn (tgt := 64) X.1 X.2.1 dX1_joined_1 (by rw [hc4]; decide) (by rw [hc4]; decide) (by rw [hc4]; rfl) (by decide) ?_
    exact w_X1_joined_64 X n  a1 a2 σ _ _ ls  hG hS hE (lv_sub hl [1, 2] rfl) hF
  replace hF := it_f hF hc4
  by_cases hc5 : a0 = 47
  · replace hF := it_t hF hc5
    refine lv_tableIn (tgt := 52) X.1 X.2.1 dX1_joined_1 (by rw [hc5]; decide) (by rw [hc5]; decide) (by rw [hc5]; rfl) (by decide) ?_
    refine lv_iload_n X.1 X.2.1 dX1_joined_52 rfl (lv_at hl 2 rfl) ?_
    refine lv_if_ne (tgt := 60) X.1 X.2.1 dX1_joined_53 (by decide) (fun hc => ?_) (fun hc => ?_)
    · replace hF := it_f hF hc
      refine lv_iload_n X.1 X.2.1 dX1_joined_60 rfl (lv_at hl 1 rfl) ?_
      refine lv_iload_n X.1 X.2.1 dX1_joined_61 rfl (lv_at hl 2 rfl) ?_
      obtain ⟨hne, hF⟩ := ck_ex hF
      refine lv_idiv X.1 X.2.1 dX1_joined_62 hne ?_
      exact gx_iret X hG hS hE hF dX1_joined_63
    · replace hF := it_t hF hc
      refine lv_iconst (v := 0) X.1 X.2.1 dX1_joined_56 (by decide) ?_
      refine lv_goto (tgt := 63) X.1 X.2.1 dX1_joined_57 (by decide) ?_
      exact gx_iret X hG hS hE hF dX1_joined_63
  replace hF := it_f hF hc5
  have hz0 := ne_lit hc0 (z := 42) (by decide)
  have hz1 := ne_lit hc1 (z := 43) (by decide)
  have hz2 := ne_lit hc2 (z := 44) (by decide)
  have hz3 := ne_lit hc3 (z := 45) (by decide)
  have hz4 := ne_lit hc4 (z := 46) (by decide)
  have hz5 := ne_lit hc5 (z := 47) (by decide)
  refine lv_tableOut (tgt := 64) X.1 X.2.1 dX1_joined_1 (by omega) (by decide) ?_
  exact w_X1_joined_64 X n  a1 a2 σ _ _ ls  hG hS hE (lv_sub hl [1, 2] rfl) hF
theorem c_X1_single (l : Launch) (D : va_G) (cA : Nat → ClassId) (base : Nat) (ad : Nat → Nat) (σ : Hp) (n : Nat) (a0 : Int32) (a1 : Int32) (a2 : Int32) (a3 : Int32) (a4 : Int32) (a5 : Int32)  {τ : Hp} {r : Int32} (hF : F_X1_single n a0 a1 a2 a3 a4 a5 σ = some (r, τ)) : MI l yX1_single cX1_single 6 (some .int) rm_X1_single D cA base ad σ [.int a0, .int a1, .int a2, .int a3, .int a4, .int a5] r τ := by
  refine Met.ofW (cc := cX1_single) (maxL := 6) (ret := (some .int)) (by decide) rfl ?_
  intro p e s m args below meth c s₁ B hml hv
  obtain ⟨rfl, hv⟩ := hv
  have X : SX D cA base p s m ([.int a0, .int a1, .int a2, .int a3, .int a4, .int a5] : List Value).toArray meth c cX1_single 6 (some .int) RX1 := sx_of B hml hv
  have hG := hv.1
  have hS : va_S (bA base) s.heap s.heap [] := va_S.rf
  have hE := xT.rf σ
  have hl := lv_entry ([.int a0, .int a1, .int a2, .int a3, .int a4, .int a5]) (n := 6) (Nat.le_of_ble_eq_true rfl)
  rw [lg_entry_eq]
  generalize (lg_sl ([.int a0, .int a1, .int a2, .int a3, .int a4, .int a5]) ++ List.replicate (6 - (lg_sl ([.int a0, .int a1, .int a2, .int a3, .int a4, .int a5])).length) Slot.unset).toArray = ls at hl ⊢
  have hl : lv_has ls 6 [(0, .int a0), (1, .int a1), (2, .int a2), (3, .int a3), (4, .int a4), (5, .int a5)] := hl
  unfold F_X1_single at hF
  refine lv_iload_n X.1 X.2.1 dX1_single_0 rfl (lv_at hl 0 rfl) ?_
  by_cases hc0 : a0 = 109
  · replace hF := it_t hF hc0
    refine lv_tableIn (tgt := 77) X.1 X.2.1 dX1_single_1 (by rw [hc0]; decide) (by rw [hc0]; decide) (by rw [hc0]; rfl) (by decide) ?_
    refine lv_iload X.1 X.2.1 dX1_single_77 (lv_at hl 5 rfl) ?_
    exact gx_iret X hG hS hE hF dX1_single_79
  replace hF := it_f hF hc0
  by_cases hc1 : a0 = 110
  · replace hF := it_t hF hc1
    refine lv_tableIn (tgt := 74) X.1 X.2.1 dX1_single_1 (by rw [hc1]; decide) (by rw [hc1]; decide) (by rw [hc1]; rfl) (by decide) ?_
    refine lv_iload X.1 X.2.1 dX1_single_74 (lv_at hl 4 rfl) ?_
    exact gx_iret X hG hS hE hF dX1_single_76
  replace hF := it_f hF hc1
  by_cases hc2 : a0 = 111
  · replace hF := it_t hF hc2
    refine lv_tableIn (tgt := 80) X.1 X.2.1 dX1_single_1 (by rw [hc2]; decide) (by rw [hc2]; decide) (by rw [hc2]; rfl) (by decide) ?_
    refine lv_iconst (v := (-1)) X.1 X.2.1 dX1_single_80 (by decide) ?_
    refine lv_iload_n X.1 X.2.1 dX1_single_81 rfl (lv_at hl 0 rfl) ?_
    refine lv_isub X.1 X.2.1 dX1_single_82 ?_
    exact gx_iret X hG hS hE hF dX1_single_83
  replace hF := it_f hF hc2
  by_cases hc3 : a0 = 112
  · replace hF := it_t hF hc3
    refine lv_tableIn (tgt := 70) X.1 X.2.1 dX1_single_1 (by rw [hc3]; decide) (by rw [hc3]; decide) (by rw [hc3]; rfl) (by decide) ?_
    refine lv_iload_n X.1 X.2.1 dX1_single_70 rfl (lv_at hl 2 rfl) ?_
    exact gx_iret X hG hS hE hF dX1_single_71
  replace hF := it_f hF hc3
  by_cases hc4 : a0 = 113
  · replace hF := it_t hF hc4
    refine lv_tableIn (tgt := 80) X.1 X.2.1 dX1_single_1 (by rw [hc4]; decide) (by rw [hc4]; decide) (by rw [hc4]; rfl) (by decide) ?_
    refine lv_iconst (v := (-1)) X.1 X.2.1 dX1_single_80 (by decide) ?_
    refine lv_iload_n X.1 X.2.1 dX1_single_81 rfl (lv_at hl 0 rfl) ?_
    refine lv_isub X.1 X.2.1 dX1_single_82 ?_
    exact gx_iret X hG hS hE hF dX1_single_83
  replace hF := it_f hF hc4
  by_cases hc5 : a0 = 114
  · replace hF := it_t hF hc5
    refine lv_tableIn (tgt := 80) X.1 X.2.1 dX1_single_1 (by rw [hc5]; decide) (by rw [hc5]; decide) (by rw [hc5]; rfl) (by decide) ?_
    refine lv_iconst (v := (-1)) X.1 X.2.1 dX1_single_80 (by decide) ?_
    refine lv_iload_n X.1 X.2.1 dX1_single_81 rfl (lv_at hl 0 rfl) ?_
    refine lv_isub X.1 X.2.1 dX1_single_82 ?_
    exact gx_iret X hG hS hE hF dX1_single_83
  replace hF := it_f hF hc5
  by_cases hc6 : a0 = 115
  · replace hF := it_t hF hc6
    refine lv_tableIn (tgt := 80) X.1 X.2.1 dX1_single_1 (by rw [hc6]; decide) (by rw [hc6]; decide) (by rw [hc6]; rfl) (by decide) ?_
    refine lv_iconst (v := (-1)) X.1 X.2.1 dX1_single_80 (by decide) ?_
    refine lv_iload_n X.1 X.2.1 dX1_single_81 rfl (lv_at hl 0 rfl) ?_
    refine lv_isub X.1 X.2.1 dX1_single_82 ?_
    exact gx_iret X hG hS hE hF dX1_single_83
  replace hF := it_f hF hc6
  by_cases hc7 : a0 = 116
  · replace hF := it_t hF hc7
    refine lv_tableIn (tgt := 68) X.1 X.2.1 dX1_single_1 (by rw [hc7]; decide) (by rw [hc7]; decide) (by rw [hc7]; rfl) (by decide) ?_
    refine lv_iload_n X.1 X.2.1 dX1_single_68 rfl (lv_at hl 1 rfl) ?_
    exact gx_iret X hG hS hE hF dX1_single_69
  replace hF := it_f hF hc7
  by_cases hc8 : a0 = 117
  · replace hF := it_t hF hc8
    refine lv_tableIn (tgt := 80) X.1 X.2.1 dX1_single_1 (by rw [hc8]; decide) (by rw [hc8]; decide) (by rw [hc8]; rfl) (by decide) ?_
    refine lv_iconst (v := (-1)) X.1 X.2.1 dX1_single_80 (by decide) ?_
    refine lv_iload_n X.1 X.2.1 dX1_single_81 rfl (lv_at hl 0 rfl) ?_
    refine lv_isub X.1 X.2.1 dX1_single_82 ?_
    exact gx_iret X hG hS hE hF dX1_single_83
  replace hF := it_f hF hc8
  by_cases hc9 : a0 = 118
  · replace hF := it_t hF hc9
    refine lv_tableIn (tgt := 80) X.1 X.2.1 dX1_single_1 (by rw [hc9]; decide) (by rw [hc9]; decide) (by rw [hc9]; rfl) (by decide) ?_
    refine lv_iconst (v := (-1)) X.1 X.2.1 dX1_single_80 (by decide) ?_
    refine lv_iload_n X.1 X.2.1 dX1_single_81 rfl (lv_at hl 0 rfl) ?_
    refine lv_isub X.1 X.2.1 dX1_single_82 ?_
    exact gx_iret X hG hS hE hF dX1_single_83
  replace hF := it_f hF hc9
  by_cases hc10 : a0 = 119
  · replace hF := it_t hF hc10
    refine lv_tableIn (tgt := 80) X.1 X.2.1 dX1_single_1 (by rw [hc10]; decide) (by rw [hc10]; decide) (by rw [hc10]; rfl) (by decide) ?_
    refine lv_iconst (v := (-1)) X.1 X.2.1 dX1_single_80 (by decide) ?_
    refine lv_iload_n X.1 X.2.1 dX1_single_81 rfl (lv_at hl 0 rfl) ?_
    refine lv_isub X.1 X.2.1 dX1_single_82 ?_
    exact gx_iret X hG hS hE hF dX1_single_83
  replace hF := it_f hF hc10
  by_cases hc11 : a0 = 120
  · replace hF := it_t hF hc11
    refine lv_tableIn (tgt := 80) X.1 X.2.1 dX1_single_1 (by rw [hc11]; decide) (by rw [hc11]; decide) (by rw [hc11]; rfl) (by decide) ?_
    refine lv_iconst (v := (-1)) X.1 X.2.1 dX1_single_80 (by decide) ?_
    refine lv_iload_n X.1 X.2.1 dX1_single_81 rfl (lv_at hl 0 rfl) ?_
    refine lv_isub X.1 X.2.1 dX1_single_82 ?_
    exact gx_iret X hG hS hE hF dX1_single_83
  replace hF := it_f hF hc11
  by_cases hc12 : a0 = 121
  · replace hF := it_t hF hc12
    refine lv_tableIn (tgt := 72) X.1 X.2.1 dX1_single_1 (by rw [hc12]; decide) (by rw [hc12]; decide) (by rw [hc12]; rfl) (by decide) ?_
    refine lv_iload_n X.1 X.2.1 dX1_single_72 rfl (lv_at hl 3 rfl) ?_
    exact gx_iret X hG hS hE hF dX1_single_73
  replace hF := it_f hF hc12
  have hz0 := ne_lit hc0 (z := 109) (by decide)
  have hz1 := ne_lit hc1 (z := 110) (by decide)
  have hz2 := ne_lit hc2 (z := 111) (by decide)
  have hz3 := ne_lit hc3 (z := 112) (by decide)
  have hz4 := ne_lit hc4 (z := 113) (by decide)
  have hz5 := ne_lit hc5 (z := 114) (by decide)
  have hz6 := ne_lit hc6 (z := 115) (by decide)
  have hz7 := ne_lit hc7 (z := 116) (by decide)
  have hz8 := ne_lit hc8 (z := 117) (by decide)
  have hz9 := ne_lit hc9 (z := 118) (by decide)
  have hz10 := ne_lit hc10 (z := 119) (by decide)
  have hz11 := ne_lit hc11 (z := 120) (by decide)
  have hz12 := ne_lit hc12 (z := 121) (by decide)
  refine lv_tableOut (tgt := 80) X.1 X.2.1 dX1_single_1 (by omega) (by decide) ?_
  refine lv_iconst (v := (-1)) X.1 X.2.1 dX1_single_80 (by decide) ?_
  refine lv_iload_n X.1 X.2.1 dX1_single_81 rfl (lv_at hl 0 rfl) ?_
  refine lv_isub X.1 X.2.1 dX1_single_82 ?_
  exact gx_iret X hG hS hE hF dX1_single_83
end W_class1
