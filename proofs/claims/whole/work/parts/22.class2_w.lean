/-! class2: printed by wip/whole/gen.py -/
section W_class2
variable {p : Program} {l : Launch} {e : Env} {s : State} {m : MethodId} {args : Array Value} {below : List Frame} {meth : Method} {c : Code} {D : va_G} {cA : Nat → ClassId} {base : Nat} {ad : Nat → Nat}
abbrev rm_X11_juror : Room := { frames := 5, cells := 1, slots := 8, locals := 128 }
theorem h_X11_juror : yX11_juror.cls = RX11 ∧ yX11_juror.cls ≠ "java/lang/invoke/MethodHandle" ∧ yX11_juror.cls ≠ "java/lang/invoke/VarHandle" ∧ (parseMethodDescriptor yX11_juror.desc).map (fun d => d.parameters.length) = some 4 := by decide +kernel
def F_X11_juror (n : Nat) (a0 : Nat) (a1 : Int32) (a2 : Int32) (a3 : Int32) (a4 : Int32) (σ : Hp) : Option (Int32 × Hp) := b2 (F_X11_isToldRight n a1 σ) fun (r2 : Int32) (σ1 : Hp) => if r2 = 0 then (some ((-1), σ1)) else (if a2 < (-99) then (some ((-1), σ1)) else (if 99 < a2 then (some ((-1), σ1)) else (if a3 < 0 then (some ((-1), σ1)) else (if a3 ≤ 999 then (if a4 < (-1) then (some ((-1), σ1)) else (b1 (hR σ1 a0 0) fun (i3 : Nat) => if a4 < (hI σ1 i3 5) then (b1 (hR σ1 a0 0) fun (i4 : Nat) => if (hI σ1 i4 2) < 12 then (b1 (hR σ1 a0 0) fun (i5 : Nat) => b1 (hR σ1 a0 0) fun (i6 : Nat) => b2 (F_X11_newTurn n a0 (hI σ1 i6 2) a1 a2 a3 a4 σ1) fun (r8 : Option Nat) (σ7 : Hp) => b1 (F_X3_sit n i5 r8 0 σ7) fun (σ10 : Hp) => b1 (hR σ10 a0 0) fun (i11 : Nat) => lt (pI σ10 i11 8 0) fun (σ12 : Hp) => b1 (hR σ12 a0 0) fun (i13 : Nat) => b1 (F_X3_standAsTold n i13 σ12) fun (σ14 : Hp) => b1 (hR σ14 a0 0) fun (i15 : Nat) => some ((hI σ14 i15 2) - 1, σ14)) else (some ((-2), σ1))) else (some ((-1), σ1)))) else (some ((-1), σ1))))))
abbrev rm_X3_isSeat : Room := { frames := 0, cells := 0, slots := 0, locals := 0 }
theorem h_X3_isSeat : yX3_isSeat.cls = RX3 ∧ yX3_isSeat.cls ≠ "java/lang/invoke/MethodHandle" ∧ yX3_isSeat.cls ≠ "java/lang/invoke/VarHandle" ∧ (parseMethodDescriptor yX3_isSeat.desc).map (fun d => d.parameters.length) = some 1 := by decide +kernel
def F_X3_isSeat (n : Nat) (a0 : Nat) (a1 : Int32) (σ : Hp) : Option (Int32 × Hp) := if a1 < 0 then (some (0, σ)) else (if (hI σ a0 2) ≤ a1 then (some (0, σ)) else (some (1, σ)))
abbrev rm_X11_holds : Room := { frames := 3, cells := 0, slots := 0, locals := 65 }
theorem h_X11_holds : yX11_holds.cls = RX11 ∧ yX11_holds.cls ≠ "java/lang/invoke/MethodHandle" ∧ yX11_holds.cls ≠ "java/lang/invoke/VarHandle" ∧ (parseMethodDescriptor yX11_holds.desc).map (fun d => d.parameters.length) = some 2 := by decide +kernel
def F_X11_holds (n : Nat) (a0 : Nat) (a1 : Int32) (a2 : Int32) (σ : Hp) : Option (Int32 × Hp) := b1 (hR σ a0 0) fun (i1 : Nat) => b2 (F_X3_isSeat n i1 a1 σ) fun (r3 : Int32) (σ2 : Hp) => if r3 = 0 then (some ((-1), σ2)) else (if a2 < 0 then (some ((-1), σ2)) else (b1 (hR σ2 a0 0) fun (i4 : Nat) => if a2 < (1 <<< ((hI σ2 i4 0) &&& 31)) then (b1 (hR σ2 a0 0) fun (i5 : Nat) => b1 (hR σ2 i5 4) fun (i6 : Nat) => b2 (F_X11_at n i6 a1 σ2) fun (r8 : Int32) (σ7 : Hp) => b1 (hR σ7 a0 0) fun (i9 : Nat) => b1 (hR σ7 i9 4) fun (i10 : Nat) => b1 (F_X11_store n i10 a1 a2 σ7) fun (σ11 : Hp) => b1 (hR σ11 a0 0) fun (i12 : Nat) => if (hI σ11 i12 8) = 0 then (b1 (hR σ11 a0 0) fun (i13 : Nat) => b1 (F_X3_standAsTold n i13 σ11) fun (σ14 : Hp) => some (r8, σ14)) else (some (r8, σ11))) else (some ((-1), σ2))))
abbrev rm_X3_turnAt : Room := { frames := 1, cells := 0, slots := 0, locals := 21 }
theorem h_X3_turnAt : yX3_turnAt.cls = RX3 ∧ yX3_turnAt.cls ≠ "java/lang/invoke/MethodHandle" ∧ yX3_turnAt.cls ≠ "java/lang/invoke/VarHandle" ∧ (parseMethodDescriptor yX3_turnAt.desc).map (fun d => d.parameters.length) = some 1 := by decide +kernel
def F_X3_turnAt (n : Nat) (a0 : Nat) (a1 : Int32) (σ : Hp) : Option (Option Nat × Hp) := b2 (F_X3_isSeat n a0 a1 σ) fun (r2 : Int32) (σ1 : Hp) => if r2 = 0 then (some ((none : Option Nat), σ1)) else (b1 (hR σ1 a0 3) fun (i3 : Nat) => if (nI (hL σ1 i3)) ≤ a1 then (some ((none : Option Nat), σ1)) else (b1 (hR σ1 a0 3) fun (i4 : Nat) => ck (¬ (a1 < 0 ∨ hL σ1 i4 ≤ a1.toNatClampNeg)) (lt (hR σ1 i4 a1.toNatClampNeg) fun (q5 : Option Nat) => some (q5, σ1))))
abbrev rm_X3_gaveIn : Room := { frames := 1, cells := 0, slots := 0, locals := 21 }
theorem h_X3_gaveIn : yX3_gaveIn.cls = RX3 ∧ yX3_gaveIn.cls ≠ "java/lang/invoke/MethodHandle" ∧ yX3_gaveIn.cls ≠ "java/lang/invoke/VarHandle" ∧ (parseMethodDescriptor yX3_gaveIn.desc).map (fun d => d.parameters.length) = some 1 := by decide +kernel
def F_X3_gaveIn (n : Nat) (a0 : Nat) (a1 : Int32) (σ : Hp) : Option (Int32 × Hp) := b1 (hR σ a0 18) fun (i1 : Nat) => b2 (F_X11_at n i1 a1 σ) fun (r3 : Int32) (σ2 : Hp) => if r3 < 0 then (some (0, σ2)) else (some (1, σ2))
abbrev rm_X11_of : Room := { frames := 2, cells := 0, slots := 0, locals := 42 }
theorem h_X11_of : yX11_of.cls = RX11 ∧ yX11_of.cls ≠ "java/lang/invoke/MethodHandle" ∧ yX11_of.cls ≠ "java/lang/invoke/VarHandle" ∧ (parseMethodDescriptor yX11_of.desc).map (fun d => d.parameters.length) = some 2 := by decide +kernel
def F_X11_of (n : Nat) (a0 : Nat) (a1 : Int32) (a2 : Int32) (σ : Hp) : Option (Int32 × Hp) := b1 (hR σ a0 0) fun (i1 : Nat) => b2 (F_X3_turnAt n i1 a1 σ) fun (r3 : Option Nat) (σ2 : Hp) => om r3 (some ((-1000000001), σ2)) (fun i4 => if a2 = 0 then (some (hI σ2 i4 1, σ2)) else (if a2 = 1 then (some (hI σ2 i4 2, σ2)) else (if a2 = 2 then (some (hI σ2 i4 3, σ2)) else (if a2 = 3 then (some (hI σ2 i4 4, σ2)) else (if a2 = 4 then (some (hI σ2 i4 5, σ2)) else (if a2 = 5 then (some (hI σ2 i4 6, σ2)) else (if a2 = 6 then (b1 (hR σ2 a0 0) fun (i5 : Nat) => b1 (hR σ2 i5 15) fun (i6 : Nat) => b2 (F_X11_at n i6 a1 σ2) fun (r8 : Int32) (σ7 : Hp) => some (r8, σ7)) else (if a2 = 7 then (b1 (hR σ2 a0 0) fun (i9 : Nat) => b1 (hR σ2 i9 17) fun (i10 : Nat) => b2 (F_X11_at n i10 a1 σ2) fun (r12 : Int32) (σ11 : Hp) => some (r12, σ11)) else (if a2 = 8 then (b1 (hR σ2 a0 0) fun (i13 : Nat) => some (((hI σ2 i13 12) >>> (a1 &&& 31)) &&& 1, σ2)) else (if a2 = 9 then (b1 (hR σ2 a0 0) fun (i14 : Nat) => b2 (F_X3_gaveIn n i14 a1 σ2) fun (r16 : Int32) (σ15 : Hp) => if r16 = 0 then (some (0, σ15)) else (some (1, σ15))) else (some ((-1000000001), σ2))))))))))))
abbrev rm_J6_bitCount_0f7a4 : Room := { frames := 0, cells := 0, slots := 0, locals := 0 }
theorem h_J6_bitCount_0f7a4 : yJ6_bitCount_0f7a4.cls = "java/lang/Integer" ∧ yJ6_bitCount_0f7a4.cls ≠ "java/lang/invoke/MethodHandle" ∧ yJ6_bitCount_0f7a4.cls ≠ "java/lang/invoke/VarHandle" ∧ (parseMethodDescriptor yJ6_bitCount_0f7a4.desc).map (fun d => d.parameters.length) = some 1 := by decide +kernel
def F_J6_bitCount_0f7a4 (n : Nat) (a0 : Int32) (σ : Hp) : Option (Int32 × Hp) := lt (a0 - (((a0.toUInt32 >>> ((1 : Int32).toUInt32 &&& Int32.toUInt32 31)).toInt32) &&& 1431655765)) fun (x1 : Int32) => lt ((x1 &&& 858993459) + (((x1.toUInt32 >>> ((2 : Int32).toUInt32 &&& Int32.toUInt32 31)).toInt32) &&& 858993459)) fun (x2 : Int32) => lt ((x2 + ((x2.toUInt32 >>> ((4 : Int32).toUInt32 &&& Int32.toUInt32 31)).toInt32)) &&& 252645135) fun (x3 : Int32) => lt (x3 + ((x3.toUInt32 >>> ((8 : Int32).toUInt32 &&& Int32.toUInt32 31)).toInt32)) fun (x4 : Int32) => lt (x4 + ((x4.toUInt32 >>> ((16 : Int32).toUInt32 &&& Int32.toUInt32 31)).toInt32)) fun (x5 : Int32) => some (x5 &&& 63, σ)
abbrev rm_X3_yes : Room := { frames := 1, cells := 0, slots := 0, locals := 20 }
theorem h_X3_yes : yX3_yes.cls = RX3 ∧ yX3_yes.cls ≠ "java/lang/invoke/MethodHandle" ∧ yX3_yes.cls ≠ "java/lang/invoke/VarHandle" ∧ (parseMethodDescriptor yX3_yes.desc).map (fun d => d.parameters.length) = some 0 := by decide +kernel
def F_X3_yes (n : Nat) (a0 : Nat) (σ : Hp) : Option (Int32 × Hp) := b2 (F_J6_bitCount_0f7a4 n (hI σ a0 12) σ) fun (r2 : Int32) (σ1 : Hp) => some (r2, σ1)
abbrev rm_X3_no : Room := { frames := 2, cells := 0, slots := 0, locals := 40 }
theorem h_X3_no : yX3_no.cls = RX3 ∧ yX3_no.cls ≠ "java/lang/invoke/MethodHandle" ∧ yX3_no.cls ≠ "java/lang/invoke/VarHandle" ∧ (parseMethodDescriptor yX3_no.desc).map (fun d => d.parameters.length) = some 0 := by decide +kernel
def F_X3_no (n : Nat) (a0 : Nat) (σ : Hp) : Option (Int32 × Hp) := b2 (F_X3_yes n a0 σ) fun (r2 : Int32) (σ1 : Hp) => some ((hI σ a0 2) - r2, σ1)
theorem c_X11_juror (l : Launch) (D : va_G) (cA : Nat → ClassId) (base : Nat) (ad : Nat → Nat) (σ : Hp) (n : Nat) (a0 : Nat) (a1 : Int32) (a2 : Int32) (a3 : Int32) (a4 : Int32) (hT_a0 : hT σ a0 11) {τ : Hp} {r : Int32} (hF : F_X11_juror n a0 a1 a2 a3 a4 σ = some (r, τ)) : MIa l yX11_juror cX11_juror 5 (some .int) rm_X11_juror D cA base ad σ [.ref (ad a0), .int a1, .int a2, .int a3, .int a4] r τ 1 8 := by
  refine Met.ofW (cc := cX11_juror) (maxL := 5) (ret := (some .int)) (by decide) rfl ?_
  intro p e s m args below meth c s₁ B hml hv
  obtain ⟨rfl, hv⟩ := hv
  have X : SX D cA base p s m ([.ref (ad a0), .int a1, .int a2, .int a3, .int a4] : List Value).toArray meth c cX11_juror 5 (some .int) RX11 := sx_of B hml hv
  have hG := hv.1
  have hS : va_S (bA base) s.heap s.heap [] := va_S.rf
  have hE := xT.rf σ
  have hA := adE.rf σ ad
  have hl := lv_entry ([.ref (ad a0), .int a1, .int a2, .int a3, .int a4]) (n := 5) (Nat.le_of_ble_eq_true rfl)
  rw [lg_entry_eq]
  generalize (lg_sl ([.ref (ad a0), .int a1, .int a2, .int a3, .int a4]) ++ List.replicate (5 - (lg_sl ([.ref (ad a0), .int a1, .int a2, .int a3, .int a4])).length) Slot.unset).toArray = ls at hl ⊢
  have hl : lv_has ls 5 [(0, .ref (ad a0)), (1, .int a1), (2, .int a2), (3, .int a3), (4, .int a4)] := hl
  unfold F_X11_juror at hF
  refine lv_iload_n X.1 X.2.1 dX11_juror_0 rfl (lv_at hl 1 rfl) ?_
  obtain ⟨r2, σ1, hz, hF⟩ := b2_ex hF
  refine gx_rI (gx_runS (As := [.int a1]) (rest := []) X hG hS (c_X11_isToldRight l D cA base ad σ n a1 hz) k_180 k_178 k_179 k_1 (h_X11_isToldRight.2) rfl rfl ⟨by decide, by decide⟩ rfl hl.1 rfl (Nat.le_of_ble_eq_true rfl) dX11_juror_1 ⟨by decide, by decide⟩) hS (fun H locs hG hS hX => ?_)
  have hT_a0 := hX.T hT_a0
  replace hE := hE.trans hX
  refine lv_if_eq (tgt := 30) X.1 X.2.1 dX11_juror_4 (by decide) (fun hc => ?_) (fun hc => ?_)
  · replace hF := it_t hF hc
    refine lv_iconst (v := (-1)) X.1 X.2.1 dX11_juror_30 (by decide) ?_
    refine W.widen (k := 1) (n := 8) (by decide) (by decide) ?_
    exact gx_iretA X hG hS hE hA hF dX11_juror_31
  · replace hF := it_f hF hc
    refine lv_iload_n X.1 X.2.1 dX11_juror_7 rfl (lv_at hl 2 rfl) ?_
    refine lv_bipush (v := (-99)) X.1 X.2.1 dX11_juror_8 (by decide) ?_
    refine lv_icmp_lt (tgt := 30) X.1 X.2.1 dX11_juror_10 (by decide) (fun hc => ?_) (fun hc => ?_)
    · replace hF := it_t hF hc
      refine lv_iconst (v := (-1)) X.1 X.2.1 dX11_juror_30 (by decide) ?_
      refine W.widen (k := 1) (n := 8) (by decide) (by decide) ?_
      exact gx_iretA X hG hS hE hA hF dX11_juror_31
    · replace hF := it_f hF hc
      refine lv_iload_n X.1 X.2.1 dX11_juror_13 rfl (lv_at hl 2 rfl) ?_
      refine lv_bipush (v := 99) X.1 X.2.1 dX11_juror_14 (by decide) ?_
      refine lv_icmp_gt (tgt := 30) X.1 X.2.1 dX11_juror_16 (by decide) (fun hc => ?_) (fun hc => ?_)
      · replace hF := it_t hF hc
        refine lv_iconst (v := (-1)) X.1 X.2.1 dX11_juror_30 (by decide) ?_
        refine W.widen (k := 1) (n := 8) (by decide) (by decide) ?_
        exact gx_iretA X hG hS hE hA hF dX11_juror_31
      · replace hF := it_f hF hc
        refine lv_iload_n X.1 X.2.1 dX11_juror_19 rfl (lv_at hl 3 rfl) ?_
        refine lv_if_lt (tgt := 30) X.1 X.2.1 dX11_juror_20 (by decide) (fun hc => ?_) (fun hc => ?_)
        · replace hF := it_t hF hc
          refine lv_iconst (v := (-1)) X.1 X.2.1 dX11_juror_30 (by decide) ?_
          refine W.widen (k := 1) (n := 8) (by decide) (by decide) ?_
          exact gx_iretA X hG hS hE hA hF dX11_juror_31
        · replace hF := it_f hF hc
          refine lv_iload_n X.1 X.2.1 dX11_juror_23 rfl (lv_at hl 3 rfl) ?_
          refine lv_sipush (v := 999) X.1 X.2.1 dX11_juror_24 (by decide) ?_
          refine lv_icmp_le (tgt := 32) X.1 X.2.1 dX11_juror_27 (by decide) (fun hc => ?_) (fun hc => ?_)
          · replace hF := it_t hF hc
            refine lv_iload X.1 X.2.1 dX11_juror_32 (lv_at hl 4 rfl) ?_
            refine lv_iconst (v := (-1)) X.1 X.2.1 dX11_juror_34 (by decide) ?_
            refine lv_icmp_lt (tgt := 50) X.1 X.2.1 dX11_juror_35 (by decide) (fun hc => ?_) (fun hc => ?_)
            · replace hF := it_t hF hc
              refine lv_iconst (v := (-1)) X.1 X.2.1 dX11_juror_50 (by decide) ?_
              refine W.widen (k := 1) (n := 8) (by decide) (by decide) ?_
              exact gx_iretA X hG hS hE hA hF dX11_juror_51
            · replace hF := it_f hF hc
              refine lv_iload X.1 X.2.1 dX11_juror_38 (lv_at hl 4 rfl) ?_
              refine lv_aload_n X.1 X.2.1 dX11_juror_40 rfl (lv_at hl 0 rfl) ?_
              obtain ⟨i3, hr, hF⟩ := b1_ex hF
              have hT_i3 : hT σ1 i3 3 := gw_T hG hT_a0 (by decide) hr
              refine gx_get 0 (v := .ref (ad i3)) X hG hT_a0.1 (hT_a0.eq (by decide)) (by decide) rfl inX11 (by decide) k_151 (fun _ h => h) (gx_rfv hr) dX11_juror_41 ?_
              refine gx_getN 5 (v := .int (hI σ1 i3 5)) X hG hT_i3.1 (hT_i3.eq (by decide)) (by decide) rfl inX3 (by decide) q_53 (fun _ h => h) rfl dX11_juror_44 ?_
              refine lv_icmp_lt (tgt := 52) X.1 X.2.1 dX11_juror_47 (by decide) (fun hc => ?_) (fun hc => ?_)
              · replace hF := it_t hF hc
                refine lv_aload_n X.1 X.2.1 dX11_juror_52 rfl (lv_at hl 0 rfl) ?_
                obtain ⟨i4, hr, hF⟩ := b1_ex hF
                have hT_i4 : hT σ1 i4 3 := gw_T hG hT_a0 (by decide) hr
                refine gx_get 0 (v := .ref (ad i4)) X hG hT_a0.1 (hT_a0.eq (by decide)) (by decide) rfl inX11 (by decide) k_151 (fun _ h => h) (gx_rfv hr) dX11_juror_53 ?_
                refine gx_getN 2 (v := .int (hI σ1 i4 2)) X hG hT_i4.1 (hT_i4.eq (by decide)) (by decide) rfl inX3 (by decide) q_49 (fun _ h => h) rfl dX11_juror_56 ?_
                refine lv_bipush (v := 12) X.1 X.2.1 dX11_juror_59 (by decide) ?_
                refine lv_icmp_lt (tgt := 67) X.1 X.2.1 dX11_juror_61 (by decide) (fun hc => ?_) (fun hc => ?_)
                · replace hF := it_t hF hc
                  refine lv_aload_n X.1 X.2.1 dX11_juror_67 rfl (lv_at hl 0 rfl) ?_
                  obtain ⟨i5, hr, hF⟩ := b1_ex hF
                  have hT_i5 : hT σ1 i5 3 := gw_T hG hT_a0 (by decide) hr
                  refine gx_get 0 (v := .ref (ad i5)) X hG hT_a0.1 (hT_a0.eq (by decide)) (by decide) rfl inX11 (by decide) k_151 (fun _ h => h) (gx_rfv hr) dX11_juror_68 ?_
                  refine lv_aload_n X.1 X.2.1 dX11_juror_71 rfl (lv_at hl 0 rfl) ?_
                  refine lv_aload_n X.1 X.2.1 dX11_juror_72 rfl (lv_at hl 0 rfl) ?_
                  obtain ⟨i6, hr, hF⟩ := b1_ex hF
                  have hT_i6 : hT σ1 i6 3 := gw_T hG hT_a0 (by decide) hr
                  refine gx_get 0 (v := .ref (ad i6)) X hG hT_a0.1 (hT_a0.eq (by decide)) (by decide) rfl inX11 (by decide) k_151 (fun _ h => h) (gx_rfv hr) dX11_juror_73 ?_
                  refine gx_getN 2 (v := .int (hI σ1 i6 2)) X hG hT_i6.1 (hT_i6.eq (by decide)) (by decide) rfl inX3 (by decide) q_49 (fun _ h => h) rfl dX11_juror_76 ?_
                  refine lv_iload_n X.1 X.2.1 dX11_juror_79 rfl (lv_at hl 1 rfl) ?_
                  refine lv_iload_n X.1 X.2.1 dX11_juror_80 rfl (lv_at hl 2 rfl) ?_
                  refine lv_iload_n X.1 X.2.1 dX11_juror_81 rfl (lv_at hl 3 rfl) ?_
                  refine lv_iload X.1 X.2.1 dX11_juror_82 (lv_at hl 4 rfl) ?_
                  obtain ⟨r8, σ7, hz, hF⟩ := b2_ex hF
                  refine gx_rQa (gx_runV (As := [.int (hI σ1 i6 2), .int a1, .int a2, .int a3, .int a4]) (rest := [.ref (ad i5)]) X hG hS hT_a0.1 (hT_a0.eq (by decide)) (by decide) rfl (c_X11_newTurn l D cA base ad σ1 n a0 (hI σ1 i6 2) a1 a2 a3 a4 hT_a0 hz) k_184 k_181 k_183 ks_0 k_1 (h_X11_newTurn) rfl rfl ⟨by decide, by decide⟩ rfl hl.1 rfl (Nat.le_of_ble_eq_true rfl) dX11_juror_84 ⟨by decide, by decide⟩) hS (fun ad9 H locs hG hS hX hA2 hO_r8 => ?_)
                  have hl : lv_has ls 5 [(0, .ref (ad9 a0)), (1, .int a1), (2, .int a2), (3, .int a3), (4, .int a4)] := by rw [hA2 a0 hT_a0.1]; exact hl
                  refine W.eq (g2 := F0 m 87 ls [va_rf (Option.map ad9 r8), .ref (ad9 i5)]) (by rw [hA2 i5 hT_i5.1] <;> rfl) ?_
                  replace hA := hA.trans hE.1 hA2
                  have hT_a0 := hX.T hT_a0
                  have hT_i5 := hX.T hT_i5
                  replace hE := hE.trans hX
                  refine lv_iconst (v := 0) X.1 X.2.1 dX11_juror_87 (by decide) ?_
                  obtain ⟨σ10, hz, hF⟩ := b1_ex hF
                  refine gx_rV (gx_runV (As := [va_rf (Option.map ad9 r8), .int 0]) (rest := []) X hG hS hT_i5.1 (hT_i5.eq (by decide)) (by decide) rfl (c_X3_sit l D cA base ad9 σ7 n i5 r8 0 hT_i5 hO_r8 hz) k_350 k_347 k_348 k_349 k_2 (h_X3_sit) rfl rfl ⟨by decide, by decide⟩ rfl hl.1 rfl (Nat.le_of_ble_eq_true rfl) dX11_juror_88 ⟨by decide, by decide⟩) hS (fun H locs hG hS hX => ?_)
                  have hT_a0 := hX.T hT_a0
                  replace hE := hE.trans hX
                  refine lv_aload_n X.1 X.2.1 dX11_juror_91 rfl (lv_at hl 0 rfl) ?_
                  obtain ⟨i11, hr, hF⟩ := b1_ex hF
                  have hT_i11 : hT σ10 i11 3 := gw_T hG hT_a0 (by decide) hr
                  refine gx_get 0 (v := .ref (ad9 i11)) X hG hT_a0.1 (hT_a0.eq (by decide)) (by decide) rfl inX11 (by decide) k_151 (fun _ h => h) (gx_rfv hr) dX11_juror_92 ?_
                  refine lv_iconst (v := 0) X.1 X.2.1 dX11_juror_95 (by decide) ?_
                  refine gx_putIN 8  X hG hS hT_i11.1 (hT_i11.eq (by decide)) (by decide) rfl inX3 tyX3_ok nmX3 (by decide) q_58 (fun _ h => h) rfl rfl rfl rfl (Nat.le_of_ble_eq_true rfl) dX11_juror_96 hF (fun σ12 H locs hG hS hX hF => ?_)
                  have hT_a0 := hX.T hT_a0
                  replace hE := hE.trans hX
                  refine lv_aload_n X.1 X.2.1 dX11_juror_99 rfl (lv_at hl 0 rfl) ?_
                  obtain ⟨i13, hr, hF⟩ := b1_ex hF
                  have hT_i13 : hT σ12 i13 3 := gw_T hG hT_a0 (by decide) hr
                  refine gx_get 0 (v := .ref (ad9 i13)) X hG hT_a0.1 (hT_a0.eq (by decide)) (by decide) rfl inX11 (by decide) k_151 (fun _ h => h) (gx_rfv hr) dX11_juror_100 ?_
                  obtain ⟨σ14, hz, hF⟩ := b1_ex hF
                  refine gx_rV (gx_runV (As := []) (rest := []) X hG hS hT_i13.1 (hT_i13.eq (by decide)) (by decide) rfl (c_X3_standAsTold l D cA base ad9 σ12 n i13 hT_i13 hz) k_355 k_352 k_353 k_354 k_2 (h_X3_standAsTold) rfl rfl ⟨by decide, by decide⟩ rfl hl.1 rfl (Nat.le_of_ble_eq_true rfl) dX11_juror_103 ⟨by decide, by decide⟩) hS (fun H locs hG hS hX => ?_)
                  have hT_a0 := hX.T hT_a0
                  replace hE := hE.trans hX
                  refine lv_aload_n X.1 X.2.1 dX11_juror_106 rfl (lv_at hl 0 rfl) ?_
                  obtain ⟨i15, hr, hF⟩ := b1_ex hF
                  have hT_i15 : hT σ14 i15 3 := gw_T hG hT_a0 (by decide) hr
                  refine gx_get 0 (v := .ref (ad9 i15)) X hG hT_a0.1 (hT_a0.eq (by decide)) (by decide) rfl inX11 (by decide) k_151 (fun _ h => h) (gx_rfv hr) dX11_juror_107 ?_
                  refine gx_getN 2 (v := .int (hI σ14 i15 2)) X hG hT_i15.1 (hT_i15.eq (by decide)) (by decide) rfl inX3 (by decide) q_49 (fun _ h => h) rfl dX11_juror_110 ?_
                  refine lv_iconst (v := 1) X.1 X.2.1 dX11_juror_113 (by decide) ?_
                  refine lv_isub X.1 X.2.1 dX11_juror_114 ?_
                  refine W.widen (k := 1) (n := 8) (by decide) (by decide) ?_
                  exact gx_iretA X hG hS hE hA hF dX11_juror_115
                · replace hF := it_f hF hc
                  refine lv_bipush (v := (-2)) X.1 X.2.1 dX11_juror_64 (by decide) ?_
                  refine W.widen (k := 1) (n := 8) (by decide) (by decide) ?_
                  exact gx_iretA X hG hS hE hA hF dX11_juror_66
              · replace hF := it_f hF hc
                refine lv_iconst (v := (-1)) X.1 X.2.1 dX11_juror_50 (by decide) ?_
                refine W.widen (k := 1) (n := 8) (by decide) (by decide) ?_
                exact gx_iretA X hG hS hE hA hF dX11_juror_51
          · replace hF := it_f hF hc
            refine lv_iconst (v := (-1)) X.1 X.2.1 dX11_juror_30 (by decide) ?_
            refine W.widen (k := 1) (n := 8) (by decide) (by decide) ?_
            exact gx_iretA X hG hS hE hA hF dX11_juror_31
theorem c_X3_isSeat (l : Launch) (D : va_G) (cA : Nat → ClassId) (base : Nat) (ad : Nat → Nat) (σ : Hp) (n : Nat) (a0 : Nat) (a1 : Int32) (hT_a0 : hT σ a0 3) {τ : Hp} {r : Int32} (hF : F_X3_isSeat n a0 a1 σ = some (r, τ)) : MI l yX3_isSeat cX3_isSeat 2 (some .boolean) rm_X3_isSeat D cA base ad σ [.ref (ad a0), .int a1] r τ := by
  refine Met.ofW (cc := cX3_isSeat) (maxL := 2) (ret := (some .boolean)) (by decide) rfl ?_
  intro p e s m args below meth c s₁ B hml hv
  obtain ⟨rfl, hv⟩ := hv
  have X : SX D cA base p s m ([.ref (ad a0), .int a1] : List Value).toArray meth c cX3_isSeat 2 (some .boolean) RX3 := sx_of B hml hv
  have hG := hv.1
  have hS : va_S (bA base) s.heap s.heap [] := va_S.rf
  have hE := xT.rf σ
  have hl := lv_entry ([.ref (ad a0), .int a1]) (n := 2) (Nat.le_of_ble_eq_true rfl)
  rw [lg_entry_eq]
  generalize (lg_sl ([.ref (ad a0), .int a1]) ++ List.replicate (2 - (lg_sl ([.ref (ad a0), .int a1])).length) Slot.unset).toArray = ls at hl ⊢
  have hl : lv_has ls 2 [(0, .ref (ad a0)), (1, .int a1)] := hl
  unfold F_X3_isSeat at hF
  refine lv_iload_n X.1 X.2.1 dX3_isSeat_0 rfl (lv_at hl 1 rfl) ?_
  refine lv_if_lt (tgt := 16) X.1 X.2.1 dX3_isSeat_1 (by decide) (fun hc => ?_) (fun hc => ?_)
  · replace hF := it_t hF hc
    refine lv_iconst (v := 0) X.1 X.2.1 dX3_isSeat_16 (by decide) ?_
    exact gx_zret X hG hS hE hF rfl dX3_isSeat_17
  · replace hF := it_f hF hc
    refine lv_iload_n X.1 X.2.1 dX3_isSeat_4 rfl (lv_at hl 1 rfl) ?_
    refine lv_aload_n X.1 X.2.1 dX3_isSeat_5 rfl (lv_at hl 0 rfl) ?_
    refine gx_get 2 (v := .int (hI σ a0 2)) X hG hT_a0.1 (hT_a0.eq (by decide)) (by decide) rfl inX3 (by decide) k_45 (fun _ h => h) rfl dX3_isSeat_6 ?_
    refine lv_icmp_ge (tgt := 16) X.1 X.2.1 dX3_isSeat_9 (by decide) (fun hc => ?_) (fun hc => ?_)
    · replace hF := it_t hF hc
      refine lv_iconst (v := 0) X.1 X.2.1 dX3_isSeat_16 (by decide) ?_
      exact gx_zret X hG hS hE hF rfl dX3_isSeat_17
    · replace hF := it_f hF hc
      refine lv_iconst (v := 1) X.1 X.2.1 dX3_isSeat_12 (by decide) ?_
      refine lv_goto (tgt := 17) X.1 X.2.1 dX3_isSeat_13 (by decide) ?_
      exact gx_zret X hG hS hE hF rfl dX3_isSeat_17
theorem c_X11_holds (l : Launch) (D : va_G) (cA : Nat → ClassId) (base : Nat) (ad : Nat → Nat) (σ : Hp) (n : Nat) (a0 : Nat) (a1 : Int32) (a2 : Int32) (hT_a0 : hT σ a0 11) {τ : Hp} {r : Int32} (hF : F_X11_holds n a0 a1 a2 σ = some (r, τ)) : MI l yX11_holds cX11_holds 4 (some .int) rm_X11_holds D cA base ad σ [.ref (ad a0), .int a1, .int a2] r τ := by
  refine Met.ofW (cc := cX11_holds) (maxL := 4) (ret := (some .int)) (by decide) rfl ?_
  intro p e s m args below meth c s₁ B hml hv
  obtain ⟨rfl, hv⟩ := hv
  have X : SX D cA base p s m ([.ref (ad a0), .int a1, .int a2] : List Value).toArray meth c cX11_holds 4 (some .int) RX11 := sx_of B hml hv
  have hG := hv.1
  have hS : va_S (bA base) s.heap s.heap [] := va_S.rf
  have hE := xT.rf σ
  have hl := lv_entry ([.ref (ad a0), .int a1, .int a2]) (n := 4) (Nat.le_of_ble_eq_true rfl)
  rw [lg_entry_eq]
  generalize (lg_sl ([.ref (ad a0), .int a1, .int a2]) ++ List.replicate (4 - (lg_sl ([.ref (ad a0), .int a1, .int a2])).length) Slot.unset).toArray = ls at hl ⊢
  have hl : lv_has ls 4 [(0, .ref (ad a0)), (1, .int a1), (2, .int a2)] := hl
  unfold F_X11_holds at hF
  refine lv_aload_n X.1 X.2.1 dX11_holds_0 rfl (lv_at hl 0 rfl) ?_
  obtain ⟨i1, hr, hF⟩ := b1_ex hF
  have hT_i1 : hT σ i1 3 := gw_T hG hT_a0 (by decide) hr
  refine gx_get 0 (v := .ref (ad i1)) X hG hT_a0.1 (hT_a0.eq (by decide)) (by decide) rfl inX11 (by decide) k_151 (fun _ h => h) (gx_rfv hr) dX11_holds_1 ?_
  refine lv_iload_n X.1 X.2.1 dX11_holds_4 rfl (lv_at hl 1 rfl) ?_
  obtain ⟨r3, σ2, hz, hF⟩ := b2_ex hF
  refine gx_rI (gx_runV (As := [.int a1]) (rest := []) X hG hS hT_i1.1 (hT_i1.eq (by decide)) (by decide) rfl (c_X3_isSeat l D cA base ad σ n i1 a1 hT_i1 hz) k_374 k_371 k_372 k_373 k_2 (h_X3_isSeat) rfl rfl ⟨by decide, by decide⟩ rfl hl.1 rfl (Nat.le_of_ble_eq_true rfl) dX11_holds_5 ⟨Nat.zero_le _, Nat.zero_le _⟩) hS (fun H locs hG hS hX => ?_)
  have hT_a0 := hX.T hT_a0
  replace hE := hE.trans hX
  refine lv_if_eq (tgt := 28) X.1 X.2.1 dX11_holds_8 (by decide) (fun hc => ?_) (fun hc => ?_)
  · replace hF := it_t hF hc
    refine lv_iconst (v := (-1)) X.1 X.2.1 dX11_holds_28 (by decide) ?_
    exact gx_iret X hG hS hE hF dX11_holds_29
  · replace hF := it_f hF hc
    refine lv_iload_n X.1 X.2.1 dX11_holds_11 rfl (lv_at hl 2 rfl) ?_
    refine lv_if_lt (tgt := 28) X.1 X.2.1 dX11_holds_12 (by decide) (fun hc => ?_) (fun hc => ?_)
    · replace hF := it_t hF hc
      refine lv_iconst (v := (-1)) X.1 X.2.1 dX11_holds_28 (by decide) ?_
      exact gx_iret X hG hS hE hF dX11_holds_29
    · replace hF := it_f hF hc
      refine lv_iload_n X.1 X.2.1 dX11_holds_15 rfl (lv_at hl 2 rfl) ?_
      refine lv_iconst (v := 1) X.1 X.2.1 dX11_holds_16 (by decide) ?_
      refine lv_aload_n X.1 X.2.1 dX11_holds_17 rfl (lv_at hl 0 rfl) ?_
      obtain ⟨i4, hr, hF⟩ := b1_ex hF
      have hT_i4 : hT σ2 i4 3 := gw_T hG hT_a0 (by decide) hr
      refine gx_get 0 (v := .ref (ad i4)) X hG hT_a0.1 (hT_a0.eq (by decide)) (by decide) rfl inX11 (by decide) k_151 (fun _ h => h) (gx_rfv hr) dX11_holds_18 ?_
      refine gx_getN 0 (v := .int (hI σ2 i4 0)) X hG hT_i4.1 (hT_i4.eq (by decide)) (by decide) rfl inX3 (by decide) q_40 (fun _ h => h) rfl dX11_holds_21 ?_
      refine lv_ishl X.1 X.2.1 dX11_holds_24 ?_
      refine lv_icmp_lt (tgt := 30) X.1 X.2.1 dX11_holds_25 (by decide) (fun hc => ?_) (fun hc => ?_)
      · replace hF := it_t hF hc
        refine lv_aload_n X.1 X.2.1 dX11_holds_30 rfl (lv_at hl 0 rfl) ?_
        obtain ⟨i5, hr, hF⟩ := b1_ex hF
        have hT_i5 : hT σ2 i5 3 := gw_T hG hT_a0 (by decide) hr
        refine gx_get 0 (v := .ref (ad i5)) X hG hT_a0.1 (hT_a0.eq (by decide)) (by decide) rfl inX11 (by decide) k_151 (fun _ h => h) (gx_rfv hr) dX11_holds_31 ?_
        obtain ⟨i6, hr, hF⟩ := b1_ex hF
        have hT_i6 : hT σ2 i6 13 := gw_T hG hT_i5 (by decide) hr
        refine gx_getN 4 (v := .ref (ad i6)) X hG hT_i5.1 (hT_i5.eq (by decide)) (by decide) rfl inX3 (by decide) q_52 (fun _ h => h) (gx_rfv hr) dX11_holds_34 ?_
        refine lv_iload_n X.1 X.2.1 dX11_holds_37 rfl (lv_at hl 1 rfl) ?_
        obtain ⟨r8, σ7, hz, hF⟩ := b2_ex hF
        refine gx_rI (gx_runS (As := [.ref (ad i6), .int a1]) (rest := []) X hG hS (c_X11_at l D cA base ad σ2 n i6 a1 hT_i6 hz) k_362 k_375 k_361 k_1 (h_X11_at.2) rfl rfl ⟨by decide, by decide⟩ rfl hl.1 rfl (Nat.le_of_ble_eq_true rfl) dX11_holds_38 ⟨Nat.zero_le _, Nat.zero_le _⟩) hS (fun H locs hG hS hX => ?_)
        have hT_a0 := hX.T hT_a0
        replace hE := hE.trans hX
        refine lv_istore_n (lv' := [(3, .int r8), (0, .ref (ad a0)), (1, .int a1), (2, .int a2)]) X.1 X.2.1 dX11_holds_41 rfl hl (by decide) rfl (fun ls hl => ?_)
        refine lv_aload_n X.1 X.2.1 dX11_holds_42 rfl (lv_at hl 1 rfl) ?_
        obtain ⟨i9, hr, hF⟩ := b1_ex hF
        have hT_i9 : hT σ7 i9 3 := gw_T hG hT_a0 (by decide) hr
        refine gx_get 0 (v := .ref (ad i9)) X hG hT_a0.1 (hT_a0.eq (by decide)) (by decide) rfl inX11 (by decide) k_151 (fun _ h => h) (gx_rfv hr) dX11_holds_43 ?_
        obtain ⟨i10, hr, hF⟩ := b1_ex hF
        have hT_i10 : hT σ7 i10 13 := gw_T hG hT_i9 (by decide) hr
        refine gx_getN 4 (v := .ref (ad i10)) X hG hT_i9.1 (hT_i9.eq (by decide)) (by decide) rfl inX3 (by decide) q_52 (fun _ h => h) (gx_rfv hr) dX11_holds_46 ?_
        refine lv_iload_n X.1 X.2.1 dX11_holds_49 rfl (lv_at hl 2 rfl) ?_
        refine lv_iload_n X.1 X.2.1 dX11_holds_50 rfl (lv_at hl 3 rfl) ?_
        obtain ⟨σ11, hz, hF⟩ := b1_ex hF
        refine gx_rV (gx_runS (As := [.ref (ad i10), .int a1, .int a2]) (rest := []) X hG hS (c_X11_store l D cA base ad σ7 n i10 a1 a2 hT_i10 hz) k_173 k_171 k_172 k_1 (h_X11_store.2) rfl rfl ⟨by decide, by decide⟩ rfl hl.1 rfl (Nat.le_of_ble_eq_true rfl) dX11_holds_51 ⟨Nat.zero_le _, Nat.zero_le _⟩) hS (fun H locs hG hS hX => ?_)
        have hT_a0 := hX.T hT_a0
        replace hE := hE.trans hX
        refine lv_aload_n X.1 X.2.1 dX11_holds_54 rfl (lv_at hl 1 rfl) ?_
        obtain ⟨i12, hr, hF⟩ := b1_ex hF
        have hT_i12 : hT σ11 i12 3 := gw_T hG hT_a0 (by decide) hr
        refine gx_get 0 (v := .ref (ad i12)) X hG hT_a0.1 (hT_a0.eq (by decide)) (by decide) rfl inX11 (by decide) k_151 (fun _ h => h) (gx_rfv hr) dX11_holds_55 ?_
        refine gx_getN 8 (v := .int (hI σ11 i12 8)) X hG hT_i12.1 (hT_i12.eq (by decide)) (by decide) rfl inX3 (by decide) q_58 (fun _ h => h) rfl dX11_holds_58 ?_
        refine lv_if_ne (tgt := 71) X.1 X.2.1 dX11_holds_61 (by decide) (fun hc => ?_) (fun hc => ?_)
        · replace hF := it_f hF hc
          refine lv_iload_n X.1 X.2.1 dX11_holds_71 rfl (lv_at hl 0 rfl) ?_
          exact gx_iret X hG hS hE hF dX11_holds_72
        · replace hF := it_t hF hc
          refine lv_aload_n X.1 X.2.1 dX11_holds_64 rfl (lv_at hl 1 rfl) ?_
          obtain ⟨i13, hr, hF⟩ := b1_ex hF
          have hT_i13 : hT σ11 i13 3 := gw_T hG hT_a0 (by decide) hr
          refine gx_get 0 (v := .ref (ad i13)) X hG hT_a0.1 (hT_a0.eq (by decide)) (by decide) rfl inX11 (by decide) k_151 (fun _ h => h) (gx_rfv hr) dX11_holds_65 ?_
          obtain ⟨σ14, hz, hF⟩ := b1_ex hF
          refine gx_rV (gx_runV (As := []) (rest := []) X hG hS hT_i13.1 (hT_i13.eq (by decide)) (by decide) rfl (c_X3_standAsTold l D cA base ad σ11 n i13 hT_i13 hz) k_355 k_352 k_353 k_354 k_2 (h_X3_standAsTold) rfl rfl ⟨by decide, by decide⟩ rfl hl.1 rfl (Nat.le_of_ble_eq_true rfl) dX11_holds_68 ⟨Nat.zero_le _, Nat.zero_le _⟩) hS (fun H locs hG hS hX => ?_)
          have hT_a0 := hX.T hT_a0
          replace hE := hE.trans hX
          refine lv_iload_n X.1 X.2.1 dX11_holds_71 rfl (lv_at hl 0 rfl) ?_
          exact gx_iret X hG hS hE hF dX11_holds_72
      · replace hF := it_f hF hc
        refine lv_iconst (v := (-1)) X.1 X.2.1 dX11_holds_28 (by decide) ?_
        exact gx_iret X hG hS hE hF dX11_holds_29
theorem c_X3_turnAt (l : Launch) (D : va_G) (cA : Nat → ClassId) (base : Nat) (ad : Nat → Nat) (σ : Hp) (n : Nat) (a0 : Nat) (a1 : Int32) (hT_a0 : hT σ a0 3) {τ : Hp} {r : Option Nat} (hF : F_X3_turnAt n a0 a1 σ = some (r, τ)) : MQ2 l yX3_turnAt cX3_turnAt 2 (some (.object "ElevenOne$Turn")) rm_X3_turnAt D cA base ad σ [.ref (ad a0), .int a1] r τ 100 := by
  refine Met.ofW (cc := cX3_turnAt) (maxL := 2) (ret := (some (.object "ElevenOne$Turn"))) (by decide) rfl ?_
  intro p e s m args below meth c s₁ B hml hv
  obtain ⟨rfl, hv⟩ := hv
  have X : SX D cA base p s m ([.ref (ad a0), .int a1] : List Value).toArray meth c cX3_turnAt 2 (some (.object "ElevenOne$Turn")) RX3 := sx_of B hml hv
  have hG := hv.1
  have hS : va_S (bA base) s.heap s.heap [] := va_S.rf
  have hE := xT.rf σ
  have hl := lv_entry ([.ref (ad a0), .int a1]) (n := 2) (Nat.le_of_ble_eq_true rfl)
  rw [lg_entry_eq]
  generalize (lg_sl ([.ref (ad a0), .int a1]) ++ List.replicate (2 - (lg_sl ([.ref (ad a0), .int a1])).length) Slot.unset).toArray = ls at hl ⊢
  have hl : lv_has ls 2 [(0, .ref (ad a0)), (1, .int a1)] := hl
  unfold F_X3_turnAt at hF
  refine lv_aload_n X.1 X.2.1 dX3_turnAt_0 rfl (lv_at hl 0 rfl) ?_
  refine lv_iload_n X.1 X.2.1 dX3_turnAt_1 rfl (lv_at hl 1 rfl) ?_
  obtain ⟨r2, σ1, hz, hF⟩ := b2_ex hF
  refine gx_rI (gx_runV (As := [.int a1]) (rest := []) X hG hS hT_a0.1 (hT_a0.eq (by decide)) (by decide) rfl (c_X3_isSeat l D cA base ad σ n a0 a1 hT_a0 hz) k_374 k_384 k_372 k_373 k_2 (h_X3_isSeat) rfl rfl ⟨by decide, by decide⟩ rfl hl.1 rfl (Nat.le_of_ble_eq_true rfl) dX3_turnAt_2 ⟨Nat.zero_le _, Nat.zero_le _⟩) hS (fun H locs hG hS hX => ?_)
  have hT_a0 := hX.T hT_a0
  replace hE := hE.trans hX
  refine lv_if_eq (tgt := 26) X.1 X.2.1 dX3_turnAt_5 (by decide) (fun hc => ?_) (fun hc => ?_)
  · replace hF := it_t hF hc
    refine lv_null X.1 X.2.1 dX3_turnAt_26 ?_
    exact gx_qret (v := none) X hG hS hE oT.none hF dX3_turnAt_27
  · replace hF := it_f hF hc
    refine lv_iload_n X.1 X.2.1 dX3_turnAt_8 rfl (lv_at hl 1 rfl) ?_
    refine lv_aload_n X.1 X.2.1 dX3_turnAt_9 rfl (lv_at hl 0 rfl) ?_
    obtain ⟨i3, hr, hF⟩ := b1_ex hF
    have hT_i3 : hT σ1 i3 16 := gw_T hG hT_a0 (by decide) hr
    refine gx_get 3 (v := .ref (ad i3)) X hG hT_a0.1 (hT_a0.eq (by decide)) (by decide) rfl inX3 (by decide) k_50 (fun _ h => h) (gx_rfv hr) dX3_turnAt_10 ?_
    refine gx_alen (t0 := 3) X hG hT_i3 (by decide) (by decide) rfl dX3_turnAt_13 ?_
    refine lv_icmp_ge (tgt := 26) X.1 X.2.1 dX3_turnAt_14 (by decide) (fun hc => ?_) (fun hc => ?_)
    · replace hF := it_t hF hc
      refine lv_null X.1 X.2.1 dX3_turnAt_26 ?_
      exact gx_qret (v := none) X hG hS hE oT.none hF dX3_turnAt_27
    · replace hF := it_f hF hc
      refine lv_aload_n X.1 X.2.1 dX3_turnAt_17 rfl (lv_at hl 0 rfl) ?_
      obtain ⟨i4, hr, hF⟩ := b1_ex hF
      have hT_i4 : hT σ1 i4 16 := gw_T hG hT_a0 (by decide) hr
      refine gx_get 3 (v := .ref (ad i4)) X hG hT_a0.1 (hT_a0.eq (by decide)) (by decide) rfl inX3 (by decide) k_50 (fun _ h => h) (gx_rfv hr) dX3_turnAt_18 ?_
      refine lv_iload_n X.1 X.2.1 dX3_turnAt_21 rfl (lv_at hl 1 rfl) ?_
      refine gx_qald (t0 := 3) X hG hT_i4 (by decide) (by decide) rfl hF dX3_turnAt_22 (fun q5 hO_q5 hF => ?_)
      replace hO_q5 : oT σ1 q5 100 := hO_q5
      refine lv_goto (tgt := 27) X.1 X.2.1 dX3_turnAt_23 (by decide) ?_
      exact gx_qret (v := q5) X hG hS hE hO_q5 hF dX3_turnAt_27
theorem c_X3_gaveIn (l : Launch) (D : va_G) (cA : Nat → ClassId) (base : Nat) (ad : Nat → Nat) (σ : Hp) (n : Nat) (a0 : Nat) (a1 : Int32) (hT_a0 : hT σ a0 3) {τ : Hp} {r : Int32} (hF : F_X3_gaveIn n a0 a1 σ = some (r, τ)) : MI l yX3_gaveIn cX3_gaveIn 2 (some .boolean) rm_X3_gaveIn D cA base ad σ [.ref (ad a0), .int a1] r τ := by
  refine Met.ofW (cc := cX3_gaveIn) (maxL := 2) (ret := (some .boolean)) (by decide) rfl ?_
  intro p e s m args below meth c s₁ B hml hv
  obtain ⟨rfl, hv⟩ := hv
  have X : SX D cA base p s m ([.ref (ad a0), .int a1] : List Value).toArray meth c cX3_gaveIn 2 (some .boolean) RX3 := sx_of B hml hv
  have hG := hv.1
  have hS : va_S (bA base) s.heap s.heap [] := va_S.rf
  have hE := xT.rf σ
  have hl := lv_entry ([.ref (ad a0), .int a1]) (n := 2) (Nat.le_of_ble_eq_true rfl)
  rw [lg_entry_eq]
  generalize (lg_sl ([.ref (ad a0), .int a1]) ++ List.replicate (2 - (lg_sl ([.ref (ad a0), .int a1])).length) Slot.unset).toArray = ls at hl ⊢
  have hl : lv_has ls 2 [(0, .ref (ad a0)), (1, .int a1)] := hl
  unfold F_X3_gaveIn at hF
  refine lv_aload_n X.1 X.2.1 dX3_gaveIn_0 rfl (lv_at hl 0 rfl) ?_
  obtain ⟨i1, hr, hF⟩ := b1_ex hF
  have hT_i1 : hT σ i1 13 := gw_T hG hT_a0 (by decide) hr
  refine gx_get 18 (v := .ref (ad i1)) X hG hT_a0.1 (hT_a0.eq (by decide)) (by decide) rfl inX3 (by decide) k_81 (fun _ h => h) (gx_rfv hr) dX3_gaveIn_1 ?_
  refine lv_iload_n X.1 X.2.1 dX3_gaveIn_4 rfl (lv_at hl 1 rfl) ?_
  obtain ⟨r3, σ2, hz, hF⟩ := b2_ex hF
  refine gx_rI (gx_runSN (As := [.ref (ad i1), .int a1]) (rest := []) X hG hS (c_X11_at l D cA base ad σ n i1 a1 hT_i1 hz) k_362 q_360 k_361 k_1 (h_X11_at.2) rfl rfl ⟨by decide, by decide⟩ rfl hl.1 rfl (Nat.le_of_ble_eq_true rfl) dX3_gaveIn_5 ⟨Nat.zero_le _, Nat.zero_le _⟩) hS (fun H locs hG hS hX => ?_)
  have hT_a0 := hX.T hT_a0
  replace hE := hE.trans hX
  refine lv_if_lt (tgt := 15) X.1 X.2.1 dX3_gaveIn_8 (by decide) (fun hc => ?_) (fun hc => ?_)
  · replace hF := it_t hF hc
    refine lv_iconst (v := 0) X.1 X.2.1 dX3_gaveIn_15 (by decide) ?_
    exact gx_zret X hG hS hE hF rfl dX3_gaveIn_16
  · replace hF := it_f hF hc
    refine lv_iconst (v := 1) X.1 X.2.1 dX3_gaveIn_11 (by decide) ?_
    refine lv_goto (tgt := 16) X.1 X.2.1 dX3_gaveIn_12 (by decide) ?_
    exact gx_zret X hG hS hE hF rfl dX3_gaveIn_16
theorem c_X11_of (l : Launch) (D : va_G) (cA : Nat → ClassId) (base : Nat) (ad : Nat → Nat) (σ : Hp) (n : Nat) (a0 : Nat) (a1 : Int32) (a2 : Int32) (hT_a0 : hT σ a0 11) {τ : Hp} {r : Int32} (hF : F_X11_of n a0 a1 a2 σ = some (r, τ)) : MI l yX11_of cX11_of 4 (some .int) rm_X11_of D cA base ad σ [.ref (ad a0), .int a1, .int a2] r τ := by
  refine Met.ofW (cc := cX11_of) (maxL := 4) (ret := (some .int)) (by decide) rfl ?_
  intro p e s m args below meth c s₁ B hml hv
  obtain ⟨rfl, hv⟩ := hv
  have X : SX D cA base p s m ([.ref (ad a0), .int a1, .int a2] : List Value).toArray meth c cX11_of 4 (some .int) RX11 := sx_of B hml hv
  have hG := hv.1
  have hS : va_S (bA base) s.heap s.heap [] := va_S.rf
  have hE := xT.rf σ
  have hl := lv_entry ([.ref (ad a0), .int a1, .int a2]) (n := 4) (Nat.le_of_ble_eq_true rfl)
  rw [lg_entry_eq]
  generalize (lg_sl ([.ref (ad a0), .int a1, .int a2]) ++ List.replicate (4 - (lg_sl ([.ref (ad a0), .int a1, .int a2])).length) Slot.unset).toArray = ls at hl ⊢
  have hl : lv_has ls 4 [(0, .ref (ad a0)), (1, .int a1), (2, .int a2)] := hl
  unfold F_X11_of at hF
  refine lv_aload_n X.1 X.2.1 dX11_of_0 rfl (lv_at hl 0 rfl) ?_
  obtain ⟨i1, hr, hF⟩ := b1_ex hF
  have hT_i1 : hT σ i1 3 := gw_T hG hT_a0 (by decide) hr
  refine gx_get 0 (v := .ref (ad i1)) X hG hT_a0.1 (hT_a0.eq (by decide)) (by decide) rfl inX11 (by decide) k_151 (fun _ h => h) (gx_rfv hr) dX11_of_1 ?_
  refine lv_iload_n X.1 X.2.1 dX11_of_4 rfl (lv_at hl 1 rfl) ?_
  obtain ⟨r3, σ2, hz, hF⟩ := b2_ex hF
  refine gx_rQ (gx_runV (As := [.int a1]) (rest := []) X hG hS hT_i1.1 (hT_i1.eq (by decide)) (by decide) rfl (c_X3_turnAt l D cA base ad σ n i1 a1 hT_i1 hz) k_383 k_380 k_381 k_382 k_2 (h_X3_turnAt) rfl rfl ⟨by decide, by decide⟩ rfl hl.1 rfl (Nat.le_of_ble_eq_true rfl) dX11_of_5 ⟨Nat.zero_le _, Nat.zero_le _⟩) hS (fun H locs hG hS hX hO_r3 => ?_)
  have hT_a0 := hX.T hT_a0
  replace hE := hE.trans hX
  refine gx_astore_n (lv' := [(3, va_rf (Option.map ad r3)), (0, .ref (ad a0)), (1, .int a1), (2, .int a2)]) X.1 X.2.1 dX11_of_8 rfl hl (by decide) (by cases r3 <;> rfl) (fun ls hl => ?_)
  refine gx_aload_n X.1 X.2.1 dX11_of_9 rfl (lv_at hl 0 rfl) ?_
  refine gx_ifnonnull (tgt := 16) X.1 X.2.1 dX11_of_10 (by decide) hF (fun hr hF2i4 => ?_) (fun i4 hr hF2i4 => ?_)
  · subst hr
    have hF := hF2i4
    have hl : lv_has ls 4 [(3, .null), (0, .ref (ad a0)), (1, .int a1), (2, .int a2)] := hl
    refine lv_ldc (v := (-1000000001)) X.1 X.2.1 X.2.2.2.2.2.1 (X.w k_385) dX11_of_13 ?_
    exact gx_iret X hG hS hE hF dX11_of_15
  · subst hr
    have hF := hF2i4
    have hT_i4 := hO_r3 i4 rfl
    have hl : lv_has ls 4 [(3, .ref (ad i4)), (0, .ref (ad a0)), (1, .int a1), (2, .int a2)] := hl
    refine lv_iload_n X.1 X.2.1 dX11_of_16 rfl (lv_at hl 3 rfl) ?_
    by_cases hc0 : a2 = 0
    · replace hF := it_t hF hc0
      refine lv_tableIn (tgt := 72) X.1 X.2.1 dX11_of_17 (by rw [hc0]; decide) (by rw [hc0]; decide) (by rw [hc0]; rfl) (by decide) ?_
      refine lv_aload_n X.1 X.2.1 dX11_of_72 rfl (lv_at hl 0 rfl) ?_
      refine gx_getT 1 (v := .int (hI σ2 i4 1)) X hG hT_i4 (by decide) k_201 (fun _ h => h) rfl dX11_of_73 ?_
      exact gx_iret X hG hS hE hF dX11_of_76
    replace hF := it_f hF hc0
    by_cases hc1 : a2 = 1
    · replace hF := it_t hF hc1
      refine lv_tableIn (tgt := 77) X.1 X.2.1 dX11_of_17 (by rw [hc1]; decide) (by rw [hc1]; decide) (by rw [hc1]; rfl) (by decide) ?_
      refine lv_aload_n X.1 X.2.1 dX11_of_77 rfl (lv_at hl 0 rfl) ?_
      refine gx_getT 2 (v := .int (hI σ2 i4 2)) X hG hT_i4 (by decide) k_211 (fun _ h => h) rfl dX11_of_78 ?_
      exact gx_iret X hG hS hE hF dX11_of_81
    replace hF := it_f hF hc1
    by_cases hc2 : a2 = 2
    · replace hF := it_t hF hc2
      refine lv_tableIn (tgt := 82) X.1 X.2.1 dX11_of_17 (by rw [hc2]; decide) (by rw [hc2]; decide) (by rw [hc2]; rfl) (by decide) ?_
      refine lv_aload_n X.1 X.2.1 dX11_of_82 rfl (lv_at hl 0 rfl) ?_
      refine gx_getT 3 (v := .int (hI σ2 i4 3)) X hG hT_i4 (by decide) k_214 (fun _ h => h) rfl dX11_of_83 ?_
      exact gx_iret X hG hS hE hF dX11_of_86
    replace hF := it_f hF hc2
    by_cases hc3 : a2 = 3
    · replace hF := it_t hF hc3
      refine lv_tableIn (tgt := 87) X.1 X.2.1 dX11_of_17 (by rw [hc3]; decide) (by rw [hc3]; decide) (by rw [hc3]; rfl) (by decide) ?_
      refine lv_aload_n X.1 X.2.1 dX11_of_87 rfl (lv_at hl 0 rfl) ?_
      refine gx_getT 4 (v := .int (hI σ2 i4 4)) X hG hT_i4 (by decide) k_218 (fun _ h => h) rfl dX11_of_88 ?_
      exact gx_iret X hG hS hE hF dX11_of_91
    replace hF := it_f hF hc3
    by_cases hc4 : a2 = 4
    · replace hF := it_t hF hc4
      refine lv_tableIn (tgt := 92) X.1 X.2.1 dX11_of_17 (by rw [hc4]; decide) (by rw [hc4]; decide) (by rw [hc4]; rfl) (by decide) ?_
      refine lv_aload_n X.1 X.2.1 dX11_of_92 rfl (lv_at hl 0 rfl) ?_
      refine gx_getT 5 (v := .int (hI σ2 i4 5)) X hG hT_i4 (by decide) k_223 (fun _ h => h) rfl dX11_of_93 ?_
      exact gx_iret X hG hS hE hF dX11_of_96
    replace hF := it_f hF hc4
    by_cases hc5 : a2 = 5
    · replace hF := it_t hF hc5
      refine lv_tableIn (tgt := 97) X.1 X.2.1 dX11_of_17 (by rw [hc5]; decide) (by rw [hc5]; decide) (by rw [hc5]; rfl) (by decide) ?_
      refine lv_aload_n X.1 X.2.1 dX11_of_97 rfl (lv_at hl 0 rfl) ?_
      refine gx_getT 6 (v := .int (hI σ2 i4 6)) X hG hT_i4 (by decide) k_225 (fun _ h => h) rfl dX11_of_98 ?_
      exact gx_iret X hG hS hE hF dX11_of_101
    replace hF := it_f hF hc5
    by_cases hc6 : a2 = 6
    · replace hF := it_t hF hc6
      refine lv_tableIn (tgt := 102) X.1 X.2.1 dX11_of_17 (by rw [hc6]; decide) (by rw [hc6]; decide) (by rw [hc6]; rfl) (by decide) ?_
      refine lv_aload_n X.1 X.2.1 dX11_of_102 rfl (lv_at hl 1 rfl) ?_
      obtain ⟨i5, hr, hF⟩ := b1_ex hF
      have hT_i5 : hT σ2 i5 3 := gw_T hG hT_a0 (by decide) hr
      refine gx_get 0 (v := .ref (ad i5)) X hG hT_a0.1 (hT_a0.eq (by decide)) (by decide) rfl inX11 (by decide) k_151 (fun _ h => h) (gx_rfv hr) dX11_of_103 ?_
      obtain ⟨i6, hr, hF⟩ := b1_ex hF
      have hT_i6 : hT σ2 i6 13 := gw_T hG hT_i5 (by decide) hr
      refine gx_getN 15 (v := .ref (ad i6)) X hG hT_i5.1 (hT_i5.eq (by decide)) (by decide) rfl inX3 (by decide) q_75 (fun _ h => h) (gx_rfv hr) dX11_of_106 ?_
      refine lv_iload_n X.1 X.2.1 dX11_of_109 rfl (lv_at hl 2 rfl) ?_
      obtain ⟨r8, σ7, hz, hF⟩ := b2_ex hF
      refine gx_rI (gx_runS (As := [.ref (ad i6), .int a1]) (rest := []) X hG hS (c_X11_at l D cA base ad σ2 n i6 a1 hT_i6 hz) k_362 k_375 k_361 k_1 (h_X11_at.2) rfl rfl ⟨by decide, by decide⟩ rfl hl.1 rfl (Nat.le_of_ble_eq_true rfl) dX11_of_110 ⟨Nat.zero_le _, Nat.zero_le _⟩) hS (fun H locs hG hS hX => ?_)
      have hT_a0 := hX.T hT_a0
      have hT_i4 := hX.T hT_i4
      replace hE := hE.trans hX
      exact gx_iret X hG hS hE hF dX11_of_113
    replace hF := it_f hF hc6
    by_cases hc7 : a2 = 7
    · replace hF := it_t hF hc7
      refine lv_tableIn (tgt := 114) X.1 X.2.1 dX11_of_17 (by rw [hc7]; decide) (by rw [hc7]; decide) (by rw [hc7]; rfl) (by decide) ?_
      refine lv_aload_n X.1 X.2.1 dX11_of_114 rfl (lv_at hl 1 rfl) ?_
      obtain ⟨i9, hr, hF⟩ := b1_ex hF
      have hT_i9 : hT σ2 i9 3 := gw_T hG hT_a0 (by decide) hr
      refine gx_get 0 (v := .ref (ad i9)) X hG hT_a0.1 (hT_a0.eq (by decide)) (by decide) rfl inX11 (by decide) k_151 (fun _ h => h) (gx_rfv hr) dX11_of_115 ?_
      obtain ⟨i10, hr, hF⟩ := b1_ex hF
      have hT_i10 : hT σ2 i10 13 := gw_T hG hT_i9 (by decide) hr
      refine gx_getN 17 (v := .ref (ad i10)) X hG hT_i9.1 (hT_i9.eq (by decide)) (by decide) rfl inX3 (by decide) q_80 (fun _ h => h) (gx_rfv hr) dX11_of_118 ?_
      refine lv_iload_n X.1 X.2.1 dX11_of_121 rfl (lv_at hl 2 rfl) ?_
      obtain ⟨r12, σ11, hz, hF⟩ := b2_ex hF
      refine gx_rI (gx_runS (As := [.ref (ad i10), .int a1]) (rest := []) X hG hS (c_X11_at l D cA base ad σ2 n i10 a1 hT_i10 hz) k_362 k_375 k_361 k_1 (h_X11_at.2) rfl rfl ⟨by decide, by decide⟩ rfl hl.1 rfl (Nat.le_of_ble_eq_true rfl) dX11_of_122 ⟨Nat.zero_le _, Nat.zero_le _⟩) hS (fun H locs hG hS hX => ?_)
      have hT_a0 := hX.T hT_a0
      have hT_i4 := hX.T hT_i4
      replace hE := hE.trans hX
      exact gx_iret X hG hS hE hF dX11_of_125
    replace hF := it_f hF hc7
    by_cases hc8 : a2 = 8
    · replace hF := it_t hF hc8
      refine lv_tableIn (tgt := 126) X.1 X.2.1 dX11_of_17 (by rw [hc8]; decide) (by rw [hc8]; decide) (by rw [hc8]; rfl) (by decide) ?_
      refine lv_aload_n X.1 X.2.1 dX11_of_126 rfl (lv_at hl 1 rfl) ?_
      obtain ⟨i13, hr, hF⟩ := b1_ex hF
      have hT_i13 : hT σ2 i13 3 := gw_T hG hT_a0 (by decide) hr
      refine gx_get 0 (v := .ref (ad i13)) X hG hT_a0.1 (hT_a0.eq (by decide)) (by decide) rfl inX11 (by decide) k_151 (fun _ h => h) (gx_rfv hr) dX11_of_127 ?_
      refine gx_getN 12 (v := .int (hI σ2 i13 12)) X hG hT_i13.1 (hT_i13.eq (by decide)) (by decide) rfl inX3 (by decide) q_68 (fun _ h => h) rfl dX11_of_130 ?_
      refine lv_iload_n X.1 X.2.1 dX11_of_133 rfl (lv_at hl 2 rfl) ?_
      refine lv_ishr X.1 X.2.1 dX11_of_134 ?_
      refine lv_iconst (v := 1) X.1 X.2.1 dX11_of_135 (by decide) ?_
      refine lv_iand X.1 X.2.1 dX11_of_136 ?_
      exact gx_iret X hG hS hE hF dX11_of_137
    replace hF := it_f hF hc8
    by_cases hc9 : a2 = 9
    · replace hF := it_t hF hc9
      refine lv_tableIn (tgt := 138) X.1 X.2.1 dX11_of_17 (by rw [hc9]; decide) (by rw [hc9]; decide) (by rw [hc9]; rfl) (by decide) ?_
      refine lv_aload_n X.1 X.2.1 dX11_of_138 rfl (lv_at hl 1 rfl) ?_
      obtain ⟨i14, hr, hF⟩ := b1_ex hF
      have hT_i14 : hT σ2 i14 3 := gw_T hG hT_a0 (by decide) hr
      refine gx_get 0 (v := .ref (ad i14)) X hG hT_a0.1 (hT_a0.eq (by decide)) (by decide) rfl inX11 (by decide) k_151 (fun _ h => h) (gx_rfv hr) dX11_of_139 ?_
      refine lv_iload_n X.1 X.2.1 dX11_of_142 rfl (lv_at hl 2 rfl) ?_
      obtain ⟨r16, σ15, hz, hF⟩ := b2_ex hF
      refine gx_rI (gx_runV (As := [.int a1]) (rest := []) X hG hS hT_i14.1 (hT_i14.eq (by decide)) (by decide) rfl (c_X3_gaveIn l D cA base ad σ2 n i14 a1 hT_i14 hz) k_389 k_386 k_387 k_388 k_2 (h_X3_gaveIn) rfl rfl ⟨by decide, by decide⟩ rfl hl.1 rfl (Nat.le_of_ble_eq_true rfl) dX11_of_143 ⟨Nat.zero_le _, Nat.zero_le _⟩) hS (fun H locs hG hS hX => ?_)
      have hT_a0 := hX.T hT_a0
      have hT_i4 := hX.T hT_i4
      replace hE := hE.trans hX
      refine lv_if_eq (tgt := 153) X.1 X.2.1 dX11_of_146 (by decide) (fun hc => ?_) (fun hc => ?_)
      · replace hF := it_t hF hc
        refine lv_iconst (v := 0) X.1 X.2.1 dX11_of_153 (by decide) ?_
        exact gx_iret X hG hS hE hF dX11_of_154
      · replace hF := it_f hF hc
        refine lv_iconst (v := 1) X.1 X.2.1 dX11_of_149 (by decide) ?_
        refine lv_goto (tgt := 154) X.1 X.2.1 dX11_of_150 (by decide) ?_
        exact gx_iret X hG hS hE hF dX11_of_154
    replace hF := it_f hF hc9
    have hz0 := ne_lit hc0 (z := 0) (by decide)
    have hz1 := ne_lit hc1 (z := 1) (by decide)
    have hz2 := ne_lit hc2 (z := 2) (by decide)
    have hz3 := ne_lit hc3 (z := 3) (by decide)
    have hz4 := ne_lit hc4 (z := 4) (by decide)
    have hz5 := ne_lit hc5 (z := 5) (by decide)
    have hz6 := ne_lit hc6 (z := 6) (by decide)
    have hz7 := ne_lit hc7 (z := 7) (by decide)
    have hz8 := ne_lit hc8 (z := 8) (by decide)
    have hz9 := ne_lit hc9 (z := 9) (by decide)
    refine lv_tableOut (tgt := 155) X.1 X.2.1 dX11_of_17 (by omega) (by decide) ?_
    refine lv_ldc (v := (-1000000001)) X.1 X.2.1 X.2.2.2.2.2.1 (X.w k_385) dX11_of_155 ?_
    exact gx_iret X hG hS hE hF dX11_of_157
theorem c_J6_bitCount_0f7a4 (l : Launch) (D : va_G) (cA : Nat → ClassId) (base : Nat) (ad : Nat → Nat) (σ : Hp) (n : Nat) (a0 : Int32)  {τ : Hp} {r : Int32} (hF : F_J6_bitCount_0f7a4 n a0 σ = some (r, τ)) : MI l yJ6_bitCount_0f7a4 cJ6_bitCount_0f7a4 1 (some .int) rm_J6_bitCount_0f7a4 D cA base ad σ [.int a0] r τ := by
  refine Met.ofW (cc := cJ6_bitCount_0f7a4) (maxL := 1) (ret := (some .int)) (by decide) rfl ?_
  intro p e s m args below meth c s₁ B hml hv
  obtain ⟨rfl, hv⟩ := hv
  have X : SX D cA base p s m ([.int a0] : List Value).toArray meth c cJ6_bitCount_0f7a4 1 (some .int) "java/lang/Integer" := sx_of B hml hv
  have hG := hv.1
  have hS : va_S (bA base) s.heap s.heap [] := va_S.rf
  have hE := xT.rf σ
  have hl := lv_entry ([.int a0]) (n := 1) (Nat.le_of_ble_eq_true rfl)
  rw [lg_entry_eq]
  generalize (lg_sl ([.int a0]) ++ List.replicate (1 - (lg_sl ([.int a0])).length) Slot.unset).toArray = ls at hl ⊢
  have hl : lv_has ls 1 [(0, .int a0)] := hl
  unfold F_J6_bitCount_0f7a4 at hF
  refine lv_iload_n X.1 X.2.1 dJ6_bitCount_0f7a4_0 rfl (lv_at hl 0 rfl) ?_
  refine lv_iload_n X.1 X.2.1 dJ6_bitCount_0f7a4_1 rfl (lv_at hl 0 rfl) ?_
  refine lv_iconst (v := 1) X.1 X.2.1 dJ6_bitCount_0f7a4_2 (by decide) ?_
  refine lv_iushr X.1 X.2.1 dJ6_bitCount_0f7a4_3 rfl ?_
  refine lv_ldcw (v := 1431655765) X.1 X.2.1 X.2.2.2.2.2.1 (X.w k_401) dJ6_bitCount_0f7a4_4 ?_
  refine lv_iand X.1 X.2.1 dJ6_bitCount_0f7a4_7 ?_
  refine lv_isub X.1 X.2.1 dJ6_bitCount_0f7a4_8 ?_
  refine lv_topi (fun x1 ex1 => ?_)
  replace hF := lt_nm hF ex1
  refine lv_istore_n (lv' := [(0, .int x1)]) X.1 X.2.1 dJ6_bitCount_0f7a4_9 rfl hl (by decide) rfl (fun ls hl => ?_)
  refine lv_iload_n X.1 X.2.1 dJ6_bitCount_0f7a4_10 rfl (lv_at hl 0 rfl) ?_
  refine lv_ldcw (v := 858993459) X.1 X.2.1 X.2.2.2.2.2.1 (X.w k_402) dJ6_bitCount_0f7a4_11 ?_
  refine lv_iand X.1 X.2.1 dJ6_bitCount_0f7a4_14 ?_
  refine lv_iload_n X.1 X.2.1 dJ6_bitCount_0f7a4_15 rfl (lv_at hl 0 rfl) ?_
  refine lv_iconst (v := 2) X.1 X.2.1 dJ6_bitCount_0f7a4_16 (by decide) ?_
  refine lv_iushr X.1 X.2.1 dJ6_bitCount_0f7a4_17 rfl ?_
  refine lv_ldcw (v := 858993459) X.1 X.2.1 X.2.2.2.2.2.1 (X.w k_402) dJ6_bitCount_0f7a4_18 ?_
  refine lv_iand X.1 X.2.1 dJ6_bitCount_0f7a4_21 ?_
  refine lv_iadd X.1 X.2.1 dJ6_bitCount_0f7a4_22 ?_
  refine lv_topi (fun x2 ex2 => ?_)
  replace hF := lt_nm hF ex2
  refine lv_istore_n (lv' := [(0, .int x2)]) X.1 X.2.1 dJ6_bitCount_0f7a4_23 rfl hl (by decide) rfl (fun ls hl => ?_)
  refine lv_iload_n X.1 X.2.1 dJ6_bitCount_0f7a4_24 rfl (lv_at hl 0 rfl) ?_
  refine lv_iload_n X.1 X.2.1 dJ6_bitCount_0f7a4_25 rfl (lv_at hl 0 rfl) ?_
  refine lv_iconst (v := 4) X.1 X.2.1 dJ6_bitCount_0f7a4_26 (by decide) ?_
  refine lv_iushr X.1 X.2.1 dJ6_bitCount_0f7a4_27 rfl ?_
  refine lv_iadd X.1 X.2.1 dJ6_bitCount_0f7a4_28 ?_
  refine lv_ldcw (v := 252645135) X.1 X.2.1 X.2.2.2.2.2.1 (X.w k_403) dJ6_bitCount_0f7a4_29 ?_
  refine lv_iand X.1 X.2.1 dJ6_bitCount_0f7a4_32 ?_
  refine lv_topi (fun x3 ex3 => ?_)
  replace hF := lt_nm hF ex3
  refine lv_istore_n (lv' := [(0, .int x3)]) X.1 X.2.1 dJ6_bitCount_0f7a4_33 rfl hl (by decide) rfl (fun ls hl => ?_)
  refine lv_iload_n X.1 X.2.1 dJ6_bitCount_0f7a4_34 rfl (lv_at hl 0 rfl) ?_
  refine lv_iload_n X.1 X.2.1 dJ6_bitCount_0f7a4_35 rfl (lv_at hl 0 rfl) ?_
  refine lv_bipush (v := 8) X.1 X.2.1 dJ6_bitCount_0f7a4_36 (by decide) ?_
  refine lv_iushr X.1 X.2.1 dJ6_bitCount_0f7a4_38 rfl ?_
  refine lv_iadd X.1 X.2.1 dJ6_bitCount_0f7a4_39 ?_
  refine lv_topi (fun x4 ex4 => ?_)
  replace hF := lt_nm hF ex4
  refine lv_istore_n (lv' := [(0, .int x4)]) X.1 X.2.1 dJ6_bitCount_0f7a4_40 rfl hl (by decide) rfl (fun ls hl => ?_)
  refine lv_iload_n X.1 X.2.1 dJ6_bitCount_0f7a4_41 rfl (lv_at hl 0 rfl) ?_
  refine lv_iload_n X.1 X.2.1 dJ6_bitCount_0f7a4_42 rfl (lv_at hl 0 rfl) ?_
  refine lv_bipush (v := 16) X.1 X.2.1 dJ6_bitCount_0f7a4_43 (by decide) ?_
  refine lv_iushr X.1 X.2.1 dJ6_bitCount_0f7a4_45 rfl ?_
  refine lv_iadd X.1 X.2.1 dJ6_bitCount_0f7a4_46 ?_
  refine lv_topi (fun x5 ex5 => ?_)
  replace hF := lt_nm hF ex5
  refine lv_istore_n (lv' := [(0, .int x5)]) X.1 X.2.1 dJ6_bitCount_0f7a4_47 rfl hl (by decide) rfl (fun ls hl => ?_)
  refine lv_iload_n X.1 X.2.1 dJ6_bitCount_0f7a4_48 rfl (lv_at hl 0 rfl) ?_
  refine lv_bipush (v := 63) X.1 X.2.1 dJ6_bitCount_0f7a4_49 (by decide) ?_
  refine lv_iand X.1 X.2.1 dJ6_bitCount_0f7a4_51 ?_
  exact gx_iret X hG hS hE hF dJ6_bitCount_0f7a4_52
theorem c_X3_yes (l : Launch) (D : va_G) (cA : Nat → ClassId) (base : Nat) (ad : Nat → Nat) (σ : Hp) (n : Nat) (a0 : Nat) (hT_a0 : hT σ a0 3) {τ : Hp} {r : Int32} (hF : F_X3_yes n a0 σ = some (r, τ)) : MI l yX3_yes cX3_yes 1 (some .int) rm_X3_yes D cA base ad σ [.ref (ad a0)] r τ := by
  refine Met.ofW (cc := cX3_yes) (maxL := 1) (ret := (some .int)) (by decide) rfl ?_
  intro p e s m args below meth c s₁ B hml hv
  obtain ⟨rfl, hv⟩ := hv
  have X : SX D cA base p s m ([.ref (ad a0)] : List Value).toArray meth c cX3_yes 1 (some .int) RX3 := sx_of B hml hv
  have hG := hv.1
  have hS : va_S (bA base) s.heap s.heap [] := va_S.rf
  have hE := xT.rf σ
  have hl := lv_entry ([.ref (ad a0)]) (n := 1) (Nat.le_of_ble_eq_true rfl)
  rw [lg_entry_eq]
  generalize (lg_sl ([.ref (ad a0)]) ++ List.replicate (1 - (lg_sl ([.ref (ad a0)])).length) Slot.unset).toArray = ls at hl ⊢
  have hl : lv_has ls 1 [(0, .ref (ad a0))] := hl
  unfold F_X3_yes at hF
  refine lv_aload_n X.1 X.2.1 dX3_yes_0 rfl (lv_at hl 0 rfl) ?_
  refine gx_get 12 (v := .int (hI σ a0 12)) X hG hT_a0.1 (hT_a0.eq (by decide)) (by decide) rfl inX3 (by decide) k_69 (fun _ h => h) rfl dX3_yes_1 ?_
  obtain ⟨r2, σ1, hz, hF⟩ := b2_ex hF
  refine gx_rI (gx_runS (As := [.int (hI σ a0 12)]) (rest := []) X hG hS (c_J6_bitCount_0f7a4 l D cA base ad σ n (hI σ a0 12) hz) k_400 k_398 k_399 k_13 (h_J6_bitCount_0f7a4.2) rfl rfl ⟨by decide, by decide⟩ rfl hl.1 rfl (Nat.le_of_ble_eq_true rfl) dX3_yes_4 ⟨Nat.zero_le _, Nat.zero_le _⟩) hS (fun H locs hG hS hX => ?_)
  have hT_a0 := hX.T hT_a0
  replace hE := hE.trans hX
  exact gx_iret X hG hS hE hF dX3_yes_7
theorem c_X3_no (l : Launch) (D : va_G) (cA : Nat → ClassId) (base : Nat) (ad : Nat → Nat) (σ : Hp) (n : Nat) (a0 : Nat) (hT_a0 : hT σ a0 3) {τ : Hp} {r : Int32} (hF : F_X3_no n a0 σ = some (r, τ)) : MI l yX3_no cX3_no 1 (some .int) rm_X3_no D cA base ad σ [.ref (ad a0)] r τ := by
  refine Met.ofW (cc := cX3_no) (maxL := 1) (ret := (some .int)) (by decide) rfl ?_
  intro p e s m args below meth c s₁ B hml hv
  obtain ⟨rfl, hv⟩ := hv
  have X : SX D cA base p s m ([.ref (ad a0)] : List Value).toArray meth c cX3_no 1 (some .int) RX3 := sx_of B hml hv
  have hG := hv.1
  have hS : va_S (bA base) s.heap s.heap [] := va_S.rf
  have hE := xT.rf σ
  have hl := lv_entry ([.ref (ad a0)]) (n := 1) (Nat.le_of_ble_eq_true rfl)
  rw [lg_entry_eq]
  generalize (lg_sl ([.ref (ad a0)]) ++ List.replicate (1 - (lg_sl ([.ref (ad a0)])).length) Slot.unset).toArray = ls at hl ⊢
  have hl : lv_has ls 1 [(0, .ref (ad a0))] := hl
  unfold F_X3_no at hF
  refine lv_aload_n X.1 X.2.1 dX3_no_0 rfl (lv_at hl 0 rfl) ?_
  refine gx_get 2 (v := .int (hI σ a0 2)) X hG hT_a0.1 (hT_a0.eq (by decide)) (by decide) rfl inX3 (by decide) k_45 (fun _ h => h) rfl dX3_no_1 ?_
  refine lv_aload_n X.1 X.2.1 dX3_no_4 rfl (lv_at hl 0 rfl) ?_
  obtain ⟨r2, σ1, hz, hF⟩ := b2_ex hF
  refine gx_rI (gx_runV (As := []) (rest := [.int (hI σ a0 2)]) X hG hS hT_a0.1 (hT_a0.eq (by decide)) (by decide) rfl (c_X3_yes l D cA base ad σ n a0 hT_a0 hz) k_397 k_408 k_395 k_396 k_2 (h_X3_yes) rfl rfl ⟨by decide, by decide⟩ rfl hl.1 rfl (Nat.le_of_ble_eq_true rfl) dX3_no_5 ⟨Nat.zero_le _, Nat.zero_le _⟩) hS (fun H locs hG hS hX => ?_)
  have hT_a0 := hX.T hT_a0
  replace hE := hE.trans hX
  refine lv_isub X.1 X.2.1 dX3_no_8 ?_
  exact gx_iret X hG hS hE hF dX3_no_9
end W_class2
