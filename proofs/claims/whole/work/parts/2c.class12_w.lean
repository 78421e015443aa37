/-! class12: printed by wip/whole/gen.py -/
section W_class12
variable {p : Program} {l : Launch} {e : Env} {s : State} {m : MethodId} {args : Array Value} {below : List Frame} {meth : Method} {c : Code} {D : va_G} {cA : Nat → ClassId} {base : Nat} {ad : Nat → Nat}
abbrev rm_X5_holdRow : Room := { frames := 0, cells := 0, slots := 0, locals := 0 }
theorem h_X5_holdRow : yX5_holdRow.cls = RX5 ∧ yX5_holdRow.cls ≠ "java/lang/invoke/MethodHandle" ∧ yX5_holdRow.cls ≠ "java/lang/invoke/VarHandle" ∧ (parseMethodDescriptor yX5_holdRow.desc).map (fun d => d.parameters.length) = some 2 := by decide +kernel
def F_X5_holdRow_17 (n : Nat)  : Nat → Nat → Int32 → Hp → Option Hp
  | 0, _, _, _ => none
  | f + 1, v0, v3, σ => b1 (hR σ v0 4) fun (i1 : Nat) => if (nI (hL σ i1)) ≤ v3 then (some σ) else (b1 (hR σ v0 4) fun (i2 : Nat) => ck (¬ (v3 < 0 ∨ hL σ i2 ≤ v3.toNatClampNeg)) (lt (pI σ i2 v3.toNatClampNeg 0) fun (σ3 : Hp) => (F_X5_holdRow_17 n  f) v0 (v3 + 1) σ3))
def F_X5_holdRow (n : Nat) (a0 : Nat) (a1 : Int32) (a2 : Int32) (σ : Hp) : Option Hp := lt (pR σ a0 0 none) fun (σ4 : Hp) => lt (pI σ4 a0 2 a1) fun (σ5 : Hp) => lt (pI σ5 a0 3 a2) fun (σ6 : Hp) => F_X5_holdRow_17 n  n a0 0 σ6
abbrev rm_X11_row : Room := { frames := 1, cells := 0, slots := 0, locals := 23 }
theorem h_X11_row : yX11_row.cls = RX11 ∧ yX11_row.cls ≠ "java/lang/invoke/MethodHandle" ∧ yX11_row.cls ≠ "java/lang/invoke/VarHandle" ∧ (parseMethodDescriptor yX11_row.desc).map (fun d => d.parameters.length) = some 3 := by decide +kernel
def F_X11_row (n : Nat) (a0 : Nat) (a1 : Int32) (a2 : Int32) (a3 : Int32) (σ : Hp) : Option (Int32 × Hp) := b2 (F_X11_shelfAt n a0 a1 σ) fun (r2 : Option Nat) (σ1 : Hp) => om r2 (some ((-1), σ1)) (fun i3 => if a2 < 0 then (some ((-1), σ1)) else (if 2 < a2 then (some ((-1), σ1)) else (if a3 ≤ 100 then (if 0 ≤ a3 then (b1 (F_X5_holdRow n i3 a2 a3 σ1) fun (σ4 : Hp) => some (0, σ4)) else (some ((-14), σ1))) else (some ((-1), σ1)))))
abbrev rm_X5_hasPlaces : Room := { frames := 0, cells := 0, slots := 0, locals := 0 }
theorem h_X5_hasPlaces : yX5_hasPlaces.cls = RX5 ∧ yX5_hasPlaces.cls ≠ "java/lang/invoke/MethodHandle" ∧ yX5_hasPlaces.cls ≠ "java/lang/invoke/VarHandle" ∧ (parseMethodDescriptor yX5_hasPlaces.desc).map (fun d => d.parameters.length) = some 2 := by decide +kernel
def F_X5_hasPlaces (n : Nat) (a0 : Nat) (a1 : Int32) (a2 : Int32) (σ : Hp) : Option (Int32 × Hp) := if a1 < 0 then (some (0, σ)) else (if a2 < 0 then (some (0, σ)) else (if (hI σ a0 3) < a2 then (some (0, σ)) else (if ((hI σ a0 3) - a2) < a1 then (some (0, σ)) else (some (1, σ)))))
abbrev rm_X5_lowestBits : Room := { frames := 0, cells := 0, slots := 0, locals := 0 }
theorem h_X5_lowestBits : yX5_lowestBits.cls = RX5 ∧ yX5_lowestBits.cls ≠ "java/lang/invoke/MethodHandle" ∧ yX5_lowestBits.cls ≠ "java/lang/invoke/VarHandle" ∧ (parseMethodDescriptor yX5_lowestBits.desc).map (fun d => d.parameters.length) = some 1 := by decide +kernel
def F_X5_lowestBits (n : Nat) (a0 : Nat) (a1 : Int32) (σ : Hp) : Option (Int32 × Hp) := if (hI σ a0 2) = 0 then (some (a1.toInt8.toInt32, σ)) else (if (hI σ a0 2) = 1 then (some (a1.toInt16.toInt32, σ)) else (some (a1, σ)))
abbrev rm_X11_put : Room := { frames := 2, cells := 0, slots := 0, locals := 40 }
theorem h_X11_put : yX11_put.cls = RX11 ∧ yX11_put.cls ≠ "java/lang/invoke/MethodHandle" ∧ yX11_put.cls ≠ "java/lang/invoke/VarHandle" ∧ (parseMethodDescriptor yX11_put.desc).map (fun d => d.parameters.length) = some 3 := by decide +kernel
def F_X11_put (n : Nat) (a0 : Nat) (a1 : Int32) (a2 : Int32) (a3 : Int32) (σ : Hp) : Option (Int32 × Hp) := b2 (F_X11_shelfAt n a0 a1 σ) fun (r2 : Option Nat) (σ1 : Hp) => om r2 (some ((-1), σ1)) (fun i3 => b2 (F_X5_isEmpty n i3 σ1) fun (r5 : Int32) (σ4 : Hp) => if r5 = 0 then (b2 (F_X5_isRow n i3 σ4) fun (r7 : Int32) (σ6 : Hp) => if r7 = 0 then (some ((-12), σ6)) else (b2 (F_X5_hasPlaces n i3 a2 1 σ6) fun (r9 : Int32) (σ8 : Hp) => if r9 = 0 then (some ((-13), σ8)) else (b1 (hR σ8 i3 4) fun (i10 : Nat) => b2 (F_X5_lowestBits n i3 a3 σ8) fun (r12 : Int32) (σ11 : Hp) => b1 (F_X11_store n i10 a2 r12 σ11) fun (σ13 : Hp) => some (0, σ13)))) else (some ((-11), σ4)))
abbrev rm_X11_copy : Room := { frames := 2, cells := 0, slots := 0, locals := 40 }
theorem h_X11_copy : yX11_copy.cls = RX11 ∧ yX11_copy.cls ≠ "java/lang/invoke/MethodHandle" ∧ yX11_copy.cls ≠ "java/lang/invoke/VarHandle" ∧ (parseMethodDescriptor yX11_copy.desc).map (fun d => d.parameters.length) = some 5 := by decide +kernel
def F_X11_copy_123 (n : Nat) (K_98 : Int32 → Int32 → Int32 → Nat → Nat → Int32 → Hp → Option (Int32 × Hp)) (v2 : Int32) (v4 : Int32) (v5 : Int32) (v6 : Nat) (v7 : Nat) (v8 : Int32) (s0 : Int32) (σ : Hp) : Option (Int32 × Hp) := b1 (hR σ v7 4) fun (i1 : Nat) => b1 (hR σ v6 4) fun (i2 : Nat) => b2 (F_X11_at n i2 (v2 + s0) σ) fun (r4 : Int32) (σ3 : Hp) => b1 (F_X11_store n i1 (v4 + s0) r4 σ3) fun (σ5 : Hp) => K_98 v2 v4 v5 v6 v7 (v8 + 1) σ5
def F_X11_copy_98 (n : Nat)  : Nat → Int32 → Int32 → Int32 → Nat → Nat → Int32 → Hp → Option (Int32 × Hp)
  | 0, _, _, _, _, _, _, _ => none
  | f + 1, v2, v4, v5, v6, v7, v8, σ => if v5 ≤ v8 then (some (v5, σ)) else (if v4 ≤ v2 then (F_X11_copy_123 n (F_X11_copy_98 n  f) v2 v4 v5 v6 v7 v8 v8 σ) else (F_X11_copy_123 n (F_X11_copy_98 n  f) v2 v4 v5 v6 v7 v8 ((v5 - 1) - v8) σ))
def F_X11_copy (n : Nat) (a0 : Nat) (a1 : Int32) (a2 : Int32) (a3 : Int32) (a4 : Int32) (a5 : Int32) (σ : Hp) : Option (Int32 × Hp) := b2 (F_X11_shelfAt n a0 a1 σ) fun (r7 : Option Nat) (σ6 : Hp) => b2 (F_X11_shelfAt n a0 a3 σ6) fun (r9 : Option Nat) (σ8 : Hp) => om r7 (some ((-1), σ8)) (fun i10 => om r9 (some ((-1), σ8)) (fun i11 => b2 (F_X5_isEmpty n i10 σ8) fun (r13 : Int32) (σ12 : Hp) => if r13 = 0 then (b2 (F_X5_isEmpty n i11 σ12) fun (r15 : Int32) (σ14 : Hp) => if r15 = 0 then (b2 (F_X5_isRow n i10 σ14) fun (r17 : Int32) (σ16 : Hp) => if r17 = 0 then (some ((-12), σ16)) else (if (hI σ16 i10 2) = (hI σ16 i11 2) then (b2 (F_X5_hasPlaces n i10 a2 a5 σ16) fun (r19 : Int32) (σ18 : Hp) => if r19 = 0 then (some ((-13), σ18)) else (b2 (F_X5_hasPlaces n i11 a4 a5 σ18) fun (r21 : Int32) (σ20 : Hp) => if r21 = 0 then (some ((-13), σ20)) else (F_X11_copy_98 n  n a2 a4 a5 i10 i11 0 σ20))) else (some ((-12), σ16)))) else (some ((-11), σ14))) else (some ((-11), σ12))))
abbrev rm_X10_loudness : Room := { frames := 0, cells := 0, slots := 0, locals := 0 }
theorem h_X10_loudness : yX10_loudness.cls = RX10 ∧ yX10_loudness.cls ≠ "java/lang/invoke/MethodHandle" ∧ yX10_loudness.cls ≠ "java/lang/invoke/VarHandle" ∧ (parseMethodDescriptor yX10_loudness.desc).map (fun d => d.parameters.length) = some 1 := by decide +kernel
def F_X10_loudness (n : Nat) (a0 : Nat) (a1 : Int32) (σ : Hp) : Option (Int32 × Hp) := some (hI σ a0 3, σ)
abbrev rm_X0_loudness : Room := { frames := 1, cells := 0, slots := 0, locals := 21 }
theorem h_X0_loudness : yX0_loudness.cls = RX0 ∧ yX0_loudness.cls ≠ "java/lang/invoke/MethodHandle" ∧ yX0_loudness.cls ≠ "java/lang/invoke/VarHandle" ∧ (parseMethodDescriptor yX0_loudness.desc).map (fun d => d.parameters.length) = some 1 := by decide +kernel
def F_X0_loudness (n : Nat) (a0 : Nat) (a1 : Int32) (σ : Hp) : Option (Int32 × Hp) := b2 (F_X10_loudness n a0 a1 σ) fun (r2 : Int32) (σ1 : Hp) => some (r2 + (hI σ1 a0 2), σ1)
abbrev rm_X2_loudness : Room := { frames := 2, cells := 0, slots := 0, locals := 42 }
theorem h_X2_loudness : yX2_loudness.cls = RX2 ∧ yX2_loudness.cls ≠ "java/lang/invoke/MethodHandle" ∧ yX2_loudness.cls ≠ "java/lang/invoke/VarHandle" ∧ (parseMethodDescriptor yX2_loudness.desc).map (fun d => d.parameters.length) = some 1 := by decide +kernel
def F_X2_loudness (n : Nat) (a0 : Nat) (a1 : Int32) (σ : Hp) : Option (Int32 × Hp) := b2 (F_X0_loudness n a0 a1 σ) fun (r2 : Int32) (σ1 : Hp) => some (2 * r2, σ1)
abbrev rm_X4_loudness : Room := { frames := 1, cells := 0, slots := 0, locals := 21 }
theorem h_X4_loudness : yX4_loudness.cls = RX4 ∧ yX4_loudness.cls ≠ "java/lang/invoke/MethodHandle" ∧ yX4_loudness.cls ≠ "java/lang/invoke/VarHandle" ∧ (parseMethodDescriptor yX4_loudness.desc).map (fun d => d.parameters.length) = some 1 := by decide +kernel
def F_X4_loudness (n : Nat) (a0 : Nat) (a1 : Int32) (σ : Hp) : Option (Int32 × Hp) := b2 (F_X10_loudness n a0 a1 σ) fun (r2 : Int32) (σ1 : Hp) => some (r2 + 10, σ1)
abbrev rm_X6_loudness : Room := { frames := 1, cells := 0, slots := 0, locals := 21 }
theorem h_X6_loudness : yX6_loudness.cls = RX6 ∧ yX6_loudness.cls ≠ "java/lang/invoke/MethodHandle" ∧ yX6_loudness.cls ≠ "java/lang/invoke/VarHandle" ∧ (parseMethodDescriptor yX6_loudness.desc).map (fun d => d.parameters.length) = some 1 := by decide +kernel
def F_X6_loudness (n : Nat) (a0 : Nat) (a1 : Int32) (σ : Hp) : Option (Int32 × Hp) := b2 (F_X10_loudness n a0 a1 σ) fun (r2 : Int32) (σ1 : Hp) => some (r2 - 1, σ1)
abbrev rm_X7_loudness : Room := { frames := 2, cells := 0, slots := 0, locals := 42 }
theorem h_X7_loudness : yX7_loudness.cls = RX7 ∧ yX7_loudness.cls ≠ "java/lang/invoke/MethodHandle" ∧ yX7_loudness.cls ≠ "java/lang/invoke/VarHandle" ∧ (parseMethodDescriptor yX7_loudness.desc).map (fun d => d.parameters.length) = some 1 := by decide +kernel
def F_X7_loudness (n : Nat) (a0 : Nat) (a1 : Int32) (σ : Hp) : Option (Int32 × Hp) := b2 (F_X6_loudness n a0 a1 σ) fun (r2 : Int32) (σ1 : Hp) => some (r2 + (hI σ1 a0 5), σ1)
abbrev rm_X9_loudness : Room := { frames := 1, cells := 0, slots := 0, locals := 21 }
theorem h_X9_loudness : yX9_loudness.cls = RX9 ∧ yX9_loudness.cls ≠ "java/lang/invoke/MethodHandle" ∧ yX9_loudness.cls ≠ "java/lang/invoke/VarHandle" ∧ (parseMethodDescriptor yX9_loudness.desc).map (fun d => d.parameters.length) = some 1 := by decide +kernel
def F_X9_loudness (n : Nat) (a0 : Nat) (a1 : Int32) (σ : Hp) : Option (Int32 × Hp) := b2 (F_X10_loudness n a0 a1 σ) fun (r2 : Int32) (σ1 : Hp) => b2 (F_J6_bitCount_0f7a4 n a1 σ1) fun (r4 : Int32) (σ3 : Hp) => some (r2 + r4, σ3)
abbrev rm_X8_loudness : Room := { frames := 2, cells := 0, slots := 0, locals := 42 }
theorem h_X8_loudness : yX8_loudness.cls = RX8 ∧ yX8_loudness.cls ≠ "java/lang/invoke/MethodHandle" ∧ yX8_loudness.cls ≠ "java/lang/invoke/VarHandle" ∧ (parseMethodDescriptor yX8_loudness.desc).map (fun d => d.parameters.length) = some 1 := by decide +kernel
def F_X8_loudness (n : Nat) (a0 : Nat) (a1 : Int32) (σ : Hp) : Option (Int32 × Hp) := b2 (F_X9_loudness n a0 a1 σ) fun (r2 : Int32) (σ1 : Hp) => some (r2 + 5, σ1)
theorem w_X5_holdRow_17 {σ0 τ : Hp} (X : SX D cA base p s m args meth c cX5_holdRow 4 none RX5) (n : Nat)  : ∀ f : Nat, ∀ (v0 : Nat) (v3 : Int32) (σ : Hp) (H : Heap) (locs : List Loc) (ls : Array Slot), hT σ v0 5 → GW D cA base ad σ H → va_S (bA base) s.heap H locs → xT σ0 σ → lv_has ls 4 [(0, .ref (ad v0)), (3, .int v3)] → F_X5_holdRow_17 n  f v0 v3 σ = some τ → W p l e rm_X5_holdRow s m args below meth c H locs 0 0 (ZV below s args D cA base ad σ0 τ) (F0 m 17 ls []) := by
  intro f
  induction f with
  | zero => intro v0 v3 σ H locs ls h0 hG hS hE hl hF
            rw [F_X5_holdRow_17] at hF; cases hF
  | succ f ih =>
    intro v0 v3 σ H locs ls hT_v0 hG hS hE hl hF
    rw [F_X5_holdRow_17] at hF
    refine lv_iload_n X.1 X.2.1 dX5_holdRow_17 rfl (lv_at hl 1 rfl) ?_
    refine lv_aload_n X.1 X.2.1 dX5_holdRow_18 rfl (lv_at hl 0 rfl) ?_
    obtain ⟨i1, hr, hF⟩ := b1_ex hF
    have hT_i1 : hT σ i1 13 := gw_T hG hT_v0 (by decide) hr
    refine gx_get 4 (v := .ref (ad i1)) X hG hT_v0.1 (hT_v0.eq (by decide)) (by decide) rfl inX5 (by decide) k_138 (fun _ h => h) (gx_rfv hr) dX5_holdRow_19 ?_
    refine gx_alen (t0 := 0) X hG hT_i1 (by decide) (by decide) rfl dX5_holdRow_22 ?_
    refine lv_icmp_ge (tgt := 39) X.1 X.2.1 dX5_holdRow_23 (by decide) (fun hc => ?_) (fun hc => ?_)
    · replace hF := it_t hF hc
      exact gx_vret X hG hS hE hF dX5_holdRow_39
    · replace hF := it_f hF hc
      refine lv_aload_n X.1 X.2.1 dX5_holdRow_26 rfl (lv_at hl 0 rfl) ?_
      obtain ⟨i2, hr, hF⟩ := b1_ex hF
      have hT_i2 : hT σ i2 13 := gw_T hG hT_v0 (by decide) hr
      refine gx_get 4 (v := .ref (ad i2)) X hG hT_v0.1 (hT_v0.eq (by decide)) (by decide) rfl inX5 (by decide) k_138 (fun _ h => h) (gx_rfv hr) dX5_holdRow_27 ?_
      refine lv_iload_n X.1 X.2.1 dX5_holdRow_30 rfl (lv_at hl 1 rfl) ?_
      refine lv_iconst (v := 0) X.1 X.2.1 dX5_holdRow_31 (by decide) ?_
      refine gx_iast X hG hS hT_i2 hF dX5_holdRow_32 (fun σ3 H locs hG hS hX hF => ?_)
      have hT_v0 := hX.T hT_v0
      replace hE := hE.trans hX
      refine lv_iinc (v := v3 + 1) (lv' := [(3, .int (v3 + 1)), (0, .ref (ad v0))]) X.1 X.2.1 dX5_holdRow_33 hl (k := 1) rfl rfl (by decide) rfl (fun ls hl => ?_)
      refine lv_goto (tgt := 17) X.1 X.2.1 dX5_holdRow_36 (by decide) ?_
      exact ih v0 (v3 + 1) σ3 _ _ ls hT_v0 hG hS hE (lv_sub hl [1, 0] rfl) hF
theorem c_X5_holdRow (l : Launch) (D : va_G) (cA : Nat → ClassId) (base : Nat) (ad : Nat → Nat) (σ : Hp) (n : Nat) (a0 : Nat) (a1 : Int32) (a2 : Int32) (hT_a0 : hT σ a0 5) {τ : Hp} (hF : F_X5_holdRow n a0 a1 a2 σ = some τ) : MV l yX5_holdRow cX5_holdRow 4 rm_X5_holdRow D cA base ad σ [.ref (ad a0), .int a1, .int a2] τ := by
  refine Met.ofW (cc := cX5_holdRow) (maxL := 4) (ret := none) (by decide) rfl ?_
  intro p e s m args below meth c s₁ B hml hv
  obtain ⟨rfl, hv⟩ := hv
  have X : SX D cA base p s m ([.ref (ad a0), .int a1, .int a2] : List Value).toArray meth c cX5_holdRow 4 none RX5 := sx_of B hml hv
  have hG := hv.1
  have hS : va_S (bA base) s.heap s.heap [] := va_S.rf
  have hE := xT.rf σ
  have hl := lv_entry ([.ref (ad a0), .int a1, .int a2]) (n := 4) (Nat.le_of_ble_eq_true rfl)
  rw [lg_entry_eq]
  generalize (lg_sl ([.ref (ad a0), .int a1, .int a2]) ++ List.replicate (4 - (lg_sl ([.ref (ad a0), .int a1, .int a2])).length) Slot.unset).toArray = ls at hl ⊢
  have hl : lv_has ls 4 [(0, .ref (ad a0)), (1, .int a1), (2, .int a2)] := hl
  unfold F_X5_holdRow at hF
  refine lv_aload_n X.1 X.2.1 dX5_holdRow_0 rfl (lv_at hl 0 rfl) ?_
  refine lv_null X.1 X.2.1 dX5_holdRow_1 ?_
  refine gx_putR 0 (x := none) X hG hS hT_a0.1 (hT_a0.eq (by decide)) (by decide) rfl inX5 tyX5_ok nmX5 (by decide) k_130 (fun _ h => h) rfl (gx_nar _) (gx_fit _) rfl oT.none (Nat.le_of_ble_eq_true rfl) dX5_holdRow_2 hF (fun σ4 H locs hG hS hX hF => ?_)
  have hT_a0 := hX.T hT_a0
  replace hE := hE.trans hX
  refine lv_aload_n X.1 X.2.1 dX5_holdRow_5 rfl (lv_at hl 0 rfl) ?_
  refine lv_iload_n X.1 X.2.1 dX5_holdRow_6 rfl (lv_at hl 1 rfl) ?_
  refine gx_putI 2  X hG hS hT_a0.1 (hT_a0.eq (by decide)) (by decide) rfl inX5 tyX5_ok nmX5 (by decide) k_134 (fun _ h => h) rfl rfl rfl rfl (Nat.le_of_ble_eq_true rfl) dX5_holdRow_7 hF (fun σ5 H locs hG hS hX hF => ?_)
  have hT_a0 := hX.T hT_a0
  replace hE := hE.trans hX
  refine lv_aload_n X.1 X.2.1 dX5_holdRow_10 rfl (lv_at hl 0 rfl) ?_
  refine lv_iload_n X.1 X.2.1 dX5_holdRow_11 rfl (lv_at hl 2 rfl) ?_
  refine gx_putI 3  X hG hS hT_a0.1 (hT_a0.eq (by decide)) (by decide) rfl inX5 tyX5_ok nmX5 (by decide) k_136 (fun _ h => h) rfl rfl rfl rfl (Nat.le_of_ble_eq_true rfl) dX5_holdRow_12 hF (fun σ6 H locs hG hS hX hF => ?_)
  have hT_a0 := hX.T hT_a0
  replace hE := hE.trans hX
  refine lv_iconst (v := 0) X.1 X.2.1 dX5_holdRow_15 (by decide) ?_
  refine lv_istore_n (lv' := [(3, .int 0), (0, .ref (ad a0)), (1, .int a1), (2, .int a2)]) X.1 X.2.1 dX5_holdRow_16 rfl hl (by decide) rfl (fun ls hl => ?_)
  exact w_X5_holdRow_17 X n  n a0 0 σ6 _ _ ls hT_a0 hG hS hE (lv_sub hl [1, 0] rfl) hF
theorem c_X11_row (l : Launch) (D : va_G) (cA : Nat → ClassId) (base : Nat) (ad : Nat → Nat) (σ : Hp) (n : Nat) (a0 : Nat) (a1 : Int32) (a2 : Int32) (a3 : Int32) (hT_a0 : hT σ a0 11) {τ : Hp} {r : Int32} (hF : F_X11_row n a0 a1 a2 a3 σ = some (r, τ)) : MI l yX11_row cX11_row 5 (some .int) rm_X11_row D cA base ad σ [.ref (ad a0), .int a1, .int a2, .int a3] r τ := by
  refine Met.ofW (cc := cX11_row) (maxL := 5) (ret := (some .int)) (by decide) rfl ?_
  intro p e s m args below meth c s₁ B hml hv
  obtain ⟨rfl, hv⟩ := hv
  have X : SX D cA base p s m ([.ref (ad a0), .int a1, .int a2, .int a3] : List Value).toArray meth c cX11_row 5 (some .int) RX11 := sx_of B hml hv
  have hG := hv.1
  have hS : va_S (bA base) s.heap s.heap [] := va_S.rf
  have hE := xT.rf σ
  have hl := lv_entry ([.ref (ad a0), .int a1, .int a2, .int a3]) (n := 5) (Nat.le_of_ble_eq_true rfl)
  rw [lg_entry_eq]
  generalize (lg_sl ([.ref (ad a0), .int a1, .int a2, .int a3]) ++ List.replicate (5 - (lg_sl ([.ref (ad a0), .int a1, .int a2, .int a3])).length) Slot.unset).toArray = ls at hl ⊢
  have hl : lv_has ls 5 [(0, .ref (ad a0)), (1, .int a1), (2, .int a2), (3, .int a3)] := hl
  unfold F_X11_row at hF
  refine lv_aload_n X.1 X.2.1 dX11_row_0 rfl (lv_at hl 0 rfl) ?_
  refine lv_iload_n X.1 X.2.1 dX11_row_1 rfl (lv_at hl 1 rfl) ?_
  obtain ⟨r2, σ1, hz, hF⟩ := b2_ex hF
  refine gx_rQ (gx_runV (As := [.int a1]) (rest := []) X hG hS hT_a0.1 (hT_a0.eq (by decide)) (by decide) rfl (c_X11_shelfAt l D cA base ad σ n a0 a1 hT_a0 hz) k_435 k_432 k_434 ks_1 k_1 (h_X11_shelfAt) rfl rfl ⟨by decide, by decide⟩ rfl hl.1 rfl (Nat.le_of_ble_eq_true rfl) dX11_row_2 ⟨Nat.zero_le _, Nat.zero_le _⟩) hS (fun H locs hG hS hX hO_r2 => ?_)
  have hT_a0 := hX.T hT_a0
  replace hE := hE.trans hX
  refine gx_astore (lv' := [(4, va_rf (Option.map ad r2)), (0, .ref (ad a0)), (1, .int a1), (2, .int a2), (3, .int a3)]) X.1 X.2.1 dX11_row_5 hl (by decide) (by cases r2 <;> rfl) (fun ls hl => ?_)
  refine gx_aload X.1 X.2.1 dX11_row_7 (lv_at hl 0 rfl) ?_
  refine gx_ifnull (tgt := 27) X.1 X.2.1 dX11_row_9 (by decide) hF (fun hr hF2i3 => ?_) (fun i3 hr hF2i3 => ?_)
  · subst hr
    have hF := hF2i3
    have hl : lv_has ls 5 [(4, .null), (0, .ref (ad a0)), (1, .int a1), (2, .int a2), (3, .int a3)] := hl
    refine lv_iconst (v := (-1)) X.1 X.2.1 dX11_row_27 (by decide) ?_
    exact gx_iret X hG hS hE hF dX11_row_28
  · subst hr
    have hF := hF2i3
    have hT_i3 := hO_r2 i3 rfl
    have hl : lv_has ls 5 [(4, .ref (ad i3)), (0, .ref (ad a0)), (1, .int a1), (2, .int a2), (3, .int a3)] := hl
    refine lv_iload_n X.1 X.2.1 dX11_row_12 rfl (lv_at hl 3 rfl) ?_
    refine lv_if_lt (tgt := 27) X.1 X.2.1 dX11_row_13 (by decide) (fun hc => ?_) (fun hc => ?_)
    · replace hF := it_t hF hc
      refine lv_iconst (v := (-1)) X.1 X.2.1 dX11_row_27 (by decide) ?_
      exact gx_iret X hG hS hE hF dX11_row_28
    · replace hF := it_f hF hc
      refine lv_iload_n X.1 X.2.1 dX11_row_16 rfl (lv_at hl 3 rfl) ?_
      refine lv_iconst (v := 2) X.1 X.2.1 dX11_row_17 (by decide) ?_
      refine lv_icmp_gt (tgt := 27) X.1 X.2.1 dX11_row_18 (by decide) (fun hc => ?_) (fun hc => ?_)
      · replace hF := it_t hF hc
        refine lv_iconst (v := (-1)) X.1 X.2.1 dX11_row_27 (by decide) ?_
        exact gx_iret X hG hS hE hF dX11_row_28
      · replace hF := it_f hF hc
        refine lv_iload_n X.1 X.2.1 dX11_row_21 rfl (lv_at hl 4 rfl) ?_
        refine lv_bipush (v := 100) X.1 X.2.1 dX11_row_22 (by decide) ?_
        refine lv_icmp_le (tgt := 29) X.1 X.2.1 dX11_row_24 (by decide) (fun hc => ?_) (fun hc => ?_)
        · replace hF := it_t hF hc
          refine lv_iload_n X.1 X.2.1 dX11_row_29 rfl (lv_at hl 4 rfl) ?_
          refine lv_if_ge (tgt := 36) X.1 X.2.1 dX11_row_30 (by decide) (fun hc => ?_) (fun hc => ?_)
          · replace hF := it_t hF hc
            refine lv_aload X.1 X.2.1 dX11_row_36 (lv_at hl 0 rfl) ?_
            refine lv_iload_n X.1 X.2.1 dX11_row_38 rfl (lv_at hl 3 rfl) ?_
            refine lv_iload_n X.1 X.2.1 dX11_row_39 rfl (lv_at hl 4 rfl) ?_
            obtain ⟨σ4, hz, hF⟩ := b1_ex hF
            refine gx_rV (gx_runV (As := [.int a2, .int a3]) (rest := []) X hG hS hT_i3.1 (hT_i3.eq (by decide)) (by decide) rfl (c_X5_holdRow l D cA base ad σ1 n i3 a2 a3 hT_i3 hz) k_760 k_757 k_758 k_759 k_3 (h_X5_holdRow) rfl rfl ⟨by decide, by decide⟩ rfl hl.1 rfl (Nat.le_of_ble_eq_true rfl) dX11_row_40 ⟨Nat.zero_le _, Nat.zero_le _⟩) hS (fun H locs hG hS hX => ?_)
            have hT_a0 := hX.T hT_a0
            have hT_i3 := hX.T hT_i3
            replace hE := hE.trans hX
            refine lv_iconst (v := 0) X.1 X.2.1 dX11_row_43 (by decide) ?_
            exact gx_iret X hG hS hE hF dX11_row_44
          · replace hF := it_f hF hc
            refine lv_bipush (v := (-14)) X.1 X.2.1 dX11_row_33 (by decide) ?_
            exact gx_iret X hG hS hE hF dX11_row_35
        · replace hF := it_f hF hc
          refine lv_iconst (v := (-1)) X.1 X.2.1 dX11_row_27 (by decide) ?_
          exact gx_iret X hG hS hE hF dX11_row_28
theorem c_X5_hasPlaces (l : Launch) (D : va_G) (cA : Nat → ClassId) (base : Nat) (ad : Nat → Nat) (σ : Hp) (n : Nat) (a0 : Nat) (a1 : Int32) (a2 : Int32) (hT_a0 : hT σ a0 5) {τ : Hp} {r : Int32} (hF : F_X5_hasPlaces n a0 a1 a2 σ = some (r, τ)) : MI l yX5_hasPlaces cX5_hasPlaces 3 (some .boolean) rm_X5_hasPlaces D cA base ad σ [.ref (ad a0), .int a1, .int a2] r τ := by
  refine Met.ofW (cc := cX5_hasPlaces) (maxL := 3) (ret := (some .boolean)) (by decide) rfl ?_
  intro p e s m args below meth c s₁ B hml hv
  obtain ⟨rfl, hv⟩ := hv
  have X : SX D cA base p s m ([.ref (ad a0), .int a1, .int a2] : List Value).toArray meth c cX5_hasPlaces 3 (some .boolean) RX5 := sx_of B hml hv
  have hG := hv.1
  have hS : va_S (bA base) s.heap s.heap [] := va_S.rf
  have hE := xT.rf σ
  have hl := lv_entry ([.ref (ad a0), .int a1, .int a2]) (n := 3) (Nat.le_of_ble_eq_true rfl)
  rw [lg_entry_eq]
  generalize (lg_sl ([.ref (ad a0), .int a1, .int a2]) ++ List.replicate (3 - (lg_sl ([.ref (ad a0), .int a1, .int a2])).length) Slot.unset).toArray = ls at hl ⊢
  have hl : lv_has ls 3 [(0, .ref (ad a0)), (1, .int a1), (2, .int a2)] := hl
  unfold F_X5_hasPlaces at hF
  refine lv_iload_n X.1 X.2.1 dX5_hasPlaces_0 rfl (lv_at hl 1 rfl) ?_
  refine lv_if_lt (tgt := 30) X.1 X.2.1 dX5_hasPlaces_1 (by decide) (fun hc => ?_) (fun hc => ?_)
  · replace hF := it_t hF hc
    refine lv_iconst (v := 0) X.1 X.2.1 dX5_hasPlaces_30 (by decide) ?_
    exact gx_zret X hG hS hE hF rfl dX5_hasPlaces_31
  · replace hF := it_f hF hc
    refine lv_iload_n X.1 X.2.1 dX5_hasPlaces_4 rfl (lv_at hl 2 rfl) ?_
    refine lv_if_lt (tgt := 30) X.1 X.2.1 dX5_hasPlaces_5 (by decide) (fun hc => ?_) (fun hc => ?_)
    · replace hF := it_t hF hc
      refine lv_iconst (v := 0) X.1 X.2.1 dX5_hasPlaces_30 (by decide) ?_
      exact gx_zret X hG hS hE hF rfl dX5_hasPlaces_31
    · replace hF := it_f hF hc
      refine lv_iload_n X.1 X.2.1 dX5_hasPlaces_8 rfl (lv_at hl 2 rfl) ?_
      refine lv_aload_n X.1 X.2.1 dX5_hasPlaces_9 rfl (lv_at hl 0 rfl) ?_
      refine gx_get 3 (v := .int (hI σ a0 3)) X hG hT_a0.1 (hT_a0.eq (by decide)) (by decide) rfl inX5 (by decide) k_136 (fun _ h => h) rfl dX5_hasPlaces_10 ?_
      refine lv_icmp_gt (tgt := 30) X.1 X.2.1 dX5_hasPlaces_13 (by decide) (fun hc => ?_) (fun hc => ?_)
      · replace hF := it_t hF hc
        refine lv_iconst (v := 0) X.1 X.2.1 dX5_hasPlaces_30 (by decide) ?_
        exact gx_zret X hG hS hE hF rfl dX5_hasPlaces_31
      · replace hF := it_f hF hc
        refine lv_iload_n X.1 X.2.1 dX5_hasPlaces_16 rfl (lv_at hl 1 rfl) ?_
        refine lv_aload_n X.1 X.2.1 dX5_hasPlaces_17 rfl (lv_at hl 0 rfl) ?_
        refine gx_get 3 (v := .int (hI σ a0 3)) X hG hT_a0.1 (hT_a0.eq (by decide)) (by decide) rfl inX5 (by decide) k_136 (fun _ h => h) rfl dX5_hasPlaces_18 ?_
        refine lv_iload_n X.1 X.2.1 dX5_hasPlaces_21 rfl (lv_at hl 2 rfl) ?_
        refine lv_isub X.1 X.2.1 dX5_hasPlaces_22 ?_
        refine lv_icmp_gt (tgt := 30) X.1 X.2.1 dX5_hasPlaces_23 (by decide) (fun hc => ?_) (fun hc => ?_)
        · replace hF := it_t hF hc
          refine lv_iconst (v := 0) X.1 X.2.1 dX5_hasPlaces_30 (by decide) ?_
          exact gx_zret X hG hS hE hF rfl dX5_hasPlaces_31
        · replace hF := it_f hF hc
          refine lv_iconst (v := 1) X.1 X.2.1 dX5_hasPlaces_26 (by decide) ?_
          refine lv_goto (tgt := 31) X.1 X.2.1 dX5_hasPlaces_27 (by decide) ?_
          exact gx_zret X hG hS hE hF rfl dX5_hasPlaces_31
theorem c_X5_lowestBits (l : Launch) (D : va_G) (cA : Nat → ClassId) (base : Nat) (ad : Nat → Nat) (σ : Hp) (n : Nat) (a0 : Nat) (a1 : Int32) (hT_a0 : hT σ a0 5) {τ : Hp} {r : Int32} (hF : F_X5_lowestBits n a0 a1 σ = some (r, τ)) : MI l yX5_lowestBits cX5_lowestBits 2 (some .int) rm_X5_lowestBits D cA base ad σ [.ref (ad a0), .int a1] r τ := by
  refine Met.ofW (cc := cX5_lowestBits) (maxL := 2) (ret := (some .int)) (by decide) rfl ?_
  intro p e s m args below meth c s₁ B hml hv
  obtain ⟨rfl, hv⟩ := hv
  have X : SX D cA base p s m ([.ref (ad a0), .int a1] : List Value).toArray meth c cX5_lowestBits 2 (some .int) RX5 := sx_of B hml hv
  have hG := hv.1
  have hS : va_S (bA base) s.heap s.heap [] := va_S.rf
  have hE := xT.rf σ
  have hl := lv_entry ([.ref (ad a0), .int a1]) (n := 2) (Nat.le_of_ble_eq_true rfl)
  rw [lg_entry_eq]
  generalize (lg_sl ([.ref (ad a0), .int a1]) ++ List.replicate (2 - (lg_sl ([.ref (ad a0), .int a1])).length) Slot.unset).toArray = ls at hl ⊢
  have hl : lv_has ls 2 [(0, .ref (ad a0)), (1, .int a1)] := hl
  unfold F_X5_lowestBits at hF
  refine lv_aload_n X.1 X.2.1 dX5_lowestBits_0 rfl (lv_at hl 0 rfl) ?_
  refine gx_get 2 (v := .int (hI σ a0 2)) X hG hT_a0.1 (hT_a0.eq (by decide)) (by decide) rfl inX5 (by decide) k_134 (fun _ h => h) rfl dX5_lowestBits_1 ?_
  by_cases hc0 : (hI σ a0 2) = 0
  · replace hF := it_t hF hc0
    refine lv_lookup (tgt := 32) (off := 28) X.1 X.2.1 dX5_lowestBits_4 (by decide) (by rw [hc0]; decide) (by decide) ?_
    refine lv_iload_n X.1 X.2.1 dX5_lowestBits_32 rfl (lv_at hl 1 rfl) ?_
    refine lv_i2b X.1 X.2.1 dX5_lowestBits_33 rfl ?_
    exact gx_iret X hG hS hE hF dX5_lowestBits_34
  replace hF := it_f hF hc0
  by_cases hc1 : (hI σ a0 2) = 1
  · replace hF := it_t hF hc1
    refine lv_lookup (tgt := 35) (off := 31) X.1 X.2.1 dX5_lowestBits_4 (by decide) (by rw [hc1]; decide) (by decide) ?_
    refine lv_iload_n X.1 X.2.1 dX5_lowestBits_35 rfl (lv_at hl 1 rfl) ?_
    refine lv_i2s X.1 X.2.1 dX5_lowestBits_36 rfl ?_
    exact gx_iret X hG hS hE hF dX5_lowestBits_37
  replace hF := it_f hF hc1
  have hz0 := ne_lit hc0 (z := 0) (by decide)
  have hz1 := ne_lit hc1 (z := 1) (by decide)
  refine lv_lookup (tgt := 38) (off := 34) X.1 X.2.1 dX5_lowestBits_4 (by decide) (by simp [Op.lookupswitch.offset, hz0, hz0.symm, hz1, hz1.symm]) (by decide) ?_
  refine lv_iload_n X.1 X.2.1 dX5_lowestBits_38 rfl (lv_at hl 1 rfl) ?_
  exact gx_iret X hG hS hE hF dX5_lowestBits_39
theorem c_X11_put (l : Launch) (D : va_G) (cA : Nat → ClassId) (base : Nat) (ad : Nat → Nat) (σ : Hp) (n : Nat) (a0 : Nat) (a1 : Int32) (a2 : Int32) (a3 : Int32) (hT_a0 : hT σ a0 11) {τ : Hp} {r : Int32} (hF : F_X11_put n a0 a1 a2 a3 σ = some (r, τ)) : MI l yX11_put cX11_put 5 (some .int) rm_X11_put D cA base ad σ [.ref (ad a0), .int a1, .int a2, .int a3] r τ := by
  refine Met.ofW (cc := cX11_put) (maxL := 5) (ret := (some .int)) (by decide) rfl ?_
  intro p e s m args below meth c s₁ B hml hv
  obtain ⟨rfl, hv⟩ := hv
  have X : SX D cA base p s m ([.ref (ad a0), .int a1, .int a2, .int a3] : List Value).toArray meth c cX11_put 5 (some .int) RX11 := sx_of B hml hv
  have hG := hv.1
  have hS : va_S (bA base) s.heap s.heap [] := va_S.rf
  have hE := xT.rf σ
  have hl := lv_entry ([.ref (ad a0), .int a1, .int a2, .int a3]) (n := 5) (Nat.le_of_ble_eq_true rfl)
  rw [lg_entry_eq]
  generalize (lg_sl ([.ref (ad a0), .int a1, .int a2, .int a3]) ++ List.replicate (5 - (lg_sl ([.ref (ad a0), .int a1, .int a2, .int a3])).length) Slot.unset).toArray = ls at hl ⊢
  have hl : lv_has ls 5 [(0, .ref (ad a0)), (1, .int a1), (2, .int a2), (3, .int a3)] := hl
  unfold F_X11_put at hF
  refine lv_aload_n X.1 X.2.1 dX11_put_0 rfl (lv_at hl 0 rfl) ?_
  refine lv_iload_n X.1 X.2.1 dX11_put_1 rfl (lv_at hl 1 rfl) ?_
  obtain ⟨r2, σ1, hz, hF⟩ := b2_ex hF
  refine gx_rQ (gx_runV (As := [.int a1]) (rest := []) X hG hS hT_a0.1 (hT_a0.eq (by decide)) (by decide) rfl (c_X11_shelfAt l D cA base ad σ n a0 a1 hT_a0 hz) k_435 k_432 k_434 ks_1 k_1 (h_X11_shelfAt) rfl rfl ⟨by decide, by decide⟩ rfl hl.1 rfl (Nat.le_of_ble_eq_true rfl) dX11_put_2 ⟨Nat.zero_le _, Nat.zero_le _⟩) hS (fun H locs hG hS hX hO_r2 => ?_)
  have hT_a0 := hX.T hT_a0
  replace hE := hE.trans hX
  refine gx_astore (lv' := [(4, va_rf (Option.map ad r2)), (0, .ref (ad a0)), (1, .int a1), (2, .int a2), (3, .int a3)]) X.1 X.2.1 dX11_put_5 hl (by decide) (by cases r2 <;> rfl) (fun ls hl => ?_)
  refine gx_aload X.1 X.2.1 dX11_put_7 (lv_at hl 0 rfl) ?_
  refine gx_ifnonnull (tgt := 14) X.1 X.2.1 dX11_put_9 (by decide) hF (fun hr hF2i3 => ?_) (fun i3 hr hF2i3 => ?_)
  · subst hr
    have hF := hF2i3
    have hl : lv_has ls 5 [(4, .null), (0, .ref (ad a0)), (1, .int a1), (2, .int a2), (3, .int a3)] := hl
    refine lv_iconst (v := (-1)) X.1 X.2.1 dX11_put_12 (by decide) ?_
    exact gx_iret X hG hS hE hF dX11_put_13
  · subst hr
    have hF := hF2i3
    have hT_i3 := hO_r2 i3 rfl
    have hl : lv_has ls 5 [(4, .ref (ad i3)), (0, .ref (ad a0)), (1, .int a1), (2, .int a2), (3, .int a3)] := hl
    refine lv_aload X.1 X.2.1 dX11_put_14 (lv_at hl 0 rfl) ?_
    obtain ⟨r5, σ4, hz, hF⟩ := b2_ex hF
    refine gx_rI (gx_runV (As := []) (rest := []) X hG hS hT_i3.1 (hT_i3.eq (by decide)) (by decide) rfl (c_X5_isEmpty l D cA base ad σ1 n i3 hT_i3 hz) k_439 k_436 k_437 k_438 k_3 (h_X5_isEmpty) rfl rfl ⟨by decide, by decide⟩ rfl hl.1 rfl (Nat.le_of_ble_eq_true rfl) dX11_put_16 ⟨Nat.zero_le _, Nat.zero_le _⟩) hS (fun H locs hG hS hX => ?_)
    have hT_a0 := hX.T hT_a0
    have hT_i3 := hX.T hT_i3
    replace hE := hE.trans hX
    refine lv_if_eq (tgt := 25) X.1 X.2.1 dX11_put_19 (by decide) (fun hc => ?_) (fun hc => ?_)
    · replace hF := it_t hF hc
      refine lv_aload X.1 X.2.1 dX11_put_25 (lv_at hl 0 rfl) ?_
      obtain ⟨r7, σ6, hz, hF⟩ := b2_ex hF
      refine gx_rI (gx_runV (As := []) (rest := []) X hG hS hT_i3.1 (hT_i3.eq (by decide)) (by decide) rfl (c_X5_isRow l D cA base ad σ4 n i3 hT_i3 hz) k_443 k_765 k_441 k_442 k_3 (h_X5_isRow) rfl rfl ⟨by decide, by decide⟩ rfl hl.1 rfl (Nat.le_of_ble_eq_true rfl) dX11_put_27 ⟨Nat.zero_le _, Nat.zero_le _⟩) hS (fun H locs hG hS hX => ?_)
      have hT_a0 := hX.T hT_a0
      have hT_i3 := hX.T hT_i3
      replace hE := hE.trans hX
      refine lv_if_ne (tgt := 36) X.1 X.2.1 dX11_put_30 (by decide) (fun hc => ?_) (fun hc => ?_)
      · replace hF := it_f hF hc
        refine lv_aload X.1 X.2.1 dX11_put_36 (lv_at hl 0 rfl) ?_
        refine lv_iload_n X.1 X.2.1 dX11_put_38 rfl (lv_at hl 3 rfl) ?_
        refine lv_iconst (v := 1) X.1 X.2.1 dX11_put_39 (by decide) ?_
        obtain ⟨r9, σ8, hz, hF⟩ := b2_ex hF
        refine gx_rI (gx_runV (As := [.int a2, .int 1]) (rest := []) X hG hS hT_i3.1 (hT_i3.eq (by decide)) (by decide) rfl (c_X5_hasPlaces l D cA base ad σ6 n i3 a2 1 hT_i3 hz) k_769 k_766 k_767 k_768 k_3 (h_X5_hasPlaces) rfl rfl ⟨by decide, by decide⟩ rfl hl.1 rfl (Nat.le_of_ble_eq_true rfl) dX11_put_40 ⟨Nat.zero_le _, Nat.zero_le _⟩) hS (fun H locs hG hS hX => ?_)
        have hT_a0 := hX.T hT_a0
        have hT_i3 := hX.T hT_i3
        replace hE := hE.trans hX
        refine lv_if_ne (tgt := 49) X.1 X.2.1 dX11_put_43 (by decide) (fun hc => ?_) (fun hc => ?_)
        · replace hF := it_f hF hc
          refine lv_aload X.1 X.2.1 dX11_put_49 (lv_at hl 0 rfl) ?_
          obtain ⟨i10, hr, hF⟩ := b1_ex hF
          have hT_i10 : hT σ8 i10 13 := gw_T hG hT_i3 (by decide) hr
          refine gx_getN 4 (v := .ref (ad i10)) X hG hT_i3.1 (hT_i3.eq (by decide)) (by decide) rfl inX5 (by decide) q_139 (fun _ h => h) (gx_rfv hr) dX11_put_51 ?_
          refine lv_iload_n X.1 X.2.1 dX11_put_54 rfl (lv_at hl 3 rfl) ?_
          refine lv_aload X.1 X.2.1 dX11_put_55 (lv_at hl 0 rfl) ?_
          refine lv_iload_n X.1 X.2.1 dX11_put_57 rfl (lv_at hl 4 rfl) ?_
          obtain ⟨r12, σ11, hz, hF⟩ := b2_ex hF
          refine gx_rI (gx_runV (As := [.int a3]) (rest := [.int a2, .ref (ad i10)]) X hG hS hT_i3.1 (hT_i3.eq (by decide)) (by decide) rfl (c_X5_lowestBits l D cA base ad σ8 n i3 a3 hT_i3 hz) k_773 k_770 k_771 k_772 k_3 (h_X5_lowestBits) rfl rfl ⟨by decide, by decide⟩ rfl hl.1 rfl (Nat.le_of_ble_eq_true rfl) dX11_put_58 ⟨Nat.zero_le _, Nat.zero_le _⟩) hS (fun H locs hG hS hX => ?_)
          have hT_a0 := hX.T hT_a0
          have hT_i3 := hX.T hT_i3
          have hT_i10 := hX.T hT_i10
          replace hE := hE.trans hX
          obtain ⟨σ13, hz, hF⟩ := b1_ex hF
          refine gx_rV (gx_runS (As := [.ref (ad i10), .int a2, .int r12]) (rest := []) X hG hS (c_X11_store l D cA base ad σ11 n i10 a2 r12 hT_i10 hz) k_173 k_171 k_172 k_1 (h_X11_store.2) rfl rfl ⟨by decide, by decide⟩ rfl hl.1 rfl (Nat.le_of_ble_eq_true rfl) dX11_put_61 ⟨Nat.zero_le _, Nat.zero_le _⟩) hS (fun H locs hG hS hX => ?_)
          have hT_a0 := hX.T hT_a0
          have hT_i3 := hX.T hT_i3
          replace hE := hE.trans hX
          refine lv_iconst (v := 0) X.1 X.2.1 dX11_put_64 (by decide) ?_
          exact gx_iret X hG hS hE hF dX11_put_65
        · replace hF := it_t hF hc
          refine lv_bipush (v := (-13)) X.1 X.2.1 dX11_put_46 (by decide) ?_
          exact gx_iret X hG hS hE hF dX11_put_48
      · replace hF := it_t hF hc
        refine lv_bipush (v := (-12)) X.1 X.2.1 dX11_put_33 (by decide) ?_
        exact gx_iret X hG hS hE hF dX11_put_35
    · replace hF := it_f hF hc
      refine lv_bipush (v := (-11)) X.1 X.2.1 dX11_put_22 (by decide) ?_
      exact gx_iret X hG hS hE hF dX11_put_24
theorem w_X11_copy_123 {σ0 τ : Hp} {r : Int32} (X : SX D cA base p s m args meth c cX11_copy 10 (some .int) RX11) (n : Nat) (K_98 : Int32 → Int32 → Int32 → Nat → Nat → Int32 → Hp → Option (Int32 × Hp)) (hK_98 : ∀ (v2 : Int32) (v4 : Int32) (v5 : Int32) (v6 : Nat) (v7 : Nat) (v8 : Int32) (σ : Hp) (H : Heap) (locs : List Loc) (ls : Array Slot), hT σ v6 5 → hT σ v7 5 → GW D cA base ad σ H → va_S (bA base) s.heap H locs → xT σ0 σ → lv_has ls 10 [(2, .int v2), (4, .int v4), (5, .int v5), (6, .ref (ad v6)), (7, .ref (ad v7)), (8, .int v8)] → K_98 v2 v4 v5 v6 v7 v8 σ = some (r, τ) → W p l e rm_X11_copy s m args below meth c H locs 0 0 (ZI below s args D cA base ad σ0 r τ) (F0 m 98 ls [])) : ∀ (v2 : Int32) (v4 : Int32) (v5 : Int32) (v6 : Nat) (v7 : Nat) (v8 : Int32) (s0 : Int32) (σ : Hp) (H : Heap) (locs : List Loc) (ls : Array Slot), hT σ v6 5 → hT σ v7 5 → GW D cA base ad σ H → va_S (bA base) s.heap H locs → xT σ0 σ → lv_has ls 10 [(2, .int v2), (4, .int v4), (5, .int v5), (6, .ref (ad v6)), (7, .ref (ad v7)), (8, .int v8)] → F_X11_copy_123 n K_98 v2 v4 v5 v6 v7 v8 s0 σ = some (r, τ) → W p l e rm_X11_copy s m args below meth c H locs 0 0 (ZI below s args D cA base ad σ0 r τ) (F0 m 123 ls [.int s0]) := by
  intro v2 v4 v5 v6 v7 v8 s0 σ H locs ls hT_v6 hT_v7 hG hS hE hl hF
  unfold F_X11_copy_123 at hF
  refine lv_istore (lv' := [(9, .int s0), (2, .int v2), (4, .int v4), (5, .int v5), (6, .ref (ad v6)), (7, .ref (ad v7)), (8, .int v8)]) X.1 X.2.1 dX11_copy_123 hl (by decide) rfl (fun ls hl => ?_)
  refine lv_aload X.1 X.2.1 dX11_copy_125 (lv_at hl 5 rfl) ?_
  obtain ⟨i1, hr, hF⟩ := b1_ex hF
  have hT_i1 : hT σ i1 13 := gw_T hG hT_v7 (by decide) hr
  refine gx_getN 4 (v := .ref (ad i1)) X hG hT_v7.1 (hT_v7.eq (by decide)) (by decide) rfl inX5 (by decide) q_139 (fun _ h => h) (gx_rfv hr) dX11_copy_127 ?_
  refine lv_iload X.1 X.2.1 dX11_copy_130 (lv_at hl 2 rfl) ?_
  refine lv_iload X.1 X.2.1 dX11_copy_132 (lv_at hl 0 rfl) ?_
  refine lv_iadd X.1 X.2.1 dX11_copy_134 ?_
  refine lv_aload X.1 X.2.1 dX11_copy_135 (lv_at hl 4 rfl) ?_
  obtain ⟨i2, hr, hF⟩ := b1_ex hF
  have hT_i2 : hT σ i2 13 := gw_T hG hT_v6 (by decide) hr
  refine gx_getN 4 (v := .ref (ad i2)) X hG hT_v6.1 (hT_v6.eq (by decide)) (by decide) rfl inX5 (by decide) q_139 (fun _ h => h) (gx_rfv hr) dX11_copy_137 ?_
  refine lv_iload_n X.1 X.2.1 dX11_copy_140 rfl (lv_at hl 1 rfl) ?_
  refine lv_iload X.1 X.2.1 dX11_copy_141 (lv_at hl 0 rfl) ?_
  refine lv_iadd X.1 X.2.1 dX11_copy_143 ?_
  obtain ⟨r4, σ3, hz, hF⟩ := b2_ex hF
  refine gx_rI (gx_runS (As := [.ref (ad i2), .int (v2 + s0)]) (rest := [.int (v4 + s0), .ref (ad i1)]) X hG hS (c_X11_at l D cA base ad σ n i2 (v2 + s0) hT_i2 hz) k_362 k_375 k_361 k_1 (h_X11_at.2) rfl rfl ⟨by decide, by decide⟩ rfl hl.1 rfl (Nat.le_of_ble_eq_true rfl) dX11_copy_144 ⟨Nat.zero_le _, Nat.zero_le _⟩) hS (fun H locs hG hS hX => ?_)
  have hT_v6 := hX.T hT_v6
  have hT_v7 := hX.T hT_v7
  have hT_i1 := hX.T hT_i1
  replace hE := hE.trans hX
  obtain ⟨σ5, hz, hF⟩ := b1_ex hF
  refine gx_rV (gx_runS (As := [.ref (ad i1), .int (v4 + s0), .int r4]) (rest := []) X hG hS (c_X11_store l D cA base ad σ3 n i1 (v4 + s0) r4 hT_i1 hz) k_173 k_171 k_172 k_1 (h_X11_store.2) rfl rfl ⟨by decide, by decide⟩ rfl hl.1 rfl (Nat.le_of_ble_eq_true rfl) dX11_copy_147 ⟨Nat.zero_le _, Nat.zero_le _⟩) hS (fun H locs hG hS hX => ?_)
  have hT_v6 := hX.T hT_v6
  have hT_v7 := hX.T hT_v7
  replace hE := hE.trans hX
  refine lv_iinc (v := v8 + 1) (lv' := [(8, .int (v8 + 1)), (9, .int s0), (2, .int v2), (4, .int v4), (5, .int v5), (6, .ref (ad v6)), (7, .ref (ad v7))]) X.1 X.2.1 dX11_copy_150 hl (k := 6) rfl rfl (by decide) rfl (fun ls hl => ?_)
  refine lv_goto (tgt := 98) X.1 X.2.1 dX11_copy_153 (by decide) ?_
  exact hK_98 v2 v4 v5 v6 v7 (v8 + 1) σ5 _ _ ls hT_v6 hT_v7 hG hS hE (lv_sub hl [2, 3, 4, 5, 6, 0] rfl) hF
theorem w_X11_copy_98 {σ0 τ : Hp} {r : Int32} (X : SX D cA base p s m args meth c cX11_copy 10 (some .int) RX11) (n : Nat)  : ∀ f : Nat, ∀ (v2 : Int32) (v4 : Int32) (v5 : Int32) (v6 : Nat) (v7 : Nat) (v8 : Int32) (σ : Hp) (H : Heap) (locs : List Loc) (ls : Array Slot), hT σ v6 5 → hT σ v7 5 → GW D cA base ad σ H → va_S (bA base) s.heap H locs → xT σ0 σ → lv_has ls 10 [(2, .int v2), (4, .int v4), (5, .int v5), (6, .ref (ad v6)), (7, .ref (ad v7)), (8, .int v8)] → F_X11_copy_98 n  f v2 v4 v5 v6 v7 v8 σ = some (r, τ) → W p l e rm_X11_copy s m args below meth c H locs 0 0 (ZI below s args D cA base ad σ0 r τ) (F0 m 98 ls []) := by
  intro f
  induction f with
  | zero => intro v2 v4 v5 v6 v7 v8 σ H locs ls h0 h1 hG hS hE hl hF
            rw [F_X11_copy_98] at hF; cases hF
  | succ f ih =>
    intro v2 v4 v5 v6 v7 v8 σ H locs ls hT_v6 hT_v7 hG hS hE hl hF
    rw [F_X11_copy_98] at hF
    refine lv_iload X.1 X.2.1 dX11_copy_98 (lv_at hl 5 rfl) ?_
    refine lv_iload X.1 X.2.1 dX11_copy_100 (lv_at hl 2 rfl) ?_
    refine lv_icmp_ge (tgt := 156) X.1 X.2.1 dX11_copy_102 (by decide) (fun hc => ?_) (fun hc => ?_)
    · replace hF := it_t hF hc
      refine lv_iload X.1 X.2.1 dX11_copy_156 (lv_at hl 2 rfl) ?_
      exact gx_iret X hG hS hE hF dX11_copy_158
    · replace hF := it_f hF hc
      refine lv_iload_n X.1 X.2.1 dX11_copy_105 rfl (lv_at hl 0 rfl) ?_
      refine lv_iload X.1 X.2.1 dX11_copy_106 (lv_at hl 1 rfl) ?_
      refine lv_icmp_ge (tgt := 121) X.1 X.2.1 dX11_copy_108 (by decide) (fun hc => ?_) (fun hc => ?_)
      · replace hF := it_t hF hc
        refine lv_iload X.1 X.2.1 dX11_copy_121 (lv_at hl 5 rfl) ?_
        exact w_X11_copy_123 X n (F_X11_copy_98 n  f) ih v2 v4 v5 v6 v7 v8 v8 σ _ _ ls hT_v6 hT_v7 hG hS hE (lv_sub hl [0, 1, 2, 3, 4, 5] rfl) hF
      · replace hF := it_f hF hc
        refine lv_iload X.1 X.2.1 dX11_copy_111 (lv_at hl 2 rfl) ?_
        refine lv_iconst (v := 1) X.1 X.2.1 dX11_copy_113 (by decide) ?_
        refine lv_isub X.1 X.2.1 dX11_copy_114 ?_
        refine lv_iload X.1 X.2.1 dX11_copy_115 (lv_at hl 5 rfl) ?_
        refine lv_isub X.1 X.2.1 dX11_copy_117 ?_
        refine lv_goto (tgt := 123) X.1 X.2.1 dX11_copy_118 (by decide) ?_
        exact w_X11_copy_123 X n (F_X11_copy_98 n  f) ih v2 v4 v5 v6 v7 v8 ((v5 - 1) - v8) σ _ _ ls hT_v6 hT_v7 hG hS hE (lv_sub hl [0, 1, 2, 3, 4, 5] rfl) hF
theorem c_X11_copy (l : Launch) (D : va_G) (cA : Nat → ClassId) (base : Nat) (ad : Nat → Nat) (σ : Hp) (n : Nat) (a0 : Nat) (a1 : Int32) (a2 : Int32) (a3 : Int32) (a4 : Int32) (a5 : Int32) (hT_a0 : hT σ a0 11) {τ : Hp} {r : Int32} (hF : F_X11_copy n a0 a1 a2 a3 a4 a5 σ = some (r, τ)) : MI l yX11_copy cX11_copy 10 (some .int) rm_X11_copy D cA base ad σ [.ref (ad a0), .int a1, .int a2, .int a3, .int a4, .int a5] r τ := by
  refine Met.ofW (cc := cX11_copy) (maxL := 10) (ret := (some .int)) (by decide) rfl ?_
  intro p e s m args below meth c s₁ B hml hv
  obtain ⟨rfl, hv⟩ := hv
  have X : SX D cA base p s m ([.ref (ad a0), .int a1, .int a2, .int a3, .int a4, .int a5] : List Value).toArray meth c cX11_copy 10 (some .int) RX11 := sx_of B hml hv
  have hG := hv.1
  have hS : va_S (bA base) s.heap s.heap [] := va_S.rf
  have hE := xT.rf σ
  have hl := lv_entry ([.ref (ad a0), .int a1, .int a2, .int a3, .int a4, .int a5]) (n := 10) (Nat.le_of_ble_eq_true rfl)
  rw [lg_entry_eq]
  generalize (lg_sl ([.ref (ad a0), .int a1, .int a2, .int a3, .int a4, .int a5]) ++ List.replicate (10 - (lg_sl ([.ref (ad a0), .int a1, .int a2, .int a3, .int a4, .int a5])).length) Slot.unset).toArray = ls at hl ⊢
  have hl : lv_has ls 10 [(0, .ref (ad a0)), (1, .int a1), (2, .int a2), (3, .int a3), (4, .int a4), (5, .int a5)] := hl
  unfold F_X11_copy at hF
  refine lv_aload_n X.1 X.2.1 dX11_copy_0 rfl (lv_at hl 0 rfl) ?_
  refine lv_iload_n X.1 X.2.1 dX11_copy_1 rfl (lv_at hl 1 rfl) ?_
  obtain ⟨r7, σ6, hz, hF⟩ := b2_ex hF
  refine gx_rQ (gx_runV (As := [.int a1]) (rest := []) X hG hS hT_a0.1 (hT_a0.eq (by decide)) (by decide) rfl (c_X11_shelfAt l D cA base ad σ n a0 a1 hT_a0 hz) k_435 k_432 k_434 ks_1 k_1 (h_X11_shelfAt) rfl rfl ⟨by decide, by decide⟩ rfl hl.1 rfl (Nat.le_of_ble_eq_true rfl) dX11_copy_2 ⟨Nat.zero_le _, Nat.zero_le _⟩) hS (fun H locs hG hS hX hO_r7 => ?_)
  have hT_a0 := hX.T hT_a0
  replace hE := hE.trans hX
  refine gx_astore (lv' := [(6, va_rf (Option.map ad r7)), (0, .ref (ad a0)), (1, .int a1), (2, .int a2), (3, .int a3), (4, .int a4), (5, .int a5)]) X.1 X.2.1 dX11_copy_5 hl (by decide) (by cases r7 <;> rfl) (fun ls hl => ?_)
  refine lv_aload_n X.1 X.2.1 dX11_copy_7 rfl (lv_at hl 1 rfl) ?_
  refine lv_iload_n X.1 X.2.1 dX11_copy_8 rfl (lv_at hl 4 rfl) ?_
  obtain ⟨r9, σ8, hz, hF⟩ := b2_ex hF
  refine gx_rQ (gx_runV (As := [.int a3]) (rest := []) X hG hS hT_a0.1 (hT_a0.eq (by decide)) (by decide) rfl (c_X11_shelfAt l D cA base ad σ6 n a0 a3 hT_a0 hz) k_435 k_432 k_434 ks_1 k_1 (h_X11_shelfAt) rfl rfl ⟨by decide, by decide⟩ rfl hl.1 rfl (Nat.le_of_ble_eq_true rfl) dX11_copy_9 ⟨Nat.zero_le _, Nat.zero_le _⟩) hS (fun H locs hG hS hX hO_r9 => ?_)
  have hT_a0 := hX.T hT_a0
  have hO_r7 := hX.O hO_r7
  replace hE := hE.trans hX
  refine gx_astore (lv' := [(7, va_rf (Option.map ad r9)), (6, va_rf (Option.map ad r7)), (0, .ref (ad a0)), (1, .int a1), (2, .int a2), (3, .int a3), (4, .int a4), (5, .int a5)]) X.1 X.2.1 dX11_copy_12 hl (by decide) (by cases r7 <;> cases r9 <;> rfl) (fun ls hl => ?_)
  refine gx_aload X.1 X.2.1 dX11_copy_14 (lv_at hl 1 rfl) ?_
  refine gx_ifnull (tgt := 24) X.1 X.2.1 dX11_copy_16 (by decide) hF (fun hr hF2i10 => ?_) (fun i10 hr hF2i10 => ?_)
  · subst hr
    have hF := hF2i10
    have hl : lv_has ls 10 [(7, va_rf (Option.map ad r9)), (6, .null), (0, .ref (ad a0)), (1, .int a1), (2, .int a2), (3, .int a3), (4, .int a4), (5, .int a5)] := hl
    refine lv_iconst (v := (-1)) X.1 X.2.1 dX11_copy_24 (by decide) ?_
    exact gx_iret X hG hS hE hF dX11_copy_25
  · subst hr
    have hF := hF2i10
    have hT_i10 := hO_r7 i10 rfl
    have hl : lv_has ls 10 [(7, va_rf (Option.map ad r9)), (6, .ref (ad i10)), (0, .ref (ad a0)), (1, .int a1), (2, .int a2), (3, .int a3), (4, .int a4), (5, .int a5)] := hl
    refine gx_aload X.1 X.2.1 dX11_copy_19 (lv_at hl 0 rfl) ?_
    refine gx_ifnonnull (tgt := 26) X.1 X.2.1 dX11_copy_21 (by decide) hF (fun hr hF2i11 => ?_) (fun i11 hr hF2i11 => ?_)
    · subst hr
      have hF := hF2i11
      have hl : lv_has ls 10 [(7, .null), (6, .ref (ad i10)), (0, .ref (ad a0)), (1, .int a1), (2, .int a2), (3, .int a3), (4, .int a4), (5, .int a5)] := hl
      refine lv_iconst (v := (-1)) X.1 X.2.1 dX11_copy_24 (by decide) ?_
      exact gx_iret X hG hS hE hF dX11_copy_25
    · subst hr
      have hF := hF2i11
      have hT_i11 := hO_r9 i11 rfl
      have hl : lv_has ls 10 [(7, .ref (ad i11)), (6, .ref (ad i10)), (0, .ref (ad a0)), (1, .int a1), (2, .int a2), (3, .int a3), (4, .int a4), (5, .int a5)] := hl
      refine lv_aload X.1 X.2.1 dX11_copy_26 (lv_at hl 1 rfl) ?_
      obtain ⟨r13, σ12, hz, hF⟩ := b2_ex hF
      refine gx_rI (gx_runV (As := []) (rest := []) X hG hS hT_i10.1 (hT_i10.eq (by decide)) (by decide) rfl (c_X5_isEmpty l D cA base ad σ8 n i10 hT_i10 hz) k_439 k_436 k_437 k_438 k_3 (h_X5_isEmpty) rfl rfl ⟨by decide, by decide⟩ rfl hl.1 rfl (Nat.le_of_ble_eq_true rfl) dX11_copy_28 ⟨Nat.zero_le _, Nat.zero_le _⟩) hS (fun H locs hG hS hX => ?_)
      have hT_a0 := hX.T hT_a0
      have hT_i10 := hX.T hT_i10
      have hT_i11 := hX.T hT_i11
      replace hE := hE.trans hX
      refine lv_if_ne (tgt := 42) X.1 X.2.1 dX11_copy_31 (by decide) (fun hc => ?_) (fun hc => ?_)
      · replace hF := it_f hF hc
        refine lv_bipush (v := (-11)) X.1 X.2.1 dX11_copy_42 (by decide) ?_
        exact gx_iret X hG hS hE hF dX11_copy_44
      · replace hF := it_t hF hc
        refine lv_aload X.1 X.2.1 dX11_copy_34 (lv_at hl 0 rfl) ?_
        obtain ⟨r15, σ14, hz, hF⟩ := b2_ex hF
        refine gx_rI (gx_runV (As := []) (rest := []) X hG hS hT_i11.1 (hT_i11.eq (by decide)) (by decide) rfl (c_X5_isEmpty l D cA base ad σ12 n i11 hT_i11 hz) k_439 k_436 k_437 k_438 k_3 (h_X5_isEmpty) rfl rfl ⟨by decide, by decide⟩ rfl hl.1 rfl (Nat.le_of_ble_eq_true rfl) dX11_copy_36 ⟨Nat.zero_le _, Nat.zero_le _⟩) hS (fun H locs hG hS hX => ?_)
        have hT_a0 := hX.T hT_a0
        have hT_i10 := hX.T hT_i10
        have hT_i11 := hX.T hT_i11
        replace hE := hE.trans hX
        refine lv_if_eq (tgt := 45) X.1 X.2.1 dX11_copy_39 (by decide) (fun hc => ?_) (fun hc => ?_)
        · replace hF := it_t hF hc
          refine lv_aload X.1 X.2.1 dX11_copy_45 (lv_at hl 1 rfl) ?_
          obtain ⟨r17, σ16, hz, hF⟩ := b2_ex hF
          refine gx_rI (gx_runV (As := []) (rest := []) X hG hS hT_i10.1 (hT_i10.eq (by decide)) (by decide) rfl (c_X5_isRow l D cA base ad σ14 n i10 hT_i10 hz) k_443 k_765 k_441 k_442 k_3 (h_X5_isRow) rfl rfl ⟨by decide, by decide⟩ rfl hl.1 rfl (Nat.le_of_ble_eq_true rfl) dX11_copy_47 ⟨Nat.zero_le _, Nat.zero_le _⟩) hS (fun H locs hG hS hX => ?_)
          have hT_a0 := hX.T hT_a0
          have hT_i10 := hX.T hT_i10
          have hT_i11 := hX.T hT_i11
          replace hE := hE.trans hX
          refine lv_if_eq (tgt := 66) X.1 X.2.1 dX11_copy_50 (by decide) (fun hc => ?_) (fun hc => ?_)
          · replace hF := it_t hF hc
            refine lv_bipush (v := (-12)) X.1 X.2.1 dX11_copy_66 (by decide) ?_
            exact gx_iret X hG hS hE hF dX11_copy_68
          · replace hF := it_f hF hc
            refine lv_aload X.1 X.2.1 dX11_copy_53 (lv_at hl 1 rfl) ?_
            refine gx_getN 2 (v := .int (hI σ16 i10 2)) X hG hT_i10.1 (hT_i10.eq (by decide)) (by decide) rfl inX5 (by decide) q_135 (fun _ h => h) rfl dX11_copy_55 ?_
            refine lv_aload X.1 X.2.1 dX11_copy_58 (lv_at hl 0 rfl) ?_
            refine gx_getN 2 (v := .int (hI σ16 i11 2)) X hG hT_i11.1 (hT_i11.eq (by decide)) (by decide) rfl inX5 (by decide) q_135 (fun _ h => h) rfl dX11_copy_60 ?_
            refine lv_icmp_eq (tgt := 69) X.1 X.2.1 dX11_copy_63 (by decide) (fun hc => ?_) (fun hc => ?_)
            · replace hF := it_t hF hc
              refine lv_aload X.1 X.2.1 dX11_copy_69 (lv_at hl 1 rfl) ?_
              refine lv_iload_n X.1 X.2.1 dX11_copy_71 rfl (lv_at hl 4 rfl) ?_
              refine lv_iload X.1 X.2.1 dX11_copy_72 (lv_at hl 7 rfl) ?_
              obtain ⟨r19, σ18, hz, hF⟩ := b2_ex hF
              refine gx_rI (gx_runV (As := [.int a2, .int a5]) (rest := []) X hG hS hT_i10.1 (hT_i10.eq (by decide)) (by decide) rfl (c_X5_hasPlaces l D cA base ad σ16 n i10 a2 a5 hT_i10 hz) k_769 k_766 k_767 k_768 k_3 (h_X5_hasPlaces) rfl rfl ⟨by decide, by decide⟩ rfl hl.1 rfl (Nat.le_of_ble_eq_true rfl) dX11_copy_74 ⟨Nat.zero_le _, Nat.zero_le _⟩) hS (fun H locs hG hS hX => ?_)
              have hT_a0 := hX.T hT_a0
              have hT_i10 := hX.T hT_i10
              have hT_i11 := hX.T hT_i11
              replace hE := hE.trans hX
              refine lv_if_eq (tgt := 92) X.1 X.2.1 dX11_copy_77 (by decide) (fun hc => ?_) (fun hc => ?_)
              · replace hF := it_t hF hc
                refine lv_bipush (v := (-13)) X.1 X.2.1 dX11_copy_92 (by decide) ?_
                exact gx_iret X hG hS hE hF dX11_copy_94
              · replace hF := it_f hF hc
                refine lv_aload X.1 X.2.1 dX11_copy_80 (lv_at hl 0 rfl) ?_
                refine lv_iload X.1 X.2.1 dX11_copy_82 (lv_at hl 6 rfl) ?_
                refine lv_iload X.1 X.2.1 dX11_copy_84 (lv_at hl 7 rfl) ?_
                obtain ⟨r21, σ20, hz, hF⟩ := b2_ex hF
                refine gx_rI (gx_runV (As := [.int a4, .int a5]) (rest := []) X hG hS hT_i11.1 (hT_i11.eq (by decide)) (by decide) rfl (c_X5_hasPlaces l D cA base ad σ18 n i11 a4 a5 hT_i11 hz) k_769 k_766 k_767 k_768 k_3 (h_X5_hasPlaces) rfl rfl ⟨by decide, by decide⟩ rfl hl.1 rfl (Nat.le_of_ble_eq_true rfl) dX11_copy_86 ⟨Nat.zero_le _, Nat.zero_le _⟩) hS (fun H locs hG hS hX => ?_)
                have hT_a0 := hX.T hT_a0
                have hT_i10 := hX.T hT_i10
                have hT_i11 := hX.T hT_i11
                replace hE := hE.trans hX
                refine lv_if_ne (tgt := 95) X.1 X.2.1 dX11_copy_89 (by decide) (fun hc => ?_) (fun hc => ?_)
                · replace hF := it_f hF hc
                  refine lv_iconst (v := 0) X.1 X.2.1 dX11_copy_95 (by decide) ?_
                  refine lv_istore (lv' := [(8, .int 0), (7, .ref (ad i11)), (6, .ref (ad i10)), (0, .ref (ad a0)), (1, .int a1), (2, .int a2), (3, .int a3), (4, .int a4), (5, .int a5)]) X.1 X.2.1 dX11_copy_96 hl (by decide) rfl (fun ls hl => ?_)
                  exact w_X11_copy_98 X n  n a2 a4 a5 i10 i11 0 σ20 _ _ ls hT_i10 hT_i11 hG hS hE (lv_sub hl [5, 7, 8, 2, 1, 0] rfl) hF
                · replace hF := it_t hF hc
                  refine lv_bipush (v := (-13)) X.1 X.2.1 dX11_copy_92 (by decide) ?_
                  exact gx_iret X hG hS hE hF dX11_copy_94
            · replace hF := it_f hF hc
              refine lv_bipush (v := (-12)) X.1 X.2.1 dX11_copy_66 (by decide) ?_
              exact gx_iret X hG hS hE hF dX11_copy_68
        · replace hF := it_f hF hc
          refine lv_bipush (v := (-11)) X.1 X.2.1 dX11_copy_42 (by decide) ?_
          exact gx_iret X hG hS hE hF dX11_copy_44
theorem c_X10_loudness (l : Launch) (D : va_G) (cA : Nat → ClassId) (base : Nat) (ad : Nat → Nat) (σ : Hp) (n : Nat) (a0 : Nat) (a1 : Int32) (hT_a0 : hT σ a0 100) {τ : Hp} {r : Int32} (hF : F_X10_loudness n a0 a1 σ = some (r, τ)) : MI l yX10_loudness cX10_loudness 2 (some .int) rm_X10_loudness D cA base ad σ [.ref (ad a0), .int a1] r τ := by
  refine Met.ofW (cc := cX10_loudness) (maxL := 2) (ret := (some .int)) (by decide) rfl ?_
  intro p e s m args below meth c s₁ B hml hv
  obtain ⟨rfl, hv⟩ := hv
  have X : SX D cA base p s m ([.ref (ad a0), .int a1] : List Value).toArray meth c cX10_loudness 2 (some .int) RX10 := sx_of B hml hv
  have hG := hv.1
  have hS : va_S (bA base) s.heap s.heap [] := va_S.rf
  have hE := xT.rf σ
  have hl := lv_entry ([.ref (ad a0), .int a1]) (n := 2) (Nat.le_of_ble_eq_true rfl)
  rw [lg_entry_eq]
  generalize (lg_sl ([.ref (ad a0), .int a1]) ++ List.replicate (2 - (lg_sl ([.ref (ad a0), .int a1])).length) Slot.unset).toArray = ls at hl ⊢
  have hl : lv_has ls 2 [(0, .ref (ad a0)), (1, .int a1)] := hl
  unfold F_X10_loudness at hF
  refine lv_aload_n X.1 X.2.1 dX10_loudness_0 rfl (lv_at hl 0 rfl) ?_
  refine gx_getT 3 (v := .int (hI σ a0 3)) X hG hT_a0 (by decide) k_213 (fun _ h => h) rfl dX10_loudness_1 ?_
  exact gx_iret X hG hS hE hF dX10_loudness_4
theorem c_X0_loudness (l : Launch) (D : va_G) (cA : Nat → ClassId) (base : Nat) (ad : Nat → Nat) (σ : Hp) (n : Nat) (a0 : Nat) (a1 : Int32) (hT_a0 : hT σ a0 101) {τ : Hp} {r : Int32} (hF : F_X0_loudness n a0 a1 σ = some (r, τ)) : MI l yX0_loudness cX0_loudness 2 (some .int) rm_X0_loudness D cA base ad σ [.ref (ad a0), .int a1] r τ := by
  refine Met.ofW (cc := cX0_loudness) (maxL := 2) (ret := (some .int)) (by decide) rfl ?_
  intro p e s m args below meth c s₁ B hml hv
  obtain ⟨rfl, hv⟩ := hv
  have X : SX D cA base p s m ([.ref (ad a0), .int a1] : List Value).toArray meth c cX0_loudness 2 (some .int) RX0 := sx_of B hml hv
  have hG := hv.1
  have hS : va_S (bA base) s.heap s.heap [] := va_S.rf
  have hE := xT.rf σ
  have hl := lv_entry ([.ref (ad a0), .int a1]) (n := 2) (Nat.le_of_ble_eq_true rfl)
  rw [lg_entry_eq]
  generalize (lg_sl ([.ref (ad a0), .int a1]) ++ List.replicate (2 - (lg_sl ([.ref (ad a0), .int a1])).length) Slot.unset).toArray = ls at hl ⊢
  have hl : lv_has ls 2 [(0, .ref (ad a0)), (1, .int a1)] := hl
  unfold F_X0_loudness at hF
  refine lv_aload_n X.1 X.2.1 dX0_loudness_0 rfl (lv_at hl 0 rfl) ?_
  refine lv_iload_n X.1 X.2.1 dX0_loudness_1 rfl (lv_at hl 1 rfl) ?_
  obtain ⟨r2, σ1, hz, hF⟩ := b2_ex hF
  refine gx_rI (gx_runPT (As := [.int a1]) (rest := []) X hG hS (hT_a0.up (by decide)) (c_X10_loudness l D cA base ad σ n a0 a1 (hT_a0.up (by decide)) hz) k_815 k_789 k_785 k_259 k_783 k_5 ⟨by decide, (h_X10_loudness).2.2.2⟩ rfl rfl ⟨by decide, by decide⟩ rfl hl.1 rfl (Nat.le_of_ble_eq_true rfl) dX0_loudness_2 ⟨Nat.zero_le _, Nat.zero_le _⟩) hS (fun H locs hG hS hX => ?_)
  have hT_a0 := hX.T hT_a0
  replace hE := hE.trans hX
  refine lv_aload_n X.1 X.2.1 dX0_loudness_5 rfl (lv_at hl 0 rfl) ?_
  refine gx_getT 2 (v := .int (hI σ1 a0 2)) X hG (hT_a0.up (by decide)) (by decide) k_205 (fun x9 h9 => u_same (X.w k_206) x9 h9) rfl dX0_loudness_6 ?_
  refine lv_iadd X.1 X.2.1 dX0_loudness_9 ?_
  exact gx_iret X hG hS hE hF dX0_loudness_10
theorem c_X2_loudness (l : Launch) (D : va_G) (cA : Nat → ClassId) (base : Nat) (ad : Nat → Nat) (σ : Hp) (n : Nat) (a0 : Nat) (a1 : Int32) (hT_a0 : hT σ a0 2) {τ : Hp} {r : Int32} (hF : F_X2_loudness n a0 a1 σ = some (r, τ)) : MI l yX2_loudness cX2_loudness 2 (some .int) rm_X2_loudness D cA base ad σ [.ref (ad a0), .int a1] r τ := by
  refine Met.ofW (cc := cX2_loudness) (maxL := 2) (ret := (some .int)) (by decide) rfl ?_
  intro p e s m args below meth c s₁ B hml hv
  obtain ⟨rfl, hv⟩ := hv
  have X : SX D cA base p s m ([.ref (ad a0), .int a1] : List Value).toArray meth c cX2_loudness 2 (some .int) RX2 := sx_of B hml hv
  have hG := hv.1
  have hS : va_S (bA base) s.heap s.heap [] := va_S.rf
  have hE := xT.rf σ
  have hl := lv_entry ([.ref (ad a0), .int a1]) (n := 2) (Nat.le_of_ble_eq_true rfl)
  rw [lg_entry_eq]
  generalize (lg_sl ([.ref (ad a0), .int a1]) ++ List.replicate (2 - (lg_sl ([.ref (ad a0), .int a1])).length) Slot.unset).toArray = ls at hl ⊢
  have hl : lv_has ls 2 [(0, .ref (ad a0)), (1, .int a1)] := hl
  unfold F_X2_loudness at hF
  refine lv_iconst (v := 2) X.1 X.2.1 dX2_loudness_0 (by decide) ?_
  refine lv_aload_n X.1 X.2.1 dX2_loudness_1 rfl (lv_at hl 0 rfl) ?_
  refine lv_iload_n X.1 X.2.1 dX2_loudness_2 rfl (lv_at hl 1 rfl) ?_
  obtain ⟨r2, σ1, hz, hF⟩ := b2_ex hF
  refine gx_rI (gx_runPT (As := [.int a1]) (rest := [.int 2]) X hG hS (hT_a0.to (by decide) rfl) (c_X0_loudness l D cA base ad σ n a0 a1 (hT_a0.to (by decide) rfl) hz) k_788 k_793 k_1386 k_274 k_787 k_7 ⟨by decide, (h_X0_loudness).2.2.2⟩ rfl rfl ⟨by decide, by decide⟩ rfl hl.1 rfl (Nat.le_of_ble_eq_true rfl) dX2_loudness_3 ⟨Nat.zero_le _, Nat.zero_le _⟩) hS (fun H locs hG hS hX => ?_)
  have hT_a0 := hX.T hT_a0
  replace hE := hE.trans hX
  refine lv_imul X.1 X.2.1 dX2_loudness_6 ?_
  exact gx_iret X hG hS hE hF dX2_loudness_7
theorem c_X4_loudness (l : Launch) (D : va_G) (cA : Nat → ClassId) (base : Nat) (ad : Nat → Nat) (σ : Hp) (n : Nat) (a0 : Nat) (a1 : Int32) (hT_a0 : hT σ a0 4) {τ : Hp} {r : Int32} (hF : F_X4_loudness n a0 a1 σ = some (r, τ)) : MI l yX4_loudness cX4_loudness 2 (some .int) rm_X4_loudness D cA base ad σ [.ref (ad a0), .int a1] r τ := by
  refine Met.ofW (cc := cX4_loudness) (maxL := 2) (ret := (some .int)) (by decide) rfl ?_
  intro p e s m args below meth c s₁ B hml hv
  obtain ⟨rfl, hv⟩ := hv
  have X : SX D cA base p s m ([.ref (ad a0), .int a1] : List Value).toArray meth c cX4_loudness 2 (some .int) RX4 := sx_of B hml hv
  have hG := hv.1
  have hS : va_S (bA base) s.heap s.heap [] := va_S.rf
  have hE := xT.rf σ
  have hl := lv_entry ([.ref (ad a0), .int a1]) (n := 2) (Nat.le_of_ble_eq_true rfl)
  rw [lg_entry_eq]
  generalize (lg_sl ([.ref (ad a0), .int a1]) ++ List.replicate (2 - (lg_sl ([.ref (ad a0), .int a1])).length) Slot.unset).toArray = ls at hl ⊢
  have hl : lv_has ls 2 [(0, .ref (ad a0)), (1, .int a1)] := hl
  unfold F_X4_loudness at hF
  refine lv_aload_n X.1 X.2.1 dX4_loudness_0 rfl (lv_at hl 0 rfl) ?_
  refine lv_iload_n X.1 X.2.1 dX4_loudness_1 rfl (lv_at hl 1 rfl) ?_
  obtain ⟨r2, σ1, hz, hF⟩ := b2_ex hF
  refine gx_rI (gx_runPT (As := [.int a1]) (rest := []) X hG hS (hT_a0.to (by decide) rfl) (c_X10_loudness l D cA base ad σ n a0 a1 (hT_a0.to (by decide) rfl) hz) k_815 k_797 k_785 k_304 k_783 k_5 ⟨by decide, (h_X10_loudness).2.2.2⟩ rfl rfl ⟨by decide, by decide⟩ rfl hl.1 rfl (Nat.le_of_ble_eq_true rfl) dX4_loudness_2 ⟨Nat.zero_le _, Nat.zero_le _⟩) hS (fun H locs hG hS hX => ?_)
  have hT_a0 := hX.T hT_a0
  replace hE := hE.trans hX
  refine lv_bipush (v := 10) X.1 X.2.1 dX4_loudness_5 (by decide) ?_
  refine lv_iadd X.1 X.2.1 dX4_loudness_7 ?_
  exact gx_iret X hG hS hE hF dX4_loudness_8
theorem c_X6_loudness (l : Launch) (D : va_G) (cA : Nat → ClassId) (base : Nat) (ad : Nat → Nat) (σ : Hp) (n : Nat) (a0 : Nat) (a1 : Int32) (hT_a0 : hT σ a0 103) {τ : Hp} {r : Int32} (hF : F_X6_loudness n a0 a1 σ = some (r, τ)) : MI l yX6_loudness cX6_loudness 2 (some .int) rm_X6_loudness D cA base ad σ [.ref (ad a0), .int a1] r τ := by
  refine Met.ofW (cc := cX6_loudness) (maxL := 2) (ret := (some .int)) (by decide) rfl ?_
  intro p e s m args below meth c s₁ B hml hv
  obtain ⟨rfl, hv⟩ := hv
  have X : SX D cA base p s m ([.ref (ad a0), .int a1] : List Value).toArray meth c cX6_loudness 2 (some .int) RX6 := sx_of B hml hv
  have hG := hv.1
  have hS : va_S (bA base) s.heap s.heap [] := va_S.rf
  have hE := xT.rf σ
  have hl := lv_entry ([.ref (ad a0), .int a1]) (n := 2) (Nat.le_of_ble_eq_true rfl)
  rw [lg_entry_eq]
  generalize (lg_sl ([.ref (ad a0), .int a1]) ++ List.replicate (2 - (lg_sl ([.ref (ad a0), .int a1])).length) Slot.unset).toArray = ls at hl ⊢
  have hl : lv_has ls 2 [(0, .ref (ad a0)), (1, .int a1)] := hl
  unfold F_X6_loudness at hF
  refine lv_aload_n X.1 X.2.1 dX6_loudness_0 rfl (lv_at hl 0 rfl) ?_
  refine lv_iload_n X.1 X.2.1 dX6_loudness_1 rfl (lv_at hl 1 rfl) ?_
  obtain ⟨r2, σ1, hz, hF⟩ := b2_ex hF
  refine gx_rI (gx_runPT (As := [.int a1]) (rest := []) X hG hS (hT_a0.up (by decide)) (c_X10_loudness l D cA base ad σ n a0 a1 (hT_a0.up (by decide)) hz) k_815 k_801 k_785 k_319 k_783 k_5 ⟨by decide, (h_X10_loudness).2.2.2⟩ rfl rfl ⟨by decide, by decide⟩ rfl hl.1 rfl (Nat.le_of_ble_eq_true rfl) dX6_loudness_2 ⟨Nat.zero_le _, Nat.zero_le _⟩) hS (fun H locs hG hS hX => ?_)
  have hT_a0 := hX.T hT_a0
  replace hE := hE.trans hX
  refine lv_iconst (v := 1) X.1 X.2.1 dX6_loudness_5 (by decide) ?_
  refine lv_isub X.1 X.2.1 dX6_loudness_6 ?_
  exact gx_iret X hG hS hE hF dX6_loudness_7
theorem c_X7_loudness (l : Launch) (D : va_G) (cA : Nat → ClassId) (base : Nat) (ad : Nat → Nat) (σ : Hp) (n : Nat) (a0 : Nat) (a1 : Int32) (hT_a0 : hT σ a0 7) {τ : Hp} {r : Int32} (hF : F_X7_loudness n a0 a1 σ = some (r, τ)) : MI l yX7_loudness cX7_loudness 2 (some .int) rm_X7_loudness D cA base ad σ [.ref (ad a0), .int a1] r τ := by
  refine Met.ofW (cc := cX7_loudness) (maxL := 2) (ret := (some .int)) (by decide) rfl ?_
  intro p e s m args below meth c s₁ B hml hv
  obtain ⟨rfl, hv⟩ := hv
  have X : SX D cA base p s m ([.ref (ad a0), .int a1] : List Value).toArray meth c cX7_loudness 2 (some .int) RX7 := sx_of B hml hv
  have hG := hv.1
  have hS : va_S (bA base) s.heap s.heap [] := va_S.rf
  have hE := xT.rf σ
  have hl := lv_entry ([.ref (ad a0), .int a1]) (n := 2) (Nat.le_of_ble_eq_true rfl)
  rw [lg_entry_eq]
  generalize (lg_sl ([.ref (ad a0), .int a1]) ++ List.replicate (2 - (lg_sl ([.ref (ad a0), .int a1])).length) Slot.unset).toArray = ls at hl ⊢
  have hl : lv_has ls 2 [(0, .ref (ad a0)), (1, .int a1)] := hl
  unfold F_X7_loudness at hF
  refine lv_aload_n X.1 X.2.1 dX7_loudness_0 rfl (lv_at hl 0 rfl) ?_
  refine lv_iload_n X.1 X.2.1 dX7_loudness_1 rfl (lv_at hl 1 rfl) ?_
  obtain ⟨r2, σ1, hz, hF⟩ := b2_ex hF
  refine gx_rI (gx_runPT (As := [.int a1]) (rest := []) X hG hS (hT_a0.to (by decide) rfl) (c_X6_loudness l D cA base ad σ n a0 a1 (hT_a0.to (by decide) rfl) hz) k_800 k_805 k_1387 k_334 k_799 k_11 ⟨by decide, (h_X6_loudness).2.2.2⟩ rfl rfl ⟨by decide, by decide⟩ rfl hl.1 rfl (Nat.le_of_ble_eq_true rfl) dX7_loudness_2 ⟨Nat.zero_le _, Nat.zero_le _⟩) hS (fun H locs hG hS hX => ?_)
  have hT_a0 := hX.T hT_a0
  replace hE := hE.trans hX
  refine lv_aload_n X.1 X.2.1 dX7_loudness_5 rfl (lv_at hl 0 rfl) ?_
  refine gx_getT 5 (v := .int (hI σ1 a0 5)) X hG (hT_a0.to (by decide) rfl) (by decide) k_221 (fun x9 h9 => u_same (X.w k_222) x9 h9) rfl dX7_loudness_6 ?_
  refine lv_iadd X.1 X.2.1 dX7_loudness_9 ?_
  exact gx_iret X hG hS hE hF dX7_loudness_10
theorem c_X9_loudness (l : Launch) (D : va_G) (cA : Nat → ClassId) (base : Nat) (ad : Nat → Nat) (σ : Hp) (n : Nat) (a0 : Nat) (a1 : Int32) (hT_a0 : hT σ a0 102) {τ : Hp} {r : Int32} (hF : F_X9_loudness n a0 a1 σ = some (r, τ)) : MI l yX9_loudness cX9_loudness 2 (some .int) rm_X9_loudness D cA base ad σ [.ref (ad a0), .int a1] r τ := by
  refine Met.ofW (cc := cX9_loudness) (maxL := 2) (ret := (some .int)) (by decide) rfl ?_
  intro p e s m args below meth c s₁ B hml hv
  obtain ⟨rfl, hv⟩ := hv
  have X : SX D cA base p s m ([.ref (ad a0), .int a1] : List Value).toArray meth c cX9_loudness 2 (some .int) RX9 := sx_of B hml hv
  have hG := hv.1
  have hS : va_S (bA base) s.heap s.heap [] := va_S.rf
  have hE := xT.rf σ
  have hl := lv_entry ([.ref (ad a0), .int a1]) (n := 2) (Nat.le_of_ble_eq_true rfl)
  rw [lg_entry_eq]
  generalize (lg_sl ([.ref (ad a0), .int a1]) ++ List.replicate (2 - (lg_sl ([.ref (ad a0), .int a1])).length) Slot.unset).toArray = ls at hl ⊢
  have hl : lv_has ls 2 [(0, .ref (ad a0)), (1, .int a1)] := hl
  unfold F_X9_loudness at hF
  refine lv_aload_n X.1 X.2.1 dX9_loudness_0 rfl (lv_at hl 0 rfl) ?_
  refine lv_iload_n X.1 X.2.1 dX9_loudness_1 rfl (lv_at hl 1 rfl) ?_
  obtain ⟨r2, σ1, hz, hF⟩ := b2_ex hF
  refine gx_rI (gx_runPT (As := [.int a1]) (rest := []) X hG hS (hT_a0.up (by decide)) (c_X10_loudness l D cA base ad σ n a0 a1 (hT_a0.up (by decide)) hz) k_815 k_812 k_785 k_244 k_783 k_5 ⟨by decide, (h_X10_loudness).2.2.2⟩ rfl rfl ⟨by decide, by decide⟩ rfl hl.1 rfl (Nat.le_of_ble_eq_true rfl) dX9_loudness_2 ⟨Nat.zero_le _, Nat.zero_le _⟩) hS (fun H locs hG hS hX => ?_)
  have hT_a0 := hX.T hT_a0
  replace hE := hE.trans hX
  refine lv_iload_n X.1 X.2.1 dX9_loudness_5 rfl (lv_at hl 1 rfl) ?_
  obtain ⟨r4, σ3, hz, hF⟩ := b2_ex hF
  refine gx_rI (gx_runS (As := [.int a1]) (rest := [.int r2]) X hG hS (c_J6_bitCount_0f7a4 l D cA base ad σ1 n a1 hz) k_400 k_813 k_399 k_13 (h_J6_bitCount_0f7a4.2) rfl rfl ⟨by decide, by decide⟩ rfl hl.1 rfl (Nat.le_of_ble_eq_true rfl) dX9_loudness_6 ⟨Nat.zero_le _, Nat.zero_le _⟩) hS (fun H locs hG hS hX => ?_)
  have hT_a0 := hX.T hT_a0
  replace hE := hE.trans hX
  refine lv_iadd X.1 X.2.1 dX9_loudness_9 ?_
  exact gx_iret X hG hS hE hF dX9_loudness_10
theorem c_X8_loudness (l : Launch) (D : va_G) (cA : Nat → ClassId) (base : Nat) (ad : Nat → Nat) (σ : Hp) (n : Nat) (a0 : Nat) (a1 : Int32) (hT_a0 : hT σ a0 8) {τ : Hp} {r : Int32} (hF : F_X8_loudness n a0 a1 σ = some (r, τ)) : MI l yX8_loudness cX8_loudness 2 (some .int) rm_X8_loudness D cA base ad σ [.ref (ad a0), .int a1] r τ := by
  refine Met.ofW (cc := cX8_loudness) (maxL := 2) (ret := (some .int)) (by decide) rfl ?_
  intro p e s m args below meth c s₁ B hml hv
  obtain ⟨rfl, hv⟩ := hv
  have X : SX D cA base p s m ([.ref (ad a0), .int a1] : List Value).toArray meth c cX8_loudness 2 (some .int) RX8 := sx_of B hml hv
  have hG := hv.1
  have hS : va_S (bA base) s.heap s.heap [] := va_S.rf
  have hE := xT.rf σ
  have hl := lv_entry ([.ref (ad a0), .int a1]) (n := 2) (Nat.le_of_ble_eq_true rfl)
  rw [lg_entry_eq]
  generalize (lg_sl ([.ref (ad a0), .int a1]) ++ List.replicate (2 - (lg_sl ([.ref (ad a0), .int a1])).length) Slot.unset).toArray = ls at hl ⊢
  have hl : lv_has ls 2 [(0, .ref (ad a0)), (1, .int a1)] := hl
  unfold F_X8_loudness at hF
  refine lv_aload_n X.1 X.2.1 dX8_loudness_0 rfl (lv_at hl 0 rfl) ?_
  refine lv_iload_n X.1 X.2.1 dX8_loudness_1 rfl (lv_at hl 1 rfl) ?_
  obtain ⟨r2, σ1, hz, hF⟩ := b2_ex hF
  refine gx_rI (gx_runPT (As := [.int a1]) (rest := []) X hG hS (hT_a0.to (by decide) rfl) (c_X9_loudness l D cA base ad σ n a0 a1 (hT_a0.to (by decide) rfl) hz) k_811 k_809 k_1388 k_289 k_810 k_6 ⟨by decide, (h_X9_loudness).2.2.2⟩ rfl rfl ⟨by decide, by decide⟩ rfl hl.1 rfl (Nat.le_of_ble_eq_true rfl) dX8_loudness_2 ⟨Nat.zero_le _, Nat.zero_le _⟩) hS (fun H locs hG hS hX => ?_)
  have hT_a0 := hX.T hT_a0
  replace hE := hE.trans hX
  refine lv_iconst (v := 5) X.1 X.2.1 dX8_loudness_5 (by decide) ?_
  refine lv_iadd X.1 X.2.1 dX8_loudness_6 ?_
  exact gx_iret X hG hS hE hF dX8_loudness_7
end W_class12
