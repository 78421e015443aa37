/-! class3: printed by wip/whole/gen.py -/
section W_class3
variable {p : Program} {l : Launch} {e : Env} {s : State} {m : MethodId} {args : Array Value} {below : List Frame} {meth : Method} {c : Code} {D : va_G} {cA : Nat → ClassId} {base : Nat} {ad : Nat → Nat}
abbrev rm_X1_isMark : Room := { frames := 0, cells := 0, slots := 0, locals := 0 }
theorem h_X1_isMark : yX1_isMark.cls = RX1 ∧ yX1_isMark.cls ≠ "java/lang/invoke/MethodHandle" ∧ yX1_isMark.cls ≠ "java/lang/invoke/VarHandle" ∧ (parseMethodDescriptor yX1_isMark.desc).map (fun d => d.parameters.length) = some 1 := by decide +kernel
def F_X1_isMark_30 (n : Nat)   (σ : Hp) : Option (Int32 × Hp) := some (1, σ)
def F_X1_isMark (n : Nat) (a0 : Int32) (σ : Hp) : Option (Int32 × Hp) := if a0 = 43 then (F_X1_isMark_30 n  σ) else (if a0 = 45 then (F_X1_isMark_30 n  σ) else (if a0 = 42 then (F_X1_isMark_30 n  σ) else (if a0 = 47 then (F_X1_isMark_30 n  σ) else (if a0 = 44 then (F_X1_isMark_30 n  σ) else (some (0, σ))))))
abbrev rm_X1_joined : Room := { frames := 0, cells := 0, slots := 0, locals := 0 }
theorem h_X1_joined : yX1_joined.cls = RX1 ∧ yX1_joined.cls ≠ "java/lang/invoke/MethodHandle" ∧ yX1_joined.cls ≠ "java/lang/invoke/VarHandle" ∧ (parseMethodDescriptor yX1_joined.desc).map (fun d => d.parameters.length) = some 3 := by decide +kernel
def F_X1_joined_64 (n : Nat)  (v1 : Int32) (v2 : Int32) (σ : Hp) : Option (Int32 × Hp) := if v1 ≤ v2 then (some (v2, σ)) else (some (v1, σ))
def F_X1_joined (n : Nat) (a0 : Int32) (a1 : Int32) (a2 : Int32) (σ : Hp) : Option (Int32 × Hp) := if a0 = 42 then (some (a1 * a2, σ)) else (if a0 = 43 then (some (a1 + a2, σ)) else (if a0 = 44 then (F_X1_joined_64 n  a1 a2 σ) else (if a0 = 45 then (some (a1 - a2, σ)) else (if a0 = 46 then (F_X1_joined_64 n  a1 a2 σ) else (if a0 = 47 then (if a2 = 0 then (some (0, σ)) else (ck (¬ a2 = 0) (some (a1 / a2, σ)))) else (F_X1_joined_64 n  a1 a2 σ))))))
abbrev rm_X1_single : Room := { frames := 0, cells := 0, slots := 0, locals := 0 }
theorem h_X1_single : yX1_single.cls = RX1 ∧ yX1_single.cls ≠ "java/lang/invoke/MethodHandle" ∧ yX1_single.cls ≠ "java/lang/invoke/VarHandle" ∧ (parseMethodDescriptor yX1_single.desc).map (fun d => d.parameters.length) = some 6 := by decide +kernel
def F_X1_single (n : Nat) (a0 : Int32) (a1 : Int32) (a2 : Int32) (a3 : Int32) (a4 : Int32) (a5 : Int32) (σ : Hp) : Option (Int32 × Hp) := if a0 = 109 then (some (a5, σ)) else (if a0 = 110 then (some (a4, σ)) else (if a0 = 111 then (some ((-1) - a0, σ)) else (if a0 = 112 then (some (a2, σ)) else (if a0 = 113 then (some ((-1) - a0, σ)) else (if a0 = 114 then (some ((-1) - a0, σ)) else (if a0 = 115 then (some ((-1) - a0, σ)) else (if a0 = 116 then (some (a1, σ)) else (if a0 = 117 then (some ((-1) - a0, σ)) else (if a0 = 118 then (some ((-1) - a0, σ)) else (if a0 = 119 then (some ((-1) - a0, σ)) else (if a0 = 120 then (some ((-1) - a0, σ)) else (if a0 = 121 then (some (a3, σ)) else (some ((-1) - a0, σ))))))))))))))
abbrev rm_X1_value : Room := { frames := 1, cells := 0, slots := 0, locals := 25 }
theorem h_X1_value : yX1_value.cls = RX1 ∧ yX1_value.cls ≠ "java/lang/invoke/MethodHandle" ∧ yX1_value.cls ≠ "java/lang/invoke/VarHandle" ∧ (parseMethodDescriptor yX1_value.desc).map (fun d => d.parameters.length) = some 5 := by decide +kernel
def F_X1_value_139 (n : Nat)  (v0 : Nat) (σ : Hp) : Option (Int32 × Hp) := b1 (hR σ v0 4) fun (i1 : Nat) => b2 (F_X11_at n i1 0 σ) fun (r3 : Int32) (σ2 : Hp) => some (r3, σ2)
def F_X1_value_133 (n : Nat) (K_6 : Nat → Int32 → Int32 → Int32 → Int32 → Int32 → Int32 → Int32 → Hp → Option (Int32 × Hp)) (v0 : Nat) (v1 : Int32) (v2 : Int32) (v3 : Int32) (v4 : Int32) (v5 : Int32) (v6 : Int32) (v7 : Int32) (σ : Hp) : Option (Int32 × Hp) := K_6 v0 v1 v2 v3 v4 v5 v6 (v7 + 1) σ
def F_X1_value_6 (n : Nat)  : Nat → Nat → Int32 → Int32 → Int32 → Int32 → Int32 → Int32 → Int32 → Hp → Option (Int32 × Hp)
  | 0, _, _, _, _, _, _, _, _, _ => none
  | f + 1, v0, v1, v2, v3, v4, v5, v6, v7, σ => if (hI σ v0 3) ≤ v7 then (F_X1_value_139 n  v0 σ) else (b1 (hR σ v0 2) fun (i4 : Nat) => if (nI (hL σ i4)) ≤ v7 then (F_X1_value_139 n  v0 σ) else (b1 (hR σ v0 2) fun (i5 : Nat) => ck (¬ (v7 < 0 ∨ hL σ i5 ≤ v7.toNatClampNeg)) (b2 (F_X1_isMark n (hI σ i5 v7.toNatClampNeg) σ) fun (r7 : Int32) (σ6 : Hp) => if r7 = 0 then (if v6 < 0 then (F_X1_value_133 n (F_X1_value_6 n  f) v0 v1 v2 v3 v4 v5 v6 v7 σ6) else (b1 (hR σ6 v0 4) fun (i8 : Nat) => if (nI (hL σ6 i8)) ≤ v6 then (F_X1_value_133 n (F_X1_value_6 n  f) v0 v1 v2 v3 v4 v5 v6 v7 σ6) else (b1 (hR σ6 v0 4) fun (i9 : Nat) => b2 (F_X1_single n (hI σ i5 v7.toNatClampNeg) v1 v2 v3 v4 v5 σ6) fun (r11 : Int32) (σ10 : Hp) => ck (¬ (v6 < 0 ∨ hL σ10 i9 ≤ v6.toNatClampNeg)) (lt (pI σ10 i9 v6.toNatClampNeg r11) fun (σ12 : Hp) => F_X1_value_133 n (F_X1_value_6 n  f) v0 v1 v2 v3 v4 v5 (v6 + 1) v7 σ12)))) else (if v6 < 2 then (F_X1_value_133 n (F_X1_value_6 n  f) v0 v1 v2 v3 v4 v5 v6 v7 σ6) else (b1 (hR σ6 v0 4) fun (i13 : Nat) => if (nI (hL σ6 i13)) < v6 then (F_X1_value_133 n (F_X1_value_6 n  f) v0 v1 v2 v3 v4 v5 v6 v7 σ6) else (b1 (hR σ6 v0 4) fun (i14 : Nat) => b1 (hR σ6 v0 4) fun (i15 : Nat) => ck (¬ ((v6 - 2) < 0 ∨ hL σ6 i15 ≤ (v6 - 2).toNatClampNeg)) (b1 (hR σ6 v0 4) fun (i16 : Nat) => ck (¬ ((v6 - 1) < 0 ∨ hL σ6 i16 ≤ (v6 - 1).toNatClampNeg)) (b2 (F_X1_joined n (hI σ i5 v7.toNatClampNeg) (hI σ6 i15 (v6 - 2).toNatClampNeg) (hI σ6 i16 (v6 - 1).toNatClampNeg) σ6) fun (r18 : Int32) (σ17 : Hp) => ck (¬ ((v6 - 2) < 0 ∨ hL σ17 i14 ≤ (v6 - 2).toNatClampNeg)) (lt (pI σ17 i14 (v6 - 2).toNatClampNeg r18) fun (σ19 : Hp) => F_X1_value_133 n (F_X1_value_6 n  f) v0 v1 v2 v3 v4 v5 (v6 + (-1)) v7 σ19)))))))))
def F_X1_value (n : Nat) (a0 : Nat) (a1 : Int32) (a2 : Int32) (a3 : Int32) (a4 : Int32) (a5 : Int32) (σ : Hp) : Option (Int32 × Hp) := F_X1_value_6 n  n a0 a1 a2 a3 a4 a5 0 0 σ
abbrev rm_X3_leaning : Room := { frames := 2, cells := 0, slots := 0, locals := 53 }
theorem h_X3_leaning : yX3_leaning.cls = RX3 ∧ yX3_leaning.cls ≠ "java/lang/invoke/MethodHandle" ∧ yX3_leaning.cls ≠ "java/lang/invoke/VarHandle" ∧ (parseMethodDescriptor yX3_leaning.desc).map (fun d => d.parameters.length) = some 3 := by decide +kernel
def F_X3_leaning (n : Nat) (a0 : Nat) (a1 : Int32) (a2 : Int32) (a3 : Int32) (σ : Hp) : Option (Int32 × Hp) := b2 (F_X3_turnAt n a0 a1 σ) fun (r2 : Option Nat) (σ1 : Hp) => b1 (hR σ1 a0 16) fun (i3 : Nat) => b2 (F_X11_at n i3 a1 σ1) fun (r5 : Int32) (σ4 : Hp) => b1 (hR σ4 a0 17) fun (i6 : Nat) => b2 (F_X11_at n i6 a1 σ4) fun (r8 : Int32) (σ7 : Hp) => om r2 (some (r5 + r8, σ7)) (fun i9 => lt (hR σ7 i9 7) fun (q10 : Option Nat) => om q10 (some (r5 + r8, σ7)) (fun i11 => lt (hR σ7 i9 7) fun (q12 : Option Nat) => b1 (q12) fun (i13 : Nat) => b2 (F_X1_value n i13 r5 r8 a2 a3 (hI σ7 a0 10) σ7) fun (r15 : Int32) (σ14 : Hp) => some (r15, σ14)))
abbrev rm_X11_leans : Room := { frames := 3, cells := 0, slots := 0, locals := 79 }
theorem h_X11_leans : yX11_leans.cls = RX11 ∧ yX11_leans.cls ≠ "java/lang/invoke/MethodHandle" ∧ yX11_leans.cls ≠ "java/lang/invoke/VarHandle" ∧ (parseMethodDescriptor yX11_leans.desc).map (fun d => d.parameters.length) = some 1 := by decide +kernel
def F_X11_leans (n : Nat) (a0 : Nat) (a1 : Int32) (σ : Hp) : Option (Int32 × Hp) := b1 (hR σ a0 0) fun (i1 : Nat) => b2 (F_X3_isSeat n i1 a1 σ) fun (r3 : Int32) (σ2 : Hp) => if r3 = 0 then (some ((-1000000001), σ2)) else (b1 (hR σ2 a0 0) fun (i4 : Nat) => if (hI σ2 i4 8) = 0 then (b1 (hR σ2 a0 0) fun (i5 : Nat) => b2 (F_X3_leaning n i5 a1 0 0 σ2) fun (r7 : Int32) (σ6 : Hp) => some (r7, σ6)) else (b1 (hR σ2 a0 0) fun (i8 : Nat) => b1 (hR σ2 a0 0) fun (i9 : Nat) => b2 (F_X3_yes n i9 σ2) fun (r11 : Int32) (σ10 : Hp) => b1 (hR σ10 a0 0) fun (i12 : Nat) => b2 (F_X3_no n i12 σ10) fun (r14 : Int32) (σ13 : Hp) => b2 (F_X3_leaning n i8 a1 r11 r14 σ13) fun (r16 : Int32) (σ15 : Hp) => some (r16, σ15)))
abbrev rm_X11_shelfAt : Room := { frames := 0, cells := 0, slots := 0, locals := 0 }
theorem h_X11_shelfAt : yX11_shelfAt.cls = RX11 ∧ yX11_shelfAt.cls ≠ "java/lang/invoke/MethodHandle" ∧ yX11_shelfAt.cls ≠ "java/lang/invoke/VarHandle" ∧ (parseMethodDescriptor yX11_shelfAt.desc).map (fun d => d.parameters.length) = some 1 := by decide +kernel
def F_X11_shelfAt (n : Nat) (a0 : Nat) (a1 : Int32) (σ : Hp) : Option (Option Nat × Hp) := if a1 < 0 then (some ((none : Option Nat), σ)) else (b1 (hR σ a0 4) fun (i1 : Nat) => if (nI (hL σ i1)) ≤ a1 then (some ((none : Option Nat), σ)) else (b1 (hR σ a0 4) fun (i2 : Nat) => ck (¬ (a1 < 0 ∨ hL σ i2 ≤ a1.toNatClampNeg)) (lt (hR σ i2 a1.toNatClampNeg) fun (q3 : Option Nat) => some (q3, σ))))
abbrev rm_X5_isRow : Room := { frames := 0, cells := 0, slots := 0, locals := 0 }
theorem h_X5_isRow : yX5_isRow.cls = RX5 ∧ yX5_isRow.cls ≠ "java/lang/invoke/MethodHandle" ∧ yX5_isRow.cls ≠ "java/lang/invoke/VarHandle" ∧ (parseMethodDescriptor yX5_isRow.desc).map (fun d => d.parameters.length) = some 0 := by decide +kernel
def F_X5_isRow (n : Nat) (a0 : Nat) (σ : Hp) : Option (Int32 × Hp) := if (hI σ a0 2) = (-1) then (some (0, σ)) else (some (1, σ))
abbrev rm_X5_isEmpty : Room := { frames := 1, cells := 0, slots := 0, locals := 20 }
theorem h_X5_isEmpty : yX5_isEmpty.cls = RX5 ∧ yX5_isEmpty.cls ≠ "java/lang/invoke/MethodHandle" ∧ yX5_isEmpty.cls ≠ "java/lang/invoke/VarHandle" ∧ (parseMethodDescriptor yX5_isEmpty.desc).map (fun d => d.parameters.length) = some 0 := by decide +kernel
def F_X5_isEmpty (n : Nat) (a0 : Nat) (σ : Hp) : Option (Int32 × Hp) := lt (hR σ a0 0) fun (q1 : Option Nat) => om q1 (b2 (F_X5_isRow n a0 σ) fun (r4 : Int32) (σ3 : Hp) => if r4 = 0 then (some (1, σ3)) else (some (0, σ3))) (fun i2 => some (0, σ))
abbrev rm_X11_copyAll : Room := { frames := 0, cells := 0, slots := 0, locals := 0 }
theorem h_X11_copyAll : yX11_copyAll.cls = RX11 ∧ yX11_copyAll.cls ≠ "java/lang/invoke/MethodHandle" ∧ yX11_copyAll.cls ≠ "java/lang/invoke/VarHandle" ∧ (parseMethodDescriptor yX11_copyAll.desc).map (fun d => d.parameters.length) = some 2 := by decide +kernel
def F_X11_copyAll_2 (n : Nat)  : Nat → Nat → Nat → Int32 → Hp → Option Hp
  | 0, _, _, _, _ => none
  | f + 1, v0, v1, v2, σ => if (nI (hL σ v0)) ≤ v2 then (some σ) else (if (nI (hL σ v1)) ≤ v2 then (some σ) else (ck (¬ (v2 < 0 ∨ hL σ v0 ≤ v2.toNatClampNeg)) (ck (¬ (v2 < 0 ∨ hL σ v1 ≤ v2.toNatClampNeg)) (lt (pI σ v1 v2.toNatClampNeg (hI σ v0 v2.toNatClampNeg)) fun (σ1 : Hp) => (F_X11_copyAll_2 n  f) v0 v1 (v2 + 1) σ1))))
def F_X11_copyAll (n : Nat) (a0 : Nat) (a1 : Nat) (σ : Hp) : Option Hp := F_X11_copyAll_2 n  n a0 a1 0 σ
theorem w_X1_isMark_30 {σ0 τ : Hp} {r : Int32} (X : SX D cA base p s m args meth c cX1_isMark 1 (some .boolean) RX1) (n : Nat)  : ∀  (σ : Hp) (H : Heap) (locs : List Loc) (ls : Array Slot), GW D cA base ad σ H → va_S (bA base) s.heap H locs → xT σ0 σ → lv_has ls 1 [] → F_X1_isMark_30 n  σ = some (r, τ) → W p l e rm_X1_isMark s m args below meth c H locs 0 0 (ZI below s args D cA base ad σ0 r τ) (F0 m 30 ls []) := by
  intro σ H locs ls hG hS hE hl hF
  unfold F_X1_isMark_30 at hF
  refine lv_iconst (v := 1) X.1 X.2.1 dX1_isMark_30 (by decide) ?_
  refine lv_goto (tgt := 35) X.1 X.2.1 dX1_isMark_31 (by decide) ?_
  exact gx_zret X hG hS hE hF rfl dX1_isMark_35
theorem c_X1_isMark (l : Launch) (D : va_G) (cA : Nat → ClassId) (base : Nat) (ad : Nat → Nat) (σ : Hp) (n : Nat) (a0 : Int32)  {τ : Hp} {r : Int32} (hF : F_X1_isMark n a0 σ = some (r, τ)) : MI l yX1_isMark cX1_isMark 1 (some .boolean) rm_X1_isMark D cA base ad σ [.int a0] r τ := by
  refine Met.ofW (cc := cX1_isMark) (maxL := 1) (ret := (some .boolean)) (by decide) rfl ?_
  intro p e s m args below meth c s₁ B hml hv
  obtain ⟨rfl, hv⟩ := hv
  have X : SX D cA base p s m ([.int a0] : List Value).toArray meth c cX1_isMark 1 (some .boolean) RX1 := sx_of B hml hv
  have hG := hv.1
  have hS : va_S (bA base) s.heap s.heap [] := va_S.rf
  have hE := xT.rf σ
  have hl := lv_entry ([.int a0]) (n := 1) (Nat.le_of_ble_eq_true rfl)
  rw [lg_entry_eq]
  generalize (lg_sl ([.int a0]) ++ List.replicate (1 - (lg_sl ([.int a0])).length) Slot.unset).toArray = ls at hl ⊢
  have hl : lv_has ls 1 [(0, .int a0)] := hl
  unfold F_X1_isMark at hF
  refine lv_iload_n X.1 X.2.1 dX1_isMark_0 rfl (lv_at hl 0 rfl) ?_
  refine lv_bipush (v := 43) X.1 X.2.1 dX1_isMark_1 (by decide) ?_
  refine lv_icmp_eq (tgt := 30) X.1 X.2.1 dX1_isMark_3 (by decide) (fun hc => ?_) (fun hc => ?_)
  · replace hF := it_t hF hc
    exact w_X1_isMark_30 X n  σ _ _ ls  hG hS hE (lv_sub hl [] rfl) hF
  · replace hF := it_f hF hc
    refine lv_iload_n X.1 X.2.1 dX1_isMark_6 rfl (lv_at hl 0 rfl) ?_
    refine lv_bipush (v := 45) X.1 X.2.1 dX1_isMark_7 (by decide) ?_
    refine lv_icmp_eq (tgt := 30) X.1 X.2.1 dX1_isMark_9 (by decide) (fun hc => ?_) (fun hc => ?_)
    · replace hF := it_t hF hc
      exact w_X1_isMark_30 X n  σ _ _ ls  hG hS hE (lv_sub hl [] rfl) hF
    · replace hF := it_f hF hc
      refine lv_iload_n X.1 X.2.1 dX1_isMark_12 rfl (lv_at hl 0 rfl) ?_
      refine lv_bipush (v := 42) X.1 X.2.1 dX1_isMark_13 (by decide) ?_
      refine lv_icmp_eq (tgt := 30) X.1 X.2.1 dX1_isMark_15 (by decide) (fun hc => ?_) (fun hc => ?_)
      · replace hF := it_t hF hc
        exact w_X1_isMark_30 X n  σ _ _ ls  hG hS hE (lv_sub hl [] rfl) hF
      · replace hF := it_f hF hc
        refine lv_iload_n X.1 X.2.1 dX1_isMark_18 rfl (lv_at hl 0 rfl) ?_
        refine lv_bipush (v := 47) X.1 X.2.1 dX1_isMark_19 (by decide) ?_
        refine lv_icmp_eq (tgt := 30) X.1 X.2.1 dX1_isMark_21 (by decide) (fun hc => ?_) (fun hc => ?_)
        · replace hF := it_t hF hc
          exact w_X1_isMark_30 X n  σ _ _ ls  hG hS hE (lv_sub hl [] rfl) hF
        · replace hF := it_f hF hc
          refine lv_iload_n X.1 X.2.1 dX1_isMark_24 rfl (lv_at hl 0 rfl) ?_
          refine lv_bipush (v := 44) X.1 X.2.1 dX1_isMark_25 (by decide) ?_
          refine lv_icmp_ne (tgt := 34) X.1 X.2.1 dX1_isMark_27 (by decide) (fun hc => ?_) (fun hc => ?_)
          · replace hF := it_f hF hc
            refine lv_iconst (v := 0) X.1 X.2.1 dX1_isMark_34 (by decide) ?_
            exact gx_zret X hG hS hE hF rfl dX1_isMark_35
          · replace hF := it_t hF hc
            exact w_X1_isMark_30 X n  σ _ _ ls  hG hS hE (lv_sub hl [] rfl) hF
theorem w_X1_joined_64 {σ0 τ : Hp} {r : Int32} (X : SX D cA base p s m args meth c cX1_joined 3 (some .int) RX1) (n : Nat)  : ∀ (v1 : Int32) (v2 : Int32) (σ : Hp) (H : Heap) (locs : List Loc) (ls : Array Slot), GW D cA base ad σ H → va_S (bA base) s.heap H locs → xT σ0 σ → lv_has ls 3 [(1, .int v1), (2, .int v2)] → F_X1_joined_64 n  v1 v2 σ = some (r, τ) → W p l e rm_X1_joined s m args below meth c H locs 0 0 (ZI below s args D cA base ad σ0 r τ) (F0 m 64 ls []) := by
  intro v1 v2 σ H locs ls hG hS hE hl hF
  unfold F_X1_joined_64 at hF
  refine lv_iload_n X.1 X.2.1 dX1_joined_64 rfl (lv_at hl 0 rfl) ?_
  refine lv_iload_n X.1 X.2.1 dX1_joined_65 rfl (lv_at hl 1 rfl) ?_
  refine lv_icmp_le (tgt := 73) X.1 X.2.1 dX1_joined_66 (by decide) (fun hc => ?_) (fun hc => ?_)
  · replace hF := it_t hF hc
    refine lv_iload_n X.1 X.2.1 dX1_joined_73 rfl (lv_at hl 1 rfl) ?_
    exact gx_iret X hG hS hE hF dX1_joined_74
  · replace hF := it_f hF hc
    refine lv_iload_n X.1 X.2.1 dX1_joined_69 rfl (lv_at hl 0 rfl) ?_
    refine lv_goto (tgt := 74) X.1 X.2.1 dX1_joined_70 (by decide) ?_
    exact gx_iret X hG hS hE hF dX1_joined_74
theorem c_X1_joined (l : Launch) (D : va_G) (cA : Nat → ClassId) (base : Nat) (ad : Nat → Nat) (σ : Hp) (n : Nat) (a0 : Int32) (a1 : Int32) (a2 : Int32)  {τ : Hp} {r : Int32} (hF : F_X1_joined n a0 a1 a2 σ = some (r, τ)) : MI l yX1_joined cX1_joined 3 (some .int) rm_X1_joined D cA base ad σ [.int a0, .int a1, .int a2] r τ := by
  refine Met.ofW (cc := cX1_joined) (maxL := 3) (ret := (some .int)) (by decide) rfl ?_
  intro p e s m args below meth c s₁ B hml hv
  obtain ⟨rfl, hv⟩ := hv
  have X : SX D cA base p s m ([.int a0, .int a1, .int a2] : List Value).toArray meth c cX1_joined 3 (some .int) RX1 := sx_of B hml hv
  have hG := hv.1
  have hS : va_S (bA base) s.heap s.heap [] := va_S.rf
  have hE := xT.rf σ
  have hl := lv_entry ([.int a0, .int a1, .int a2]) (n := 3) (Nat.le_of_ble_eq_true rfl)
  rw [lg_entry_eq]
  generalize (lg_sl ([.int a0, .int a1, .int a2]) ++ List.replicate (3 - (lg_sl ([.int a0, .int a1, .int a2])).length) Slot.unset).toArray = ls at hl ⊢
  have hl : lv_has ls 3 [(0, .int a0), (1, .int a1), (2, .int a2)] := hl
  unfold F_X1_joined at hF
  refine lv_iload_n X.1 X.2.1 dX1_joined_0 rfl (lv_at hl 0 rfl) ?_
  by_cases hc0 : a0 = 42
  · replace hF := it_t hF hc0
    refine lv_tableIn (tgt := 48) X.1 X.2.1 dX1_joined_1 (by rw [hc0]; decide) (by rw [hc0]; decide) (by rw [hc0]; rfl) (by decide) ?_
    refine lv_iload_n X.1 X.2.1 dX1_joined_48 rfl (lv_at hl 1 rfl) ?_
    refine lv_iload_n X.1 X.2.1 dX1_joined_49 rfl (lv_at hl 2 rfl) ?_
    refine lv_imul X.1 X.2.1 dX1_joined_50 ?_
    exact gx_iret X hG hS hE hF dX1_joined_51
  replace hF := it_f hF hc0
  by_cases hc1 : a0 = 43
  · replace hF := it_t hF hc1
    refine lv_tableIn (tgt := 40) X.1 X.2.1 dX1_joined_1 (by rw [hc1]; decide) (by rw [hc1]; decide) (by rw [hc1]; rfl) (by decide) ?_
    refine lv_iload_n X.1 X.2.1 dX1_joined_40 rfl (lv_at hl 1 rfl) ?_
    refine lv_iload_n X.1 X.2.1 dX1_joined_41 rfl (lv_at hl 2 rfl) ?_
    refine lv_iadd X.1 X.2.1 dX1_joined_42 ?_
    exact gx_iret X hG hS hE hF dX1_joined_43
  replace hF := it_f hF hc1
  by_cases hc2 : a0 = 44
  · replace hF := it_t hF hc2
    refine lv_tableIn (tgt := 64) X.1 X.2.1 dX1_joined_1 (by rw [hc2]; decide) (by rw [hc2]; decide) (by rw [hc2]; rfl) (by decide) ?_
    exact w_X1_joined_64 X n  a1 a2 σ _ _ ls  hG hS hE (lv_sub hl [1, 2] rfl) hF
  replace hF := it_f hF hc2
  by_cases hc3 : a0 = 45
  · replace hF := it_t hF hc3
    refine lv_tableIn (tgt := 44) X.1 X.2.1 dX1_joined_1 (by rw [hc3]; decide) (by rw [hc3]; decide) (by rw [hc3]; rfl) (by decide) ?_
    refine lv_iload_n X.1 X.2.1 dX1_joined_44 rfl (lv_at hl 1 rfl) ?_
    refine lv_iload_n X.1 X.2.1 dX1_joined_45 rfl (lv_at hl 2 rfl) ?_
    refine lv_isub X.1 X.2.1 dX1_joined_46 ?_
    exact gx_iret X hG hS hE hF dX1_joined_47
  replace hF := it_f hF hc3
  by_cases hc4 : a0 = 46
  · replace hF := it_t hF hc4
    refine lv_tableIn (tgt := 64) X.1 X.2.1 dX1_joined_1 (by rw [hc4]; decide) (by rw [hc4]; decide) (by rw [hc4]; rfl) (by decide) ?_
    exact w_X1_joined_64 X n  a1 a2 σ _ _ ls  hG hS hE (lv_sub hl [1, 2] rfl) hF
  replace hF := it_f hF hc4
  by_cases hc5 : a0 = 47
  · replace hF := it_t hF hc5
    refine lv_tableIn (tgt := 52) X.1 X.2.1 dX1_joined_1 (by rw [hc5]; decide) (by rw [hc5]; decide) (by rw [hc5]; rfl) (by decide) ?_
    refine lv_iload_n X.1 X.2.1 dX1_joined_52 rfl (lv_at hl 2 rfl) ?_
    refine lv_if_ne (tgt := 60) X.1 X.2.1 dX1_joined_53 (by decide) (fun hc => ?_) (fun hc => ?_)
    · replace hF := it_f hF hc
      refine lv_iload_n X.1 X.2.1 dX1_joined_60 rfl (lv_at hl 1 rfl) ?_
      refine lv_iload_n X.1 X.2.1 dX1_joined_61 rfl (lv_at hl 2 rfl) ?_
      obtain ⟨hne, hF⟩ := ck_ex hF
      refine lv_idiv X.1 X.2.1 dX1_joined_62 hne ?_
      exact gx_iret X hG hS hE hF dX1_joined_63
    · replace hF := it_t hF hc
      refine lv_iconst (v := 0) X.1 X.2.1 dX1_joined_56 (by decide) ?_
      refine lv_goto (tgt := 63) X.1 X.2.1 dX1_joined_57 (by decide) ?_
      exact gx_iret X hG hS hE hF dX1_joined_63
  replace hF := it_f hF hc5
  have hz0 := ne_lit hc0 (z := 42) (by decide)
  have hz1 := ne_lit hc1 (z := 43) (by decide)
  have hz2 := ne_lit hc2 (z := 44) (by decide)
  have hz3 := ne_lit hc3 (z := 45) (by decide)
  have hz4 := ne_lit hc4 (z := 46) (by decide)
  have hz5 := ne_lit hc5 (z := 47) (by decide)
  refine lv_tableOut (tgt := 64) X.1 X.2.1 dX1_joined_1 (by omega) (by decide) ?_
  exact w_X1_joined_64 X n  a1 a2 σ _ _ ls  hG hS hE (lv_sub hl [1, 2] rfl) hF
theorem c_X1_single (l : Launch) (D : va_G) (cA : Nat → ClassId) (base : Nat) (ad : Nat → Nat) (σ : Hp) (n : Nat) (a0 : Int32) (a1 : Int32) (a2 : Int32) (a3 : Int32) (a4 : Int32) (a5 : Int32)  {τ : Hp} {r : Int32} (hF : F_X1_single n a0 a1 a2 a3 a4 a5 σ = some (r, τ)) : MI l yX1_single cX1_single 6 (some .int) rm_X1_single D cA base ad σ [.int a0, .int a1, .int a2, .int a3, .int a4, .int a5] r τ := by
  refine Met.ofW (cc := cX1_single) (maxL := 6) (ret := (some .int)) (by decide) rfl ?_
  intro p e s m args below meth c s₁ B hml hv
  obtain ⟨rfl, hv⟩ := hv
  have X : SX D cA base p s m ([.int a0, .int a1, .int a2, .int a3, .int a4, .int a5] : List Value).toArray meth c cX1_single 6 (some .int) RX1 := sx_of B hml hv
  have hG := hv.1
  have hS : va_S (bA base) s.heap s.heap [] := va_S.rf
  have hE := xT.rf σ
  have hl := lv_entry ([.int a0, .int a1, .int a2, .int a3, .int a4, .int a5]) (n := 6) (Nat.le_of_ble_eq_true rfl)
  rw [lg_entry_eq]
  generalize (lg_sl ([.int a0, .int a1, .int a2, .int a3, .int a4, .int a5]) ++ List.replicate (6 - (lg_sl ([.int a0, .int a1, .int a2, .int a3, .int a4, .int a5])).length) Slot.unset).toArray = ls at hl ⊢
  have hl : lv_has ls 6 [(0, .int a0), (1, .int a1), (2, .int a2), (3, .int a3), (4, .int a4), (5, .int a5)] := hl
  unfold F_X1_single at hF
  refine lv_iload_n X.1 X.2.1 dX1_single_0 rfl (lv_at hl 0 rfl) ?_
  by_cases hc0 : a0 = 109
  · replace hF := it_t hF hc0
    refine lv_tableIn (tgt := 77) X.1 X.2.1 dX1_single_1 (by rw [hc0]; decide) (by rw [hc0]; decide) (by rw [hc0]; rfl) (by decide) ?_
    refine lv_iload X.1 X.2.1 dX1_single_77 (lv_at hl 5 rfl) ?_
    exact gx_iret X hG hS hE hF dX1_single_79
  replace hF := it_f hF hc0
  by_cases hc1 : a0 = 110
  · replace hF := it_t hF hc1
    refine lv_tableIn (tgt := 74) X.1 X.2.1 dX1_single_1 (by rw [hc1]; decide) (by rw [hc1]; decide) (by rw [hc1]; rfl) (by decide) ?_
    refine lv_iload X.1 X.2.1 dX1_single_74 (lv_at hl 4 rfl) ?_
    exact gx_iret X hG hS hE hF dX1_single_76
  replace hF := it_f hF hc1
  by_cases hc2 : a0 = 111
  · replace hF := it_t hF hc2
    refine lv_tableIn (tgt := 80) X.1 X.2.1 dX1_single_1 (by rw [hc2]; decide) (by rw [hc2]; decide) (by rw [hc2]; rfl) (by decide) ?_
    refine lv_iconst (v := (-1)) X.1 X.2.1 dX1_single_80 (by decide) ?_
    refine lv_iload_n X.1 X.2.1 dX1_single_81 rfl (lv_at hl 0 rfl) ?_
    refine lv_isub X.1 X.2.1 dX1_single_82 ?_
    exact gx_iret X hG hS hE hF dX1_single_83
  replace hF := it_f hF hc2
  by_cases hc3 : a0 = 112
  · replace hF := it_t hF hc3
    refine lv_tableIn (tgt := 70) X.1 X.2.1 dX1_single_1 (by rw [hc3]; decide) (by rw [hc3]; decide) (by rw [hc3]; rfl) (by decide) ?_
    refine lv_iload_n X.1 X.2.1 dX1_single_70 rfl (lv_at hl 2 rfl) ?_
    exact gx_iret X hG hS hE hF dX1_single_71
  replace hF := it_f hF hc3
  by_cases hc4 : a0 = 113
  · replace hF := it_t hF hc4
    refine lv_tableIn (tgt := 80) X.1 X.2.1 dX1_single_1 (by rw [hc4]; decide) (by rw [hc4]; decide) (by rw [hc4]; rfl) (by decide) ?_
    refine lv_iconst (v := (-1)) X.1 X.2.1 dX1_single_80 (by decide) ?_
    refine lv_iload_n X.1 X.2.1 dX1_single_81 rfl (lv_at hl 0 rfl) ?_
    refine lv_isub X.1 X.2.1 dX1_single_82 ?_
    exact gx_iret X hG hS hE hF dX1_single_83
  replace hF := it_f hF hc4
  by_cases hc5 : a0 = 114
  · replace hF := it_t hF hc5
    refine lv_tableIn (tgt := 80) X.1 X.2.1 dX1_single_1 (by rw [hc5]; decide) (by rw [hc5]; decide) (by rw [hc5]; rfl) (by decide) ?_
    refine lv_iconst (v := (-1)) X.1 X.2.1 dX1_single_80 (by decide) ?_
    refine lv_iload_n X.1 X.2.1 dX1_single_81 rfl (lv_at hl 0 rfl) ?_
    refine lv_isub X.1 X.2.1 dX1_single_82 ?_
    exact gx_iret X hG hS hE hF dX1_single_83
  replace hF := it_f hF hc5
  by_cases hc6 : a0 = 115
  · replace hF := it_t hF hc6
    refine lv_tableIn (tgt := 80) X.1 X.2.1 dX1_single_1 (by rw [hc6]; decide) (by rw [hc6]; decide) (by rw [hc6]; rfl) (by decide) ?_
    refine lv_iconst (v := (-1)) X.1 X.2.1 dX1_single_80 (by decide) ?_
    refine lv_iload_n X.1 X.2.1 dX1_single_81 rfl (lv_at hl 0 rfl) ?_
    refine lv_isub X.1 X.2.1 dX1_single_82 ?_
    exact gx_iret X hG hS hE hF dX1_single_83
  replace hF := it_f hF hc6
  by_cases hc7 : a0 = 116
  · replace hF := it_t hF hc7
    refine lv_tableIn (tgt := 68) X.1 X.2.1 dX1_single_1 (by rw [hc7]; decide) (by rw [hc7]; decide) (by rw [hc7]; rfl) (by decide) ?_
    refine lv_iload_n X.1 X.2.1 dX1_single_68 rfl (lv_at hl 1 rfl) ?_
    exact gx_iret X hG hS hE hF dX1_single_69
  replace hF := it_f hF hc7
  by_cases hc8 : a0 = 117
  · replace hF := it_t hF hc8
    refine lv_tableIn (tgt := 80) X.1 X.2.1 dX1_single_1 (by rw [hc8]; decide) (by rw [hc8]; decide) (by rw [hc8]; rfl) (by decide) ?_
    refine lv_iconst (v := (-1)) X.1 X.2.1 dX1_single_80 (by decide) ?_
    refine lv_iload_n X.1 X.2.1 dX1_single_81 rfl (lv_at hl 0 rfl) ?_
    refine lv_isub X.1 X.2.1 dX1_single_82 ?_
    exact gx_iret X hG hS hE hF dX1_single_83
  replace hF := it_f hF hc8
  by_cases hc9 : a0 = 118
  · replace hF := it_t hF hc9
    refine lv_tableIn (tgt := 80) X.1 X.2.1 dX1_single_1 (by rw [hc9]; decide) (by rw [hc9]; decide) (by rw [hc9]; rfl) (by decide) ?_
    refine lv_iconst (v := (-1)) X.1 X.2.1 dX1_single_80 (by decide) ?_
    refine lv_iload_n X.1 X.2.1 dX1_single_81 rfl (lv_at hl 0 rfl) ?_
    refine lv_isub X.1 X.2.1 dX1_single_82 ?_
    exact gx_iret X hG hS hE hF dX1_single_83
  replace hF := it_f hF hc9
  by_cases hc10 : a0 = 119
  · replace hF := it_t hF hc10
    refine lv_tableIn (tgt := 80) X.1 X.2.1 dX1_single_1 (by rw [hc10]; decide) (by rw [hc10]; decide) (by rw [hc10]; rfl) (by decide) ?_
    refine lv_iconst (v := (-1)) X.1 X.2.1 dX1_single_80 (by decide) ?_
    refine lv_iload_n X.1 X.2.1 dX1_single_81 rfl (lv_at hl 0 rfl) ?_
    refine lv_isub X.1 X.2.1 dX1_single_82 ?_
    exact gx_iret X hG hS hE hF dX1_single_83
  replace hF := it_f hF hc10
  by_cases hc11 : a0 = 120
  · replace hF := it_t hF hc11
    refine lv_tableIn (tgt := 80) X.1 X.2.1 dX1_single_1 (by rw [hc11]; decide) (by rw [hc11]; decide) (by rw [hc11]; rfl) (by decide) ?_
    refine lv_iconst (v := (-1)) X.1 X.2.1 dX1_single_80 (by decide) ?_
    refine lv_iload_n X.1 X.2.1 dX1_single_81 rfl (lv_at hl 0 rfl) ?_
    refine lv_isub X.1 X.2.1 dX1_single_82 ?_
    exact gx_iret X hG hS hE hF dX1_single_83
  replace hF := it_f hF hc11
  by_cases hc12 : a0 = 121
  · replace hF := it_t hF hc12
    refine lv_tableIn (tgt := 72) X.1 X.2.1 dX1_single_1 (by rw [hc12]; decide) (by rw [hc12]; decide) (by rw [hc12]; rfl) (by decide) ?_
    refine lv_iload_n X.1 X.2.1 dX1_single_72 rfl (lv_at hl 3 rfl) ?_
    exact gx_iret X hG hS hE hF dX1_single_73
  replace hF := it_f hF hc12
  have hz0 := ne_lit hc0 (z := 109) (by decide)
  have hz1 := ne_lit hc1 (z := 110) (by decide)
  have hz2 := ne_lit hc2 (z := 111) (by decide)
  have hz3 := ne_lit hc3 (z := 112) (by decide)
  have hz4 := ne_lit hc4 (z := 113) (by decide)
  have hz5 := ne_lit hc5 (z := 114) (by decide)
  have hz6 := ne_lit hc6 (z := 115) (by decide)
  have hz7 := ne_lit hc7 (z := 116) (by decide)
  have hz8 := ne_lit hc8 (z := 117) (by decide)
  have hz9 := ne_lit hc9 (z := 118) (by decide)
  have hz10 := ne_lit hc10 (z := 119) (by decide)
  have hz11 := ne_lit hc11 (z := 120) (by decide)
  have hz12 := ne_lit hc12 (z := 121) (by decide)
  refine lv_tableOut (tgt := 80) X.1 X.2.1 dX1_single_1 (by omega) (by decide) ?_
  refine lv_iconst (v := (-1)) X.1 X.2.1 dX1_single_80 (by decide) ?_
  refine lv_iload_n X.1 X.2.1 dX1_single_81 rfl (lv_at hl 0 rfl) ?_
  refine lv_isub X.1 X.2.1 dX1_single_82 ?_
  exact gx_iret X hG hS hE hF dX1_single_83
theorem w_X1_value_139 {σ0 τ : Hp} {r : Int32} (X : SX D cA base p s m args meth c cX1_value 9 (some .int) RX1) (n : Nat)  : ∀ (v0 : Nat) (σ : Hp) (H : Heap) (locs : List Loc) (ls : Array Slot), hT σ v0 1 → GW D cA base ad σ H → va_S (bA base) s.heap H locs → xT σ0 σ → lv_has ls 9 [(0, .ref (ad v0))] → F_X1_value_139 n  v0 σ = some (r, τ) → W p l e rm_X1_value s m args below meth c H locs 0 0 (ZI below s args D cA base ad σ0 r τ) (F0 m 139 ls []) := by
  intro v0 σ H locs ls hT_v0 hG hS hE hl hF
  unfold F_X1_value_139 at hF
  refine lv_aload_n X.1 X.2.1 dX1_value_139 rfl (lv_at hl 0 rfl) ?_
  obtain ⟨i1, hr, hF⟩ := b1_ex hF
  have hT_i1 : hT σ i1 13 := gw_T hG hT_v0 (by decide) hr
  refine gx_get 4 (v := .ref (ad i1)) X hG hT_v0.1 (hT_v0.eq (by decide)) (by decide) rfl inX1 (by decide) k_500 (fun _ h => h) (gx_rfv hr) dX1_value_140 ?_
  refine lv_iconst (v := 0) X.1 X.2.1 dX1_value_143 (by decide) ?_
  obtain ⟨r3, σ2, hz, hF⟩ := b2_ex hF
  refine gx_rI (gx_runSN (As := [.ref (ad i1), .int 0]) (rest := []) X hG hS (c_X11_at l D cA base ad σ n i1 0 hT_i1 hz) k_362 q_427 k_361 k_1 (h_X11_at.2) rfl rfl ⟨by decide, by decide⟩ rfl hl.1 rfl (Nat.le_of_ble_eq_true rfl) dX1_value_144 ⟨Nat.zero_le _, Nat.zero_le _⟩) hS (fun H locs hG hS hX => ?_)
  have hT_v0 := hX.T hT_v0
  replace hE := hE.trans hX
  exact gx_iret X hG hS hE hF dX1_value_147
theorem w_X1_value_133 {σ0 τ : Hp} {r : Int32} (X : SX D cA base p s m args meth c cX1_value 9 (some .int) RX1) (n : Nat) (K_6 : Nat → Int32 → Int32 → Int32 → Int32 → Int32 → Int32 → Int32 → Hp → Option (Int32 × Hp)) (hK_6 : ∀ (v0 : Nat) (v1 : Int32) (v2 : Int32) (v3 : Int32) (v4 : Int32) (v5 : Int32) (v6 : Int32) (v7 : Int32) (σ : Hp) (H : Heap) (locs : List Loc) (ls : Array Slot), hT σ v0 1 → GW D cA base ad σ H → va_S (bA base) s.heap H locs → xT σ0 σ → lv_has ls 9 [(0, .ref (ad v0)), (1, .int v1), (2, .int v2), (3, .int v3), (4, .int v4), (5, .int v5), (6, .int v6), (7, .int v7)] → K_6 v0 v1 v2 v3 v4 v5 v6 v7 σ = some (r, τ) → W p l e rm_X1_value s m args below meth c H locs 0 0 (ZI below s args D cA base ad σ0 r τ) (F0 m 6 ls [])) : ∀ (v0 : Nat) (v1 : Int32) (v2 : Int32) (v3 : Int32) (v4 : Int32) (v5 : Int32) (v6 : Int32) (v7 : Int32) (σ : Hp) (H : Heap) (locs : List Loc) (ls : Array Slot), hT σ v0 1 → GW D cA base ad σ H → va_S (bA base) s.heap H locs → xT σ0 σ → lv_has ls 9 [(0, .ref (ad v0)), (1, .int v1), (2, .int v2), (3, .int v3), (4, .int v4), (5, .int v5), (6, .int v6), (7, .int v7)] → F_X1_value_133 n K_6 v0 v1 v2 v3 v4 v5 v6 v7 σ = some (r, τ) → W p l e rm_X1_value s m args below meth c H locs 0 0 (ZI below s args D cA base ad σ0 r τ) (F0 m 133 ls []) := by
  intro v0 v1 v2 v3 v4 v5 v6 v7 σ H locs ls hT_v0 hG hS hE hl hF
  unfold F_X1_value_133 at hF
  refine lv_iinc (v := v7 + 1) (lv' := [(7, .int (v7 + 1)), (0, .ref (ad v0)), (1, .int v1), (2, .int v2), (3, .int v3), (4, .int v4), (5, .int v5), (6, .int v6)]) X.1 X.2.1 dX1_value_133 hl (k := 7) rfl rfl (by decide) rfl (fun ls hl => ?_)
  refine lv_goto (tgt := 6) X.1 X.2.1 dX1_value_136 (by decide) ?_
  exact hK_6 v0 v1 v2 v3 v4 v5 v6 (v7 + 1) σ _ _ ls hT_v0 hG hS hE (lv_sub hl [1, 2, 3, 4, 5, 6, 7, 0] rfl) hF
theorem w_X1_value_6 {σ0 τ : Hp} {r : Int32} (X : SX D cA base p s m args meth c cX1_value 9 (some .int) RX1) (n : Nat)  : ∀ f : Nat, ∀ (v0 : Nat) (v1 : Int32) (v2 : Int32) (v3 : Int32) (v4 : Int32) (v5 : Int32) (v6 : Int32) (v7 : Int32) (σ : Hp) (H : Heap) (locs : List Loc) (ls : Array Slot), hT σ v0 1 → GW D cA base ad σ H → va_S (bA base) s.heap H locs → xT σ0 σ → lv_has ls 9 [(0, .ref (ad v0)), (1, .int v1), (2, .int v2), (3, .int v3), (4, .int v4), (5, .int v5), (6, .int v6), (7, .int v7)] → F_X1_value_6 n  f v0 v1 v2 v3 v4 v5 v6 v7 σ = some (r, τ) → W p l e rm_X1_value s m args below meth c H locs 0 0 (ZI below s args D cA base ad σ0 r τ) (F0 m 6 ls []) := by
  intro f
  induction f with
  | zero => intro v0 v1 v2 v3 v4 v5 v6 v7 σ H locs ls h0 hG hS hE hl hF
            rw [F_X1_value_6] at hF; cases hF
  | succ f ih =>
    intro v0 v1 v2 v3 v4 v5 v6 v7 σ H locs ls hT_v0 hG hS hE hl hF
    rw [F_X1_value_6] at hF
    refine lv_iload X.1 X.2.1 dX1_value_6 (lv_at hl 7 rfl) ?_
    refine lv_aload_n X.1 X.2.1 dX1_value_8 rfl (lv_at hl 0 rfl) ?_
    refine gx_get 3 (v := .int (hI σ v0 3)) X hG hT_v0.1 (hT_v0.eq (by decide)) (by decide) rfl inX1 (by decide) k_499 (fun _ h => h) rfl dX1_value_9 ?_
    refine lv_icmp_ge (tgt := 139) X.1 X.2.1 dX1_value_12 (by decide) (fun hc => ?_) (fun hc => ?_)
    · replace hF := it_t hF hc
      exact w_X1_value_139 X n  v0 σ _ _ ls hT_v0 hG hS hE (lv_sub hl [0] rfl) hF
    · replace hF := it_f hF hc
      refine lv_iload X.1 X.2.1 dX1_value_15 (lv_at hl 7 rfl) ?_
      refine lv_aload_n X.1 X.2.1 dX1_value_17 rfl (lv_at hl 0 rfl) ?_
      obtain ⟨i4, hr, hF⟩ := b1_ex hF
      have hT_i4 : hT σ i4 13 := gw_T hG hT_v0 (by decide) hr
      refine gx_get 2 (v := .ref (ad i4)) X hG hT_v0.1 (hT_v0.eq (by decide)) (by decide) rfl inX1 (by decide) k_498 (fun _ h => h) (gx_rfv hr) dX1_value_18 ?_
      refine gx_alen (t0 := 0) X hG hT_i4 (by decide) (by decide) rfl dX1_value_21 ?_
      refine lv_icmp_ge (tgt := 139) X.1 X.2.1 dX1_value_22 (by decide) (fun hc => ?_) (fun hc => ?_)
      · replace hF := it_t hF hc
        exact w_X1_value_139 X n  v0 σ _ _ ls hT_v0 hG hS hE (lv_sub hl [0] rfl) hF
      · replace hF := it_f hF hc
        refine lv_aload_n X.1 X.2.1 dX1_value_25 rfl (lv_at hl 0 rfl) ?_
        obtain ⟨i5, hr, hF⟩ := b1_ex hF
        have hT_i5 : hT σ i5 13 := gw_T hG hT_v0 (by decide) hr
        refine gx_get 2 (v := .ref (ad i5)) X hG hT_v0.1 (hT_v0.eq (by decide)) (by decide) rfl inX1 (by decide) k_498 (fun _ h => h) (gx_rfv hr) dX1_value_26 ?_
        refine lv_iload X.1 X.2.1 dX1_value_29 (lv_at hl 7 rfl) ?_
        refine gx_iald X hG hT_i5 hF dX1_value_31 (fun hF => ?_)
        refine lv_istore (lv' := [(8, .int (hI σ i5 v7.toNatClampNeg)), (0, .ref (ad v0)), (1, .int v1), (2, .int v2), (3, .int v3), (4, .int v4), (5, .int v5), (6, .int v6), (7, .int v7)]) X.1 X.2.1 dX1_value_32 hl (by decide) rfl (fun ls hl => ?_)
        refine lv_iload X.1 X.2.1 dX1_value_34 (lv_at hl 0 rfl) ?_
        obtain ⟨r7, σ6, hz, hF⟩ := b2_ex hF
        refine gx_rI (gx_runS (As := [.int (hI σ i5 v7.toNatClampNeg)]) (rest := []) X hG hS (c_X1_isMark l D cA base ad σ n (hI σ i5 v7.toNatClampNeg) hz) k_420 k_418 k_419 k_14 (h_X1_isMark.2) rfl rfl ⟨by decide, by decide⟩ rfl hl.1 rfl (Nat.le_of_ble_eq_true rfl) dX1_value_36 ⟨Nat.zero_le _, Nat.zero_le _⟩) hS (fun H locs hG hS hX => ?_)
        have hT_v0 := hX.T hT_v0
        replace hE := hE.trans hX
        refine lv_if_eq (tgt := 96) X.1 X.2.1 dX1_value_39 (by decide) (fun hc => ?_) (fun hc => ?_)
        · replace hF := it_t hF hc
          refine lv_iload X.1 X.2.1 dX1_value_96 (lv_at hl 7 rfl) ?_
          refine lv_if_lt (tgt := 133) X.1 X.2.1 dX1_value_98 (by decide) (fun hc => ?_) (fun hc => ?_)
          · replace hF := it_t hF hc
            exact w_X1_value_133 X n (F_X1_value_6 n  f) ih v0 v1 v2 v3 v4 v5 v6 v7 σ6 _ _ ls hT_v0 hG hS hE (lv_sub hl [1, 2, 3, 4, 5, 6, 7, 8] rfl) hF
          · replace hF := it_f hF hc
            refine lv_iload X.1 X.2.1 dX1_value_101 (lv_at hl 7 rfl) ?_
            refine lv_aload_n X.1 X.2.1 dX1_value_103 rfl (lv_at hl 1 rfl) ?_
            obtain ⟨i8, hr, hF⟩ := b1_ex hF
            have hT_i8 : hT σ6 i8 13 := gw_T hG hT_v0 (by decide) hr
            refine gx_get 4 (v := .ref (ad i8)) X hG hT_v0.1 (hT_v0.eq (by decide)) (by decide) rfl inX1 (by decide) k_500 (fun _ h => h) (gx_rfv hr) dX1_value_104 ?_
            refine gx_alen (t0 := 0) X hG hT_i8 (by decide) (by decide) rfl dX1_value_107 ?_
            refine lv_icmp_ge (tgt := 133) X.1 X.2.1 dX1_value_108 (by decide) (fun hc => ?_) (fun hc => ?_)
            · replace hF := it_t hF hc
              exact w_X1_value_133 X n (F_X1_value_6 n  f) ih v0 v1 v2 v3 v4 v5 v6 v7 σ6 _ _ ls hT_v0 hG hS hE (lv_sub hl [1, 2, 3, 4, 5, 6, 7, 8] rfl) hF
            · replace hF := it_f hF hc
              refine lv_aload_n X.1 X.2.1 dX1_value_111 rfl (lv_at hl 1 rfl) ?_
              obtain ⟨i9, hr, hF⟩ := b1_ex hF
              have hT_i9 : hT σ6 i9 13 := gw_T hG hT_v0 (by decide) hr
              refine gx_get 4 (v := .ref (ad i9)) X hG hT_v0.1 (hT_v0.eq (by decide)) (by decide) rfl inX1 (by decide) k_500 (fun _ h => h) (gx_rfv hr) dX1_value_112 ?_
              refine lv_iload X.1 X.2.1 dX1_value_115 (lv_at hl 7 rfl) ?_
              refine lv_iload X.1 X.2.1 dX1_value_117 (lv_at hl 0 rfl) ?_
              refine lv_iload_n X.1 X.2.1 dX1_value_119 rfl (lv_at hl 2 rfl) ?_
              refine lv_iload_n X.1 X.2.1 dX1_value_120 rfl (lv_at hl 3 rfl) ?_
              refine lv_iload_n X.1 X.2.1 dX1_value_121 rfl (lv_at hl 4 rfl) ?_
              refine lv_iload X.1 X.2.1 dX1_value_122 (lv_at hl 5 rfl) ?_
              refine lv_iload X.1 X.2.1 dX1_value_124 (lv_at hl 6 rfl) ?_
              obtain ⟨r11, σ10, hz, hF⟩ := b2_ex hF
              refine gx_rI (gx_runS (As := [.int (hI σ i5 v7.toNatClampNeg), .int v1, .int v2, .int v3, .int v4, .int v5]) (rest := [.int v6, .ref (ad i9)]) X hG hS (c_X1_single l D cA base ad σ6 n (hI σ i5 v7.toNatClampNeg) v1 v2 v3 v4 v5 hz) k_426 k_424 k_425 k_14 (h_X1_single.2) rfl rfl ⟨by decide, by decide⟩ rfl hl.1 rfl (Nat.le_of_ble_eq_true rfl) dX1_value_126 ⟨Nat.zero_le _, Nat.zero_le _⟩) hS (fun H locs hG hS hX => ?_)
              have hT_v0 := hX.T hT_v0
              have hT_i9 := hX.T hT_i9
              replace hE := hE.trans hX
              refine gx_iast X hG hS hT_i9 hF dX1_value_129 (fun σ12 H locs hG hS hX hF => ?_)
              have hT_v0 := hX.T hT_v0
              replace hE := hE.trans hX
              refine lv_iinc (v := v6 + 1) (lv' := [(6, .int (v6 + 1)), (8, .int (hI σ i5 v7.toNatClampNeg)), (0, .ref (ad v0)), (1, .int v1), (2, .int v2), (3, .int v3), (4, .int v4), (5, .int v5), (7, .int v7)]) X.1 X.2.1 dX1_value_130 hl (k := 7) rfl rfl (by decide) rfl (fun ls hl => ?_)
              exact w_X1_value_133 X n (F_X1_value_6 n  f) ih v0 v1 v2 v3 v4 v5 (v6 + 1) v7 σ12 _ _ ls hT_v0 hG hS hE (lv_sub hl [2, 3, 4, 5, 6, 7, 0, 8] rfl) hF
        · replace hF := it_f hF hc
          refine lv_iload X.1 X.2.1 dX1_value_42 (lv_at hl 7 rfl) ?_
          refine lv_iconst (v := 2) X.1 X.2.1 dX1_value_44 (by decide) ?_
          refine lv_icmp_lt (tgt := 133) X.1 X.2.1 dX1_value_45 (by decide) (fun hc => ?_) (fun hc => ?_)
          · replace hF := it_t hF hc
            exact w_X1_value_133 X n (F_X1_value_6 n  f) ih v0 v1 v2 v3 v4 v5 v6 v7 σ6 _ _ ls hT_v0 hG hS hE (lv_sub hl [1, 2, 3, 4, 5, 6, 7, 8] rfl) hF
          · replace hF := it_f hF hc
            refine lv_iload X.1 X.2.1 dX1_value_48 (lv_at hl 7 rfl) ?_
            refine lv_aload_n X.1 X.2.1 dX1_value_50 rfl (lv_at hl 1 rfl) ?_
            obtain ⟨i13, hr, hF⟩ := b1_ex hF
            have hT_i13 : hT σ6 i13 13 := gw_T hG hT_v0 (by decide) hr
            refine gx_get 4 (v := .ref (ad i13)) X hG hT_v0.1 (hT_v0.eq (by decide)) (by decide) rfl inX1 (by decide) k_500 (fun _ h => h) (gx_rfv hr) dX1_value_51 ?_
            refine gx_alen (t0 := 0) X hG hT_i13 (by decide) (by decide) rfl dX1_value_54 ?_
            refine lv_icmp_gt (tgt := 133) X.1 X.2.1 dX1_value_55 (by decide) (fun hc => ?_) (fun hc => ?_)
            · replace hF := it_t hF hc
              exact w_X1_value_133 X n (F_X1_value_6 n  f) ih v0 v1 v2 v3 v4 v5 v6 v7 σ6 _ _ ls hT_v0 hG hS hE (lv_sub hl [1, 2, 3, 4, 5, 6, 7, 8] rfl) hF
            · replace hF := it_f hF hc
              refine lv_aload_n X.1 X.2.1 dX1_value_58 rfl (lv_at hl 1 rfl) ?_
              obtain ⟨i14, hr, hF⟩ := b1_ex hF
              have hT_i14 : hT σ6 i14 13 := gw_T hG hT_v0 (by decide) hr
              refine gx_get 4 (v := .ref (ad i14)) X hG hT_v0.1 (hT_v0.eq (by decide)) (by decide) rfl inX1 (by decide) k_500 (fun _ h => h) (gx_rfv hr) dX1_value_59 ?_
              refine lv_iload X.1 X.2.1 dX1_value_62 (lv_at hl 7 rfl) ?_
              refine lv_iconst (v := 2) X.1 X.2.1 dX1_value_64 (by decide) ?_
              refine lv_isub X.1 X.2.1 dX1_value_65 ?_
              refine lv_iload X.1 X.2.1 dX1_value_66 (lv_at hl 0 rfl) ?_
              refine lv_aload_n X.1 X.2.1 dX1_value_68 rfl (lv_at hl 1 rfl) ?_
              obtain ⟨i15, hr, hF⟩ := b1_ex hF
              have hT_i15 : hT σ6 i15 13 := gw_T hG hT_v0 (by decide) hr
              refine gx_get 4 (v := .ref (ad i15)) X hG hT_v0.1 (hT_v0.eq (by decide)) (by decide) rfl inX1 (by decide) k_500 (fun _ h => h) (gx_rfv hr) dX1_value_69 ?_
              refine lv_iload X.1 X.2.1 dX1_value_72 (lv_at hl 7 rfl) ?_
              refine lv_iconst (v := 2) X.1 X.2.1 dX1_value_74 (by decide) ?_
              refine lv_isub X.1 X.2.1 dX1_value_75 ?_
              refine gx_iald X hG hT_i15 hF dX1_value_76 (fun hF => ?_)
              refine lv_aload_n X.1 X.2.1 dX1_value_77 rfl (lv_at hl 1 rfl) ?_
              obtain ⟨i16, hr, hF⟩ := b1_ex hF
              have hT_i16 : hT σ6 i16 13 := gw_T hG hT_v0 (by decide) hr
              refine gx_get 4 (v := .ref (ad i16)) X hG hT_v0.1 (hT_v0.eq (by decide)) (by decide) rfl inX1 (by decide) k_500 (fun _ h => h) (gx_rfv hr) dX1_value_78 ?_
              refine lv_iload X.1 X.2.1 dX1_value_81 (lv_at hl 7 rfl) ?_
              refine lv_iconst (v := 1) X.1 X.2.1 dX1_value_83 (by decide) ?_
              refine lv_isub X.1 X.2.1 dX1_value_84 ?_
              refine gx_iald X hG hT_i16 hF dX1_value_85 (fun hF => ?_)
              obtain ⟨r18, σ17, hz, hF⟩ := b2_ex hF
              refine gx_rI (gx_runS (As := [.int (hI σ i5 v7.toNatClampNeg), .int (hI σ6 i15 (v6 - 2).toNatClampNeg), .int (hI σ6 i16 (v6 - 1).toNatClampNeg)]) (rest := [.int (v6 - 2), .ref (ad i14)]) X hG hS (c_X1_joined l D cA base ad σ6 n (hI σ i5 v7.toNatClampNeg) (hI σ6 i15 (v6 - 2).toNatClampNeg) (hI σ6 i16 (v6 - 1).toNatClampNeg) hz) k_423 k_421 k_422 k_14 (h_X1_joined.2) rfl rfl ⟨by decide, by decide⟩ rfl hl.1 rfl (Nat.le_of_ble_eq_true rfl) dX1_value_86 ⟨Nat.zero_le _, Nat.zero_le _⟩) hS (fun H locs hG hS hX => ?_)
              have hT_v0 := hX.T hT_v0
              have hT_i14 := hX.T hT_i14
              replace hE := hE.trans hX
              refine gx_iast X hG hS hT_i14 hF dX1_value_89 (fun σ19 H locs hG hS hX hF => ?_)
              have hT_v0 := hX.T hT_v0
              replace hE := hE.trans hX
              refine lv_iinc (v := v6 + (-1)) (lv' := [(6, .int (v6 + (-1))), (8, .int (hI σ i5 v7.toNatClampNeg)), (0, .ref (ad v0)), (1, .int v1), (2, .int v2), (3, .int v3), (4, .int v4), (5, .int v5), (7, .int v7)]) X.1 X.2.1 dX1_value_90 hl (k := 7) rfl rfl (by decide) rfl (fun ls hl => ?_)
              refine lv_goto (tgt := 133) X.1 X.2.1 dX1_value_93 (by decide) ?_
              exact w_X1_value_133 X n (F_X1_value_6 n  f) ih v0 v1 v2 v3 v4 v5 (v6 + (-1)) v7 σ19 _ _ ls hT_v0 hG hS hE (lv_sub hl [2, 3, 4, 5, 6, 7, 0, 8] rfl) hF
theorem c_X1_value (l : Launch) (D : va_G) (cA : Nat → ClassId) (base : Nat) (ad : Nat → Nat) (σ : Hp) (n : Nat) (a0 : Nat) (a1 : Int32) (a2 : Int32) (a3 : Int32) (a4 : Int32) (a5 : Int32) (hT_a0 : hT σ a0 1) {τ : Hp} {r : Int32} (hF : F_X1_value n a0 a1 a2 a3 a4 a5 σ = some (r, τ)) : MI l yX1_value cX1_value 9 (some .int) rm_X1_value D cA base ad σ [.ref (ad a0), .int a1, .int a2, .int a3, .int a4, .int a5] r τ := by
  refine Met.ofW (cc := cX1_value) (maxL := 9) (ret := (some .int)) (by decide) rfl ?_
  intro p e s m args below meth c s₁ B hml hv
  obtain ⟨rfl, hv⟩ := hv
  have X : SX D cA base p s m ([.ref (ad a0), .int a1, .int a2, .int a3, .int a4, .int a5] : List Value).toArray meth c cX1_value 9 (some .int) RX1 := sx_of B hml hv
  have hG := hv.1
  have hS : va_S (bA base) s.heap s.heap [] := va_S.rf
  have hE := xT.rf σ
  have hl := lv_entry ([.ref (ad a0), .int a1, .int a2, .int a3, .int a4, .int a5]) (n := 9) (Nat.le_of_ble_eq_true rfl)
  rw [lg_entry_eq]
  generalize (lg_sl ([.ref (ad a0), .int a1, .int a2, .int a3, .int a4, .int a5]) ++ List.replicate (9 - (lg_sl ([.ref (ad a0), .int a1, .int a2, .int a3, .int a4, .int a5])).length) Slot.unset).toArray = ls at hl ⊢
  have hl : lv_has ls 9 [(0, .ref (ad a0)), (1, .int a1), (2, .int a2), (3, .int a3), (4, .int a4), (5, .int a5)] := hl
  unfold F_X1_value at hF
  refine lv_iconst (v := 0) X.1 X.2.1 dX1_value_0 (by decide) ?_
  refine lv_istore (lv' := [(6, .int 0), (0, .ref (ad a0)), (1, .int a1), (2, .int a2), (3, .int a3), (4, .int a4), (5, .int a5)]) X.1 X.2.1 dX1_value_1 hl (by decide) rfl (fun ls hl => ?_)
  refine lv_iconst (v := 0) X.1 X.2.1 dX1_value_3 (by decide) ?_
  refine lv_istore (lv' := [(7, .int 0), (6, .int 0), (0, .ref (ad a0)), (1, .int a1), (2, .int a2), (3, .int a3), (4, .int a4), (5, .int a5)]) X.1 X.2.1 dX1_value_4 hl (by decide) rfl (fun ls hl => ?_)
  exact w_X1_value_6 X n  n a0 a1 a2 a3 a4 a5 0 0 σ _ _ ls hT_a0 hG hS hE (lv_sub hl [2, 3, 4, 5, 6, 7, 1, 0] rfl) hF
theorem c_X3_leaning (l : Launch) (D : va_G) (cA : Nat → ClassId) (base : Nat) (ad : Nat → Nat) (σ : Hp) (n : Nat) (a0 : Nat) (a1 : Int32) (a2 : Int32) (a3 : Int32) (hT_a0 : hT σ a0 3) {τ : Hp} {r : Int32} (hF : F_X3_leaning n a0 a1 a2 a3 σ = some (r, τ)) : MI l yX3_leaning cX3_leaning 7 (some .int) rm_X3_leaning D cA base ad σ [.ref (ad a0), .int a1, .int a2, .int a3] r τ := by
  refine Met.ofW (cc := cX3_leaning) (maxL := 7) (ret := (some .int)) (by decide) rfl ?_
  intro p e s m args below meth c s₁ B hml hv
  obtain ⟨rfl, hv⟩ := hv
  have X : SX D cA base p s m ([.ref (ad a0), .int a1, .int a2, .int a3] : List Value).toArray meth c cX3_leaning 7 (some .int) RX3 := sx_of B hml hv
  have hG := hv.1
  have hS : va_S (bA base) s.heap s.heap [] := va_S.rf
  have hE := xT.rf σ
  have hl := lv_entry ([.ref (ad a0), .int a1, .int a2, .int a3]) (n := 7) (Nat.le_of_ble_eq_true rfl)
  rw [lg_entry_eq]
  generalize (lg_sl ([.ref (ad a0), .int a1, .int a2, .int a3]) ++ List.replicate (7 - (lg_sl ([.ref (ad a0), .int a1, .int a2, .int a3])).length) Slot.unset).toArray = ls at hl ⊢
  have hl : lv_has ls 7 [(0, .ref (ad a0)), (1, .int a1), (2, .int a2), (3, .int a3)] := hl
  unfold F_X3_leaning at hF
  refine lv_aload_n X.1 X.2.1 dX3_leaning_0 rfl (lv_at hl 0 rfl) ?_
  refine lv_iload_n X.1 X.2.1 dX3_leaning_1 rfl (lv_at hl 1 rfl) ?_
  obtain ⟨r2, σ1, hz, hF⟩ := b2_ex hF
  refine gx_rQ (gx_runV (As := [.int a1]) (rest := []) X hG hS hT_a0.1 (hT_a0.eq (by decide)) (by decide) rfl (c_X3_turnAt l D cA base ad σ n a0 a1 hT_a0 hz) k_383 k_413 k_381 k_382 k_2 (h_X3_turnAt) rfl rfl ⟨by decide, by decide⟩ rfl hl.1 rfl (Nat.le_of_ble_eq_true rfl) dX3_leaning_2 ⟨Nat.zero_le _, Nat.zero_le _⟩) hS (fun H locs hG hS hX hO_r2 => ?_)
  have hT_a0 := hX.T hT_a0
  replace hE := hE.trans hX
  refine gx_astore (lv' := [(4, va_rf (Option.map ad r2)), (0, .ref (ad a0)), (1, .int a1), (2, .int a2), (3, .int a3)]) X.1 X.2.1 dX3_leaning_5 hl (by decide) (by cases r2 <;> rfl) (fun ls hl => ?_)
  refine lv_aload_n X.1 X.2.1 dX3_leaning_7 rfl (lv_at hl 1 rfl) ?_
  obtain ⟨i3, hr, hF⟩ := b1_ex hF
  have hT_i3 : hT σ1 i3 13 := gw_T hG hT_a0 (by decide) hr
  refine gx_get 16 (v := .ref (ad i3)) X hG hT_a0.1 (hT_a0.eq (by decide)) (by decide) rfl inX3 (by decide) k_76 (fun _ h => h) (gx_rfv hr) dX3_leaning_8 ?_
  refine lv_iload_n X.1 X.2.1 dX3_leaning_11 rfl (lv_at hl 2 rfl) ?_
  obtain ⟨r5, σ4, hz, hF⟩ := b2_ex hF
  refine gx_rI (gx_runSN (As := [.ref (ad i3), .int a1]) (rest := []) X hG hS (c_X11_at l D cA base ad σ1 n i3 a1 hT_i3 hz) k_362 q_360 k_361 k_1 (h_X11_at.2) rfl rfl ⟨by decide, by decide⟩ rfl hl.1 rfl (Nat.le_of_ble_eq_true rfl) dX3_leaning_12 ⟨Nat.zero_le _, Nat.zero_le _⟩) hS (fun H locs hG hS hX => ?_)
  have hT_a0 := hX.T hT_a0
  have hO_r2 := hX.O hO_r2
  replace hE := hE.trans hX
  refine lv_istore (lv' := [(5, .int r5), (4, va_rf (Option.map ad r2)), (0, .ref (ad a0)), (1, .int a1), (2, .int a2), (3, .int a3)]) X.1 X.2.1 dX3_leaning_15 hl (by decide) (by cases r2 <;> rfl) (fun ls hl => ?_)
  refine lv_aload_n X.1 X.2.1 dX3_leaning_17 rfl (lv_at hl 2 rfl) ?_
  obtain ⟨i6, hr, hF⟩ := b1_ex hF
  have hT_i6 : hT σ4 i6 13 := gw_T hG hT_a0 (by decide) hr
  refine gx_get 17 (v := .ref (ad i6)) X hG hT_a0.1 (hT_a0.eq (by decide)) (by decide) rfl inX3 (by decide) k_78 (fun _ h => h) (gx_rfv hr) dX3_leaning_18 ?_
  refine lv_iload_n X.1 X.2.1 dX3_leaning_21 rfl (lv_at hl 3 rfl) ?_
  obtain ⟨r8, σ7, hz, hF⟩ := b2_ex hF
  refine gx_rI (gx_runSN (As := [.ref (ad i6), .int a1]) (rest := []) X hG hS (c_X11_at l D cA base ad σ4 n i6 a1 hT_i6 hz) k_362 q_360 k_361 k_1 (h_X11_at.2) rfl rfl ⟨by decide, by decide⟩ rfl hl.1 rfl (Nat.le_of_ble_eq_true rfl) dX3_leaning_22 ⟨Nat.zero_le _, Nat.zero_le _⟩) hS (fun H locs hG hS hX => ?_)
  have hT_a0 := hX.T hT_a0
  have hO_r2 := hX.O hO_r2
  replace hE := hE.trans hX
  refine lv_istore (lv' := [(6, .int r8), (5, .int r5), (4, va_rf (Option.map ad r2)), (0, .ref (ad a0)), (1, .int a1), (2, .int a2), (3, .int a3)]) X.1 X.2.1 dX3_leaning_25 hl (by decide) (by cases r2 <;> rfl) (fun ls hl => ?_)
  refine gx_aload X.1 X.2.1 dX3_leaning_27 (lv_at hl 2 rfl) ?_
  refine gx_ifnull (tgt := 40) X.1 X.2.1 dX3_leaning_29 (by decide) hF (fun hr hF2i9 => ?_) (fun i9 hr hF2i9 => ?_)
  · subst hr
    have hF := hF2i9
    have hl : lv_has ls 7 [(6, .int r8), (5, .int r5), (4, .null), (0, .ref (ad a0)), (1, .int a1), (2, .int a2), (3, .int a3)] := hl
    refine lv_iload X.1 X.2.1 dX3_leaning_40 (lv_at hl 1 rfl) ?_
    refine lv_iload X.1 X.2.1 dX3_leaning_42 (lv_at hl 0 rfl) ?_
    refine lv_iadd X.1 X.2.1 dX3_leaning_44 ?_
    exact gx_iret X hG hS hE hF dX3_leaning_45
  · subst hr
    have hF := hF2i9
    have hT_i9 := hO_r2 i9 rfl
    have hl : lv_has ls 7 [(6, .int r8), (5, .int r5), (4, .ref (ad i9)), (0, .ref (ad a0)), (1, .int a1), (2, .int a2), (3, .int a3)] := hl
    refine lv_aload X.1 X.2.1 dX3_leaning_32 (lv_at hl 2 rfl) ?_
    obtain ⟨q10, hr, hF⟩ := lt_ex hF
    have hO_q10 : oT σ7 q10 1 := by rw [hr]; exact gw_law hG hT_i9
    refine gx_getT 7 (v := va_rf (Option.map ad q10)) X hG hT_i9 (by decide) k_227 (fun _ h => h) (by rw [hr]; rfl) dX3_leaning_34 ?_
    refine gx_ifnonnull (tgt := 46) X.1 X.2.1 dX3_leaning_37 (by decide) hF (fun hr hF2i11 => ?_) (fun i11 hr hF2i11 => ?_)
    · subst hr
      have hF := hF2i11
      have hl : lv_has ls 7 [(6, .int r8), (5, .int r5), (4, .ref (ad i9)), (0, .ref (ad a0)), (1, .int a1), (2, .int a2), (3, .int a3)] := hl
      refine lv_iload X.1 X.2.1 dX3_leaning_40 (lv_at hl 1 rfl) ?_
      refine lv_iload X.1 X.2.1 dX3_leaning_42 (lv_at hl 0 rfl) ?_
      refine lv_iadd X.1 X.2.1 dX3_leaning_44 ?_
      exact gx_iret X hG hS hE hF dX3_leaning_45
    · subst hr
      have hF := hF2i11
      have hT_i11 := hO_q10 i11 rfl
      have hl : lv_has ls 7 [(6, .int r8), (5, .int r5), (4, .ref (ad i9)), (0, .ref (ad a0)), (1, .int a1), (2, .int a2), (3, .int a3)] := hl
      refine lv_aload X.1 X.2.1 dX3_leaning_46 (lv_at hl 2 rfl) ?_
      obtain ⟨q12, hr, hF⟩ := lt_ex hF
      have hO_q12 : oT σ7 q12 1 := by rw [hr]; exact gw_law hG hT_i9
      refine gx_getT 7 (v := va_rf (Option.map ad q12)) X hG hT_i9 (by decide) k_227 (fun _ h => h) (by rw [hr]; rfl) dX3_leaning_48 ?_
      refine lv_iload X.1 X.2.1 dX3_leaning_51 (lv_at hl 1 rfl) ?_
      refine lv_iload X.1 X.2.1 dX3_leaning_53 (lv_at hl 0 rfl) ?_
      refine lv_iload_n X.1 X.2.1 dX3_leaning_55 rfl (lv_at hl 5 rfl) ?_
      refine lv_iload_n X.1 X.2.1 dX3_leaning_56 rfl (lv_at hl 6 rfl) ?_
      refine lv_aload_n X.1 X.2.1 dX3_leaning_57 rfl (lv_at hl 3 rfl) ?_
      refine gx_get 10 (v := .int (hI σ7 a0 10)) X hG hT_a0.1 (hT_a0.eq (by decide)) (by decide) rfl inX3 (by decide) k_63 (fun _ h => h) rfl dX3_leaning_58 ?_
      obtain ⟨i13, hr, hF2i13⟩ := b1_ex hF
      subst hr
      have hF := hF2i13
      have hT_i13 := hO_q12 i13 rfl
      have hl : lv_has ls 7 [(6, .int r8), (5, .int r5), (4, .ref (ad i9)), (0, .ref (ad a0)), (1, .int a1), (2, .int a2), (3, .int a3)] := hl
      obtain ⟨r15, σ14, hz, hF⟩ := b2_ex hF
      refine gx_rI (gx_runV (As := [.int r5, .int r8, .int a2, .int a3, .int (hI σ7 a0 10)]) (rest := []) X hG hS hT_i13.1 (hT_i13.eq (by decide)) (by decide) rfl (c_X1_value l D cA base ad σ7 n i13 r5 r8 a2 a3 (hI σ7 a0 10) hT_i13 hz) k_417 k_414 k_415 k_416 k_14 (h_X1_value) rfl rfl ⟨by decide, by decide⟩ rfl hl.1 rfl (Nat.le_of_ble_eq_true rfl) dX3_leaning_61 ⟨Nat.zero_le _, Nat.zero_le _⟩) hS (fun H locs hG hS hX => ?_)
      have hT_a0 := hX.T hT_a0
      have hT_i9 := hX.T hT_i9
      replace hE := hE.trans hX
      exact gx_iret X hG hS hE hF dX3_leaning_64
theorem c_X11_leans (l : Launch) (D : va_G) (cA : Nat → ClassId) (base : Nat) (ad : Nat → Nat) (σ : Hp) (n : Nat) (a0 : Nat) (a1 : Int32) (hT_a0 : hT σ a0 11) {τ : Hp} {r : Int32} (hF : F_X11_leans n a0 a1 σ = some (r, τ)) : MI l yX11_leans cX11_leans 2 (some .int) rm_X11_leans D cA base ad σ [.ref (ad a0), .int a1] r τ := by
  refine Met.ofW (cc := cX11_leans) (maxL := 2) (ret := (some .int)) (by decide) rfl ?_
  intro p e s m args below meth c s₁ B hml hv
  obtain ⟨rfl, hv⟩ := hv
  have X : SX D cA base p s m ([.ref (ad a0), .int a1] : List Value).toArray meth c cX11_leans 2 (some .int) RX11 := sx_of B hml hv
  have hG := hv.1
  have hS : va_S (bA base) s.heap s.heap [] := va_S.rf
  have hE := xT.rf σ
  have hl := lv_entry ([.ref (ad a0), .int a1]) (n := 2) (Nat.le_of_ble_eq_true rfl)
  rw [lg_entry_eq]
  generalize (lg_sl ([.ref (ad a0), .int a1]) ++ List.replicate (2 - (lg_sl ([.ref (ad a0), .int a1])).length) Slot.unset).toArray = ls at hl ⊢
  have hl : lv_has ls 2 [(0, .ref (ad a0)), (1, .int a1)] := hl
  unfold F_X11_leans at hF
  refine lv_aload_n X.1 X.2.1 dX11_leans_0 rfl (lv_at hl 0 rfl) ?_
  obtain ⟨i1, hr, hF⟩ := b1_ex hF
  have hT_i1 : hT σ i1 3 := gw_T hG hT_a0 (by decide) hr
  refine gx_get 0 (v := .ref (ad i1)) X hG hT_a0.1 (hT_a0.eq (by decide)) (by decide) rfl inX11 (by decide) k_151 (fun _ h => h) (gx_rfv hr) dX11_leans_1 ?_
  refine lv_iload_n X.1 X.2.1 dX11_leans_4 rfl (lv_at hl 1 rfl) ?_
  obtain ⟨r3, σ2, hz, hF⟩ := b2_ex hF
  refine gx_rI (gx_runV (As := [.int a1]) (rest := []) X hG hS hT_i1.1 (hT_i1.eq (by decide)) (by decide) rfl (c_X3_isSeat l D cA base ad σ n i1 a1 hT_i1 hz) k_374 k_371 k_372 k_373 k_2 (h_X3_isSeat) rfl rfl ⟨by decide, by decide⟩ rfl hl.1 rfl (Nat.le_of_ble_eq_true rfl) dX11_leans_5 ⟨Nat.zero_le _, Nat.zero_le _⟩) hS (fun H locs hG hS hX => ?_)
  have hT_a0 := hX.T hT_a0
  replace hE := hE.trans hX
  refine lv_if_ne (tgt := 14) X.1 X.2.1 dX11_leans_8 (by decide) (fun hc => ?_) (fun hc => ?_)
  · replace hF := it_f hF hc
    refine lv_aload_n X.1 X.2.1 dX11_leans_14 rfl (lv_at hl 0 rfl) ?_
    obtain ⟨i4, hr, hF⟩ := b1_ex hF
    have hT_i4 : hT σ2 i4 3 := gw_T hG hT_a0 (by decide) hr
    refine gx_get 0 (v := .ref (ad i4)) X hG hT_a0.1 (hT_a0.eq (by decide)) (by decide) rfl inX11 (by decide) k_151 (fun _ h => h) (gx_rfv hr) dX11_leans_15 ?_
    refine gx_getN 8 (v := .int (hI σ2 i4 8)) X hG hT_i4.1 (hT_i4.eq (by decide)) (by decide) rfl inX3 (by decide) q_58 (fun _ h => h) rfl dX11_leans_18 ?_
    refine lv_if_eq (tgt := 49) X.1 X.2.1 dX11_leans_21 (by decide) (fun hc => ?_) (fun hc => ?_)
    · replace hF := it_t hF hc
      refine lv_aload_n X.1 X.2.1 dX11_leans_49 rfl (lv_at hl 0 rfl) ?_
      obtain ⟨i5, hr, hF⟩ := b1_ex hF
      have hT_i5 : hT σ2 i5 3 := gw_T hG hT_a0 (by decide) hr
      refine gx_get 0 (v := .ref (ad i5)) X hG hT_a0.1 (hT_a0.eq (by decide)) (by decide) rfl inX11 (by decide) k_151 (fun _ h => h) (gx_rfv hr) dX11_leans_50 ?_
      refine lv_iload_n X.1 X.2.1 dX11_leans_53 rfl (lv_at hl 1 rfl) ?_
      refine lv_iconst (v := 0) X.1 X.2.1 dX11_leans_54 (by decide) ?_
      refine lv_iconst (v := 0) X.1 X.2.1 dX11_leans_55 (by decide) ?_
      obtain ⟨r7, σ6, hz, hF⟩ := b2_ex hF
      refine gx_rI (gx_runV (As := [.int a1, .int 0, .int 0]) (rest := []) X hG hS hT_i5.1 (hT_i5.eq (by decide)) (by decide) rfl (c_X3_leaning l D cA base ad σ2 n i5 a1 0 0 hT_i5 hz) k_412 k_409 k_410 k_411 k_2 (h_X3_leaning) rfl rfl ⟨by decide, by decide⟩ rfl hl.1 rfl (Nat.le_of_ble_eq_true rfl) dX11_leans_56 ⟨Nat.zero_le _, Nat.zero_le _⟩) hS (fun H locs hG hS hX => ?_)
      have hT_a0 := hX.T hT_a0
      replace hE := hE.trans hX
      exact gx_iret X hG hS hE hF dX11_leans_59
    · replace hF := it_f hF hc
      refine lv_aload_n X.1 X.2.1 dX11_leans_24 rfl (lv_at hl 0 rfl) ?_
      obtain ⟨i8, hr, hF⟩ := b1_ex hF
      have hT_i8 : hT σ2 i8 3 := gw_T hG hT_a0 (by decide) hr
      refine gx_get 0 (v := .ref (ad i8)) X hG hT_a0.1 (hT_a0.eq (by decide)) (by decide) rfl inX11 (by decide) k_151 (fun _ h => h) (gx_rfv hr) dX11_leans_25 ?_
      refine lv_iload_n X.1 X.2.1 dX11_leans_28 rfl (lv_at hl 1 rfl) ?_
      refine lv_aload_n X.1 X.2.1 dX11_leans_29 rfl (lv_at hl 0 rfl) ?_
      obtain ⟨i9, hr, hF⟩ := b1_ex hF
      have hT_i9 : hT σ2 i9 3 := gw_T hG hT_a0 (by decide) hr
      refine gx_get 0 (v := .ref (ad i9)) X hG hT_a0.1 (hT_a0.eq (by decide)) (by decide) rfl inX11 (by decide) k_151 (fun _ h => h) (gx_rfv hr) dX11_leans_30 ?_
      obtain ⟨r11, σ10, hz, hF⟩ := b2_ex hF
      refine gx_rI (gx_runV (As := []) (rest := [.int a1, .ref (ad i8)]) X hG hS hT_i9.1 (hT_i9.eq (by decide)) (by decide) rfl (c_X3_yes l D cA base ad σ2 n i9 hT_i9 hz) k_397 k_394 k_395 k_396 k_2 (h_X3_yes) rfl rfl ⟨by decide, by decide⟩ rfl hl.1 rfl (Nat.le_of_ble_eq_true rfl) dX11_leans_33 ⟨Nat.zero_le _, Nat.zero_le _⟩) hS (fun H locs hG hS hX => ?_)
      have hT_a0 := hX.T hT_a0
      have hT_i8 := hX.T hT_i8
      replace hE := hE.trans hX
      refine lv_aload_n X.1 X.2.1 dX11_leans_36 rfl (lv_at hl 0 rfl) ?_
      obtain ⟨i12, hr, hF⟩ := b1_ex hF
      have hT_i12 : hT σ10 i12 3 := gw_T hG hT_a0 (by decide) hr
      refine gx_get 0 (v := .ref (ad i12)) X hG hT_a0.1 (hT_a0.eq (by decide)) (by decide) rfl inX11 (by decide) k_151 (fun _ h => h) (gx_rfv hr) dX11_leans_37 ?_
      obtain ⟨r14, σ13, hz, hF⟩ := b2_ex hF
      refine gx_rI (gx_runV (As := []) (rest := [.int r11, .int a1, .ref (ad i8)]) X hG hS hT_i12.1 (hT_i12.eq (by decide)) (by decide) rfl (c_X3_no l D cA base ad σ10 n i12 hT_i12 hz) k_407 k_404 k_405 k_406 k_2 (h_X3_no) rfl rfl ⟨by decide, by decide⟩ rfl hl.1 rfl (Nat.le_of_ble_eq_true rfl) dX11_leans_40 ⟨Nat.zero_le _, Nat.zero_le _⟩) hS (fun H locs hG hS hX => ?_)
      have hT_a0 := hX.T hT_a0
      have hT_i8 := hX.T hT_i8
      replace hE := hE.trans hX
      obtain ⟨r16, σ15, hz, hF⟩ := b2_ex hF
      refine gx_rI (gx_runV (As := [.int a1, .int r11, .int r14]) (rest := []) X hG hS hT_i8.1 (hT_i8.eq (by decide)) (by decide) rfl (c_X3_leaning l D cA base ad σ13 n i8 a1 r11 r14 hT_i8 hz) k_412 k_409 k_410 k_411 k_2 (h_X3_leaning) rfl rfl ⟨by decide, by decide⟩ rfl hl.1 rfl (Nat.le_of_ble_eq_true rfl) dX11_leans_43 ⟨Nat.zero_le _, Nat.zero_le _⟩) hS (fun H locs hG hS hX => ?_)
      have hT_a0 := hX.T hT_a0
      replace hE := hE.trans hX
      refine lv_goto (tgt := 59) X.1 X.2.1 dX11_leans_46 (by decide) ?_
      exact gx_iret X hG hS hE hF dX11_leans_59
  · replace hF := it_t hF hc
    refine lv_ldc (v := (-1000000001)) X.1 X.2.1 X.2.2.2.2.2.1 (X.w k_385) dX11_leans_11 ?_
    exact gx_iret X hG hS hE hF dX11_leans_13
theorem c_X11_shelfAt (l : Launch) (D : va_G) (cA : Nat → ClassId) (base : Nat) (ad : Nat → Nat) (σ : Hp) (n : Nat) (a0 : Nat) (a1 : Int32) (hT_a0 : hT σ a0 11) {τ : Hp} {r : Option Nat} (hF : F_X11_shelfAt n a0 a1 σ = some (r, τ)) : MQ2 l yX11_shelfAt cX11_shelfAt 2 (some (.object "ElevenOne$Shelf")) rm_X11_shelfAt D cA base ad σ [.ref (ad a0), .int a1] r τ 5 := by
  refine Met.ofW (cc := cX11_shelfAt) (maxL := 2) (ret := (some (.object "ElevenOne$Shelf"))) (by decide) rfl ?_
  intro p e s m args below meth c s₁ B hml hv
  obtain ⟨rfl, hv⟩ := hv
  have X : SX D cA base p s m ([.ref (ad a0), .int a1] : List Value).toArray meth c cX11_shelfAt 2 (some (.object "ElevenOne$Shelf")) RX11 := sx_of B hml hv
  have hG := hv.1
  have hS : va_S (bA base) s.heap s.heap [] := va_S.rf
  have hE := xT.rf σ
  have hl := lv_entry ([.ref (ad a0), .int a1]) (n := 2) (Nat.le_of_ble_eq_true rfl)
  rw [lg_entry_eq]
  generalize (lg_sl ([.ref (ad a0), .int a1]) ++ List.replicate (2 - (lg_sl ([.ref (ad a0), .int a1])).length) Slot.unset).toArray = ls at hl ⊢
  have hl : lv_has ls 2 [(0, .ref (ad a0)), (1, .int a1)] := hl
  unfold F_X11_shelfAt at hF
  refine lv_iload_n X.1 X.2.1 dX11_shelfAt_0 rfl (lv_at hl 1 rfl) ?_
  refine lv_if_lt (tgt := 22) X.1 X.2.1 dX11_shelfAt_1 (by decide) (fun hc => ?_) (fun hc => ?_)
  · replace hF := it_t hF hc
    refine lv_null X.1 X.2.1 dX11_shelfAt_22 ?_
    exact gx_qret (v := none) X hG hS hE oT.none hF dX11_shelfAt_23
  · replace hF := it_f hF hc
    refine lv_iload_n X.1 X.2.1 dX11_shelfAt_4 rfl (lv_at hl 1 rfl) ?_
    refine lv_aload_n X.1 X.2.1 dX11_shelfAt_5 rfl (lv_at hl 0 rfl) ?_
    obtain ⟨i1, hr, hF⟩ := b1_ex hF
    have hT_i1 : hT σ i1 15 := gw_T hG hT_a0 (by decide) hr
    refine gx_get 4 (v := .ref (ad i1)) X hG hT_a0.1 (hT_a0.eq (by decide)) (by decide) rfl inX11 (by decide) k_155 (fun _ h => h) (gx_rfv hr) dX11_shelfAt_6 ?_
    refine gx_alen (t0 := 2) X hG hT_i1 (by decide) (by decide) rfl dX11_shelfAt_9 ?_
    refine lv_icmp_ge (tgt := 22) X.1 X.2.1 dX11_shelfAt_10 (by decide) (fun hc => ?_) (fun hc => ?_)
    · replace hF := it_t hF hc
      refine lv_null X.1 X.2.1 dX11_shelfAt_22 ?_
      exact gx_qret (v := none) X hG hS hE oT.none hF dX11_shelfAt_23
    · replace hF := it_f hF hc
      refine lv_aload_n X.1 X.2.1 dX11_shelfAt_13 rfl (lv_at hl 0 rfl) ?_
      obtain ⟨i2, hr, hF⟩ := b1_ex hF
      have hT_i2 : hT σ i2 15 := gw_T hG hT_a0 (by decide) hr
      refine gx_get 4 (v := .ref (ad i2)) X hG hT_a0.1 (hT_a0.eq (by decide)) (by decide) rfl inX11 (by decide) k_155 (fun _ h => h) (gx_rfv hr) dX11_shelfAt_14 ?_
      refine lv_iload_n X.1 X.2.1 dX11_shelfAt_17 rfl (lv_at hl 1 rfl) ?_
      refine gx_qald (t0 := 2) X hG hT_i2 (by decide) (by decide) rfl hF dX11_shelfAt_18 (fun q3 hO_q3 hF => ?_)
      replace hO_q3 : oT σ q3 5 := hO_q3
      refine lv_goto (tgt := 23) X.1 X.2.1 dX11_shelfAt_19 (by decide) ?_
      exact gx_qret (v := q3) X hG hS hE hO_q3 hF dX11_shelfAt_23
theorem c_X5_isRow (l : Launch) (D : va_G) (cA : Nat → ClassId) (base : Nat) (ad : Nat → Nat) (σ : Hp) (n : Nat) (a0 : Nat) (hT_a0 : hT σ a0 5) {τ : Hp} {r : Int32} (hF : F_X5_isRow n a0 σ = some (r, τ)) : MI l yX5_isRow cX5_isRow 1 (some .boolean) rm_X5_isRow D cA base ad σ [.ref (ad a0)] r τ := by
  refine Met.ofW (cc := cX5_isRow) (maxL := 1) (ret := (some .boolean)) (by decide) rfl ?_
  intro p e s m args below meth c s₁ B hml hv
  obtain ⟨rfl, hv⟩ := hv
  have X : SX D cA base p s m ([.ref (ad a0)] : List Value).toArray meth c cX5_isRow 1 (some .boolean) RX5 := sx_of B hml hv
  have hG := hv.1
  have hS : va_S (bA base) s.heap s.heap [] := va_S.rf
  have hE := xT.rf σ
  have hl := lv_entry ([.ref (ad a0)]) (n := 1) (Nat.le_of_ble_eq_true rfl)
  rw [lg_entry_eq]
  generalize (lg_sl ([.ref (ad a0)]) ++ List.replicate (1 - (lg_sl ([.ref (ad a0)])).length) Slot.unset).toArray = ls at hl ⊢
  have hl : lv_has ls 1 [(0, .ref (ad a0))] := hl
  unfold F_X5_isRow at hF
  refine lv_aload_n X.1 X.2.1 dX5_isRow_0 rfl (lv_at hl 0 rfl) ?_
  refine gx_get 2 (v := .int (hI σ a0 2)) X hG hT_a0.1 (hT_a0.eq (by decide)) (by decide) rfl inX5 (by decide) k_134 (fun _ h => h) rfl dX5_isRow_1 ?_
  refine lv_iconst (v := (-1)) X.1 X.2.1 dX5_isRow_4 (by decide) ?_
  refine lv_icmp_eq (tgt := 12) X.1 X.2.1 dX5_isRow_5 (by decide) (fun hc => ?_) (fun hc => ?_)
  · replace hF := it_t hF hc
    refine lv_iconst (v := 0) X.1 X.2.1 dX5_isRow_12 (by decide) ?_
    exact gx_zret X hG hS hE hF rfl dX5_isRow_13
  · replace hF := it_f hF hc
    refine lv_iconst (v := 1) X.1 X.2.1 dX5_isRow_8 (by decide) ?_
    refine lv_goto (tgt := 13) X.1 X.2.1 dX5_isRow_9 (by decide) ?_
    exact gx_zret X hG hS hE hF rfl dX5_isRow_13
theorem c_X5_isEmpty (l : Launch) (D : va_G) (cA : Nat → ClassId) (base : Nat) (ad : Nat → Nat) (σ : Hp) (n : Nat) (a0 : Nat) (hT_a0 : hT σ a0 5) {τ : Hp} {r : Int32} (hF : F_X5_isEmpty n a0 σ = some (r, τ)) : MI l yX5_isEmpty cX5_isEmpty 1 (some .boolean) rm_X5_isEmpty D cA base ad σ [.ref (ad a0)] r τ := by
  refine Met.ofW (cc := cX5_isEmpty) (maxL := 1) (ret := (some .boolean)) (by decide) rfl ?_
  intro p e s m args below meth c s₁ B hml hv
  obtain ⟨rfl, hv⟩ := hv
  have X : SX D cA base p s m ([.ref (ad a0)] : List Value).toArray meth c cX5_isEmpty 1 (some .boolean) RX5 := sx_of B hml hv
  have hG := hv.1
  have hS : va_S (bA base) s.heap s.heap [] := va_S.rf
  have hE := xT.rf σ
  have hl := lv_entry ([.ref (ad a0)]) (n := 1) (Nat.le_of_ble_eq_true rfl)
  rw [lg_entry_eq]
  generalize (lg_sl ([.ref (ad a0)]) ++ List.replicate (1 - (lg_sl ([.ref (ad a0)])).length) Slot.unset).toArray = ls at hl ⊢
  have hl : lv_has ls 1 [(0, .ref (ad a0))] := hl
  unfold F_X5_isEmpty at hF
  refine lv_aload_n X.1 X.2.1 dX5_isEmpty_0 rfl (lv_at hl 0 rfl) ?_
  obtain ⟨q1, hr, hF⟩ := lt_ex hF
  have hO_q1 : oT σ q1 100 := by rw [hr]; exact gw_O hG hT_a0 (by decide)
  refine gx_get 0 (v := va_rf (Option.map ad q1)) X hG hT_a0.1 (hT_a0.eq (by decide)) (by decide) rfl inX5 (by decide) k_130 (fun _ h => h) (by rw [hr]; rfl) dX5_isEmpty_1 ?_
  refine gx_ifnonnull (tgt := 18) X.1 X.2.1 dX5_isEmpty_4 (by decide) hF (fun hr hF2i2 => ?_) (fun i2 hr hF2i2 => ?_)
  · subst hr
    have hF := hF2i2
    have hl : lv_has ls 1 [(0, .ref (ad a0))] := hl
    refine lv_aload_n X.1 X.2.1 dX5_isEmpty_7 rfl (lv_at hl 0 rfl) ?_
    obtain ⟨r4, σ3, hz, hF⟩ := b2_ex hF
    refine gx_rI (gx_runV (As := []) (rest := []) X hG hS hT_a0.1 (hT_a0.eq (by decide)) (by decide) rfl (c_X5_isRow l D cA base ad σ n a0 hT_a0 hz) k_443 k_440 k_441 k_442 k_3 (h_X5_isRow) rfl rfl ⟨by decide, by decide⟩ rfl hl.1 rfl (Nat.le_of_ble_eq_true rfl) dX5_isEmpty_8 ⟨Nat.zero_le _, Nat.zero_le _⟩) hS (fun H locs hG hS hX => ?_)
    have hT_a0 := hX.T hT_a0
    replace hE := hE.trans hX
    refine lv_if_ne (tgt := 18) X.1 X.2.1 dX5_isEmpty_11 (by decide) (fun hc => ?_) (fun hc => ?_)
    · replace hF := it_f hF hc
      refine lv_iconst (v := 0) X.1 X.2.1 dX5_isEmpty_18 (by decide) ?_
      exact gx_zret X hG hS hE hF rfl dX5_isEmpty_19
    · replace hF := it_t hF hc
      refine lv_iconst (v := 1) X.1 X.2.1 dX5_isEmpty_14 (by decide) ?_
      refine lv_goto (tgt := 19) X.1 X.2.1 dX5_isEmpty_15 (by decide) ?_
      exact gx_zret X hG hS hE hF rfl dX5_isEmpty_19
  · subst hr
    have hF := hF2i2
    have hT_i2 := hO_q1 i2 rfl
    have hl : lv_has ls 1 [(0, .ref (ad a0))] := hl
    refine lv_iconst (v := 0) X.1 X.2.1 dX5_isEmpty_18 (by decide) ?_
    exact gx_zret X hG hS hE hF rfl dX5_isEmpty_19
theorem w_X11_copyAll_2 {σ0 τ : Hp} (X : SX D cA base p s m args meth c cX11_copyAll 3 none RX11) (n : Nat)  : ∀ f : Nat, ∀ (v0 : Nat) (v1 : Nat) (v2 : Int32) (σ : Hp) (H : Heap) (locs : List Loc) (ls : Array Slot), hT σ v0 13 → hT σ v1 13 → GW D cA base ad σ H → va_S (bA base) s.heap H locs → xT σ0 σ → lv_has ls 3 [(0, .ref (ad v0)), (1, .ref (ad v1)), (2, .int v2)] → F_X11_copyAll_2 n  f v0 v1 v2 σ = some τ → W p l e rm_X11_copyAll s m args below meth c H locs 0 0 (ZV below s args D cA base ad σ0 τ) (F0 m 2 ls []) := by
  intro f
  induction f with
  | zero => intro v0 v1 v2 σ H locs ls h0 h1 hG hS hE hl hF
            rw [F_X11_copyAll_2] at hF; cases hF
  | succ f ih =>
    intro v0 v1 v2 σ H locs ls hT_v0 hT_v1 hG hS hE hl hF
    rw [F_X11_copyAll_2] at hF
    refine lv_iload_n X.1 X.2.1 dX11_copyAll_2 rfl (lv_at hl 2 rfl) ?_
    refine lv_aload_n X.1 X.2.1 dX11_copyAll_3 rfl (lv_at hl 0 rfl) ?_
    refine gx_alen (t0 := 0) X hG hT_v0 (by decide) (by decide) rfl dX11_copyAll_4 ?_
    refine lv_icmp_ge (tgt := 26) X.1 X.2.1 dX11_copyAll_5 (by decide) (fun hc => ?_) (fun hc => ?_)
    · replace hF := it_t hF hc
      exact gx_vret X hG hS hE hF dX11_copyAll_26
    · replace hF := it_f hF hc
      refine lv_iload_n X.1 X.2.1 dX11_copyAll_8 rfl (lv_at hl 2 rfl) ?_
      refine lv_aload_n X.1 X.2.1 dX11_copyAll_9 rfl (lv_at hl 1 rfl) ?_
      refine gx_alen (t0 := 0) X hG hT_v1 (by decide) (by decide) rfl dX11_copyAll_10 ?_
      refine lv_icmp_ge (tgt := 26) X.1 X.2.1 dX11_copyAll_11 (by decide) (fun hc => ?_) (fun hc => ?_)
      · replace hF := it_t hF hc
        exact gx_vret X hG hS hE hF dX11_copyAll_26
      · replace hF := it_f hF hc
        refine lv_aload_n X.1 X.2.1 dX11_copyAll_14 rfl (lv_at hl 1 rfl) ?_
        refine lv_iload_n X.1 X.2.1 dX11_copyAll_15 rfl (lv_at hl 2 rfl) ?_
        refine lv_aload_n X.1 X.2.1 dX11_copyAll_16 rfl (lv_at hl 0 rfl) ?_
        refine lv_iload_n X.1 X.2.1 dX11_copyAll_17 rfl (lv_at hl 2 rfl) ?_
        refine gx_iald X hG hT_v0 hF dX11_copyAll_18 (fun hF => ?_)
        refine gx_iast X hG hS hT_v1 hF dX11_copyAll_19 (fun σ1 H locs hG hS hX hF => ?_)
        have hT_v0 := hX.T hT_v0
        have hT_v1 := hX.T hT_v1
        replace hE := hE.trans hX
        refine lv_iinc (v := v2 + 1) (lv' := [(2, .int (v2 + 1)), (0, .ref (ad v0)), (1, .ref (ad v1))]) X.1 X.2.1 dX11_copyAll_20 hl (k := 2) rfl rfl (by decide) rfl (fun ls hl => ?_)
        refine lv_goto (tgt := 2) X.1 X.2.1 dX11_copyAll_23 (by decide) ?_
        exact ih v0 v1 (v2 + 1) σ1 _ _ ls hT_v0 hT_v1 hG hS hE (lv_sub hl [1, 2, 0] rfl) hF
theorem c_X11_copyAll (l : Launch) (D : va_G) (cA : Nat → ClassId) (base : Nat) (ad : Nat → Nat) (σ : Hp) (n : Nat) (a0 : Nat) (a1 : Nat) (hT_a0 : hT σ a0 13) (hT_a1 : hT σ a1 13) {τ : Hp} (hF : F_X11_copyAll n a0 a1 σ = some τ) : MV l yX11_copyAll cX11_copyAll 3 rm_X11_copyAll D cA base ad σ [.ref (ad a0), .ref (ad a1)] τ := by
  refine Met.ofW (cc := cX11_copyAll) (maxL := 3) (ret := none) (by decide) rfl ?_
  intro p e s m args below meth c s₁ B hml hv
  obtain ⟨rfl, hv⟩ := hv
  have X : SX D cA base p s m ([.ref (ad a0), .ref (ad a1)] : List Value).toArray meth c cX11_copyAll 3 none RX11 := sx_of B hml hv
  have hG := hv.1
  have hS : va_S (bA base) s.heap s.heap [] := va_S.rf
  have hE := xT.rf σ
  have hl := lv_entry ([.ref (ad a0), .ref (ad a1)]) (n := 3) (Nat.le_of_ble_eq_true rfl)
  rw [lg_entry_eq]
  generalize (lg_sl ([.ref (ad a0), .ref (ad a1)]) ++ List.replicate (3 - (lg_sl ([.ref (ad a0), .ref (ad a1)])).length) Slot.unset).toArray = ls at hl ⊢
  have hl : lv_has ls 3 [(0, .ref (ad a0)), (1, .ref (ad a1))] := hl
  unfold F_X11_copyAll at hF
  refine lv_iconst (v := 0) X.1 X.2.1 dX11_copyAll_0 (by decide) ?_
  refine lv_istore_n (lv' := [(2, .int 0), (0, .ref (ad a0)), (1, .ref (ad a1))]) X.1 X.2.1 dX11_copyAll_1 rfl hl (by decide) rfl (fun ls hl => ?_)
  exact w_X11_copyAll_2 X n  n a0 a1 0 σ _ _ ls hT_a0 hT_a1 hG hS hE (lv_sub hl [1, 2, 0] rfl) hF
end W_class3
