/-! model5: printed by wip/whole/gen.py -/
section W_model5
variable {p : Program} {l : Launch} {e : Env} {s : State} {m : MethodId} {args : Array Value} {below : List Frame} {meth : Method} {c : Code} {D : va_G} {cA : Nat → ClassId} {base : Nat} {ad : Nat → Nat}
abbrev rm_X12_leansIn : Room := { frames := 32, cells := 0, slots := 0, locals := 759 }
theorem h_X12_leansIn : yX12_leansIn.cls = RX12 ∧ yX12_leansIn.cls ≠ "java/lang/invoke/MethodHandle" ∧ yX12_leansIn.cls ≠ "java/lang/invoke/VarHandle" ∧ (parseMethodDescriptor yX12_leansIn.desc).map (fun d => d.parameters.length) = some 2 := by decide +kernel
def F_X12_leansIn (n : Nat) (a0 : Nat) (a1 : Nat) (a2 : Int32) (σ : Hp) : Option (Int32 × Hp) := ck (¬ ((7 + a2) < 0 ∨ hL σ a1 ≤ (7 + a2).toNatClampNeg)) (ck (¬ ((19 + a2) < 0 ∨ hL σ a1 ≤ (19 + a2).toNatClampNeg)) (ck (¬ ((31 + a2) < 0 ∨ hL σ a1 ≤ (31 + a2).toNatClampNeg)) (b2 (F_X12_leansBy n a0 (hI σ a1 (7 + a2).toNatClampNeg) (hI σ a1 (19 + a2).toNatClampNeg) (hI σ a1 (31 + a2).toNatClampNeg) σ) fun (r2 : Int32) (σ1 : Hp) => some (r2, σ1))))
abbrev rm_X12_saysYes : Room := { frames := 33, cells := 0, slots := 0, locals := 781 }
theorem h_X12_saysYes : yX12_saysYes.cls = RX12 ∧ yX12_saysYes.cls ≠ "java/lang/invoke/MethodHandle" ∧ yX12_saysYes.cls ≠ "java/lang/invoke/VarHandle" ∧ (parseMethodDescriptor yX12_saysYes.desc).map (fun d => d.parameters.length) = some 2 := by decide +kernel
def F_X12_saysYes (n : Nat) (a0 : Nat) (a1 : Nat) (a2 : Int32) (σ : Hp) : Option (Int32 × Hp) := ck (¬ ((55 + a2) < 0 ∨ hL σ a1 ≤ (55 + a2).toNatClampNeg)) (if (hI σ a1 (55 + a2).toNatClampNeg) ≤ 0 then (b2 (F_X12_leansIn n a0 a1 a2 σ) fun (r2 : Int32) (σ1 : Hp) => ck (¬ ((7 + a2) < 0 ∨ hL σ1 a1 ≤ (7 + a2).toNatClampNeg)) (b2 (F_X12_get n a0 (hI σ1 a1 (7 + a2).toNatClampNeg) 3 σ1) fun (r4 : Int32) (σ3 : Hp) => if r2 < r4 then (some (0, σ3)) else (some (1, σ3)))) else (ck (¬ ((55 + a2) < 0 ∨ hL σ a1 ≤ (55 + a2).toNatClampNeg)) (if (hI σ a1 (55 + a2).toNatClampNeg) = 2 then (some (1, σ)) else (some (0, σ)))))
abbrev rm_X12_begins : Room := { frames := 34, cells := 0, slots := 0, locals := 803 }
theorem h_X12_begins : yX12_begins.cls = RX12 ∧ yX12_begins.cls ≠ "java/lang/invoke/MethodHandle" ∧ yX12_begins.cls ≠ "java/lang/invoke/VarHandle" ∧ (parseMethodDescriptor yX12_begins.desc).map (fun d => d.parameters.length) = some 3 := by decide +kernel
def F_X12_begins_156 (n : Nat)  (v0 : Nat) (v1 : Nat) (σ : Hp) : Option Hp := b1 (F_X12_counts n v0 v1 σ) fun (σ1 : Hp) => some σ1
def F_X12_begins_147 (n : Nat) (K_63 : Nat → Nat → Int32 → Int32 → Int32 → Int32 → Hp → Option Hp) (v0 : Nat) (v1 : Nat) (v2 : Int32) (v3 : Int32) (v5 : Int32) (s0 : Int32) (s1 : Int32) (σ : Hp) : Option Hp := K_63 v0 v1 v2 v3 (s1 + s0) (v5 + 1) σ
def F_X12_begins_128 (n : Nat) (K_63 : Nat → Nat → Int32 → Int32 → Int32 → Int32 → Hp → Option Hp) (v0 : Nat) (v1 : Nat) (v2 : Int32) (v3 : Int32) (v4 : Int32) (v5 : Int32) (v6 : Int32) (s0 : Int32) (s1 : Int32) (s2 : Nat) (σ : Hp) : Option Hp := ck (¬ (s1 < 0 ∨ hL σ s2 ≤ s1.toNatClampNeg)) (lt (pI σ s2 s1.toNatClampNeg s0) fun (σ2 : Hp) => ck (¬ ((43 + v6) < 0 ∨ hL σ2 v1 ≤ (43 + v6).toNatClampNeg)) (if (hI σ2 v1 (43 + v6).toNatClampNeg) = 1 then (F_X12_begins_147 n K_63 v0 v1 v2 v3 v5 1 v4 σ2) else (F_X12_begins_147 n K_63 v0 v1 v2 v3 v5 (-1) v4 σ2)))
def F_X12_begins_107 (n : Nat) (K_63 : Nat → Nat → Int32 → Int32 → Int32 → Int32 → Hp → Option Hp) (v0 : Nat) (v1 : Nat) (v2 : Int32) (v3 : Int32) (v4 : Int32) (v5 : Int32) (v6 : Int32) (σ : Hp) : Option Hp := b2 (F_X12_saysYes n v0 v1 v6 σ) fun (r4 : Int32) (σ3 : Hp) => if r4 = 0 then (F_X12_begins_128 n K_63 v0 v1 v2 v3 v4 v5 v6 0 (43 + v6) v1 σ3) else (F_X12_begins_128 n K_63 v0 v1 v2 v3 v4 v5 v6 1 (43 + v6) v1 σ3)
def F_X12_begins_63 (n : Nat)  : Nat → Nat → Nat → Int32 → Int32 → Int32 → Int32 → Hp → Option Hp
  | 0, _, _, _, _, _, _, _ => none
  | f + 1, v0, v1, v2, v3, v4, v5, σ => ck (¬ ((5 : Int32) < 0 ∨ hL σ v1 ≤ (5 : Int32).toNatClampNeg)) (if (hI σ v1 (5 : Int32).toNatClampNeg) ≤ v5 then (F_X12_begins_156 n  v0 v1 σ) else (ck (¬ ((5 : Int32) < 0 ∨ hL σ v1 ≤ (5 : Int32).toNatClampNeg)) (ck (¬ (hI σ v1 (5 : Int32).toNatClampNeg) = 0) (lt ((v2 + v5) - (v2 + v5) / (hI σ v1 (5 : Int32).toNatClampNeg) * (hI σ v1 (5 : Int32).toNatClampNeg)) fun (x5 : Int32) => if v3 = 0 then (F_X12_begins_107 n (F_X12_begins_63 n  f) v0 v1 v2 v3 v4 v5 x5 σ) else (ck (¬ ((7 + x5) < 0 ∨ hL σ v1 ≤ (7 + x5).toNatClampNeg)) (b2 (F_X12_get n v0 (hI σ v1 (7 + x5).toNatClampNeg) 1 σ) fun (r7 : Int32) (σ6 : Hp) => ck (¬ ((31 + x5) < 0 ∨ hL σ6 v1 ≤ (31 + x5).toNatClampNeg)) (lt (pI σ6 v1 (31 + x5).toNatClampNeg (r7 * v4)) fun (σ8 : Hp) => F_X12_begins_107 n (F_X12_begins_63 n  f) v0 v1 v2 v3 v4 v5 x5 σ8)))))))
def F_X12_begins_57 (n : Nat)  (v0 : Nat) (v1 : Nat) (v2 : Int32) (v3 : Int32) (σ : Hp) : Option Hp := F_X12_begins_63 n  n v0 v1 v2 v3 0 0 σ
def F_X12_begins_27 (n : Nat)  : Nat → Nat → Nat → Int32 → Int32 → Int32 → Hp → Option Hp
  | 0, _, _, _, _, _, _ => none
  | f + 1, v0, v1, v2, v3, v4, σ => ck (¬ ((5 : Int32) < 0 ∨ hL σ v1 ≤ (5 : Int32).toNatClampNeg)) (if (hI σ v1 (5 : Int32).toNatClampNeg) ≤ v4 then (F_X12_begins_57 n  v0 v1 v2 v3 σ) else (ck (¬ ((31 + v4) < 0 ∨ hL σ v1 ≤ (31 + v4).toNatClampNeg)) (lt (pI σ v1 (31 + v4).toNatClampNeg 0) fun (σ9 : Hp) => ck (¬ ((55 + v4) < 0 ∨ hL σ9 v1 ≤ (55 + v4).toNatClampNeg)) (lt (pI σ9 v1 (55 + v4).toNatClampNeg 0) fun (σ10 : Hp) => (F_X12_begins_27 n  f) v0 v1 v2 v3 (v4 + 1) σ10))))
def F_X12_begins (n : Nat) (a0 : Nat) (a1 : Nat) (a2 : Int32) (a3 : Int32) (σ : Hp) : Option Hp := ck (¬ ((0 : Int32) < 0 ∨ hL σ a1 ≤ (0 : Int32).toNatClampNeg)) (lt (pI σ a1 (0 : Int32).toNatClampNeg 0) fun (σ11 : Hp) => ck (¬ ((3 : Int32) < 0 ∨ hL σ11 a1 ≤ (3 : Int32).toNatClampNeg)) (lt (pI σ11 a1 (3 : Int32).toNatClampNeg 0) fun (σ12 : Hp) => ck (¬ ((4 : Int32) < 0 ∨ hL σ12 a1 ≤ (4 : Int32).toNatClampNeg)) (lt (pI σ12 a1 (4 : Int32).toNatClampNeg a2) fun (σ13 : Hp) => ck (¬ ((6 : Int32) < 0 ∨ hL σ13 a1 ≤ (6 : Int32).toNatClampNeg)) (lt (pI σ13 a1 (6 : Int32).toNatClampNeg 1) fun (σ14 : Hp) => b1 (F_X12_sees n a0 0 0 0 σ14) fun (σ15 : Hp) => F_X12_begins_27 n  n a0 a1 a2 a3 0 σ15))))
abbrev rm_X12_lesser : Room := { frames := 0, cells := 0, slots := 0, locals := 0 }
theorem h_X12_lesser : yX12_lesser.cls = RX12 ∧ yX12_lesser.cls ≠ "java/lang/invoke/MethodHandle" ∧ yX12_lesser.cls ≠ "java/lang/invoke/VarHandle" ∧ (parseMethodDescriptor yX12_lesser.desc).map (fun d => d.parameters.length) = some 2 := by decide +kernel
def F_X12_lesser (n : Nat) (a0 : Int32) (a1 : Int32) (σ : Hp) : Option (Int32 × Hp) := if a1 ≤ a0 then (some (a1, σ)) else (some (a0, σ))
abbrev rm_X12_endOf : Room := { frames := 0, cells := 0, slots := 0, locals := 0 }
theorem h_X12_endOf : yX12_endOf.cls = RX12 ∧ yX12_endOf.cls ≠ "java/lang/invoke/MethodHandle" ∧ yX12_endOf.cls ≠ "java/lang/invoke/VarHandle" ∧ (parseMethodDescriptor yX12_endOf.desc).map (fun d => d.parameters.length) = some 2 := by decide +kernel
def F_X12_endOf (n : Nat) (a0 : Nat) (a1 : Nat) (a2 : Int32) (σ : Hp) : Option (Int32 × Hp) := ck (¬ ((1 : Int32) < 0 ∨ hL σ a1 ≤ (1 : Int32).toNatClampNeg)) (if (hI σ a1 (1 : Int32).toNatClampNeg) < a2 then (ck (¬ ((2 : Int32) < 0 ∨ hL σ a1 ≤ (2 : Int32).toNatClampNeg)) (if (hI σ a1 (2 : Int32).toNatClampNeg) < a2 then (ck (¬ ((0 : Int32) < 0 ∨ hL σ a1 ≤ (0 : Int32).toNatClampNeg)) (b1 (hR σ a0 0) fun (i1 : Nat) => ck (¬ ((6 : Int32) < 0 ∨ hL σ i1 ≤ (6 : Int32).toNatClampNeg)) (if (hI σ a1 (0 : Int32).toNatClampNeg) < (hI σ i1 (6 : Int32).toNatClampNeg) then (some ((-4), σ)) else (some (2, σ))))) else (some (0, σ)))) else (some (1, σ)))
abbrev rm_X12_allHold : Room := { frames := 0, cells := 0, slots := 0, locals := 0 }
theorem h_X12_allHold : yX12_allHold.cls = RX12 ∧ yX12_allHold.cls ≠ "java/lang/invoke/MethodHandle" ∧ yX12_allHold.cls ≠ "java/lang/invoke/VarHandle" ∧ (parseMethodDescriptor yX12_allHold.desc).map (fun d => d.parameters.length) = some 1 := by decide +kernel
def F_X12_allHold_13 (n : Nat)  : Nat → Nat → Int32 → Int32 → Hp → Option (Int32 × Hp)
  | 0, _, _, _, _ => none
  | f + 1, v1, v2, v3, σ => ck (¬ ((5 : Int32) < 0 ∨ hL σ v1 ≤ (5 : Int32).toNatClampNeg)) (if (hI σ v1 (5 : Int32).toNatClampNeg) ≤ v3 then (some (v2, σ)) else (ck (¬ ((19 + v3) < 0 ∨ hL σ v1 ≤ (19 + v3).toNatClampNeg)) ((F_X12_allHold_13 n  f) v1 (v2 &&& (hI σ v1 (19 + v3).toNatClampNeg)) (v3 + 1) σ)))
def F_X12_allHold (n : Nat) (a0 : Nat) (a1 : Nat) (σ : Hp) : Option (Int32 × Hp) := b1 (hR σ a0 0) fun (i1 : Nat) => ck (¬ ((0 : Int32) < 0 ∨ hL σ i1 ≤ (0 : Int32).toNatClampNeg)) (lt ((1 <<< ((hI σ i1 (0 : Int32).toNatClampNeg) &&& 31)) - 1) fun (x2 : Int32) => F_X12_allHold_13 n  n a1 x2 0 σ)
abbrev rm_X12_amount : Room := { frames := 0, cells := 0, slots := 0, locals := 0 }
theorem h_X12_amount : yX12_amount.cls = RX12 ∧ yX12_amount.cls ≠ "java/lang/invoke/MethodHandle" ∧ yX12_amount.cls ≠ "java/lang/invoke/VarHandle" ∧ (parseMethodDescriptor yX12_amount.desc).map (fun d => d.parameters.length) = some 1 := by decide +kernel
def F_X12_amount (n : Nat) (a0 : Int32) (σ : Hp) : Option (Int32 × Hp) := if 0 ≤ a0 then (some (a0, σ)) else (some (-a0, σ))
theorem c_X12_leansIn (l : Launch) (D : va_G) (cA : Nat → ClassId) (base : Nat) (ad : Nat → Nat) (σ : Hp) (n : Nat) (a0 : Nat) (a1 : Nat) (a2 : Int32) (hT_a0 : hT σ a0 12) (hT_a1 : hT σ a1 13) {τ : Hp} {r : Int32} (hF : F_X12_leansIn n a0 a1 a2 σ = some (r, τ)) : MI l yX12_leansIn cX12_leansIn 3 (some .int) rm_X12_leansIn D cA base ad σ [.ref (ad a0), .ref (ad a1), .int a2] r τ := by
  refine Met.ofW (cc := cX12_leansIn) (maxL := 3) (ret := (some .int)) (by decide) rfl ?_
  intro p e s m args below meth c s₁ B hml hv
  obtain ⟨rfl, hv⟩ := hv
  have X : SX D cA base p s m ([.ref (ad a0), .ref (ad a1), .int a2] : List Value).toArray meth c cX12_leansIn 3 (some .int) RX12 := sx_of B hml hv
  have hG := hv.1
  have hS : va_S (bA base) s.heap s.heap [] := va_S.rf
  have hE := xT.rf σ
  have hl := lv_entry ([.ref (ad a0), .ref (ad a1), .int a2]) (n := 3) (Nat.le_of_ble_eq_true rfl)
  rw [lg_entry_eq]
  generalize (lg_sl ([.ref (ad a0), .ref (ad a1), .int a2]) ++ List.replicate (3 - (lg_sl ([.ref (ad a0), .ref (ad a1), .int a2])).length) Slot.unset).toArray = ls at hl ⊢
  have hl : lv_has ls 3 [(0, .ref (ad a0)), (1, .ref (ad a1)), (2, .int a2)] := hl
  unfold F_X12_leansIn at hF
  refine lv_aload_n X.1 X.2.1 dX12_leansIn_0 rfl (lv_at hl 0 rfl) ?_
  refine lv_aload_n X.1 X.2.1 dX12_leansIn_1 rfl (lv_at hl 1 rfl) ?_
  refine lv_bipush (v := 7) X.1 X.2.1 dX12_leansIn_2 (by decide) ?_
  refine lv_iload_n X.1 X.2.1 dX12_leansIn_4 rfl (lv_at hl 2 rfl) ?_
  refine lv_iadd X.1 X.2.1 dX12_leansIn_5 ?_
  refine gx_iald X hG hT_a1 hF dX12_leansIn_6 (fun hF => ?_)
  refine lv_aload_n X.1 X.2.1 dX12_leansIn_7 rfl (lv_at hl 1 rfl) ?_
  refine lv_bipush (v := 19) X.1 X.2.1 dX12_leansIn_8 (by decide) ?_
  refine lv_iload_n X.1 X.2.1 dX12_leansIn_10 rfl (lv_at hl 2 rfl) ?_
  refine lv_iadd X.1 X.2.1 dX12_leansIn_11 ?_
  refine gx_iald X hG hT_a1 hF dX12_leansIn_12 (fun hF => ?_)
  refine lv_aload_n X.1 X.2.1 dX12_leansIn_13 rfl (lv_at hl 1 rfl) ?_
  refine lv_bipush (v := 31) X.1 X.2.1 dX12_leansIn_14 (by decide) ?_
  refine lv_iload_n X.1 X.2.1 dX12_leansIn_16 rfl (lv_at hl 2 rfl) ?_
  refine lv_iadd X.1 X.2.1 dX12_leansIn_17 ?_
  refine gx_iald X hG hT_a1 hF dX12_leansIn_18 (fun hF => ?_)
  obtain ⟨r2, σ1, hz, hF⟩ := b2_ex hF
  refine gx_rI (gx_runV (As := [.int (hI σ a1 (7 + a2).toNatClampNeg), .int (hI σ a1 (19 + a2).toNatClampNeg), .int (hI σ a1 (31 + a2).toNatClampNeg)]) (rest := []) X hG hS hT_a0.1 (hT_a0.eq (by decide)) (by decide) rfl (c_X12_leansBy l D cA base ad σ n a0 (hI σ a1 (7 + a2).toNatClampNeg) (hI σ a1 (19 + a2).toNatClampNeg) (hI σ a1 (31 + a2).toNatClampNeg) hT_a0 hz) k_1156 k_1153 k_1155 ks_29 k_4 (h_X12_leansBy) rfl rfl ⟨by decide, by decide⟩ rfl hl.1 rfl (Nat.le_of_ble_eq_true rfl) dX12_leansIn_19 ⟨Nat.zero_le _, Nat.zero_le _⟩) hS (fun H locs hG hS hX => ?_)
  have hT_a0 := hX.T hT_a0
  have hT_a1 := hX.T hT_a1
  replace hE := hE.trans hX
  exact gx_iret X hG hS hE hF dX12_leansIn_22
theorem c_X12_saysYes (l : Launch) (D : va_G) (cA : Nat → ClassId) (base : Nat) (ad : Nat → Nat) (σ : Hp) (n : Nat) (a0 : Nat) (a1 : Nat) (a2 : Int32) (hT_a0 : hT σ a0 12) (hT_a1 : hT σ a1 13) {τ : Hp} {r : Int32} (hF : F_X12_saysYes n a0 a1 a2 σ = some (r, τ)) : MI l yX12_saysYes cX12_saysYes 3 (some .boolean) rm_X12_saysYes D cA base ad σ [.ref (ad a0), .ref (ad a1), .int a2] r τ := by
  refine Met.ofW (cc := cX12_saysYes) (maxL := 3) (ret := (some .boolean)) (by decide) rfl ?_
  intro p e s m args below meth c s₁ B hml hv
  obtain ⟨rfl, hv⟩ := hv
  have X : SX D cA base p s m ([.ref (ad a0), .ref (ad a1), .int a2] : List Value).toArray meth c cX12_saysYes 3 (some .boolean) RX12 := sx_of B hml hv
  have hG := hv.1
  have hS : va_S (bA base) s.heap s.heap [] := va_S.rf
  have hE := xT.rf σ
  have hl := lv_entry ([.ref (ad a0), .ref (ad a1), .int a2]) (n := 3) (Nat.le_of_ble_eq_true rfl)
  rw [lg_entry_eq]
  generalize (lg_sl ([.ref (ad a0), .ref (ad a1), .int a2]) ++ List.replicate (3 - (lg_sl ([.ref (ad a0), .ref (ad a1), .int a2])).length) Slot.unset).toArray = ls at hl ⊢
  have hl : lv_has ls 3 [(0, .ref (ad a0)), (1, .ref (ad a1)), (2, .int a2)] := hl
  unfold F_X12_saysYes at hF
  refine lv_aload_n X.1 X.2.1 dX12_saysYes_0 rfl (lv_at hl 1 rfl) ?_
  refine lv_bipush (v := 55) X.1 X.2.1 dX12_saysYes_1 (by decide) ?_
  refine lv_iload_n X.1 X.2.1 dX12_saysYes_3 rfl (lv_at hl 2 rfl) ?_
  refine lv_iadd X.1 X.2.1 dX12_saysYes_4 ?_
  refine gx_iald X hG hT_a1 hF dX12_saysYes_5 (fun hF => ?_)
  refine lv_if_le (tgt := 27) X.1 X.2.1 dX12_saysYes_6 (by decide) (fun hc => ?_) (fun hc => ?_)
  · replace hF := it_t hF hc
    refine lv_aload_n X.1 X.2.1 dX12_saysYes_27 rfl (lv_at hl 0 rfl) ?_
    refine lv_aload_n X.1 X.2.1 dX12_saysYes_28 rfl (lv_at hl 1 rfl) ?_
    refine lv_iload_n X.1 X.2.1 dX12_saysYes_29 rfl (lv_at hl 2 rfl) ?_
    obtain ⟨r2, σ1, hz, hF⟩ := b2_ex hF
    refine gx_rI (gx_runV (As := [.ref (ad a1), .int a2]) (rest := []) X hG hS hT_a0.1 (hT_a0.eq (by decide)) (by decide) rfl (c_X12_leansIn l D cA base ad σ n a0 a1 a2 hT_a0 hT_a1 hz) k_1204 k_1201 k_1203 ks_38 k_4 (h_X12_leansIn) rfl rfl ⟨by decide, by decide⟩ rfl hl.1 rfl (Nat.le_of_ble_eq_true rfl) dX12_saysYes_30 ⟨Nat.zero_le _, Nat.zero_le _⟩) hS (fun H locs hG hS hX => ?_)
    have hT_a0 := hX.T hT_a0
    have hT_a1 := hX.T hT_a1
    replace hE := hE.trans hX
    refine lv_aload_n X.1 X.2.1 dX12_saysYes_33 rfl (lv_at hl 0 rfl) ?_
    refine lv_aload_n X.1 X.2.1 dX12_saysYes_34 rfl (lv_at hl 1 rfl) ?_
    refine lv_bipush (v := 7) X.1 X.2.1 dX12_saysYes_35 (by decide) ?_
    refine lv_iload_n X.1 X.2.1 dX12_saysYes_37 rfl (lv_at hl 2 rfl) ?_
    refine lv_iadd X.1 X.2.1 dX12_saysYes_38 ?_
    refine gx_iald X hG hT_a1 hF dX12_saysYes_39 (fun hF => ?_)
    refine lv_iconst (v := 3) X.1 X.2.1 dX12_saysYes_40 (by decide) ?_
    obtain ⟨r4, σ3, hz, hF⟩ := b2_ex hF
    refine gx_rI (gx_runV (As := [.int (hI σ1 a1 (7 + a2).toNatClampNeg), .int 3]) (rest := [.int r2]) X hG hS hT_a0.1 (hT_a0.eq (by decide)) (by decide) rfl (c_X12_get l D cA base ad σ1 n a0 (hI σ1 a1 (7 + a2).toNatClampNeg) 3 hT_a0 hz) k_1099 k_1096 k_1098 ks_19 k_4 (h_X12_get) rfl rfl ⟨by decide, by decide⟩ rfl hl.1 rfl (Nat.le_of_ble_eq_true rfl) dX12_saysYes_41 ⟨Nat.zero_le _, Nat.zero_le _⟩) hS (fun H locs hG hS hX => ?_)
    have hT_a0 := hX.T hT_a0
    have hT_a1 := hX.T hT_a1
    replace hE := hE.trans hX
    refine lv_icmp_lt (tgt := 51) X.1 X.2.1 dX12_saysYes_44 (by decide) (fun hc => ?_) (fun hc => ?_)
    · replace hF := it_t hF hc
      refine lv_iconst (v := 0) X.1 X.2.1 dX12_saysYes_51 (by decide) ?_
      exact gx_zret X hG hS hE hF rfl dX12_saysYes_52
    · replace hF := it_f hF hc
      refine lv_iconst (v := 1) X.1 X.2.1 dX12_saysYes_47 (by decide) ?_
      refine lv_goto (tgt := 52) X.1 X.2.1 dX12_saysYes_48 (by decide) ?_
      exact gx_zret X hG hS hE hF rfl dX12_saysYes_52
  · replace hF := it_f hF hc
    refine lv_aload_n X.1 X.2.1 dX12_saysYes_9 rfl (lv_at hl 1 rfl) ?_
    refine lv_bipush (v := 55) X.1 X.2.1 dX12_saysYes_10 (by decide) ?_
    refine lv_iload_n X.1 X.2.1 dX12_saysYes_12 rfl (lv_at hl 2 rfl) ?_
    refine lv_iadd X.1 X.2.1 dX12_saysYes_13 ?_
    refine gx_iald X hG hT_a1 hF dX12_saysYes_14 (fun hF => ?_)
    refine lv_iconst (v := 2) X.1 X.2.1 dX12_saysYes_15 (by decide) ?_
    refine lv_icmp_ne (tgt := 23) X.1 X.2.1 dX12_saysYes_16 (by decide) (fun hc => ?_) (fun hc => ?_)
    · replace hF := it_f hF hc
      refine lv_iconst (v := 0) X.1 X.2.1 dX12_saysYes_23 (by decide) ?_
      refine lv_goto (tgt := 52) X.1 X.2.1 dX12_saysYes_24 (by decide) ?_
      exact gx_zret X hG hS hE hF rfl dX12_saysYes_52
    · replace hF := it_t hF hc
      refine lv_iconst (v := 1) X.1 X.2.1 dX12_saysYes_19 (by decide) ?_
      refine lv_goto (tgt := 52) X.1 X.2.1 dX12_saysYes_20 (by decide) ?_
      exact gx_zret X hG hS hE hF rfl dX12_saysYes_52
theorem w_X12_begins_156 {σ0 τ : Hp} (X : SX D cA base p s m args meth c cX12_begins 7 none RX12) (n : Nat)  : ∀ (v0 : Nat) (v1 : Nat) (σ : Hp) (H : Heap) (locs : List Loc) (ls : Array Slot), hT σ v0 12 → hT σ v1 13 → GW D cA base ad σ H → va_S (bA base) s.heap H locs → xT σ0 σ → lv_has ls 7 [(0, .ref (ad v0)), (1, .ref (ad v1))] → F_X12_begins_156 n  v0 v1 σ = some τ → W p l e rm_X12_begins s m args below meth c H locs 0 0 (ZV below s args D cA base ad σ0 τ) (F0 m 156 ls []) := by
  intro v0 v1 σ H locs ls hT_v0 hT_v1 hG hS hE hl hF
  unfold F_X12_begins_156 at hF
  refine lv_aload_n X.1 X.2.1 dX12_begins_156 rfl (lv_at hl 0 rfl) ?_
  refine lv_aload_n X.1 X.2.1 dX12_begins_157 rfl (lv_at hl 1 rfl) ?_
  obtain ⟨σ1, hz, hF⟩ := b1_ex hF
  refine gx_rV (gx_runV (As := [.ref (ad v1)]) (rest := []) X hG hS hT_v0.1 (hT_v0.eq (by decide)) (by decide) rfl (c_X12_counts l D cA base ad σ n v0 v1 hT_v0 hT_v1 hz) k_1208 k_1205 k_1207 ks_39 k_4 (h_X12_counts) rfl rfl ⟨by decide, by decide⟩ rfl hl.1 rfl (Nat.le_of_ble_eq_true rfl) dX12_begins_158 ⟨Nat.zero_le _, Nat.zero_le _⟩) hS (fun H locs hG hS hX => ?_)
  have hT_v0 := hX.T hT_v0
  have hT_v1 := hX.T hT_v1
  replace hE := hE.trans hX
  exact gx_vret X hG hS hE hF dX12_begins_161
theorem w_X12_begins_147 {σ0 τ : Hp} (X : SX D cA base p s m args meth c cX12_begins 7 none RX12) (n : Nat) (K_63 : Nat → Nat → Int32 → Int32 → Int32 → Int32 → Hp → Option Hp) (hK_63 : ∀ (v0 : Nat) (v1 : Nat) (v2 : Int32) (v3 : Int32) (v4 : Int32) (v5 : Int32) (σ : Hp) (H : Heap) (locs : List Loc) (ls : Array Slot), hT σ v0 12 → hT σ v1 13 → GW D cA base ad σ H → va_S (bA base) s.heap H locs → xT σ0 σ → lv_has ls 7 [(0, .ref (ad v0)), (1, .ref (ad v1)), (2, .int v2), (3, .int v3), (4, .int v4), (5, .int v5)] → K_63 v0 v1 v2 v3 v4 v5 σ = some τ → W p l e rm_X12_begins s m args below meth c H locs 0 0 (ZV below s args D cA base ad σ0 τ) (F0 m 63 ls [])) : ∀ (v0 : Nat) (v1 : Nat) (v2 : Int32) (v3 : Int32) (v5 : Int32) (s0 : Int32) (s1 : Int32) (σ : Hp) (H : Heap) (locs : List Loc) (ls : Array Slot), hT σ v0 12 → hT σ v1 13 → GW D cA base ad σ H → va_S (bA base) s.heap H locs → xT σ0 σ → lv_has ls 7 [(0, .ref (ad v0)), (1, .ref (ad v1)), (2, .int v2), (3, .int v3), (5, .int v5)] → F_X12_begins_147 n K_63 v0 v1 v2 v3 v5 s0 s1 σ = some τ → W p l e rm_X12_begins s m args below meth c H locs 0 0 (ZV below s args D cA base ad σ0 τ) (F0 m 147 ls [.int s0, .int s1]) := by
  intro v0 v1 v2 v3 v5 s0 s1 σ H locs ls hT_v0 hT_v1 hG hS hE hl hF
  unfold F_X12_begins_147 at hF
  refine lv_iadd X.1 X.2.1 dX12_begins_147 ?_
  refine lv_istore (lv' := [(4, .int (s1 + s0)), (0, .ref (ad v0)), (1, .ref (ad v1)), (2, .int v2), (3, .int v3), (5, .int v5)]) X.1 X.2.1 dX12_begins_148 hl (by decide) rfl (fun ls hl => ?_)
  refine lv_iinc (v := v5 + 1) (lv' := [(5, .int (v5 + 1)), (4, .int (s1 + s0)), (0, .ref (ad v0)), (1, .ref (ad v1)), (2, .int v2), (3, .int v3)]) X.1 X.2.1 dX12_begins_150 hl (k := 5) rfl rfl (by decide) rfl (fun ls hl => ?_)
  refine lv_goto (tgt := 63) X.1 X.2.1 dX12_begins_153 (by decide) ?_
  exact hK_63 v0 v1 v2 v3 (s1 + s0) (v5 + 1) σ _ _ ls hT_v0 hT_v1 hG hS hE (lv_sub hl [2, 3, 4, 5, 1, 0] rfl) hF
theorem w_X12_begins_128 {σ0 τ : Hp} (X : SX D cA base p s m args meth c cX12_begins 7 none RX12) (n : Nat) (K_63 : Nat → Nat → Int32 → Int32 → Int32 → Int32 → Hp → Option Hp) (hK_63 : ∀ (v0 : Nat) (v1 : Nat) (v2 : Int32) (v3 : Int32) (v4 : Int32) (v5 : Int32) (σ : Hp) (H : Heap) (locs : List Loc) (ls : Array Slot), hT σ v0 12 → hT σ v1 13 → GW D cA base ad σ H → va_S (bA base) s.heap H locs → xT σ0 σ → lv_has ls 7 [(0, .ref (ad v0)), (1, .ref (ad v1)), (2, .int v2), (3, .int v3), (4, .int v4), (5, .int v5)] → K_63 v0 v1 v2 v3 v4 v5 σ = some τ → W p l e rm_X12_begins s m args below meth c H locs 0 0 (ZV below s args D cA base ad σ0 τ) (F0 m 63 ls [])) : ∀ (v0 : Nat) (v1 : Nat) (v2 : Int32) (v3 : Int32) (v4 : Int32) (v5 : Int32) (v6 : Int32) (s0 : Int32) (s1 : Int32) (s2 : Nat) (σ : Hp) (H : Heap) (locs : List Loc) (ls : Array Slot), hT σ v0 12 → hT σ v1 13 → hT σ s2 13 → GW D cA base ad σ H → va_S (bA base) s.heap H locs → xT σ0 σ → lv_has ls 7 [(0, .ref (ad v0)), (1, .ref (ad v1)), (2, .int v2), (3, .int v3), (4, .int v4), (5, .int v5), (6, .int v6)] → F_X12_begins_128 n K_63 v0 v1 v2 v3 v4 v5 v6 s0 s1 s2 σ = some τ → W p l e rm_X12_begins s m args below meth c H locs 0 0 (ZV below s args D cA base ad σ0 τ) (F0 m 128 ls [.int s0, .int s1, .ref (ad s2)]) := by
  intro v0 v1 v2 v3 v4 v5 v6 s0 s1 s2 σ H locs ls hT_v0 hT_v1 hT_s2 hG hS hE hl hF
  unfold F_X12_begins_128 at hF
  refine gx_iast X hG hS hT_s2 hF dX12_begins_128 (fun σ2 H locs hG hS hX hF => ?_)
  have hT_v0 := hX.T hT_v0
  have hT_v1 := hX.T hT_v1
  replace hE := hE.trans hX
  refine lv_iload X.1 X.2.1 dX12_begins_129 (lv_at hl 4 rfl) ?_
  refine lv_aload_n X.1 X.2.1 dX12_begins_131 rfl (lv_at hl 1 rfl) ?_
  refine lv_bipush (v := 43) X.1 X.2.1 dX12_begins_132 (by decide) ?_
  refine lv_iload X.1 X.2.1 dX12_begins_134 (lv_at hl 6 rfl) ?_
  refine lv_iadd X.1 X.2.1 dX12_begins_136 ?_
  refine gx_iald X hG hT_v1 hF dX12_begins_137 (fun hF => ?_)
  refine lv_iconst (v := 1) X.1 X.2.1 dX12_begins_138 (by decide) ?_
  refine lv_icmp_ne (tgt := 146) X.1 X.2.1 dX12_begins_139 (by decide) (fun hc => ?_) (fun hc => ?_)
  · replace hF := it_f hF hc
    refine lv_iconst (v := (-1)) X.1 X.2.1 dX12_begins_146 (by decide) ?_
    exact w_X12_begins_147 X n K_63 hK_63 v0 v1 v2 v3 v5 (-1) v4 σ2 _ _ ls hT_v0 hT_v1 hG hS hE (lv_sub hl [0, 1, 2, 3, 5] rfl) hF
  · replace hF := it_t hF hc
    refine lv_iconst (v := 1) X.1 X.2.1 dX12_begins_142 (by decide) ?_
    refine lv_goto (tgt := 147) X.1 X.2.1 dX12_begins_143 (by decide) ?_
    exact w_X12_begins_147 X n K_63 hK_63 v0 v1 v2 v3 v5 1 v4 σ2 _ _ ls hT_v0 hT_v1 hG hS hE (lv_sub hl [0, 1, 2, 3, 5] rfl) hF
theorem w_X12_begins_107 {σ0 τ : Hp} (X : SX D cA base p s m args meth c cX12_begins 7 none RX12) (n : Nat) (K_63 : Nat → Nat → Int32 → Int32 → Int32 → Int32 → Hp → Option Hp) (hK_63 : ∀ (v0 : Nat) (v1 : Nat) (v2 : Int32) (v3 : Int32) (v4 : Int32) (v5 : Int32) (σ : Hp) (H : Heap) (locs : List Loc) (ls : Array Slot), hT σ v0 12 → hT σ v1 13 → GW D cA base ad σ H → va_S (bA base) s.heap H locs → xT σ0 σ → lv_has ls 7 [(0, .ref (ad v0)), (1, .ref (ad v1)), (2, .int v2), (3, .int v3), (4, .int v4), (5, .int v5)] → K_63 v0 v1 v2 v3 v4 v5 σ = some τ → W p l e rm_X12_begins s m args below meth c H locs 0 0 (ZV below s args D cA base ad σ0 τ) (F0 m 63 ls [])) : ∀ (v0 : Nat) (v1 : Nat) (v2 : Int32) (v3 : Int32) (v4 : Int32) (v5 : Int32) (v6 : Int32) (σ : Hp) (H : Heap) (locs : List Loc) (ls : Array Slot), hT σ v0 12 → hT σ v1 13 → GW D cA base ad σ H → va_S (bA base) s.heap H locs → xT σ0 σ → lv_has ls 7 [(0, .ref (ad v0)), (1, .ref (ad v1)), (2, .int v2), (3, .int v3), (4, .int v4), (5, .int v5), (6, .int v6)] → F_X12_begins_107 n K_63 v0 v1 v2 v3 v4 v5 v6 σ = some τ → W p l e rm_X12_begins s m args below meth c H locs 0 0 (ZV below s args D cA base ad σ0 τ) (F0 m 107 ls []) := by
  intro v0 v1 v2 v3 v4 v5 v6 σ H locs ls hT_v0 hT_v1 hG hS hE hl hF
  unfold F_X12_begins_107 at hF
  refine lv_aload_n X.1 X.2.1 dX12_begins_107 rfl (lv_at hl 1 rfl) ?_
  refine lv_bipush (v := 43) X.1 X.2.1 dX12_begins_108 (by decide) ?_
  refine lv_iload X.1 X.2.1 dX12_begins_110 (lv_at hl 6 rfl) ?_
  refine lv_iadd X.1 X.2.1 dX12_begins_112 ?_
  refine lv_aload_n X.1 X.2.1 dX12_begins_113 rfl (lv_at hl 0 rfl) ?_
  refine lv_aload_n X.1 X.2.1 dX12_begins_114 rfl (lv_at hl 1 rfl) ?_
  refine lv_iload X.1 X.2.1 dX12_begins_115 (lv_at hl 6 rfl) ?_
  obtain ⟨r4, σ3, hz, hF⟩ := b2_ex hF
  refine gx_rI (gx_runV (As := [.ref (ad v1), .int v6]) (rest := [.int (43 + v6), .ref (ad v1)]) X hG hS hT_v0.1 (hT_v0.eq (by decide)) (by decide) rfl (c_X12_saysYes l D cA base ad σ n v0 v1 v6 hT_v0 hT_v1 hz) k_1200 k_1197 k_1199 ks_37 k_4 (h_X12_saysYes) rfl rfl ⟨by decide, by decide⟩ rfl hl.1 rfl (Nat.le_of_ble_eq_true rfl) dX12_begins_117 ⟨Nat.zero_le _, Nat.zero_le _⟩) hS (fun H locs hG hS hX => ?_)
  have hT_v0 := hX.T hT_v0
  have hT_v1 := hX.T hT_v1
  replace hE := hE.trans hX
  refine lv_if_eq (tgt := 127) X.1 X.2.1 dX12_begins_120 (by decide) (fun hc => ?_) (fun hc => ?_)
  · replace hF := it_t hF hc
    refine lv_iconst (v := 0) X.1 X.2.1 dX12_begins_127 (by decide) ?_
    exact w_X12_begins_128 X n K_63 hK_63 v0 v1 v2 v3 v4 v5 v6 0 (43 + v6) v1 σ3 _ _ ls hT_v0 hT_v1 hT_v1 hG hS hE (lv_sub hl [0, 1, 2, 3, 4, 5, 6] rfl) hF
  · replace hF := it_f hF hc
    refine lv_iconst (v := 1) X.1 X.2.1 dX12_begins_123 (by decide) ?_
    refine lv_goto (tgt := 128) X.1 X.2.1 dX12_begins_124 (by decide) ?_
    exact w_X12_begins_128 X n K_63 hK_63 v0 v1 v2 v3 v4 v5 v6 1 (43 + v6) v1 σ3 _ _ ls hT_v0 hT_v1 hT_v1 hG hS hE (lv_sub hl [0, 1, 2, 3, 4, 5, 6] rfl) hF
theorem w_X12_begins_63 {σ0 τ : Hp} (X : SX D cA base p s m args meth c cX12_begins 7 none RX12) (n : Nat)  : ∀ f : Nat, ∀ (v0 : Nat) (v1 : Nat) (v2 : Int32) (v3 : Int32) (v4 : Int32) (v5 : Int32) (σ : Hp) (H : Heap) (locs : List Loc) (ls : Array Slot), hT σ v0 12 → hT σ v1 13 → GW D cA base ad σ H → va_S (bA base) s.heap H locs → xT σ0 σ → lv_has ls 7 [(0, .ref (ad v0)), (1, .ref (ad v1)), (2, .int v2), (3, .int v3), (4, .int v4), (5, .int v5)] → F_X12_begins_63 n  f v0 v1 v2 v3 v4 v5 σ = some τ → W p l e rm_X12_begins s m args below meth c H locs 0 0 (ZV below s args D cA base ad σ0 τ) (F0 m 63 ls []) := by
  intro f
  induction f with
  | zero => intro v0 v1 v2 v3 v4 v5 σ H locs ls h0 h1 hG hS hE hl hF
            rw [F_X12_begins_63] at hF; cases hF
  | succ f ih =>
    intro v0 v1 v2 v3 v4 v5 σ H locs ls hT_v0 hT_v1 hG hS hE hl hF
    rw [F_X12_begins_63] at hF
    refine lv_iload X.1 X.2.1 dX12_begins_63 (lv_at hl 5 rfl) ?_
    refine lv_aload_n X.1 X.2.1 dX12_begins_65 rfl (lv_at hl 1 rfl) ?_
    refine lv_iconst (v := 5) X.1 X.2.1 dX12_begins_66 (by decide) ?_
    refine gx_iald X hG hT_v1 hF dX12_begins_67 (fun hF => ?_)
    refine lv_icmp_ge (tgt := 156) X.1 X.2.1 dX12_begins_68 (by decide) (fun hc => ?_) (fun hc => ?_)
    · replace hF := it_t hF hc
      exact w_X12_begins_156 X n  v0 v1 σ _ _ ls hT_v0 hT_v1 hG hS hE (lv_sub hl [0, 1] rfl) hF
    · replace hF := it_f hF hc
      refine lv_iload_n X.1 X.2.1 dX12_begins_71 rfl (lv_at hl 2 rfl) ?_
      refine lv_iload X.1 X.2.1 dX12_begins_72 (lv_at hl 5 rfl) ?_
      refine lv_iadd X.1 X.2.1 dX12_begins_74 ?_
      refine lv_aload_n X.1 X.2.1 dX12_begins_75 rfl (lv_at hl 1 rfl) ?_
      refine lv_iconst (v := 5) X.1 X.2.1 dX12_begins_76 (by decide) ?_
      refine gx_iald X hG hT_v1 hF dX12_begins_77 (fun hF => ?_)
      obtain ⟨hne, hF⟩ := ck_ex hF
      refine lv_irem X.1 X.2.1 dX12_begins_78 hne ?_
      refine lv_topi (fun x5 ex5 => ?_)
      replace hF := lt_nm hF ex5
      refine lv_istore (lv' := [(6, .int x5), (0, .ref (ad v0)), (1, .ref (ad v1)), (2, .int v2), (3, .int v3), (4, .int v4), (5, .int v5)]) X.1 X.2.1 dX12_begins_79 hl (by decide) rfl (fun ls hl => ?_)
      refine lv_iload_n X.1 X.2.1 dX12_begins_81 rfl (lv_at hl 4 rfl) ?_
      refine lv_if_eq (tgt := 107) X.1 X.2.1 dX12_begins_82 (by decide) (fun hc => ?_) (fun hc => ?_)
      · replace hF := it_t hF hc
        exact w_X12_begins_107 X n (F_X12_begins_63 n  f) ih v0 v1 v2 v3 v4 v5 x5 σ _ _ ls hT_v0 hT_v1 hG hS hE (lv_sub hl [1, 2, 3, 4, 5, 6, 0] rfl) hF
      · replace hF := it_f hF hc
        refine lv_aload_n X.1 X.2.1 dX12_begins_85 rfl (lv_at hl 2 rfl) ?_
        refine lv_bipush (v := 31) X.1 X.2.1 dX12_begins_86 (by decide) ?_
        refine lv_iload X.1 X.2.1 dX12_begins_88 (lv_at hl 0 rfl) ?_
        refine lv_iadd X.1 X.2.1 dX12_begins_90 ?_
        refine lv_aload_n X.1 X.2.1 dX12_begins_91 rfl (lv_at hl 1 rfl) ?_
        refine lv_aload_n X.1 X.2.1 dX12_begins_92 rfl (lv_at hl 2 rfl) ?_
        refine lv_bipush (v := 7) X.1 X.2.1 dX12_begins_93 (by decide) ?_
        refine lv_iload X.1 X.2.1 dX12_begins_95 (lv_at hl 0 rfl) ?_
        refine lv_iadd X.1 X.2.1 dX12_begins_97 ?_
        refine gx_iald X hG hT_v1 hF dX12_begins_98 (fun hF => ?_)
        refine lv_iconst (v := 1) X.1 X.2.1 dX12_begins_99 (by decide) ?_
        obtain ⟨r7, σ6, hz, hF⟩ := b2_ex hF
        refine gx_rI (gx_runV (As := [.int (hI σ v1 (7 + x5).toNatClampNeg), .int 1]) (rest := [.int (31 + x5), .ref (ad v1)]) X hG hS hT_v0.1 (hT_v0.eq (by decide)) (by decide) rfl (c_X12_get l D cA base ad σ n v0 (hI σ v1 (7 + x5).toNatClampNeg) 1 hT_v0 hz) k_1099 k_1096 k_1098 ks_19 k_4 (h_X12_get) rfl rfl ⟨by decide, by decide⟩ rfl hl.1 rfl (Nat.le_of_ble_eq_true rfl) dX12_begins_100 ⟨Nat.zero_le _, Nat.zero_le _⟩) hS (fun H locs hG hS hX => ?_)
        have hT_v0 := hX.T hT_v0
        have hT_v1 := hX.T hT_v1
        replace hE := hE.trans hX
        refine lv_iload X.1 X.2.1 dX12_begins_103 (lv_at hl 5 rfl) ?_
        refine lv_imul X.1 X.2.1 dX12_begins_105 ?_
        refine gx_iast X hG hS hT_v1 hF dX12_begins_106 (fun σ8 H locs hG hS hX hF => ?_)
        have hT_v0 := hX.T hT_v0
        have hT_v1 := hX.T hT_v1
        replace hE := hE.trans hX
        exact w_X12_begins_107 X n (F_X12_begins_63 n  f) ih v0 v1 v2 v3 v4 v5 x5 σ8 _ _ ls hT_v0 hT_v1 hG hS hE (lv_sub hl [1, 2, 3, 4, 5, 6, 0] rfl) hF
theorem w_X12_begins_57 {σ0 τ : Hp} (X : SX D cA base p s m args meth c cX12_begins 7 none RX12) (n : Nat)  : ∀ (v0 : Nat) (v1 : Nat) (v2 : Int32) (v3 : Int32) (σ : Hp) (H : Heap) (locs : List Loc) (ls : Array Slot), hT σ v0 12 → hT σ v1 13 → GW D cA base ad σ H → va_S (bA base) s.heap H locs → xT σ0 σ → lv_has ls 7 [(0, .ref (ad v0)), (1, .ref (ad v1)), (2, .int v2), (3, .int v3)] → F_X12_begins_57 n  v0 v1 v2 v3 σ = some τ → W p l e rm_X12_begins s m args below meth c H locs 0 0 (ZV below s args D cA base ad σ0 τ) (F0 m 57 ls []) := by
  intro v0 v1 v2 v3 σ H locs ls hT_v0 hT_v1 hG hS hE hl hF
  unfold F_X12_begins_57 at hF
  refine lv_iconst (v := 0) X.1 X.2.1 dX12_begins_57 (by decide) ?_
  refine lv_istore (lv' := [(4, .int 0), (0, .ref (ad v0)), (1, .ref (ad v1)), (2, .int v2), (3, .int v3)]) X.1 X.2.1 dX12_begins_58 hl (by decide) rfl (fun ls hl => ?_)
  refine lv_iconst (v := 0) X.1 X.2.1 dX12_begins_60 (by decide) ?_
  refine lv_istore (lv' := [(5, .int 0), (4, .int 0), (0, .ref (ad v0)), (1, .ref (ad v1)), (2, .int v2), (3, .int v3)]) X.1 X.2.1 dX12_begins_61 hl (by decide) rfl (fun ls hl => ?_)
  exact w_X12_begins_63 X n  n v0 v1 v2 v3 0 0 σ _ _ ls hT_v0 hT_v1 hG hS hE (lv_sub hl [2, 3, 4, 5, 1, 0] rfl) hF
theorem w_X12_begins_27 {σ0 τ : Hp} (X : SX D cA base p s m args meth c cX12_begins 7 none RX12) (n : Nat)  : ∀ f : Nat, ∀ (v0 : Nat) (v1 : Nat) (v2 : Int32) (v3 : Int32) (v4 : Int32) (σ : Hp) (H : Heap) (locs : List Loc) (ls : Array Slot), hT σ v0 12 → hT σ v1 13 → GW D cA base ad σ H → va_S (bA base) s.heap H locs → xT σ0 σ → lv_has ls 7 [(0, .ref (ad v0)), (1, .ref (ad v1)), (2, .int v2), (3, .int v3), (4, .int v4)] → F_X12_begins_27 n  f v0 v1 v2 v3 v4 σ = some τ → W p l e rm_X12_begins s m args below meth c H locs 0 0 (ZV below s args D cA base ad σ0 τ) (F0 m 27 ls []) := by
  intro f
  induction f with
  | zero => intro v0 v1 v2 v3 v4 σ H locs ls h0 h1 hG hS hE hl hF
            rw [F_X12_begins_27] at hF; cases hF
  | succ f ih =>
    intro v0 v1 v2 v3 v4 σ H locs ls hT_v0 hT_v1 hG hS hE hl hF
    rw [F_X12_begins_27] at hF
    refine lv_iload X.1 X.2.1 dX12_begins_27 (lv_at hl 4 rfl) ?_
    refine lv_aload_n X.1 X.2.1 dX12_begins_29 rfl (lv_at hl 1 rfl) ?_
    refine lv_iconst (v := 5) X.1 X.2.1 dX12_begins_30 (by decide) ?_
    refine gx_iald X hG hT_v1 hF dX12_begins_31 (fun hF => ?_)
    refine lv_icmp_ge (tgt := 57) X.1 X.2.1 dX12_begins_32 (by decide) (fun hc => ?_) (fun hc => ?_)
    · replace hF := it_t hF hc
      exact w_X12_begins_57 X n  v0 v1 v2 v3 σ _ _ ls hT_v0 hT_v1 hG hS hE (lv_sub hl [0, 1, 2, 3] rfl) hF
    · replace hF := it_f hF hc
      refine lv_aload_n X.1 X.2.1 dX12_begins_35 rfl (lv_at hl 1 rfl) ?_
      refine lv_bipush (v := 31) X.1 X.2.1 dX12_begins_36 (by decide) ?_
      refine lv_iload X.1 X.2.1 dX12_begins_38 (lv_at hl 4 rfl) ?_
      refine lv_iadd X.1 X.2.1 dX12_begins_40 ?_
      refine lv_iconst (v := 0) X.1 X.2.1 dX12_begins_41 (by decide) ?_
      refine gx_iast X hG hS hT_v1 hF dX12_begins_42 (fun σ9 H locs hG hS hX hF => ?_)
      have hT_v0 := hX.T hT_v0
      have hT_v1 := hX.T hT_v1
      replace hE := hE.trans hX
      refine lv_aload_n X.1 X.2.1 dX12_begins_43 rfl (lv_at hl 1 rfl) ?_
      refine lv_bipush (v := 55) X.1 X.2.1 dX12_begins_44 (by decide) ?_
      refine lv_iload X.1 X.2.1 dX12_begins_46 (lv_at hl 4 rfl) ?_
      refine lv_iadd X.1 X.2.1 dX12_begins_48 ?_
      refine lv_iconst (v := 0) X.1 X.2.1 dX12_begins_49 (by decide) ?_
      refine gx_iast X hG hS hT_v1 hF dX12_begins_50 (fun σ10 H locs hG hS hX hF => ?_)
      have hT_v0 := hX.T hT_v0
      have hT_v1 := hX.T hT_v1
      replace hE := hE.trans hX
      refine lv_iinc (v := v4 + 1) (lv' := [(4, .int (v4 + 1)), (0, .ref (ad v0)), (1, .ref (ad v1)), (2, .int v2), (3, .int v3)]) X.1 X.2.1 dX12_begins_51 hl (k := 4) rfl rfl (by decide) rfl (fun ls hl => ?_)
      refine lv_goto (tgt := 27) X.1 X.2.1 dX12_begins_54 (by decide) ?_
      exact ih v0 v1 v2 v3 (v4 + 1) σ10 _ _ ls hT_v0 hT_v1 hG hS hE (lv_sub hl [1, 2, 3, 4, 0] rfl) hF
theorem c_X12_begins (l : Launch) (D : va_G) (cA : Nat → ClassId) (base : Nat) (ad : Nat → Nat) (σ : Hp) (n : Nat) (a0 : Nat) (a1 : Nat) (a2 : Int32) (a3 : Int32) (hT_a0 : hT σ a0 12) (hT_a1 : hT σ a1 13) {τ : Hp} (hF : F_X12_begins n a0 a1 a2 a3 σ = some τ) : MV l yX12_begins cX12_begins 7 rm_X12_begins D cA base ad σ [.ref (ad a0), .ref (ad a1), .int a2, .int a3] τ := by
  refine Met.ofW (cc := cX12_begins) (maxL := 7) (ret := none) (by decide) rfl ?_
  intro p e s m args below meth c s₁ B hml hv
  obtain ⟨rfl, hv⟩ := hv
  have X : SX D cA base p s m ([.ref (ad a0), .ref (ad a1), .int a2, .int a3] : List Value).toArray meth c cX12_begins 7 none RX12 := sx_of B hml hv
  have hG := hv.1
  have hS : va_S (bA base) s.heap s.heap [] := va_S.rf
  have hE := xT.rf σ
  have hl := lv_entry ([.ref (ad a0), .ref (ad a1), .int a2, .int a3]) (n := 7) (Nat.le_of_ble_eq_true rfl)
  rw [lg_entry_eq]
  generalize (lg_sl ([.ref (ad a0), .ref (ad a1), .int a2, .int a3]) ++ List.replicate (7 - (lg_sl ([.ref (ad a0), .ref (ad a1), .int a2, .int a3])).length) Slot.unset).toArray = ls at hl ⊢
  have hl : lv_has ls 7 [(0, .ref (ad a0)), (1, .ref (ad a1)), (2, .int a2), (3, .int a3)] := hl
  unfold F_X12_begins at hF
  refine lv_aload_n X.1 X.2.1 dX12_begins_0 rfl (lv_at hl 1 rfl) ?_
  refine lv_iconst (v := 0) X.1 X.2.1 dX12_begins_1 (by decide) ?_
  refine lv_iconst (v := 0) X.1 X.2.1 dX12_begins_2 (by decide) ?_
  refine gx_iast X hG hS hT_a1 hF dX12_begins_3 (fun σ11 H locs hG hS hX hF => ?_)
  have hT_a0 := hX.T hT_a0
  have hT_a1 := hX.T hT_a1
  replace hE := hE.trans hX
  refine lv_aload_n X.1 X.2.1 dX12_begins_4 rfl (lv_at hl 1 rfl) ?_
  refine lv_iconst (v := 3) X.1 X.2.1 dX12_begins_5 (by decide) ?_
  refine lv_iconst (v := 0) X.1 X.2.1 dX12_begins_6 (by decide) ?_
  refine gx_iast X hG hS hT_a1 hF dX12_begins_7 (fun σ12 H locs hG hS hX hF => ?_)
  have hT_a0 := hX.T hT_a0
  have hT_a1 := hX.T hT_a1
  replace hE := hE.trans hX
  refine lv_aload_n X.1 X.2.1 dX12_begins_8 rfl (lv_at hl 1 rfl) ?_
  refine lv_iconst (v := 4) X.1 X.2.1 dX12_begins_9 (by decide) ?_
  refine lv_iload_n X.1 X.2.1 dX12_begins_10 rfl (lv_at hl 2 rfl) ?_
  refine gx_iast X hG hS hT_a1 hF dX12_begins_11 (fun σ13 H locs hG hS hX hF => ?_)
  have hT_a0 := hX.T hT_a0
  have hT_a1 := hX.T hT_a1
  replace hE := hE.trans hX
  refine lv_aload_n X.1 X.2.1 dX12_begins_12 rfl (lv_at hl 1 rfl) ?_
  refine lv_bipush (v := 6) X.1 X.2.1 dX12_begins_13 (by decide) ?_
  refine lv_iconst (v := 1) X.1 X.2.1 dX12_begins_15 (by decide) ?_
  refine gx_iast X hG hS hT_a1 hF dX12_begins_16 (fun σ14 H locs hG hS hX hF => ?_)
  have hT_a0 := hX.T hT_a0
  have hT_a1 := hX.T hT_a1
  replace hE := hE.trans hX
  refine lv_aload_n X.1 X.2.1 dX12_begins_17 rfl (lv_at hl 0 rfl) ?_
  refine lv_iconst (v := 0) X.1 X.2.1 dX12_begins_18 (by decide) ?_
  refine lv_iconst (v := 0) X.1 X.2.1 dX12_begins_19 (by decide) ?_
  refine lv_iconst (v := 0) X.1 X.2.1 dX12_begins_20 (by decide) ?_
  obtain ⟨σ15, hz, hF⟩ := b1_ex hF
  refine gx_rV (gx_runV (As := [.int 0, .int 0, .int 0]) (rest := []) X hG hS hT_a0.1 (hT_a0.eq (by decide)) (by decide) rfl (c_X12_sees l D cA base ad σ14 n a0 0 0 0 hT_a0 hz) k_1152 k_1149 k_1151 ks_28 k_4 (h_X12_sees) rfl rfl ⟨by decide, by decide⟩ rfl hl.1 rfl (Nat.le_of_ble_eq_true rfl) dX12_begins_21 ⟨Nat.zero_le _, Nat.zero_le _⟩) hS (fun H locs hG hS hX => ?_)
  have hT_a0 := hX.T hT_a0
  have hT_a1 := hX.T hT_a1
  replace hE := hE.trans hX
  refine lv_iconst (v := 0) X.1 X.2.1 dX12_begins_24 (by decide) ?_
  refine lv_istore (lv' := [(4, .int 0), (0, .ref (ad a0)), (1, .ref (ad a1)), (2, .int a2), (3, .int a3)]) X.1 X.2.1 dX12_begins_25 hl (by decide) rfl (fun ls hl => ?_)
  exact w_X12_begins_27 X n  n a0 a1 a2 a3 0 σ15 _ _ ls hT_a0 hT_a1 hG hS hE (lv_sub hl [1, 2, 3, 4, 0] rfl) hF
theorem c_X12_lesser (l : Launch) (D : va_G) (cA : Nat → ClassId) (base : Nat) (ad : Nat → Nat) (σ : Hp) (n : Nat) (a0 : Int32) (a1 : Int32)  {τ : Hp} {r : Int32} (hF : F_X12_lesser n a0 a1 σ = some (r, τ)) : MI l yX12_lesser cX12_lesser 2 (some .int) rm_X12_lesser D cA base ad σ [.int a0, .int a1] r τ := by
  refine Met.ofW (cc := cX12_lesser) (maxL := 2) (ret := (some .int)) (by decide) rfl ?_
  intro p e s m args below meth c s₁ B hml hv
  obtain ⟨rfl, hv⟩ := hv
  have X : SX D cA base p s m ([.int a0, .int a1] : List Value).toArray meth c cX12_lesser 2 (some .int) RX12 := sx_of B hml hv
  have hG := hv.1
  have hS : va_S (bA base) s.heap s.heap [] := va_S.rf
  have hE := xT.rf σ
  have hl := lv_entry ([.int a0, .int a1]) (n := 2) (Nat.le_of_ble_eq_true rfl)
  rw [lg_entry_eq]
  generalize (lg_sl ([.int a0, .int a1]) ++ List.replicate (2 - (lg_sl ([.int a0, .int a1])).length) Slot.unset).toArray = ls at hl ⊢
  have hl : lv_has ls 2 [(0, .int a0), (1, .int a1)] := hl
  unfold F_X12_lesser at hF
  refine lv_iload_n X.1 X.2.1 dX12_lesser_0 rfl (lv_at hl 0 rfl) ?_
  refine lv_iload_n X.1 X.2.1 dX12_lesser_1 rfl (lv_at hl 1 rfl) ?_
  refine lv_icmp_ge (tgt := 9) X.1 X.2.1 dX12_lesser_2 (by decide) (fun hc => ?_) (fun hc => ?_)
  · replace hF := it_t hF hc
    refine lv_iload_n X.1 X.2.1 dX12_lesser_9 rfl (lv_at hl 1 rfl) ?_
    exact gx_iret X hG hS hE hF dX12_lesser_10
  · replace hF := it_f hF hc
    refine lv_iload_n X.1 X.2.1 dX12_lesser_5 rfl (lv_at hl 0 rfl) ?_
    refine lv_goto (tgt := 10) X.1 X.2.1 dX12_lesser_6 (by decide) ?_
    exact gx_iret X hG hS hE hF dX12_lesser_10
theorem c_X12_endOf (l : Launch) (D : va_G) (cA : Nat → ClassId) (base : Nat) (ad : Nat → Nat) (σ : Hp) (n : Nat) (a0 : Nat) (a1 : Nat) (a2 : Int32) (hT_a0 : hT σ a0 12) (hT_a1 : hT σ a1 13) {τ : Hp} {r : Int32} (hF : F_X12_endOf n a0 a1 a2 σ = some (r, τ)) : MI l yX12_endOf cX12_endOf 3 (some .int) rm_X12_endOf D cA base ad σ [.ref (ad a0), .ref (ad a1), .int a2] r τ := by
  refine Met.ofW (cc := cX12_endOf) (maxL := 3) (ret := (some .int)) (by decide) rfl ?_
  intro p e s m args below meth c s₁ B hml hv
  obtain ⟨rfl, hv⟩ := hv
  have X : SX D cA base p s m ([.ref (ad a0), .ref (ad a1), .int a2] : List Value).toArray meth c cX12_endOf 3 (some .int) RX12 := sx_of B hml hv
  have hG := hv.1
  have hS : va_S (bA base) s.heap s.heap [] := va_S.rf
  have hE := xT.rf σ
  have hl := lv_entry ([.ref (ad a0), .ref (ad a1), .int a2]) (n := 3) (Nat.le_of_ble_eq_true rfl)
  rw [lg_entry_eq]
  generalize (lg_sl ([.ref (ad a0), .ref (ad a1), .int a2]) ++ List.replicate (3 - (lg_sl ([.ref (ad a0), .ref (ad a1), .int a2])).length) Slot.unset).toArray = ls at hl ⊢
  have hl : lv_has ls 3 [(0, .ref (ad a0)), (1, .ref (ad a1)), (2, .int a2)] := hl
  unfold F_X12_endOf at hF
  refine lv_aload_n X.1 X.2.1 dX12_endOf_0 rfl (lv_at hl 1 rfl) ?_
  refine lv_iconst (v := 1) X.1 X.2.1 dX12_endOf_1 (by decide) ?_
  refine gx_iald X hG hT_a1 hF dX12_endOf_2 (fun hF => ?_)
  refine lv_iload_n X.1 X.2.1 dX12_endOf_3 rfl (lv_at hl 2 rfl) ?_
  refine lv_icmp_lt (tgt := 11) X.1 X.2.1 dX12_endOf_4 (by decide) (fun hc => ?_) (fun hc => ?_)
  · replace hF := it_t hF hc
    refine lv_aload_n X.1 X.2.1 dX12_endOf_11 rfl (lv_at hl 1 rfl) ?_
    refine lv_iconst (v := 2) X.1 X.2.1 dX12_endOf_12 (by decide) ?_
    refine gx_iald X hG hT_a1 hF dX12_endOf_13 (fun hF => ?_)
    refine lv_iload_n X.1 X.2.1 dX12_endOf_14 rfl (lv_at hl 2 rfl) ?_
    refine lv_icmp_lt (tgt := 22) X.1 X.2.1 dX12_endOf_15 (by decide) (fun hc => ?_) (fun hc => ?_)
    · replace hF := it_t hF hc
      refine lv_aload_n X.1 X.2.1 dX12_endOf_22 rfl (lv_at hl 1 rfl) ?_
      refine lv_iconst (v := 0) X.1 X.2.1 dX12_endOf_23 (by decide) ?_
      refine gx_iald X hG hT_a1 hF dX12_endOf_24 (fun hF => ?_)
      refine lv_aload_n X.1 X.2.1 dX12_endOf_25 rfl (lv_at hl 0 rfl) ?_
      obtain ⟨i1, hr, hF⟩ := b1_ex hF
      have hT_i1 : hT σ i1 13 := gw_T hG hT_a0 (by decide) hr
      refine gx_get 0 (v := .ref (ad i1)) X hG hT_a0.1 (hT_a0.eq (by decide)) (by decide) rfl inX12 (by decide) k_960 (fun _ h => h) (gx_rfv hr) dX12_endOf_26 ?_
      refine lv_bipush (v := 6) X.1 X.2.1 dX12_endOf_29 (by decide) ?_
      refine gx_iald X hG hT_i1 hF dX12_endOf_31 (fun hF => ?_)
      refine lv_icmp_lt (tgt := 39) X.1 X.2.1 dX12_endOf_32 (by decide) (fun hc => ?_) (fun hc => ?_)
      · replace hF := it_t hF hc
        refine lv_bipush (v := (-4)) X.1 X.2.1 dX12_endOf_39 (by decide) ?_
        exact gx_iret X hG hS hE hF dX12_endOf_41
      · replace hF := it_f hF hc
        refine lv_iconst (v := 2) X.1 X.2.1 dX12_endOf_35 (by decide) ?_
        refine lv_goto (tgt := 41) X.1 X.2.1 dX12_endOf_36 (by decide) ?_
        exact gx_iret X hG hS hE hF dX12_endOf_41
    · replace hF := it_f hF hc
      refine lv_iconst (v := 0) X.1 X.2.1 dX12_endOf_18 (by decide) ?_
      refine lv_goto (tgt := 41) X.1 X.2.1 dX12_endOf_19 (by decide) ?_
      exact gx_iret X hG hS hE hF dX12_endOf_41
  · replace hF := it_f hF hc
    refine lv_iconst (v := 1) X.1 X.2.1 dX12_endOf_7 (by decide) ?_
    refine lv_goto (tgt := 41) X.1 X.2.1 dX12_endOf_8 (by decide) ?_
    exact gx_iret X hG hS hE hF dX12_endOf_41
theorem w_X12_allHold_13 {σ0 τ : Hp} {r : Int32} (X : SX D cA base p s m args meth c cX12_allHold 4 (some .int) RX12) (n : Nat)  : ∀ f : Nat, ∀ (v1 : Nat) (v2 : Int32) (v3 : Int32) (σ : Hp) (H : Heap) (locs : List Loc) (ls : Array Slot), hT σ v1 13 → GW D cA base ad σ H → va_S (bA base) s.heap H locs → xT σ0 σ → lv_has ls 4 [(1, .ref (ad v1)), (2, .int v2), (3, .int v3)] → F_X12_allHold_13 n  f v1 v2 v3 σ = some (r, τ) → W p l e rm_X12_allHold s m args below meth c H locs 0 0 (ZI below s args D cA base ad σ0 r τ) (F0 m 13 ls []) := by
  intro f
  induction f with
  | zero => intro v1 v2 v3 σ H locs ls h0 hG hS hE hl hF
            rw [F_X12_allHold_13] at hF; cases hF
  | succ f ih =>
    intro v1 v2 v3 σ H locs ls hT_v1 hG hS hE hl hF
    rw [F_X12_allHold_13] at hF
    refine lv_iload_n X.1 X.2.1 dX12_allHold_13 rfl (lv_at hl 2 rfl) ?_
    refine lv_aload_n X.1 X.2.1 dX12_allHold_14 rfl (lv_at hl 0 rfl) ?_
    refine lv_iconst (v := 5) X.1 X.2.1 dX12_allHold_15 (by decide) ?_
    refine gx_iald X hG hT_v1 hF dX12_allHold_16 (fun hF => ?_)
    refine lv_icmp_ge (tgt := 35) X.1 X.2.1 dX12_allHold_17 (by decide) (fun hc => ?_) (fun hc => ?_)
    · replace hF := it_t hF hc
      refine lv_iload_n X.1 X.2.1 dX12_allHold_35 rfl (lv_at hl 1 rfl) ?_
      exact gx_iret X hG hS hE hF dX12_allHold_36
    · replace hF := it_f hF hc
      refine lv_iload_n X.1 X.2.1 dX12_allHold_20 rfl (lv_at hl 1 rfl) ?_
      refine lv_aload_n X.1 X.2.1 dX12_allHold_21 rfl (lv_at hl 0 rfl) ?_
      refine lv_bipush (v := 19) X.1 X.2.1 dX12_allHold_22 (by decide) ?_
      refine lv_iload_n X.1 X.2.1 dX12_allHold_24 rfl (lv_at hl 2 rfl) ?_
      refine lv_iadd X.1 X.2.1 dX12_allHold_25 ?_
      refine gx_iald X hG hT_v1 hF dX12_allHold_26 (fun hF => ?_)
      refine lv_iand X.1 X.2.1 dX12_allHold_27 ?_
      refine lv_istore_n (lv' := [(2, .int (v2 &&& (hI σ v1 (19 + v3).toNatClampNeg))), (1, .ref (ad v1)), (3, .int v3)]) X.1 X.2.1 dX12_allHold_28 rfl hl (by decide) rfl (fun ls hl => ?_)
      refine lv_iinc (v := v3 + 1) (lv' := [(3, .int (v3 + 1)), (2, .int (v2 &&& (hI σ v1 (19 + v3).toNatClampNeg))), (1, .ref (ad v1))]) X.1 X.2.1 dX12_allHold_29 hl (k := 2) rfl rfl (by decide) rfl (fun ls hl => ?_)
      refine lv_goto (tgt := 13) X.1 X.2.1 dX12_allHold_32 (by decide) ?_
      exact ih v1 (v2 &&& (hI σ v1 (19 + v3).toNatClampNeg)) (v3 + 1) σ _ _ ls hT_v1 hG hS hE (lv_sub hl [2, 1, 0] rfl) hF
theorem c_X12_allHold (l : Launch) (D : va_G) (cA : Nat → ClassId) (base : Nat) (ad : Nat → Nat) (σ : Hp) (n : Nat) (a0 : Nat) (a1 : Nat) (hT_a0 : hT σ a0 12) (hT_a1 : hT σ a1 13) {τ : Hp} {r : Int32} (hF : F_X12_allHold n a0 a1 σ = some (r, τ)) : MI l yX12_allHold cX12_allHold 4 (some .int) rm_X12_allHold D cA base ad σ [.ref (ad a0), .ref (ad a1)] r τ := by
  refine Met.ofW (cc := cX12_allHold) (maxL := 4) (ret := (some .int)) (by decide) rfl ?_
  intro p e s m args below meth c s₁ B hml hv
  obtain ⟨rfl, hv⟩ := hv
  have X : SX D cA base p s m ([.ref (ad a0), .ref (ad a1)] : List Value).toArray meth c cX12_allHold 4 (some .int) RX12 := sx_of B hml hv
  have hG := hv.1
  have hS : va_S (bA base) s.heap s.heap [] := va_S.rf
  have hE := xT.rf σ
  have hl := lv_entry ([.ref (ad a0), .ref (ad a1)]) (n := 4) (Nat.le_of_ble_eq_true rfl)
  rw [lg_entry_eq]
  generalize (lg_sl ([.ref (ad a0), .ref (ad a1)]) ++ List.replicate (4 - (lg_sl ([.ref (ad a0), .ref (ad a1)])).length) Slot.unset).toArray = ls at hl ⊢
  have hl : lv_has ls 4 [(0, .ref (ad a0)), (1, .ref (ad a1))] := hl
  unfold F_X12_allHold at hF
  refine lv_iconst (v := 1) X.1 X.2.1 dX12_allHold_0 (by decide) ?_
  refine lv_aload_n X.1 X.2.1 dX12_allHold_1 rfl (lv_at hl 0 rfl) ?_
  obtain ⟨i1, hr, hF⟩ := b1_ex hF
  have hT_i1 : hT σ i1 13 := gw_T hG hT_a0 (by decide) hr
  refine gx_get 0 (v := .ref (ad i1)) X hG hT_a0.1 (hT_a0.eq (by decide)) (by decide) rfl inX12 (by decide) k_960 (fun _ h => h) (gx_rfv hr) dX12_allHold_2 ?_
  refine lv_iconst (v := 0) X.1 X.2.1 dX12_allHold_5 (by decide) ?_
  refine gx_iald X hG hT_i1 hF dX12_allHold_6 (fun hF => ?_)
  refine lv_ishl X.1 X.2.1 dX12_allHold_7 ?_
  refine lv_iconst (v := 1) X.1 X.2.1 dX12_allHold_8 (by decide) ?_
  refine lv_isub X.1 X.2.1 dX12_allHold_9 ?_
  refine lv_topi (fun x2 ex2 => ?_)
  replace hF := lt_nm hF ex2
  refine lv_istore_n (lv' := [(2, .int x2), (0, .ref (ad a0)), (1, .ref (ad a1))]) X.1 X.2.1 dX12_allHold_10 rfl hl (by decide) rfl (fun ls hl => ?_)
  refine lv_iconst (v := 0) X.1 X.2.1 dX12_allHold_11 (by decide) ?_
  refine lv_istore_n (lv' := [(3, .int 0), (2, .int x2), (0, .ref (ad a0)), (1, .ref (ad a1))]) X.1 X.2.1 dX12_allHold_12 rfl hl (by decide) rfl (fun ls hl => ?_)
  exact w_X12_allHold_13 X n  n a1 x2 0 σ _ _ ls hT_a1 hG hS hE (lv_sub hl [3, 1, 0] rfl) hF
theorem c_X12_amount (l : Launch) (D : va_G) (cA : Nat → ClassId) (base : Nat) (ad : Nat → Nat) (σ : Hp) (n : Nat) (a0 : Int32)  {τ : Hp} {r : Int32} (hF : F_X12_amount n a0 σ = some (r, τ)) : MI l yX12_amount cX12_amount 1 (some .int) rm_X12_amount D cA base ad σ [.int a0] r τ := by
  refine Met.ofW (cc := cX12_amount) (maxL := 1) (ret := (some .int)) (by decide) rfl ?_
  intro p e s m args below meth c s₁ B hml hv
  obtain ⟨rfl, hv⟩ := hv
  have X : SX D cA base p s m ([.int a0] : List Value).toArray meth c cX12_amount 1 (some .int) RX12 := sx_of B hml hv
  have hG := hv.1
  have hS : va_S (bA base) s.heap s.heap [] := va_S.rf
  have hE := xT.rf σ
  have hl := lv_entry ([.int a0]) (n := 1) (Nat.le_of_ble_eq_true rfl)
  rw [lg_entry_eq]
  generalize (lg_sl ([.int a0]) ++ List.replicate (1 - (lg_sl ([.int a0])).length) Slot.unset).toArray = ls at hl ⊢
  have hl : lv_has ls 1 [(0, .int a0)] := hl
  unfold F_X12_amount at hF
  refine lv_iload_n X.1 X.2.1 dX12_amount_0 rfl (lv_at hl 0 rfl) ?_
  refine lv_if_ge (tgt := 9) X.1 X.2.1 dX12_amount_1 (by decide) (fun hc => ?_) (fun hc => ?_)
  · replace hF := it_t hF hc
    refine lv_iload_n X.1 X.2.1 dX12_amount_9 rfl (lv_at hl 0 rfl) ?_
    exact gx_iret X hG hS hE hF dX12_amount_10
  · replace hF := it_f hF hc
    refine lv_iload_n X.1 X.2.1 dX12_amount_4 rfl (lv_at hl 0 rfl) ?_
    refine lv_ineg X.1 X.2.1 dX12_amount_5 ?_
    refine lv_goto (tgt := 10) X.1 X.2.1 dX12_amount_6 (by decide) ?_
    exact gx_iret X hG hS hE hF dX12_amount_10
end W_model5
