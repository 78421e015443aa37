/-! model4: printed by wip/whole/gen.py -/
section W_model4
variable {p : Program} {l : Launch} {e : Env} {s : State} {m : MethodId} {args : Array Value} {below : List Frame} {meth : Method} {c : Code} {D : va_G} {cA : Nat → ClassId} {base : Nat} {ad : Nat → Nat}
def F_X12_sum_58 (KS : Nat → Hp → Option (Int32 × Hp)) (n : Nat) (K_5 : Nat → Int32 → Hp → Option (Int32 × Hp)) (v0 : Nat) (s0 : Int32) (σ : Hp) : Option (Int32 × Hp) := K_5 v0 s0 σ
def F_X12_sum_23 (KS : Nat → Hp → Option (Int32 × Hp)) (n : Nat) (K_5 : Nat → Int32 → Hp → Option (Int32 × Hp)) (v0 : Nat) (v1 : Int32) (σ : Hp) : Option (Int32 × Hp) := b2 (F_X12_sign n v0 σ) fun (r2 : Int32) (σ1 : Hp) => lt (pI σ1 v0 16 ((hI σ1 v0 16) + 1)) fun (σ3 : Hp) => b2 (F_X12_product KS n v0 σ3) fun (r5 : Int32) (σ4 : Hp) => if r2 = 43 then (F_X12_sum_58 KS n K_5 v0 (v1 + r5) σ4) else (F_X12_sum_58 KS n K_5 v0 (v1 - r5) σ4)
def F_X12_sum_5 (KS : Nat → Hp → Option (Int32 × Hp)) (n : Nat)  : Nat → Nat → Int32 → Hp → Option (Int32 × Hp)
  | 0, _, _, _ => none
  | f + 1, v0, v1, σ => b2 (F_X12_sign n v0 σ) fun (r7 : Int32) (σ6 : Hp) => if r7 = 43 then (F_X12_sum_23 KS n (F_X12_sum_5 KS n  f) v0 v1 σ6) else (b2 (F_X12_sign n v0 σ6) fun (r9 : Int32) (σ8 : Hp) => if r9 = 45 then (F_X12_sum_23 KS n (F_X12_sum_5 KS n  f) v0 v1 σ8) else (some (v1, σ8)))
def F_X12_sumB (KS : Nat → Hp → Option (Int32 × Hp)) (n : Nat) (a0 : Nat) (σ : Hp) : Option (Int32 × Hp) := b2 (F_X12_product KS n a0 σ) fun (r11 : Int32) (σ10 : Hp) => F_X12_sum_5 KS n  n a0 r11 σ10
def F_X12_sum (n : Nat) : Nat → Nat → Hp → Option (Int32 × Hp)
  | 0, _, _ => none
  | d + 1, a0, σ => F_X12_sumB (F_X12_sum n d) n a0 σ
abbrev rm_X12_speaksOf : Room := { frames := 0, cells := 0, slots := 0, locals := 0 }
theorem h_X12_speaksOf : yX12_speaksOf.cls = RX12 ∧ yX12_speaksOf.cls ≠ "java/lang/invoke/MethodHandle" ∧ yX12_speaksOf.cls ≠ "java/lang/invoke/VarHandle" ∧ (parseMethodDescriptor yX12_speaksOf.desc).map (fun d => d.parameters.length) = some 1 := by decide +kernel
def F_X12_speaksOf_4 (n : Nat)  : Nat → Nat → Int32 → Int32 → Int32 → Hp → Option (Int32 × Hp)
  | 0, _, _, _, _, _ => none
  | f + 1, v0, v1, v2, v3, σ => b1 (hR σ v0 0) fun (i1 : Nat) => ck (¬ ((0 : Int32) < 0 ∨ hL σ i1 ≤ (0 : Int32).toNatClampNeg)) (if (hI σ i1 (0 : Int32).toNatClampNeg) ≤ v3 then (some (v2, σ)) else (b1 (hR σ v0 0) fun (i2 : Nat) => ck (¬ ((7 + v3) < 0 ∨ hL σ i2 ≤ (7 + v3).toNatClampNeg)) (lt (v2 + (((v1 >>> (v3 &&& 31)) &&& 1) * (hI σ i2 (7 + v3).toNatClampNeg))) fun (x3 : Int32) => (F_X12_speaksOf_4 n  f) v0 v1 x3 (v3 + 1) σ)))
def F_X12_speaksOf (n : Nat) (a0 : Nat) (a1 : Int32) (σ : Hp) : Option (Int32 × Hp) := F_X12_speaksOf_4 n  n a0 a1 0 0 σ
abbrev rm_X12_leansBy : Room := { frames := 31, cells := 0, slots := 0, locals := 735 }
theorem h_X12_leansBy : yX12_leansBy.cls = RX12 ∧ yX12_leansBy.cls ≠ "java/lang/invoke/MethodHandle" ∧ yX12_leansBy.cls ≠ "java/lang/invoke/VarHandle" ∧ (parseMethodDescriptor yX12_leansBy.desc).map (fun d => d.parameters.length) = some 3 := by decide +kernel
def F_X12_leansBy (n : Nat) (a0 : Nat) (a1 : Int32) (a2 : Int32) (a3 : Int32) (σ : Hp) : Option (Int32 × Hp) := b2 (F_X12_speaksOf n a0 a2 σ) fun (r2 : Int32) (σ1 : Hp) => lt (pI σ1 a0 21 r2) fun (σ3 : Hp) => lt (pI σ3 a0 22 a3) fun (σ4 : Hp) => b2 (F_X12_get n a0 a1 5 σ4) fun (r6 : Int32) (σ5 : Hp) => if 0 ≤ r6 then (b1 (hR σ5 a0 2) fun (i7 : Nat) => lt (pR σ5 a0 15 (some i7)) fun (σ8 : Hp) => lt (pI σ8 a0 17 (100 * r6)) fun (σ9 : Hp) => b1 (hR σ9 a0 0) fun (i10 : Nat) => ck (¬ ((103 + r6) < 0 ∨ hL σ9 i10 ≤ (103 + r6).toNatClampNeg)) (lt (pI σ9 a0 18 (hI σ9 i10 (103 + r6).toNatClampNeg)) fun (σ11 : Hp) => lt (pI σ11 a0 16 0) fun (σ12 : Hp) => b2 (F_X12_sum n 8 a0 σ12) fun (r14 : Int32) (σ13 : Hp) => some (r14, σ13))) else (some ((hI σ5 a0 21) + (hI σ5 a0 22), σ5))
abbrev rm_X12_sees : Room := { frames := 0, cells := 0, slots := 0, locals := 0 }
theorem h_X12_sees : yX12_sees.cls = RX12 ∧ yX12_sees.cls ≠ "java/lang/invoke/MethodHandle" ∧ yX12_sees.cls ≠ "java/lang/invoke/VarHandle" ∧ (parseMethodDescriptor yX12_sees.desc).map (fun d => d.parameters.length) = some 3 := by decide +kernel
def F_X12_sees (n : Nat) (a0 : Nat) (a1 : Int32) (a2 : Int32) (a3 : Int32) (σ : Hp) : Option Hp := lt (pI σ a0 23 a1) fun (σ1 : Hp) => lt (pI σ1 a0 24 a2) fun (σ2 : Hp) => lt (pI σ2 a0 25 a3) fun (σ3 : Hp) => some σ3
abbrev rm_X12_leans : Room := { frames := 32, cells := 0, slots := 0, locals := 759 }
theorem h_X12_leans : yX12_leans.cls = RX12 ∧ yX12_leans.cls ≠ "java/lang/invoke/MethodHandle" ∧ yX12_leans.cls ≠ "java/lang/invoke/VarHandle" ∧ (parseMethodDescriptor yX12_leans.desc).map (fun d => d.parameters.length) = some 1 := by decide +kernel
def F_X12_leans (n : Nat) (a0 : Nat) (a1 : Int32) (σ : Hp) : Option (Int32 × Hp) := b2 (F_X12_isJuror n a0 a1 σ) fun (r2 : Int32) (σ1 : Hp) => if r2 = 0 then (some ((-1000000001), σ1)) else (b2 (F_X12_hasBegun n a0 σ1) fun (r4 : Int32) (σ3 : Hp) => if r4 = 0 then (b1 (F_X12_sees n a0 0 0 0 σ3) fun (σ13 : Hp) => b2 (F_X12_get n a0 a1 6 σ13) fun (r15 : Int32) (σ14 : Hp) => b2 (F_X12_leansBy n a0 a1 r15 0 σ14) fun (r17 : Int32) (σ16 : Hp) => some (r17, σ16)) else (b1 (hR σ3 a0 4) fun (i5 : Nat) => ck (¬ ((1 : Int32) < 0 ∨ hL σ3 i5 ≤ (1 : Int32).toNatClampNeg)) (b1 (hR σ3 a0 4) fun (i6 : Nat) => ck (¬ ((2 : Int32) < 0 ∨ hL σ3 i6 ≤ (2 : Int32).toNatClampNeg)) (b1 (hR σ3 a0 4) fun (i7 : Nat) => ck (¬ ((0 : Int32) < 0 ∨ hL σ3 i7 ≤ (0 : Int32).toNatClampNeg)) (b1 (F_X12_sees n a0 (hI σ3 i5 (1 : Int32).toNatClampNeg) (hI σ3 i6 (2 : Int32).toNatClampNeg) (hI σ3 i7 (0 : Int32).toNatClampNeg) σ3) fun (σ8 : Hp) => b1 (hR σ8 a0 4) fun (i9 : Nat) => ck (¬ ((19 + a1) < 0 ∨ hL σ8 i9 ≤ (19 + a1).toNatClampNeg)) (b1 (hR σ8 a0 4) fun (i10 : Nat) => ck (¬ ((31 + a1) < 0 ∨ hL σ8 i10 ≤ (31 + a1).toNatClampNeg)) (b2 (F_X12_leansBy n a0 a1 (hI σ8 i9 (19 + a1).toNatClampNeg) (hI σ8 i10 (31 + a1).toNatClampNeg) σ8) fun (r12 : Int32) (σ11 : Hp) => some (r12, σ11))))))))
abbrev rm_X12_set : Room := { frames := 1, cells := 0, slots := 0, locals := 25 }
theorem h_X12_set : yX12_set.cls = RX12 ∧ yX12_set.cls ≠ "java/lang/invoke/MethodHandle" ∧ yX12_set.cls ≠ "java/lang/invoke/VarHandle" ∧ (parseMethodDescriptor yX12_set.desc).map (fun d => d.parameters.length) = some 2 := by decide +kernel
def F_X12_set_61 (n : Nat)  (v0 : Nat) (v1 : Int32) (v2 : Int32) (s0 : Int64) (s1 : Int64) (s2 : Int64) (σ : Hp) : Option (Int32 × Hp) := b2 (F_X12_isIn n s2 s1 s0 σ) fun (r2 : Int32) (σ1 : Hp) => if r2 = 0 then (some ((-1), σ1)) else (b2 (F_X12_becomes n v0 (3 + v1) v2 σ1) fun (r4 : Int32) (σ3 : Hp) => some (r4, σ3))
def F_X12_set_28 (n : Nat)  (v0 : Nat) (v1 : Int32) (v2 : Int32) (s0 : Int64) (s1 : Int64) (σ : Hp) : Option (Int32 × Hp) := if v1 = 0 then (F_X12_set_61 n  v0 v1 v2 12 s0 s1 σ) else (if v1 = 1 then (F_X12_set_61 n  v0 v1 v2 11 s0 s1 σ) else (if v1 = 2 then (F_X12_set_61 n  v0 v1 v2 1 s0 s1 σ) else (F_X12_set_61 n  v0 v1 v2 3000 s0 s1 σ)))
def F_X12_set_23 (n : Nat)  (v0 : Nat) (v1 : Int32) (v2 : Int32) (s0 : Int64) (σ : Hp) : Option (Int32 × Hp) := F_X12_set_28 n  v0 v1 v2 1 s0 σ
def F_X12_set (n : Nat) (a0 : Nat) (a1 : Int32) (a2 : Int32) (σ : Hp) : Option (Int32 × Hp) := b2 (F_X12_isIn n a1.toInt64 0 3 σ) fun (r6 : Int32) (σ5 : Hp) => if r6 = 0 then (some ((-1), σ5)) else (if a1 = 0 then (F_X12_set_23 n  a0 a1 a2 a2.toInt64 σ5) else (if a1 = 3 then (F_X12_set_23 n  a0 a1 a2 a2.toInt64 σ5) else (F_X12_set_28 n  a0 a1 a2 0 a2.toInt64 σ5)))
abbrev rm_X12_counts : Room := { frames := 0, cells := 0, slots := 0, locals := 0 }
theorem h_X12_counts : yX12_counts.cls = RX12 ∧ yX12_counts.cls ≠ "java/lang/invoke/MethodHandle" ∧ yX12_counts.cls ≠ "java/lang/invoke/VarHandle" ∧ (parseMethodDescriptor yX12_counts.desc).map (fun d => d.parameters.length) = some 1 := by decide +kernel
def F_X12_counts_44 (n : Nat) (K_10 : Nat → Int32 → Hp → Option Hp) (v1 : Nat) (v2 : Int32) (σ : Hp) : Option Hp := K_10 v1 (v2 + 1) σ
def F_X12_counts_10 (n : Nat)  : Nat → Nat → Int32 → Hp → Option Hp
  | 0, _, _, _ => none
  | f + 1, v1, v2, σ => ck (¬ ((5 : Int32) < 0 ∨ hL σ v1 ≤ (5 : Int32).toNatClampNeg)) (if (hI σ v1 (5 : Int32).toNatClampNeg) ≤ v2 then (some σ) else (ck (¬ ((43 + v2) < 0 ∨ hL σ v1 ≤ (43 + v2).toNatClampNeg)) (if (hI σ v1 (43 + v2).toNatClampNeg) = 1 then (ck (¬ ((1 : Int32) < 0 ∨ hL σ v1 ≤ (1 : Int32).toNatClampNeg)) (ck (¬ ((1 : Int32) < 0 ∨ hL σ v1 ≤ (1 : Int32).toNatClampNeg)) (lt (pI σ v1 (1 : Int32).toNatClampNeg ((hI σ v1 (1 : Int32).toNatClampNeg) + 1)) fun (σ2 : Hp) => F_X12_counts_44 n (F_X12_counts_10 n  f) v1 v2 σ2))) else (ck (¬ ((2 : Int32) < 0 ∨ hL σ v1 ≤ (2 : Int32).toNatClampNeg)) (ck (¬ ((2 : Int32) < 0 ∨ hL σ v1 ≤ (2 : Int32).toNatClampNeg)) (lt (pI σ v1 (2 : Int32).toNatClampNeg ((hI σ v1 (2 : Int32).toNatClampNeg) + 1)) fun (σ1 : Hp) => F_X12_counts_44 n (F_X12_counts_10 n  f) v1 v2 σ1))))))
def F_X12_counts (n : Nat) (a0 : Nat) (a1 : Nat) (σ : Hp) : Option Hp := ck (¬ ((1 : Int32) < 0 ∨ hL σ a1 ≤ (1 : Int32).toNatClampNeg)) (lt (pI σ a1 (1 : Int32).toNatClampNeg 0) fun (σ3 : Hp) => ck (¬ ((2 : Int32) < 0 ∨ hL σ3 a1 ≤ (2 : Int32).toNatClampNeg)) (lt (pI σ3 a1 (2 : Int32).toNatClampNeg 0) fun (σ4 : Hp) => F_X12_counts_10 n  n a1 0 σ4))
theorem w_X12_sum_58 {σ0 τ : Hp} {r : Int32} (X : SX D cA base p s m args meth c cX12_sum 4 (some .int) RX12) (n : Nat) (d : Nat) (KS : Nat → Hp → Option (Int32 × Hp)) (hKS : ∀ (σ : Hp) (a0 : Nat) {τ : Hp} {r : Int32}, hT σ a0 12 → KS a0 σ = some (r, τ) → MI l yX12_sum cX12_sum 4 (some .int) (rmr_X12_sum d) D cA base ad σ [.ref (ad a0)] r τ) (K_5 : Nat → Int32 → Hp → Option (Int32 × Hp)) (hK_5 : ∀ (v0 : Nat) (v1 : Int32) (σ : Hp) (H : Heap) (locs : List Loc) (ls : Array Slot), hT σ v0 12 → GW D cA base ad σ H → va_S (bA base) s.heap H locs → xT σ0 σ → lv_has ls 4 [(0, .ref (ad v0)), (1, .int v1)] → K_5 v0 v1 σ = some (r, τ) → W p l e (rmr_X12_sum (d + 1)) s m args below meth c H locs 0 0 (ZI below s args D cA base ad σ0 r τ) (F0 m 5 ls [])) : ∀ (v0 : Nat) (s0 : Int32) (σ : Hp) (H : Heap) (locs : List Loc) (ls : Array Slot), hT σ v0 12 → GW D cA base ad σ H → va_S (bA base) s.heap H locs → xT σ0 σ → lv_has ls 4 [(0, .ref (ad v0))] → F_X12_sum_58 KS n K_5 v0 s0 σ = some (r, τ) → W p l e (rmr_X12_sum (d + 1)) s m args below meth c H locs 0 0 (ZI below s args D cA base ad σ0 r τ) (F0 m 58 ls [.int s0]) := by
  intro v0 s0 σ H locs ls hT_v0 hG hS hE hl hF
  unfold F_X12_sum_58 at hF
  refine lv_istore_n (lv' := [(1, .int s0), (0, .ref (ad v0))]) X.1 X.2.1 dX12_sum_58 rfl hl (by decide) rfl (fun ls hl => ?_)
  refine lv_goto (tgt := 5) X.1 X.2.1 dX12_sum_59 (by decide) ?_
  exact hK_5 v0 s0 σ _ _ ls hT_v0 hG hS hE (lv_sub hl [1, 0] rfl) hF
theorem w_X12_sum_23 {σ0 τ : Hp} {r : Int32} (X : SX D cA base p s m args meth c cX12_sum 4 (some .int) RX12) (n : Nat) (d : Nat) (KS : Nat → Hp → Option (Int32 × Hp)) (hKS : ∀ (σ : Hp) (a0 : Nat) {τ : Hp} {r : Int32}, hT σ a0 12 → KS a0 σ = some (r, τ) → MI l yX12_sum cX12_sum 4 (some .int) (rmr_X12_sum d) D cA base ad σ [.ref (ad a0)] r τ) (K_5 : Nat → Int32 → Hp → Option (Int32 × Hp)) (hK_5 : ∀ (v0 : Nat) (v1 : Int32) (σ : Hp) (H : Heap) (locs : List Loc) (ls : Array Slot), hT σ v0 12 → GW D cA base ad σ H → va_S (bA base) s.heap H locs → xT σ0 σ → lv_has ls 4 [(0, .ref (ad v0)), (1, .int v1)] → K_5 v0 v1 σ = some (r, τ) → W p l e (rmr_X12_sum (d + 1)) s m args below meth c H locs 0 0 (ZI below s args D cA base ad σ0 r τ) (F0 m 5 ls [])) : ∀ (v0 : Nat) (v1 : Int32) (σ : Hp) (H : Heap) (locs : List Loc) (ls : Array Slot), hT σ v0 12 → GW D cA base ad σ H → va_S (bA base) s.heap H locs → xT σ0 σ → lv_has ls 4 [(0, .ref (ad v0)), (1, .int v1)] → F_X12_sum_23 KS n K_5 v0 v1 σ = some (r, τ) → W p l e (rmr_X12_sum (d + 1)) s m args below meth c H locs 0 0 (ZI below s args D cA base ad σ0 r τ) (F0 m 23 ls []) := by
  intro v0 v1 σ H locs ls hT_v0 hG hS hE hl hF
  unfold F_X12_sum_23 at hF
  refine lv_aload_n X.1 X.2.1 dX12_sum_23 rfl (lv_at hl 0 rfl) ?_
  obtain ⟨r2, σ1, hz, hF⟩ := b2_ex hF
  refine gx_rI (gx_runV (As := []) (rest := []) X hG hS hT_v0.1 (hT_v0.eq (by decide)) (by decide) rfl (c_X12_sign l D cA base ad σ n v0 hT_v0 hz) k_1131 k_1128 k_1130 ks_25 k_4 (h_X12_sign) rfl rfl ⟨by show 0 + 1 ≤ 3 * d + 9; omega, by show 8 + (1 + 11) + 0 ≤ 69 * d + 229; omega⟩ rfl hl.1 rfl (Nat.le_of_ble_eq_true rfl) dX12_sum_24 ⟨Nat.zero_le _, Nat.zero_le _⟩) hS (fun H locs hG hS hX => ?_)
  have hT_v0 := hX.T hT_v0
  replace hE := hE.trans hX
  refine lv_istore_n (lv' := [(2, .int r2), (0, .ref (ad v0)), (1, .int v1)]) X.1 X.2.1 dX12_sum_27 rfl hl (by decide) rfl (fun ls hl => ?_)
  refine lv_aload_n X.1 X.2.1 dX12_sum_28 rfl (lv_at hl 1 rfl) ?_
  refine lv_dup X.1 X.2.1 dX12_sum_29 rfl ?_
  refine gx_get 16 (v := .int (hI σ1 v0 16)) X hG hT_v0.1 (hT_v0.eq (by decide)) (by decide) rfl inX12 (by decide) k_976 (fun _ h => h) rfl dX12_sum_30 ?_
  refine lv_iconst (v := 1) X.1 X.2.1 dX12_sum_33 (by decide) ?_
  refine lv_iadd X.1 X.2.1 dX12_sum_34 ?_
  refine gx_putI 16  X hG hS hT_v0.1 (hT_v0.eq (by decide)) (by decide) rfl inX12 tyX12_ok nmX12 (by decide) k_976 (fun _ h => h) rfl rfl rfl rfl (Nat.le_of_ble_eq_true rfl) dX12_sum_35 hF (fun σ3 H locs hG hS hX hF => ?_)
  have hT_v0 := hX.T hT_v0
  replace hE := hE.trans hX
  refine lv_aload_n X.1 X.2.1 dX12_sum_38 rfl (lv_at hl 1 rfl) ?_
  obtain ⟨r5, σ4, hz, hF⟩ := b2_ex hF
  refine gx_rI (gx_runV (As := []) (rest := []) X hG hS hT_v0.1 (hT_v0.eq (by decide)) (by decide) rfl (c_X12_product l D cA base ad σ3 n d KS hKS v0 hT_v0 hz) k_1168 k_1165 k_1167 ks_32 k_4 (h_X12_product) rfl rfl ⟨by show 3 * d + 8 + 1 ≤ 3 * d + 9; omega, by show 8 + (4 + 11) + (69 * d + 206) ≤ 69 * d + 229; omega⟩ rfl hl.1 rfl (Nat.le_of_ble_eq_true rfl) dX12_sum_39 ⟨Nat.zero_le _, Nat.zero_le _⟩) hS (fun H locs hG hS hX => ?_)
  have hT_v0 := hX.T hT_v0
  replace hE := hE.trans hX
  refine lv_istore_n (lv' := [(3, .int r5), (2, .int r2), (0, .ref (ad v0)), (1, .int v1)]) X.1 X.2.1 dX12_sum_42 rfl hl (by decide) rfl (fun ls hl => ?_)
  refine lv_iload_n X.1 X.2.1 dX12_sum_43 rfl (lv_at hl 1 rfl) ?_
  refine lv_bipush (v := 43) X.1 X.2.1 dX12_sum_44 (by decide) ?_
  refine lv_icmp_ne (tgt := 55) X.1 X.2.1 dX12_sum_46 (by decide) (fun hc => ?_) (fun hc => ?_)
  · replace hF := it_f hF hc
    refine lv_iload_n X.1 X.2.1 dX12_sum_55 rfl (lv_at hl 3 rfl) ?_
    refine lv_iload_n X.1 X.2.1 dX12_sum_56 rfl (lv_at hl 0 rfl) ?_
    refine lv_isub X.1 X.2.1 dX12_sum_57 ?_
    exact w_X12_sum_58 X n d KS hKS K_5 hK_5 v0 (v1 - r5) σ4 _ _ ls hT_v0 hG hS hE (lv_sub hl [2] rfl) hF
  · replace hF := it_t hF hc
    refine lv_iload_n X.1 X.2.1 dX12_sum_49 rfl (lv_at hl 3 rfl) ?_
    refine lv_iload_n X.1 X.2.1 dX12_sum_50 rfl (lv_at hl 0 rfl) ?_
    refine lv_iadd X.1 X.2.1 dX12_sum_51 ?_
    refine lv_goto (tgt := 58) X.1 X.2.1 dX12_sum_52 (by decide) ?_
    exact w_X12_sum_58 X n d KS hKS K_5 hK_5 v0 (v1 + r5) σ4 _ _ ls hT_v0 hG hS hE (lv_sub hl [2] rfl) hF
theorem w_X12_sum_5 {σ0 τ : Hp} {r : Int32} (X : SX D cA base p s m args meth c cX12_sum 4 (some .int) RX12) (n : Nat) (d : Nat) (KS : Nat → Hp → Option (Int32 × Hp)) (hKS : ∀ (σ : Hp) (a0 : Nat) {τ : Hp} {r : Int32}, hT σ a0 12 → KS a0 σ = some (r, τ) → MI l yX12_sum cX12_sum 4 (some .int) (rmr_X12_sum d) D cA base ad σ [.ref (ad a0)] r τ)  : ∀ f : Nat, ∀ (v0 : Nat) (v1 : Int32) (σ : Hp) (H : Heap) (locs : List Loc) (ls : Array Slot), hT σ v0 12 → GW D cA base ad σ H → va_S (bA base) s.heap H locs → xT σ0 σ → lv_has ls 4 [(0, .ref (ad v0)), (1, .int v1)] → F_X12_sum_5 KS n  f v0 v1 σ = some (r, τ) → W p l e (rmr_X12_sum (d + 1)) s m args below meth c H locs 0 0 (ZI below s args D cA base ad σ0 r τ) (F0 m 5 ls []) := by
  intro f
  induction f with
  | zero => intro v0 v1 σ H locs ls h0 hG hS hE hl hF
            rw [F_X12_sum_5] at hF; cases hF
  | succ f ih =>
    intro v0 v1 σ H locs ls hT_v0 hG hS hE hl hF
    rw [F_X12_sum_5] at hF
    refine lv_aload_n X.1 X.2.1 dX12_sum_5 rfl (lv_at hl 0 rfl) ?_
    obtain ⟨r7, σ6, hz, hF⟩ := b2_ex hF
    refine gx_rI (gx_runV (As := []) (rest := []) X hG hS hT_v0.1 (hT_v0.eq (by decide)) (by decide) rfl (c_X12_sign l D cA base ad σ n v0 hT_v0 hz) k_1131 k_1128 k_1130 ks_25 k_4 (h_X12_sign) rfl rfl ⟨by show 0 + 1 ≤ 3 * d + 9; omega, by show 8 + (1 + 11) + 0 ≤ 69 * d + 229; omega⟩ rfl hl.1 rfl (Nat.le_of_ble_eq_true rfl) dX12_sum_6 ⟨Nat.zero_le _, Nat.zero_le _⟩) hS (fun H locs hG hS hX => ?_)
    have hT_v0 := hX.T hT_v0
    replace hE := hE.trans hX
    refine lv_bipush (v := 43) X.1 X.2.1 dX12_sum_9 (by decide) ?_
    refine lv_icmp_eq (tgt := 23) X.1 X.2.1 dX12_sum_11 (by decide) (fun hc => ?_) (fun hc => ?_)
    · replace hF := it_t hF hc
      exact w_X12_sum_23 X n d KS hKS (F_X12_sum_5 KS n  f) ih v0 v1 σ6 _ _ ls hT_v0 hG hS hE (lv_sub hl [0, 1] rfl) hF
    · replace hF := it_f hF hc
      refine lv_aload_n X.1 X.2.1 dX12_sum_14 rfl (lv_at hl 0 rfl) ?_
      obtain ⟨r9, σ8, hz, hF⟩ := b2_ex hF
      refine gx_rI (gx_runV (As := []) (rest := []) X hG hS hT_v0.1 (hT_v0.eq (by decide)) (by decide) rfl (c_X12_sign l D cA base ad σ6 n v0 hT_v0 hz) k_1131 k_1128 k_1130 ks_25 k_4 (h_X12_sign) rfl rfl ⟨by show 0 + 1 ≤ 3 * d + 9; omega, by show 8 + (1 + 11) + 0 ≤ 69 * d + 229; omega⟩ rfl hl.1 rfl (Nat.le_of_ble_eq_true rfl) dX12_sum_15 ⟨Nat.zero_le _, Nat.zero_le _⟩) hS (fun H locs hG hS hX => ?_)
      have hT_v0 := hX.T hT_v0
      replace hE := hE.trans hX
      refine lv_bipush (v := 45) X.1 X.2.1 dX12_sum_18 (by decide) ?_
      refine lv_icmp_ne (tgt := 62) X.1 X.2.1 dX12_sum_20 (by decide) (fun hc => ?_) (fun hc => ?_)
      · replace hF := it_f hF hc
        refine lv_iload_n X.1 X.2.1 dX12_sum_62 rfl (lv_at hl 1 rfl) ?_
        exact gx_iret X hG hS hE hF dX12_sum_63
      · replace hF := it_t hF hc
        exact w_X12_sum_23 X n d KS hKS (F_X12_sum_5 KS n  f) ih v0 v1 σ8 _ _ ls hT_v0 hG hS hE (lv_sub hl [0, 1] rfl) hF
theorem c_X12_sumB (l : Launch) (D : va_G) (cA : Nat → ClassId) (base : Nat) (ad : Nat → Nat) (σ : Hp) (n : Nat) (d : Nat) (KS : Nat → Hp → Option (Int32 × Hp)) (hKS : ∀ (σ : Hp) (a0 : Nat) {τ : Hp} {r : Int32}, hT σ a0 12 → KS a0 σ = some (r, τ) → MI l yX12_sum cX12_sum 4 (some .int) (rmr_X12_sum d) D cA base ad σ [.ref (ad a0)] r τ) (a0 : Nat) (hT_a0 : hT σ a0 12) {τ : Hp} {r : Int32} (hF : F_X12_sumB KS n a0 σ = some (r, τ)) : MI l yX12_sum cX12_sum 4 (some .int) (rmr_X12_sum (d + 1)) D cA base ad σ [.ref (ad a0)] r τ := by
  refine Met.ofW (cc := cX12_sum) (maxL := 4) (ret := (some .int)) (by decide) rfl ?_
  intro p e s m args below meth c s₁ B hml hv
  obtain ⟨rfl, hv⟩ := hv
  have X : SX D cA base p s m ([.ref (ad a0)] : List Value).toArray meth c cX12_sum 4 (some .int) RX12 := sx_of B hml hv
  have hG := hv.1
  have hS : va_S (bA base) s.heap s.heap [] := va_S.rf
  have hE := xT.rf σ
  have hl := lv_entry ([.ref (ad a0)]) (n := 4) (Nat.le_of_ble_eq_true rfl)
  rw [lg_entry_eq]
  generalize (lg_sl ([.ref (ad a0)]) ++ List.replicate (4 - (lg_sl ([.ref (ad a0)])).length) Slot.unset).toArray = ls at hl ⊢
  have hl : lv_has ls 4 [(0, .ref (ad a0))] := hl
  unfold F_X12_sumB at hF
  refine lv_aload_n X.1 X.2.1 dX12_sum_0 rfl (lv_at hl 0 rfl) ?_
  obtain ⟨r11, σ10, hz, hF⟩ := b2_ex hF
  refine gx_rI (gx_runV (As := []) (rest := []) X hG hS hT_a0.1 (hT_a0.eq (by decide)) (by decide) rfl (c_X12_product l D cA base ad σ n d KS hKS a0 hT_a0 hz) k_1168 k_1165 k_1167 ks_32 k_4 (h_X12_product) rfl rfl ⟨by show 3 * d + 8 + 1 ≤ 3 * d + 9; omega, by show 8 + (4 + 11) + (69 * d + 206) ≤ 69 * d + 229; omega⟩ rfl hl.1 rfl (Nat.le_of_ble_eq_true rfl) dX12_sum_1 ⟨Nat.zero_le _, Nat.zero_le _⟩) hS (fun H locs hG hS hX => ?_)
  have hT_a0 := hX.T hT_a0
  replace hE := hE.trans hX
  refine lv_istore_n (lv' := [(1, .int r11), (0, .ref (ad a0))]) X.1 X.2.1 dX12_sum_4 rfl hl (by decide) rfl (fun ls hl => ?_)
  exact w_X12_sum_5 X n d KS hKS  n a0 r11 σ10 _ _ ls hT_a0 hG hS hE (lv_sub hl [1, 0] rfl) hF
theorem c_X12_sum (l : Launch) (D : va_G) (cA : Nat → ClassId) (base : Nat) (ad : Nat → Nat) : ∀ (σ : Hp) (n d : Nat) (a0 : Nat), hT σ a0 12 → ∀ {τ : Hp} {r : Int32} , F_X12_sum n d a0 σ = some (r, τ) → MI l yX12_sum cX12_sum 4 (some .int) (rmr_X12_sum d) D cA base ad σ [.ref (ad a0)] r τ := by
  intro σ n d
  induction d generalizing σ with
  | zero => intro a0 h0 τ r hF
            rw [F_X12_sum] at hF; cases hF
  | succ d ih =>
    intro a0 h0 τ r hF
    rw [F_X12_sum] at hF
    exact c_X12_sumB l D cA base ad σ n d (F_X12_sum n d) (fun σ a0 τ r h0 hz => ih σ a0 h0 hz) a0 h0 hF
theorem w_X12_speaksOf_4 {σ0 τ : Hp} {r : Int32} (X : SX D cA base p s m args meth c cX12_speaksOf 4 (some .int) RX12) (n : Nat)  : ∀ f : Nat, ∀ (v0 : Nat) (v1 : Int32) (v2 : Int32) (v3 : Int32) (σ : Hp) (H : Heap) (locs : List Loc) (ls : Array Slot), hT σ v0 12 → GW D cA base ad σ H → va_S (bA base) s.heap H locs → xT σ0 σ → lv_has ls 4 [(0, .ref (ad v0)), (1, .int v1), (2, .int v2), (3, .int v3)] → F_X12_speaksOf_4 n  f v0 v1 v2 v3 σ = some (r, τ) → W p l e rm_X12_speaksOf s m args below meth c H locs 0 0 (ZI below s args D cA base ad σ0 r τ) (F0 m 4 ls []) := by
  intro f
  induction f with
  | zero => intro v0 v1 v2 v3 σ H locs ls h0 hG hS hE hl hF
            rw [F_X12_speaksOf_4] at hF; cases hF
  | succ f ih =>
    intro v0 v1 v2 v3 σ H locs ls hT_v0 hG hS hE hl hF
    rw [F_X12_speaksOf_4] at hF
    refine lv_iload_n X.1 X.2.1 dX12_speaksOf_4 rfl (lv_at hl 3 rfl) ?_
    refine lv_aload_n X.1 X.2.1 dX12_speaksOf_5 rfl (lv_at hl 0 rfl) ?_
    obtain ⟨i1, hr, hF⟩ := b1_ex hF
    have hT_i1 : hT σ i1 13 := gw_T hG hT_v0 (by decide) hr
    refine gx_get 0 (v := .ref (ad i1)) X hG hT_v0.1 (hT_v0.eq (by decide)) (by decide) rfl inX12 (by decide) k_960 (fun _ h => h) (gx_rfv hr) dX12_speaksOf_6 ?_
    refine lv_iconst (v := 0) X.1 X.2.1 dX12_speaksOf_9 (by decide) ?_
    refine gx_iald X hG hT_i1 hF dX12_speaksOf_10 (fun hF => ?_)
    refine lv_icmp_ge (tgt := 38) X.1 X.2.1 dX12_speaksOf_11 (by decide) (fun hc => ?_) (fun hc => ?_)
    · replace hF := it_t hF hc
      refine lv_iload_n X.1 X.2.1 dX12_speaksOf_38 rfl (lv_at hl 2 rfl) ?_
      exact gx_iret X hG hS hE hF dX12_speaksOf_39
    · replace hF := it_f hF hc
      refine lv_iload_n X.1 X.2.1 dX12_speaksOf_14 rfl (lv_at hl 2 rfl) ?_
      refine lv_iload_n X.1 X.2.1 dX12_speaksOf_15 rfl (lv_at hl 1 rfl) ?_
      refine lv_iload_n X.1 X.2.1 dX12_speaksOf_16 rfl (lv_at hl 3 rfl) ?_
      refine lv_ishr X.1 X.2.1 dX12_speaksOf_17 ?_
      refine lv_iconst (v := 1) X.1 X.2.1 dX12_speaksOf_18 (by decide) ?_
      refine lv_iand X.1 X.2.1 dX12_speaksOf_19 ?_
      refine lv_aload_n X.1 X.2.1 dX12_speaksOf_20 rfl (lv_at hl 0 rfl) ?_
      obtain ⟨i2, hr, hF⟩ := b1_ex hF
      have hT_i2 : hT σ i2 13 := gw_T hG hT_v0 (by decide) hr
      refine gx_get 0 (v := .ref (ad i2)) X hG hT_v0.1 (hT_v0.eq (by decide)) (by decide) rfl inX12 (by decide) k_960 (fun _ h => h) (gx_rfv hr) dX12_speaksOf_21 ?_
      refine lv_bipush (v := 7) X.1 X.2.1 dX12_speaksOf_24 (by decide) ?_
      refine lv_iload_n X.1 X.2.1 dX12_speaksOf_26 rfl (lv_at hl 3 rfl) ?_
      refine lv_iadd X.1 X.2.1 dX12_speaksOf_27 ?_
      refine gx_iald X hG hT_i2 hF dX12_speaksOf_28 (fun hF => ?_)
      refine lv_imul X.1 X.2.1 dX12_speaksOf_29 ?_
      refine lv_iadd X.1 X.2.1 dX12_speaksOf_30 ?_
      refine lv_topi (fun x3 ex3 => ?_)
      replace hF := lt_nm hF ex3
      refine lv_istore_n (lv' := [(2, .int x3), (0, .ref (ad v0)), (1, .int v1), (3, .int v3)]) X.1 X.2.1 dX12_speaksOf_31 rfl hl (by decide) rfl (fun ls hl => ?_)
      refine lv_iinc (v := v3 + 1) (lv' := [(3, .int (v3 + 1)), (2, .int x3), (0, .ref (ad v0)), (1, .int v1)]) X.1 X.2.1 dX12_speaksOf_32 hl (k := 3) rfl rfl (by decide) rfl (fun ls hl => ?_)
      refine lv_goto (tgt := 4) X.1 X.2.1 dX12_speaksOf_35 (by decide) ?_
      exact ih v0 v1 x3 (v3 + 1) σ _ _ ls hT_v0 hG hS hE (lv_sub hl [2, 3, 1, 0] rfl) hF
theorem c_X12_speaksOf (l : Launch) (D : va_G) (cA : Nat → ClassId) (base : Nat) (ad : Nat → Nat) (σ : Hp) (n : Nat) (a0 : Nat) (a1 : Int32) (hT_a0 : hT σ a0 12) {τ : Hp} {r : Int32} (hF : F_X12_speaksOf n a0 a1 σ = some (r, τ)) : MI l yX12_speaksOf cX12_speaksOf 4 (some .int) rm_X12_speaksOf D cA base ad σ [.ref (ad a0), .int a1] r τ := by
  refine Met.ofW (cc := cX12_speaksOf) (maxL := 4) (ret := (some .int)) (by decide) rfl ?_
  intro p e s m args below meth c s₁ B hml hv
  obtain ⟨rfl, hv⟩ := hv
  have X : SX D cA base p s m ([.ref (ad a0), .int a1] : List Value).toArray meth c cX12_speaksOf 4 (some .int) RX12 := sx_of B hml hv
  have hG := hv.1
  have hS : va_S (bA base) s.heap s.heap [] := va_S.rf
  have hE := xT.rf σ
  have hl := lv_entry ([.ref (ad a0), .int a1]) (n := 4) (Nat.le_of_ble_eq_true rfl)
  rw [lg_entry_eq]
  generalize (lg_sl ([.ref (ad a0), .int a1]) ++ List.replicate (4 - (lg_sl ([.ref (ad a0), .int a1])).length) Slot.unset).toArray = ls at hl ⊢
  have hl : lv_has ls 4 [(0, .ref (ad a0)), (1, .int a1)] := hl
  unfold F_X12_speaksOf at hF
  refine lv_iconst (v := 0) X.1 X.2.1 dX12_speaksOf_0 (by decide) ?_
  refine lv_istore_n (lv' := [(2, .int 0), (0, .ref (ad a0)), (1, .int a1)]) X.1 X.2.1 dX12_speaksOf_1 rfl hl (by decide) rfl (fun ls hl => ?_)
  refine lv_iconst (v := 0) X.1 X.2.1 dX12_speaksOf_2 (by decide) ?_
  refine lv_istore_n (lv' := [(3, .int 0), (2, .int 0), (0, .ref (ad a0)), (1, .int a1)]) X.1 X.2.1 dX12_speaksOf_3 rfl hl (by decide) rfl (fun ls hl => ?_)
  exact w_X12_speaksOf_4 X n  n a0 a1 0 0 σ _ _ ls hT_a0 hG hS hE (lv_sub hl [2, 3, 1, 0] rfl) hF
theorem c_X12_leansBy (l : Launch) (D : va_G) (cA : Nat → ClassId) (base : Nat) (ad : Nat → Nat) (σ : Hp) (n : Nat) (a0 : Nat) (a1 : Int32) (a2 : Int32) (a3 : Int32) (hT_a0 : hT σ a0 12) {τ : Hp} {r : Int32} (hF : F_X12_leansBy n a0 a1 a2 a3 σ = some (r, τ)) : MI l yX12_leansBy cX12_leansBy 5 (some .int) rm_X12_leansBy D cA base ad σ [.ref (ad a0), .int a1, .int a2, .int a3] r τ := by
  refine Met.ofW (cc := cX12_leansBy) (maxL := 5) (ret := (some .int)) (by decide) rfl ?_
  intro p e s m args below meth c s₁ B hml hv
  obtain ⟨rfl, hv⟩ := hv
  have X : SX D cA base p s m ([.ref (ad a0), .int a1, .int a2, .int a3] : List Value).toArray meth c cX12_leansBy 5 (some .int) RX12 := sx_of B hml hv
  have hG := hv.1
  have hS : va_S (bA base) s.heap s.heap [] := va_S.rf
  have hE := xT.rf σ
  have hl := lv_entry ([.ref (ad a0), .int a1, .int a2, .int a3]) (n := 5) (Nat.le_of_ble_eq_true rfl)
  rw [lg_entry_eq]
  generalize (lg_sl ([.ref (ad a0), .int a1, .int a2, .int a3]) ++ List.replicate (5 - (lg_sl ([.ref (ad a0), .int a1, .int a2, .int a3])).length) Slot.unset).toArray = ls at hl ⊢
  have hl : lv_has ls 5 [(0, .ref (ad a0)), (1, .int a1), (2, .int a2), (3, .int a3)] := hl
  unfold F_X12_leansBy at hF
  refine lv_aload_n X.1 X.2.1 dX12_leansBy_0 rfl (lv_at hl 0 rfl) ?_
  refine lv_aload_n X.1 X.2.1 dX12_leansBy_1 rfl (lv_at hl 0 rfl) ?_
  refine lv_iload_n X.1 X.2.1 dX12_leansBy_2 rfl (lv_at hl 2 rfl) ?_
  obtain ⟨r2, σ1, hz, hF⟩ := b2_ex hF
  refine gx_rI (gx_runV (As := [.int a2]) (rest := [.ref (ad a0)]) X hG hS hT_a0.1 (hT_a0.eq (by decide)) (by decide) rfl (c_X12_speaksOf l D cA base ad σ n a0 a2 hT_a0 hz) k_1160 k_1157 k_1159 ks_30 k_4 (h_X12_speaksOf) rfl rfl ⟨by decide, by decide⟩ rfl hl.1 rfl (Nat.le_of_ble_eq_true rfl) dX12_leansBy_3 ⟨Nat.zero_le _, Nat.zero_le _⟩) hS (fun H locs hG hS hX => ?_)
  have hT_a0 := hX.T hT_a0
  replace hE := hE.trans hX
  refine gx_putI 21  X hG hS hT_a0.1 (hT_a0.eq (by decide)) (by decide) rfl inX12 tyX12_ok nmX12 (by decide) k_981 (fun _ h => h) rfl rfl rfl rfl (Nat.le_of_ble_eq_true rfl) dX12_leansBy_6 hF (fun σ3 H locs hG hS hX hF => ?_)
  have hT_a0 := hX.T hT_a0
  replace hE := hE.trans hX
  refine lv_aload_n X.1 X.2.1 dX12_leansBy_9 rfl (lv_at hl 0 rfl) ?_
  refine lv_iload_n X.1 X.2.1 dX12_leansBy_10 rfl (lv_at hl 3 rfl) ?_
  refine gx_putI 22  X hG hS hT_a0.1 (hT_a0.eq (by decide)) (by decide) rfl inX12 tyX12_ok nmX12 (by decide) k_982 (fun _ h => h) rfl rfl rfl rfl (Nat.le_of_ble_eq_true rfl) dX12_leansBy_11 hF (fun σ4 H locs hG hS hX hF => ?_)
  have hT_a0 := hX.T hT_a0
  replace hE := hE.trans hX
  refine lv_aload_n X.1 X.2.1 dX12_leansBy_14 rfl (lv_at hl 0 rfl) ?_
  refine lv_iload_n X.1 X.2.1 dX12_leansBy_15 rfl (lv_at hl 1 rfl) ?_
  refine lv_iconst (v := 5) X.1 X.2.1 dX12_leansBy_16 (by decide) ?_
  obtain ⟨r6, σ5, hz, hF⟩ := b2_ex hF
  refine gx_rI (gx_runV (As := [.int a1, .int 5]) (rest := []) X hG hS hT_a0.1 (hT_a0.eq (by decide)) (by decide) rfl (c_X12_get l D cA base ad σ4 n a0 a1 5 hT_a0 hz) k_1099 k_1096 k_1098 ks_19 k_4 (h_X12_get) rfl rfl ⟨by decide, by decide⟩ rfl hl.1 rfl (Nat.le_of_ble_eq_true rfl) dX12_leansBy_17 ⟨Nat.zero_le _, Nat.zero_le _⟩) hS (fun H locs hG hS hX => ?_)
  have hT_a0 := hX.T hT_a0
  replace hE := hE.trans hX
  refine lv_istore (lv' := [(4, .int r6), (0, .ref (ad a0)), (1, .int a1), (2, .int a2), (3, .int a3)]) X.1 X.2.1 dX12_leansBy_20 hl (by decide) rfl (fun ls hl => ?_)
  refine lv_iload X.1 X.2.1 dX12_leansBy_22 (lv_at hl 0 rfl) ?_
  refine lv_if_ge (tgt := 37) X.1 X.2.1 dX12_leansBy_24 (by decide) (fun hc => ?_) (fun hc => ?_)
  · replace hF := it_t hF hc
    refine lv_aload_n X.1 X.2.1 dX12_leansBy_37 rfl (lv_at hl 1 rfl) ?_
    refine lv_aload_n X.1 X.2.1 dX12_leansBy_38 rfl (lv_at hl 1 rfl) ?_
    obtain ⟨i7, hr, hF⟩ := b1_ex hF
    have hT_i7 : hT σ5 i7 13 := gw_T hG hT_a0 (by decide) hr
    refine gx_get 2 (v := .ref (ad i7)) X hG hT_a0.1 (hT_a0.eq (by decide)) (by decide) rfl inX12 (by decide) k_962 (fun _ h => h) (gx_rfv hr) dX12_leansBy_39 ?_
    refine gx_putR 15 (x := (some i7)) X hG hS hT_a0.1 (hT_a0.eq (by decide)) (by decide) rfl inX12 tyX12_ok nmX12 (by decide) k_975 (fun _ h => h) rfl (gx_narA _) (gx_fitA _) rfl (oT.some hT_i7) (Nat.le_of_ble_eq_true rfl) dX12_leansBy_42 hF (fun σ8 H locs hG hS hX hF => ?_)
    have hT_a0 := hX.T hT_a0
    replace hE := hE.trans hX
    refine lv_aload_n X.1 X.2.1 dX12_leansBy_45 rfl (lv_at hl 1 rfl) ?_
    refine lv_bipush (v := 100) X.1 X.2.1 dX12_leansBy_46 (by decide) ?_
    refine lv_iload X.1 X.2.1 dX12_leansBy_48 (lv_at hl 0 rfl) ?_
    refine lv_imul X.1 X.2.1 dX12_leansBy_50 ?_
    refine gx_putI 17  X hG hS hT_a0.1 (hT_a0.eq (by decide)) (by decide) rfl inX12 tyX12_ok nmX12 (by decide) k_977 (fun _ h => h) rfl rfl rfl rfl (Nat.le_of_ble_eq_true rfl) dX12_leansBy_51 hF (fun σ9 H locs hG hS hX hF => ?_)
    have hT_a0 := hX.T hT_a0
    replace hE := hE.trans hX
    refine lv_aload_n X.1 X.2.1 dX12_leansBy_54 rfl (lv_at hl 1 rfl) ?_
    refine lv_aload_n X.1 X.2.1 dX12_leansBy_55 rfl (lv_at hl 1 rfl) ?_
    obtain ⟨i10, hr, hF⟩ := b1_ex hF
    have hT_i10 : hT σ9 i10 13 := gw_T hG hT_a0 (by decide) hr
    refine gx_get 0 (v := .ref (ad i10)) X hG hT_a0.1 (hT_a0.eq (by decide)) (by decide) rfl inX12 (by decide) k_960 (fun _ h => h) (gx_rfv hr) dX12_leansBy_56 ?_
    refine lv_bipush (v := 103) X.1 X.2.1 dX12_leansBy_59 (by decide) ?_
    refine lv_iload X.1 X.2.1 dX12_leansBy_61 (lv_at hl 0 rfl) ?_
    refine lv_iadd X.1 X.2.1 dX12_leansBy_63 ?_
    refine gx_iald X hG hT_i10 hF dX12_leansBy_64 (fun hF => ?_)
    refine gx_putI 18  X hG hS hT_a0.1 (hT_a0.eq (by decide)) (by decide) rfl inX12 tyX12_ok nmX12 (by decide) k_978 (fun _ h => h) rfl rfl rfl rfl (Nat.le_of_ble_eq_true rfl) dX12_leansBy_65 hF (fun σ11 H locs hG hS hX hF => ?_)
    have hT_a0 := hX.T hT_a0
    replace hE := hE.trans hX
    refine lv_aload_n X.1 X.2.1 dX12_leansBy_68 rfl (lv_at hl 1 rfl) ?_
    refine lv_iconst (v := 0) X.1 X.2.1 dX12_leansBy_69 (by decide) ?_
    refine gx_putI 16  X hG hS hT_a0.1 (hT_a0.eq (by decide)) (by decide) rfl inX12 tyX12_ok nmX12 (by decide) k_976 (fun _ h => h) rfl rfl rfl rfl (Nat.le_of_ble_eq_true rfl) dX12_leansBy_70 hF (fun σ12 H locs hG hS hX hF => ?_)
    have hT_a0 := hX.T hT_a0
    replace hE := hE.trans hX
    refine lv_aload_n X.1 X.2.1 dX12_leansBy_73 rfl (lv_at hl 1 rfl) ?_
    obtain ⟨r14, σ13, hz, hF⟩ := b2_ex hF
    refine gx_rI (gx_runV (As := []) (rest := []) X hG hS hT_a0.1 (hT_a0.eq (by decide)) (by decide) rfl (c_X12_sum l D cA base ad σ12 n 8 a0 hT_a0 hz) k_1164 k_1161 k_1163 ks_31 k_4 (h_X12_sum) rfl rfl ⟨by decide, by decide⟩ rfl hl.1 rfl (Nat.le_of_ble_eq_true rfl) dX12_leansBy_74 ⟨Nat.zero_le _, Nat.zero_le _⟩) hS (fun H locs hG hS hX => ?_)
    have hT_a0 := hX.T hT_a0
    replace hE := hE.trans hX
    exact gx_iret X hG hS hE hF dX12_leansBy_77
  · replace hF := it_f hF hc
    refine lv_aload_n X.1 X.2.1 dX12_leansBy_27 rfl (lv_at hl 1 rfl) ?_
    refine gx_get 21 (v := .int (hI σ5 a0 21)) X hG hT_a0.1 (hT_a0.eq (by decide)) (by decide) rfl inX12 (by decide) k_981 (fun _ h => h) rfl dX12_leansBy_28 ?_
    refine lv_aload_n X.1 X.2.1 dX12_leansBy_31 rfl (lv_at hl 1 rfl) ?_
    refine gx_get 22 (v := .int (hI σ5 a0 22)) X hG hT_a0.1 (hT_a0.eq (by decide)) (by decide) rfl inX12 (by decide) k_982 (fun _ h => h) rfl dX12_leansBy_32 ?_
    refine lv_iadd X.1 X.2.1 dX12_leansBy_35 ?_
    exact gx_iret X hG hS hE hF dX12_leansBy_36
theorem c_X12_sees (l : Launch) (D : va_G) (cA : Nat → ClassId) (base : Nat) (ad : Nat → Nat) (σ : Hp) (n : Nat) (a0 : Nat) (a1 : Int32) (a2 : Int32) (a3 : Int32) (hT_a0 : hT σ a0 12) {τ : Hp} (hF : F_X12_sees n a0 a1 a2 a3 σ = some τ) : MV l yX12_sees cX12_sees 4 rm_X12_sees D cA base ad σ [.ref (ad a0), .int a1, .int a2, .int a3] τ := by
  refine Met.ofW (cc := cX12_sees) (maxL := 4) (ret := none) (by decide) rfl ?_
  intro p e s m args below meth c s₁ B hml hv
  obtain ⟨rfl, hv⟩ := hv
  have X : SX D cA base p s m ([.ref (ad a0), .int a1, .int a2, .int a3] : List Value).toArray meth c cX12_sees 4 none RX12 := sx_of B hml hv
  have hG := hv.1
  have hS : va_S (bA base) s.heap s.heap [] := va_S.rf
  have hE := xT.rf σ
  have hl := lv_entry ([.ref (ad a0), .int a1, .int a2, .int a3]) (n := 4) (Nat.le_of_ble_eq_true rfl)
  rw [lg_entry_eq]
  generalize (lg_sl ([.ref (ad a0), .int a1, .int a2, .int a3]) ++ List.replicate (4 - (lg_sl ([.ref (ad a0), .int a1, .int a2, .int a3])).length) Slot.unset).toArray = ls at hl ⊢
  have hl : lv_has ls 4 [(0, .ref (ad a0)), (1, .int a1), (2, .int a2), (3, .int a3)] := hl
  unfold F_X12_sees at hF
  refine lv_aload_n X.1 X.2.1 dX12_sees_0 rfl (lv_at hl 0 rfl) ?_
  refine lv_iload_n X.1 X.2.1 dX12_sees_1 rfl (lv_at hl 1 rfl) ?_
  refine gx_putI 23  X hG hS hT_a0.1 (hT_a0.eq (by decide)) (by decide) rfl inX12 tyX12_ok nmX12 (by decide) k_983 (fun _ h => h) rfl rfl rfl rfl (Nat.le_of_ble_eq_true rfl) dX12_sees_2 hF (fun σ1 H locs hG hS hX hF => ?_)
  have hT_a0 := hX.T hT_a0
  replace hE := hE.trans hX
  refine lv_aload_n X.1 X.2.1 dX12_sees_5 rfl (lv_at hl 0 rfl) ?_
  refine lv_iload_n X.1 X.2.1 dX12_sees_6 rfl (lv_at hl 2 rfl) ?_
  refine gx_putI 24  X hG hS hT_a0.1 (hT_a0.eq (by decide)) (by decide) rfl inX12 tyX12_ok nmX12 (by decide) k_984 (fun _ h => h) rfl rfl rfl rfl (Nat.le_of_ble_eq_true rfl) dX12_sees_7 hF (fun σ2 H locs hG hS hX hF => ?_)
  have hT_a0 := hX.T hT_a0
  replace hE := hE.trans hX
  refine lv_aload_n X.1 X.2.1 dX12_sees_10 rfl (lv_at hl 0 rfl) ?_
  refine lv_iload_n X.1 X.2.1 dX12_sees_11 rfl (lv_at hl 3 rfl) ?_
  refine gx_putI 25  X hG hS hT_a0.1 (hT_a0.eq (by decide)) (by decide) rfl inX12 tyX12_ok nmX12 (by decide) k_985 (fun _ h => h) rfl rfl rfl rfl (Nat.le_of_ble_eq_true rfl) dX12_sees_12 hF (fun σ3 H locs hG hS hX hF => ?_)
  have hT_a0 := hX.T hT_a0
  replace hE := hE.trans hX
  exact gx_vret X hG hS hE hF dX12_sees_15
theorem c_X12_leans (l : Launch) (D : va_G) (cA : Nat → ClassId) (base : Nat) (ad : Nat → Nat) (σ : Hp) (n : Nat) (a0 : Nat) (a1 : Int32) (hT_a0 : hT σ a0 12) {τ : Hp} {r : Int32} (hF : F_X12_leans n a0 a1 σ = some (r, τ)) : MI l yX12_leans cX12_leans 2 (some .int) rm_X12_leans D cA base ad σ [.ref (ad a0), .int a1] r τ := by
  refine Met.ofW (cc := cX12_leans) (maxL := 2) (ret := (some .int)) (by decide) rfl ?_
  intro p e s m args below meth c s₁ B hml hv
  obtain ⟨rfl, hv⟩ := hv
  have X : SX D cA base p s m ([.ref (ad a0), .int a1] : List Value).toArray meth c cX12_leans 2 (some .int) RX12 := sx_of B hml hv
  have hG := hv.1
  have hS : va_S (bA base) s.heap s.heap [] := va_S.rf
  have hE := xT.rf σ
  have hl := lv_entry ([.ref (ad a0), .int a1]) (n := 2) (Nat.le_of_ble_eq_true rfl)
  rw [lg_entry_eq]
  generalize (lg_sl ([.ref (ad a0), .int a1]) ++ List.replicate (2 - (lg_sl ([.ref (ad a0), .int a1])).length) Slot.unset).toArray = ls at hl ⊢
  have hl : lv_has ls 2 [(0, .ref (ad a0)), (1, .int a1)] := hl
  unfold F_X12_leans at hF
  refine lv_aload_n X.1 X.2.1 dX12_leans_0 rfl (lv_at hl 0 rfl) ?_
  refine lv_iload_n X.1 X.2.1 dX12_leans_1 rfl (lv_at hl 1 rfl) ?_
  obtain ⟨r2, σ1, hz, hF⟩ := b2_ex hF
  refine gx_rI (gx_runV (As := [.int a1]) (rest := []) X hG hS hT_a0.1 (hT_a0.eq (by decide)) (by decide) rfl (c_X12_isJuror l D cA base ad σ n a0 a1 hT_a0 hz) k_1081 k_1078 k_1080 ks_16 k_4 (h_X12_isJuror) rfl rfl ⟨by decide, by decide⟩ rfl hl.1 rfl (Nat.le_of_ble_eq_true rfl) dX12_leans_2 ⟨Nat.zero_le _, Nat.zero_le _⟩) hS (fun H locs hG hS hX => ?_)
  have hT_a0 := hX.T hT_a0
  replace hE := hE.trans hX
  refine lv_if_ne (tgt := 11) X.1 X.2.1 dX12_leans_5 (by decide) (fun hc => ?_) (fun hc => ?_)
  · replace hF := it_f hF hc
    refine lv_aload_n X.1 X.2.1 dX12_leans_11 rfl (lv_at hl 0 rfl) ?_
    obtain ⟨r4, σ3, hz, hF⟩ := b2_ex hF
    refine gx_rI (gx_runV (As := []) (rest := []) X hG hS hT_a0.1 (hT_a0.eq (by decide)) (by decide) rfl (c_X12_hasBegun l D cA base ad σ1 n a0 hT_a0 hz) k_1103 k_1100 k_1102 ks_20 k_4 (h_X12_hasBegun) rfl rfl ⟨by decide, by decide⟩ rfl hl.1 rfl (Nat.le_of_ble_eq_true rfl) dX12_leans_12 ⟨Nat.zero_le _, Nat.zero_le _⟩) hS (fun H locs hG hS hX => ?_)
    have hT_a0 := hX.T hT_a0
    replace hE := hE.trans hX
    refine lv_if_ne (tgt := 39) X.1 X.2.1 dX12_leans_15 (by decide) (fun hc => ?_) (fun hc => ?_)
    · replace hF := it_f hF hc
      refine lv_aload_n X.1 X.2.1 dX12_leans_39 rfl (lv_at hl 0 rfl) ?_
      refine lv_aload_n X.1 X.2.1 dX12_leans_40 rfl (lv_at hl 0 rfl) ?_
      obtain ⟨i5, hr, hF⟩ := b1_ex hF
      have hT_i5 : hT σ3 i5 13 := gw_T hG hT_a0 (by decide) hr
      refine gx_get 4 (v := .ref (ad i5)) X hG hT_a0.1 (hT_a0.eq (by decide)) (by decide) rfl inX12 (by decide) k_964 (fun _ h => h) (gx_rfv hr) dX12_leans_41 ?_
      refine lv_iconst (v := 1) X.1 X.2.1 dX12_leans_44 (by decide) ?_
      refine gx_iald X hG hT_i5 hF dX12_leans_45 (fun hF => ?_)
      refine lv_aload_n X.1 X.2.1 dX12_leans_46 rfl (lv_at hl 0 rfl) ?_
      obtain ⟨i6, hr, hF⟩ := b1_ex hF
      have hT_i6 : hT σ3 i6 13 := gw_T hG hT_a0 (by decide) hr
      refine gx_get 4 (v := .ref (ad i6)) X hG hT_a0.1 (hT_a0.eq (by decide)) (by decide) rfl inX12 (by decide) k_964 (fun _ h => h) (gx_rfv hr) dX12_leans_47 ?_
      refine lv_iconst (v := 2) X.1 X.2.1 dX12_leans_50 (by decide) ?_
      refine gx_iald X hG hT_i6 hF dX12_leans_51 (fun hF => ?_)
      refine lv_aload_n X.1 X.2.1 dX12_leans_52 rfl (lv_at hl 0 rfl) ?_
      obtain ⟨i7, hr, hF⟩ := b1_ex hF
      have hT_i7 : hT σ3 i7 13 := gw_T hG hT_a0 (by decide) hr
      refine gx_get 4 (v := .ref (ad i7)) X hG hT_a0.1 (hT_a0.eq (by decide)) (by decide) rfl inX12 (by decide) k_964 (fun _ h => h) (gx_rfv hr) dX12_leans_53 ?_
      refine lv_iconst (v := 0) X.1 X.2.1 dX12_leans_56 (by decide) ?_
      refine gx_iald X hG hT_i7 hF dX12_leans_57 (fun hF => ?_)
      obtain ⟨σ8, hz, hF⟩ := b1_ex hF
      refine gx_rV (gx_runV (As := [.int (hI σ3 i5 (1 : Int32).toNatClampNeg), .int (hI σ3 i6 (2 : Int32).toNatClampNeg), .int (hI σ3 i7 (0 : Int32).toNatClampNeg)]) (rest := []) X hG hS hT_a0.1 (hT_a0.eq (by decide)) (by decide) rfl (c_X12_sees l D cA base ad σ3 n a0 (hI σ3 i5 (1 : Int32).toNatClampNeg) (hI σ3 i6 (2 : Int32).toNatClampNeg) (hI σ3 i7 (0 : Int32).toNatClampNeg) hT_a0 hz) k_1152 k_1149 k_1151 ks_28 k_4 (h_X12_sees) rfl rfl ⟨by decide, by decide⟩ rfl hl.1 rfl (Nat.le_of_ble_eq_true rfl) dX12_leans_58 ⟨Nat.zero_le _, Nat.zero_le _⟩) hS (fun H locs hG hS hX => ?_)
      have hT_a0 := hX.T hT_a0
      replace hE := hE.trans hX
      refine lv_aload_n X.1 X.2.1 dX12_leans_61 rfl (lv_at hl 0 rfl) ?_
      refine lv_iload_n X.1 X.2.1 dX12_leans_62 rfl (lv_at hl 1 rfl) ?_
      refine lv_aload_n X.1 X.2.1 dX12_leans_63 rfl (lv_at hl 0 rfl) ?_
      obtain ⟨i9, hr, hF⟩ := b1_ex hF
      have hT_i9 : hT σ8 i9 13 := gw_T hG hT_a0 (by decide) hr
      refine gx_get 4 (v := .ref (ad i9)) X hG hT_a0.1 (hT_a0.eq (by decide)) (by decide) rfl inX12 (by decide) k_964 (fun _ h => h) (gx_rfv hr) dX12_leans_64 ?_
      refine lv_bipush (v := 19) X.1 X.2.1 dX12_leans_67 (by decide) ?_
      refine lv_iload_n X.1 X.2.1 dX12_leans_69 rfl (lv_at hl 1 rfl) ?_
      refine lv_iadd X.1 X.2.1 dX12_leans_70 ?_
      refine gx_iald X hG hT_i9 hF dX12_leans_71 (fun hF => ?_)
      refine lv_aload_n X.1 X.2.1 dX12_leans_72 rfl (lv_at hl 0 rfl) ?_
      obtain ⟨i10, hr, hF⟩ := b1_ex hF
      have hT_i10 : hT σ8 i10 13 := gw_T hG hT_a0 (by decide) hr
      refine gx_get 4 (v := .ref (ad i10)) X hG hT_a0.1 (hT_a0.eq (by decide)) (by decide) rfl inX12 (by decide) k_964 (fun _ h => h) (gx_rfv hr) dX12_leans_73 ?_
      refine lv_bipush (v := 31) X.1 X.2.1 dX12_leans_76 (by decide) ?_
      refine lv_iload_n X.1 X.2.1 dX12_leans_78 rfl (lv_at hl 1 rfl) ?_
      refine lv_iadd X.1 X.2.1 dX12_leans_79 ?_
      refine gx_iald X hG hT_i10 hF dX12_leans_80 (fun hF => ?_)
      obtain ⟨r12, σ11, hz, hF⟩ := b2_ex hF
      refine gx_rI (gx_runV (As := [.int a1, .int (hI σ8 i9 (19 + a1).toNatClampNeg), .int (hI σ8 i10 (31 + a1).toNatClampNeg)]) (rest := []) X hG hS hT_a0.1 (hT_a0.eq (by decide)) (by decide) rfl (c_X12_leansBy l D cA base ad σ8 n a0 a1 (hI σ8 i9 (19 + a1).toNatClampNeg) (hI σ8 i10 (31 + a1).toNatClampNeg) hT_a0 hz) k_1156 k_1153 k_1155 ks_29 k_4 (h_X12_leansBy) rfl rfl ⟨by decide, by decide⟩ rfl hl.1 rfl (Nat.le_of_ble_eq_true rfl) dX12_leans_81 ⟨Nat.zero_le _, Nat.zero_le _⟩) hS (fun H locs hG hS hX => ?_)
      have hT_a0 := hX.T hT_a0
      replace hE := hE.trans hX
      exact gx_iret X hG hS hE hF dX12_leans_84
    · replace hF := it_t hF hc
      refine lv_aload_n X.1 X.2.1 dX12_leans_18 rfl (lv_at hl 0 rfl) ?_
      refine lv_iconst (v := 0) X.1 X.2.1 dX12_leans_19 (by decide) ?_
      refine lv_iconst (v := 0) X.1 X.2.1 dX12_leans_20 (by decide) ?_
      refine lv_iconst (v := 0) X.1 X.2.1 dX12_leans_21 (by decide) ?_
      obtain ⟨σ13, hz, hF⟩ := b1_ex hF
      refine gx_rV (gx_runV (As := [.int 0, .int 0, .int 0]) (rest := []) X hG hS hT_a0.1 (hT_a0.eq (by decide)) (by decide) rfl (c_X12_sees l D cA base ad σ3 n a0 0 0 0 hT_a0 hz) k_1152 k_1149 k_1151 ks_28 k_4 (h_X12_sees) rfl rfl ⟨by decide, by decide⟩ rfl hl.1 rfl (Nat.le_of_ble_eq_true rfl) dX12_leans_22 ⟨Nat.zero_le _, Nat.zero_le _⟩) hS (fun H locs hG hS hX => ?_)
      have hT_a0 := hX.T hT_a0
      replace hE := hE.trans hX
      refine lv_aload_n X.1 X.2.1 dX12_leans_25 rfl (lv_at hl 0 rfl) ?_
      refine lv_iload_n X.1 X.2.1 dX12_leans_26 rfl (lv_at hl 1 rfl) ?_
      refine lv_aload_n X.1 X.2.1 dX12_leans_27 rfl (lv_at hl 0 rfl) ?_
      refine lv_iload_n X.1 X.2.1 dX12_leans_28 rfl (lv_at hl 1 rfl) ?_
      refine lv_bipush (v := 6) X.1 X.2.1 dX12_leans_29 (by decide) ?_
      obtain ⟨r15, σ14, hz, hF⟩ := b2_ex hF
      refine gx_rI (gx_runV (As := [.int a1, .int 6]) (rest := [.int a1, .ref (ad a0)]) X hG hS hT_a0.1 (hT_a0.eq (by decide)) (by decide) rfl (c_X12_get l D cA base ad σ13 n a0 a1 6 hT_a0 hz) k_1099 k_1096 k_1098 ks_19 k_4 (h_X12_get) rfl rfl ⟨by decide, by decide⟩ rfl hl.1 rfl (Nat.le_of_ble_eq_true rfl) dX12_leans_31 ⟨Nat.zero_le _, Nat.zero_le _⟩) hS (fun H locs hG hS hX => ?_)
      have hT_a0 := hX.T hT_a0
      replace hE := hE.trans hX
      refine lv_iconst (v := 0) X.1 X.2.1 dX12_leans_34 (by decide) ?_
      obtain ⟨r17, σ16, hz, hF⟩ := b2_ex hF
      refine gx_rI (gx_runV (As := [.int a1, .int r15, .int 0]) (rest := []) X hG hS hT_a0.1 (hT_a0.eq (by decide)) (by decide) rfl (c_X12_leansBy l D cA base ad σ14 n a0 a1 r15 0 hT_a0 hz) k_1156 k_1153 k_1155 ks_29 k_4 (h_X12_leansBy) rfl rfl ⟨by decide, by decide⟩ rfl hl.1 rfl (Nat.le_of_ble_eq_true rfl) dX12_leans_35 ⟨Nat.zero_le _, Nat.zero_le _⟩) hS (fun H locs hG hS hX => ?_)
      have hT_a0 := hX.T hT_a0
      replace hE := hE.trans hX
      exact gx_iret X hG hS hE hF dX12_leans_38
  · replace hF := it_t hF hc
    refine lv_ldc (v := (-1000000001)) X.1 X.2.1 X.2.2.2.2.2.1 (X.w k_1095) dX12_leans_8 ?_
    exact gx_iret X hG hS hE hF dX12_leans_10
theorem w_X12_set_61 {σ0 τ : Hp} {r : Int32} (X : SX D cA base p s m args meth c cX12_set 3 (some .int) RX12) (n : Nat)  : ∀ (v0 : Nat) (v1 : Int32) (v2 : Int32) (s0 : Int64) (s1 : Int64) (s2 : Int64) (σ : Hp) (H : Heap) (locs : List Loc) (ls : Array Slot), hT σ v0 12 → GW D cA base ad σ H → va_S (bA base) s.heap H locs → xT σ0 σ → lv_has ls 3 [(0, .ref (ad v0)), (1, .int v1), (2, .int v2)] → F_X12_set_61 n  v0 v1 v2 s0 s1 s2 σ = some (r, τ) → W p l e rm_X12_set s m args below meth c H locs 0 0 (ZI below s args D cA base ad σ0 r τ) (F0 m 61 ls [.long s0, .long s1, .long s2]) := by
  intro v0 v1 v2 s0 s1 s2 σ H locs ls hT_v0 hG hS hE hl hF
  unfold F_X12_set_61 at hF
  obtain ⟨r2, σ1, hz, hF⟩ := b2_ex hF
  refine gx_rI (gx_runS (As := [.long s2, .long s1, .long s0]) (rest := []) X hG hS (c_X12_isIn l D cA base ad σ n s2 s1 s0 hz) k_1063 k_1061 k_1062 k_4 (h_X12_isIn.2) rfl rfl ⟨by decide, by decide⟩ rfl hl.1 rfl (Nat.le_of_ble_eq_true rfl) dX12_set_61 ⟨Nat.zero_le _, Nat.zero_le _⟩) hS (fun H locs hG hS hX => ?_)
  have hT_v0 := hX.T hT_v0
  replace hE := hE.trans hX
  refine lv_if_eq (tgt := 78) X.1 X.2.1 dX12_set_64 (by decide) (fun hc => ?_) (fun hc => ?_)
  · replace hF := it_t hF hc
    refine lv_iconst (v := (-1)) X.1 X.2.1 dX12_set_78 (by decide) ?_
    exact gx_iret X hG hS hE hF dX12_set_79
  · replace hF := it_f hF hc
    refine lv_aload_n X.1 X.2.1 dX12_set_67 rfl (lv_at hl 0 rfl) ?_
    refine lv_iconst (v := 3) X.1 X.2.1 dX12_set_68 (by decide) ?_
    refine lv_iload_n X.1 X.2.1 dX12_set_69 rfl (lv_at hl 1 rfl) ?_
    refine lv_iadd X.1 X.2.1 dX12_set_70 ?_
    refine lv_iload_n X.1 X.2.1 dX12_set_71 rfl (lv_at hl 2 rfl) ?_
    obtain ⟨r4, σ3, hz, hF⟩ := b2_ex hF
    refine gx_rI (gx_runV (As := [.int (3 + v1), .int v2]) (rest := []) X hG hS hT_v0.1 (hT_v0.eq (by decide)) (by decide) rfl (c_X12_becomes l D cA base ad σ1 n v0 (3 + v1) v2 hT_v0 hz) k_1089 k_1086 k_1088 ks_18 k_4 (h_X12_becomes) rfl rfl ⟨by decide, by decide⟩ rfl hl.1 rfl (Nat.le_of_ble_eq_true rfl) dX12_set_72 ⟨Nat.zero_le _, Nat.zero_le _⟩) hS (fun H locs hG hS hX => ?_)
    have hT_v0 := hX.T hT_v0
    replace hE := hE.trans hX
    refine lv_goto (tgt := 79) X.1 X.2.1 dX12_set_75 (by decide) ?_
    exact gx_iret X hG hS hE hF dX12_set_79
theorem w_X12_set_28 {σ0 τ : Hp} {r : Int32} (X : SX D cA base p s m args meth c cX12_set 3 (some .int) RX12) (n : Nat)  : ∀ (v0 : Nat) (v1 : Int32) (v2 : Int32) (s0 : Int64) (s1 : Int64) (σ : Hp) (H : Heap) (locs : List Loc) (ls : Array Slot), hT σ v0 12 → GW D cA base ad σ H → va_S (bA base) s.heap H locs → xT σ0 σ → lv_has ls 3 [(0, .ref (ad v0)), (1, .int v1), (2, .int v2)] → F_X12_set_28 n  v0 v1 v2 s0 s1 σ = some (r, τ) → W p l e rm_X12_set s m args below meth c H locs 0 0 (ZI below s args D cA base ad σ0 r τ) (F0 m 28 ls [.long s0, .long s1]) := by
  intro v0 v1 v2 s0 s1 σ H locs ls hT_v0 hG hS hE hl hF
  unfold F_X12_set_28 at hF
  refine lv_iload_n X.1 X.2.1 dX12_set_28 rfl (lv_at hl 1 rfl) ?_
  refine lv_if_ne (tgt := 38) X.1 X.2.1 dX12_set_29 (by decide) (fun hc => ?_) (fun hc => ?_)
  · replace hF := it_f hF hc
    refine lv_iload_n X.1 X.2.1 dX12_set_38 rfl (lv_at hl 1 rfl) ?_
    refine lv_iconst (v := 1) X.1 X.2.1 dX12_set_39 (by decide) ?_
    refine lv_icmp_ne (tgt := 49) X.1 X.2.1 dX12_set_40 (by decide) (fun hc => ?_) (fun hc => ?_)
    · replace hF := it_f hF hc
      refine lv_iload_n X.1 X.2.1 dX12_set_49 rfl (lv_at hl 1 rfl) ?_
      refine lv_iconst (v := 2) X.1 X.2.1 dX12_set_50 (by decide) ?_
      refine lv_icmp_ne (tgt := 58) X.1 X.2.1 dX12_set_51 (by decide) (fun hc => ?_) (fun hc => ?_)
      · replace hF := it_f hF hc
        refine lv_ldc2 (v := 3000) X.1 X.2.1 X.2.2.2.2.2.1 (X.w k_1180) dX12_set_58 ?_
        exact w_X12_set_61 X n  v0 v1 v2 3000 s0 s1 σ _ _ ls hT_v0 hG hS hE (lv_sub hl [0, 1, 2] rfl) hF
      · replace hF := it_t hF hc
        refine lv_lconst (v := 1) X.1 X.2.1 dX12_set_54 (by decide) ?_
        refine lv_goto (tgt := 61) X.1 X.2.1 dX12_set_55 (by decide) ?_
        exact w_X12_set_61 X n  v0 v1 v2 1 s0 s1 σ _ _ ls hT_v0 hG hS hE (lv_sub hl [0, 1, 2] rfl) hF
    · replace hF := it_t hF hc
      refine lv_ldc2 (v := 11) X.1 X.2.1 X.2.2.2.2.2.1 (X.w k_1179) dX12_set_43 ?_
      refine lv_goto (tgt := 61) X.1 X.2.1 dX12_set_46 (by decide) ?_
      exact w_X12_set_61 X n  v0 v1 v2 11 s0 s1 σ _ _ ls hT_v0 hG hS hE (lv_sub hl [0, 1, 2] rfl) hF
  · replace hF := it_t hF hc
    refine lv_ldc2 (v := 12) X.1 X.2.1 X.2.2.2.2.2.1 (X.w k_1178) dX12_set_32 ?_
    refine lv_goto (tgt := 61) X.1 X.2.1 dX12_set_35 (by decide) ?_
    exact w_X12_set_61 X n  v0 v1 v2 12 s0 s1 σ _ _ ls hT_v0 hG hS hE (lv_sub hl [0, 1, 2] rfl) hF
theorem w_X12_set_23 {σ0 τ : Hp} {r : Int32} (X : SX D cA base p s m args meth c cX12_set 3 (some .int) RX12) (n : Nat)  : ∀ (v0 : Nat) (v1 : Int32) (v2 : Int32) (s0 : Int64) (σ : Hp) (H : Heap) (locs : List Loc) (ls : Array Slot), hT σ v0 12 → GW D cA base ad σ H → va_S (bA base) s.heap H locs → xT σ0 σ → lv_has ls 3 [(0, .ref (ad v0)), (1, .int v1), (2, .int v2)] → F_X12_set_23 n  v0 v1 v2 s0 σ = some (r, τ) → W p l e rm_X12_set s m args below meth c H locs 0 0 (ZI below s args D cA base ad σ0 r τ) (F0 m 23 ls [.long s0]) := by
  intro v0 v1 v2 s0 σ H locs ls hT_v0 hG hS hE hl hF
  unfold F_X12_set_23 at hF
  refine lv_lconst (v := 1) X.1 X.2.1 dX12_set_23 (by decide) ?_
  refine lv_goto (tgt := 28) X.1 X.2.1 dX12_set_24 (by decide) ?_
  exact w_X12_set_28 X n  v0 v1 v2 1 s0 σ _ _ ls hT_v0 hG hS hE (lv_sub hl [0, 1, 2] rfl) hF
theorem c_X12_set (l : Launch) (D : va_G) (cA : Nat → ClassId) (base : Nat) (ad : Nat → Nat) (σ : Hp) (n : Nat) (a0 : Nat) (a1 : Int32) (a2 : Int32) (hT_a0 : hT σ a0 12) {τ : Hp} {r : Int32} (hF : F_X12_set n a0 a1 a2 σ = some (r, τ)) : MI l yX12_set cX12_set 3 (some .int) rm_X12_set D cA base ad σ [.ref (ad a0), .int a1, .int a2] r τ := by
  refine Met.ofW (cc := cX12_set) (maxL := 3) (ret := (some .int)) (by decide) rfl ?_
  intro p e s m args below meth c s₁ B hml hv
  obtain ⟨rfl, hv⟩ := hv
  have X : SX D cA base p s m ([.ref (ad a0), .int a1, .int a2] : List Value).toArray meth c cX12_set 3 (some .int) RX12 := sx_of B hml hv
  have hG := hv.1
  have hS : va_S (bA base) s.heap s.heap [] := va_S.rf
  have hE := xT.rf σ
  have hl := lv_entry ([.ref (ad a0), .int a1, .int a2]) (n := 3) (Nat.le_of_ble_eq_true rfl)
  rw [lg_entry_eq]
  generalize (lg_sl ([.ref (ad a0), .int a1, .int a2]) ++ List.replicate (3 - (lg_sl ([.ref (ad a0), .int a1, .int a2])).length) Slot.unset).toArray = ls at hl ⊢
  have hl : lv_has ls 3 [(0, .ref (ad a0)), (1, .int a1), (2, .int a2)] := hl
  unfold F_X12_set at hF
  refine lv_iload_n X.1 X.2.1 dX12_set_0 rfl (lv_at hl 1 rfl) ?_
  refine lv_i2l X.1 X.2.1 dX12_set_1 rfl ?_
  refine lv_lconst (v := 0) X.1 X.2.1 dX12_set_2 (by decide) ?_
  refine lv_ldc2 (v := 3) X.1 X.2.1 X.2.2.2.2.2.1 (X.w k_1177) dX12_set_3 ?_
  obtain ⟨r6, σ5, hz, hF⟩ := b2_ex hF
  refine gx_rI (gx_runS (As := [.long a1.toInt64, .long 0, .long 3]) (rest := []) X hG hS (c_X12_isIn l D cA base ad σ n a1.toInt64 0 3 hz) k_1063 k_1061 k_1062 k_4 (h_X12_isIn.2) rfl rfl ⟨by decide, by decide⟩ rfl hl.1 rfl (Nat.le_of_ble_eq_true rfl) dX12_set_6 ⟨Nat.zero_le _, Nat.zero_le _⟩) hS (fun H locs hG hS hX => ?_)
  have hT_a0 := hX.T hT_a0
  replace hE := hE.trans hX
  refine lv_if_eq (tgt := 78) X.1 X.2.1 dX12_set_9 (by decide) (fun hc => ?_) (fun hc => ?_)
  · replace hF := it_t hF hc
    refine lv_iconst (v := (-1)) X.1 X.2.1 dX12_set_78 (by decide) ?_
    exact gx_iret X hG hS hE hF dX12_set_79
  · replace hF := it_f hF hc
    refine lv_iload_n X.1 X.2.1 dX12_set_12 rfl (lv_at hl 2 rfl) ?_
    refine lv_i2l X.1 X.2.1 dX12_set_13 rfl ?_
    refine lv_iload_n X.1 X.2.1 dX12_set_14 rfl (lv_at hl 1 rfl) ?_
    refine lv_if_eq (tgt := 23) X.1 X.2.1 dX12_set_15 (by decide) (fun hc => ?_) (fun hc => ?_)
    · replace hF := it_t hF hc
      exact w_X12_set_23 X n  a0 a1 a2 a2.toInt64 σ5 _ _ ls hT_a0 hG hS hE (lv_sub hl [0, 1, 2] rfl) hF
    · replace hF := it_f hF hc
      refine lv_iload_n X.1 X.2.1 dX12_set_18 rfl (lv_at hl 1 rfl) ?_
      refine lv_iconst (v := 3) X.1 X.2.1 dX12_set_19 (by decide) ?_
      refine lv_icmp_ne (tgt := 27) X.1 X.2.1 dX12_set_20 (by decide) (fun hc => ?_) (fun hc => ?_)
      · replace hF := it_f hF hc
        refine lv_lconst (v := 0) X.1 X.2.1 dX12_set_27 (by decide) ?_
        exact w_X12_set_28 X n  a0 a1 a2 0 a2.toInt64 σ5 _ _ ls hT_a0 hG hS hE (lv_sub hl [0, 1, 2] rfl) hF
      · replace hF := it_t hF hc
        exact w_X12_set_23 X n  a0 a1 a2 a2.toInt64 σ5 _ _ ls hT_a0 hG hS hE (lv_sub hl [0, 1, 2] rfl) hF
theorem w_X12_counts_44 {σ0 τ : Hp} (X : SX D cA base p s m args meth c cX12_counts 3 none RX12) (n : Nat) (K_10 : Nat → Int32 → Hp → Option Hp) (hK_10 : ∀ (v1 : Nat) (v2 : Int32) (σ : Hp) (H : Heap) (locs : List Loc) (ls : Array Slot), hT σ v1 13 → GW D cA base ad σ H → va_S (bA base) s.heap H locs → xT σ0 σ → lv_has ls 3 [(1, .ref (ad v1)), (2, .int v2)] → K_10 v1 v2 σ = some τ → W p l e rm_X12_counts s m args below meth c H locs 0 0 (ZV below s args D cA base ad σ0 τ) (F0 m 10 ls [])) : ∀ (v1 : Nat) (v2 : Int32) (σ : Hp) (H : Heap) (locs : List Loc) (ls : Array Slot), hT σ v1 13 → GW D cA base ad σ H → va_S (bA base) s.heap H locs → xT σ0 σ → lv_has ls 3 [(1, .ref (ad v1)), (2, .int v2)] → F_X12_counts_44 n K_10 v1 v2 σ = some τ → W p l e rm_X12_counts s m args below meth c H locs 0 0 (ZV below s args D cA base ad σ0 τ) (F0 m 44 ls []) := by
  intro v1 v2 σ H locs ls hT_v1 hG hS hE hl hF
  unfold F_X12_counts_44 at hF
  refine lv_iinc (v := v2 + 1) (lv' := [(2, .int (v2 + 1)), (1, .ref (ad v1))]) X.1 X.2.1 dX12_counts_44 hl (k := 1) rfl rfl (by decide) rfl (fun ls hl => ?_)
  refine lv_goto (tgt := 10) X.1 X.2.1 dX12_counts_47 (by decide) ?_
  exact hK_10 v1 (v2 + 1) σ _ _ ls hT_v1 hG hS hE (lv_sub hl [1, 0] rfl) hF
theorem w_X12_counts_10 {σ0 τ : Hp} (X : SX D cA base p s m args meth c cX12_counts 3 none RX12) (n : Nat)  : ∀ f : Nat, ∀ (v1 : Nat) (v2 : Int32) (σ : Hp) (H : Heap) (locs : List Loc) (ls : Array Slot), hT σ v1 13 → GW D cA base ad σ H → va_S (bA base) s.heap H locs → xT σ0 σ → lv_has ls 3 [(1, .ref (ad v1)), (2, .int v2)] → F_X12_counts_10 n  f v1 v2 σ = some τ → W p l e rm_X12_counts s m args below meth c H locs 0 0 (ZV below s args D cA base ad σ0 τ) (F0 m 10 ls []) := by
  intro f
  induction f with
  | zero => intro v1 v2 σ H locs ls h0 hG hS hE hl hF
            rw [F_X12_counts_10] at hF; cases hF
  | succ f ih =>
    intro v1 v2 σ H locs ls hT_v1 hG hS hE hl hF
    rw [F_X12_counts_10] at hF
    refine lv_iload_n X.1 X.2.1 dX12_counts_10 rfl (lv_at hl 1 rfl) ?_
    refine lv_aload_n X.1 X.2.1 dX12_counts_11 rfl (lv_at hl 0 rfl) ?_
    refine lv_iconst (v := 5) X.1 X.2.1 dX12_counts_12 (by decide) ?_
    refine gx_iald X hG hT_v1 hF dX12_counts_13 (fun hF => ?_)
    refine lv_icmp_ge (tgt := 50) X.1 X.2.1 dX12_counts_14 (by decide) (fun hc => ?_) (fun hc => ?_)
    · replace hF := it_t hF hc
      exact gx_vret X hG hS hE hF dX12_counts_50
    · replace hF := it_f hF hc
      refine lv_aload_n X.1 X.2.1 dX12_counts_17 rfl (lv_at hl 0 rfl) ?_
      refine lv_bipush (v := 43) X.1 X.2.1 dX12_counts_18 (by decide) ?_
      refine lv_iload_n X.1 X.2.1 dX12_counts_20 rfl (lv_at hl 1 rfl) ?_
      refine lv_iadd X.1 X.2.1 dX12_counts_21 ?_
      refine gx_iald X hG hT_v1 hF dX12_counts_22 (fun hF => ?_)
      refine lv_iconst (v := 1) X.1 X.2.1 dX12_counts_23 (by decide) ?_
      refine lv_icmp_ne (tgt := 37) X.1 X.2.1 dX12_counts_24 (by decide) (fun hc => ?_) (fun hc => ?_)
      · replace hF := it_f hF hc
        refine lv_aload_n X.1 X.2.1 dX12_counts_37 rfl (lv_at hl 0 rfl) ?_
        refine lv_iconst (v := 2) X.1 X.2.1 dX12_counts_38 (by decide) ?_
        refine lv_dup2_11 X.1 X.2.1 dX12_counts_39 rfl rfl ?_
        refine gx_iald X hG hT_v1 hF dX12_counts_40 (fun hF => ?_)
        refine lv_iconst (v := 1) X.1 X.2.1 dX12_counts_41 (by decide) ?_
        refine lv_iadd X.1 X.2.1 dX12_counts_42 ?_
        refine gx_iast X hG hS hT_v1 hF dX12_counts_43 (fun σ1 H locs hG hS hX hF => ?_)
        have hT_v1 := hX.T hT_v1
        replace hE := hE.trans hX
        exact w_X12_counts_44 X n (F_X12_counts_10 n  f) ih v1 v2 σ1 _ _ ls hT_v1 hG hS hE (lv_sub hl [0, 1] rfl) hF
      · replace hF := it_t hF hc
        refine lv_aload_n X.1 X.2.1 dX12_counts_27 rfl (lv_at hl 0 rfl) ?_
        refine lv_iconst (v := 1) X.1 X.2.1 dX12_counts_28 (by decide) ?_
        refine lv_dup2_11 X.1 X.2.1 dX12_counts_29 rfl rfl ?_
        refine gx_iald X hG hT_v1 hF dX12_counts_30 (fun hF => ?_)
        refine lv_iconst (v := 1) X.1 X.2.1 dX12_counts_31 (by decide) ?_
        refine lv_iadd X.1 X.2.1 dX12_counts_32 ?_
        refine gx_iast X hG hS hT_v1 hF dX12_counts_33 (fun σ2 H locs hG hS hX hF => ?_)
        have hT_v1 := hX.T hT_v1
        replace hE := hE.trans hX
        refine lv_goto (tgt := 44) X.1 X.2.1 dX12_counts_34 (by decide) ?_
        exact w_X12_counts_44 X n (F_X12_counts_10 n  f) ih v1 v2 σ2 _ _ ls hT_v1 hG hS hE (lv_sub hl [0, 1] rfl) hF
theorem c_X12_counts (l : Launch) (D : va_G) (cA : Nat → ClassId) (base : Nat) (ad : Nat → Nat) (σ : Hp) (n : Nat) (a0 : Nat) (a1 : Nat) (hT_a0 : hT σ a0 12) (hT_a1 : hT σ a1 13) {τ : Hp} (hF : F_X12_counts n a0 a1 σ = some τ) : MV l yX12_counts cX12_counts 3 rm_X12_counts D cA base ad σ [.ref (ad a0), .ref (ad a1)] τ := by
  refine Met.ofW (cc := cX12_counts) (maxL := 3) (ret := none) (by decide) rfl ?_
  intro p e s m args below meth c s₁ B hml hv
  obtain ⟨rfl, hv⟩ := hv
  have X : SX D cA base p s m ([.ref (ad a0), .ref (ad a1)] : List Value).toArray meth c cX12_counts 3 none RX12 := sx_of B hml hv
  have hG := hv.1
  have hS : va_S (bA base) s.heap s.heap [] := va_S.rf
  have hE := xT.rf σ
  have hl := lv_entry ([.ref (ad a0), .ref (ad a1)]) (n := 3) (Nat.le_of_ble_eq_true rfl)
  rw [lg_entry_eq]
  generalize (lg_sl ([.ref (ad a0), .ref (ad a1)]) ++ List.replicate (3 - (lg_sl ([.ref (ad a0), .ref (ad a1)])).length) Slot.unset).toArray = ls at hl ⊢
  have hl : lv_has ls 3 [(0, .ref (ad a0)), (1, .ref (ad a1))] := hl
  unfold F_X12_counts at hF
  refine lv_aload_n X.1 X.2.1 dX12_counts_0 rfl (lv_at hl 1 rfl) ?_
  refine lv_iconst (v := 1) X.1 X.2.1 dX12_counts_1 (by decide) ?_
  refine lv_iconst (v := 0) X.1 X.2.1 dX12_counts_2 (by decide) ?_
  refine gx_iast X hG hS hT_a1 hF dX12_counts_3 (fun σ3 H locs hG hS hX hF => ?_)
  have hT_a0 := hX.T hT_a0
  have hT_a1 := hX.T hT_a1
  replace hE := hE.trans hX
  refine lv_aload_n X.1 X.2.1 dX12_counts_4 rfl (lv_at hl 1 rfl) ?_
  refine lv_iconst (v := 2) X.1 X.2.1 dX12_counts_5 (by decide) ?_
  refine lv_iconst (v := 0) X.1 X.2.1 dX12_counts_6 (by decide) ?_
  refine gx_iast X hG hS hT_a1 hF dX12_counts_7 (fun σ4 H locs hG hS hX hF => ?_)
  have hT_a0 := hX.T hT_a0
  have hT_a1 := hX.T hT_a1
  replace hE := hE.trans hX
  refine lv_iconst (v := 0) X.1 X.2.1 dX12_counts_8 (by decide) ?_
  refine lv_istore_n (lv' := [(2, .int 0), (0, .ref (ad a0)), (1, .ref (ad a1))]) X.1 X.2.1 dX12_counts_9 rfl hl (by decide) rfl (fun ls hl => ?_)
  exact w_X12_counts_10 X n  n a1 0 σ4 _ _ ls hT_a1 hG hS hE (lv_sub hl [2, 0] rfl) hF
end W_model4
