/-! model2: printed by wip/whole/gen.py -/
section W_model2
variable {p : Program} {l : Launch} {e : Env} {s : State} {m : MethodId} {args : Array Value} {below : List Frame} {meth : Method} {c : Code} {D : va_G} {cA : Nat → ClassId} {base : Nat} {ad : Nat → Nat}
abbrev rm_X12_speaksOf : Room := { frames := 0, cells := 0, slots := 0, locals := 0 }
theorem h_X12_speaksOf : yX12_speaksOf.cls = RX12 ∧ yX12_speaksOf.cls ≠ "java/lang/invoke/MethodHandle" ∧ yX12_speaksOf.cls ≠ "java/lang/invoke/VarHandle" ∧ (parseMethodDescriptor yX12_speaksOf.desc).map (fun d => d.parameters.length) = some 1 := by decide +kernel
def F_X12_speaksOf_4 (n : Nat)  : Nat → Nat → Int32 → Int32 → Int32 → Hp → Option (Int32 × Hp)
  | 0, _, _, _, _, _ => none
  | f + 1, v0, v1, v2, v3, σ => b1 (hR σ v0 0) fun (i1 : Nat) => ck (¬ ((0 : Int32) < 0 ∨ hL σ i1 ≤ (0 : Int32).toNatClampNeg)) (if (hI σ i1 (0 : Int32).toNatClampNeg) ≤ v3 then (some (v2, σ)) else (b1 (hR σ v0 0) fun (i2 : Nat) => ck (¬ ((7 + v3) < 0 ∨ hL σ i2 ≤ (7 + v3).toNatClampNeg)) (lt (v2 + (((v1 >>> (v3 &&& 31)) &&& 1) * (hI σ i2 (7 + v3).toNatClampNeg))) fun (x3 : Int32) => (F_X12_speaksOf_4 n  f) v0 v1 x3 (v3 + 1) σ)))
def F_X12_speaksOf (n : Nat) (a0 : Nat) (a1 : Int32) (σ : Hp) : Option (Int32 × Hp) := F_X12_speaksOf_4 n  n a0 a1 0 0 σ
abbrev rm_X12_sees : Room := { frames := 0, cells := 0, slots := 0, locals := 0 }
theorem h_X12_sees : yX12_sees.cls = RX12 ∧ yX12_sees.cls ≠ "java/lang/invoke/MethodHandle" ∧ yX12_sees.cls ≠ "java/lang/invoke/VarHandle" ∧ (parseMethodDescriptor yX12_sees.desc).map (fun d => d.parameters.length) = some 3 := by decide +kernel
def F_X12_sees (n : Nat) (a0 : Nat) (a1 : Int32) (a2 : Int32) (a3 : Int32) (σ : Hp) : Option Hp := lt (pI σ a0 23 a1) fun (σ1 : Hp) => lt (pI σ1 a0 24 a2) fun (σ2 : Hp) => lt (pI σ2 a0 25 a3) fun (σ3 : Hp) => some σ3
abbrev rm_X12_set : Room := { frames := 1, cells := 0, slots := 0, locals := 25 }
theorem h_X12_set : yX12_set.cls = RX12 ∧ yX12_set.cls ≠ "java/lang/invoke/MethodHandle" ∧ yX12_set.cls ≠ "java/lang/invoke/VarHandle" ∧ (parseMethodDescriptor yX12_set.desc).map (fun d => d.parameters.length) = some 2 := by decide +kernel
def F_X12_set_61 (n : Nat)  (v0 : Nat) (v1 : Int32) (v2 : Int32) (s0 : Int64) (s1 : Int64) (s2 : Int64) (σ : Hp) : Option (Int32 × Hp) := b2 (F_X12_isIn n s2 s1 s0 σ) fun (r2 : Int32) (σ1 : Hp) => if r2 = 0 then (some ((-1), σ1)) else (b2 (F_X12_becomes n v0 (3 + v1) v2 σ1) fun (r4 : Int32) (σ3 : Hp) => some (r4, σ3))
def F_X12_set_28 (n : Nat)  (v0 : Nat) (v1 : Int32) (v2 : Int32) (s0 : Int64) (s1 : Int64) (σ : Hp) : Option (Int32 × Hp) := if v1 = 0 then (F_X12_set_61 n  v0 v1 v2 12 s0 s1 σ) else (if v1 = 1 then (F_X12_set_61 n  v0 v1 v2 11 s0 s1 σ) else (if v1 = 2 then (F_X12_set_61 n  v0 v1 v2 1 s0 s1 σ) else (F_X12_set_61 n  v0 v1 v2 3000 s0 s1 σ)))
def F_X12_set_23 (n : Nat)  (v0 : Nat) (v1 : Int32) (v2 : Int32) (s0 : Int64) (σ : Hp) : Option (Int32 × Hp) := F_X12_set_28 n  v0 v1 v2 1 s0 σ
def F_X12_set (n : Nat) (a0 : Nat) (a1 : Int32) (a2 : Int32) (σ : Hp) : Option (Int32 × Hp) := b2 (F_X12_isIn n a1.toInt64 0 3 σ) fun (r6 : Int32) (σ5 : Hp) => if r6 = 0 then (some ((-1), σ5)) else (if a1 = 0 then (F_X12_set_23 n  a0 a1 a2 a2.toInt64 σ5) else (if a1 = 3 then (F_X12_set_23 n  a0 a1 a2 a2.toInt64 σ5) else (F_X12_set_28 n  a0 a1 a2 0 a2.toInt64 σ5)))
abbrev rm_X12_counts : Room := { frames := 0, cells := 0, slots := 0, locals := 0 }
theorem h_X12_counts : yX12_counts.cls = RX12 ∧ yX12_counts.cls ≠ "java/lang/invoke/MethodHandle" ∧ yX12_counts.cls ≠ "java/lang/invoke/VarHandle" ∧ (parseMethodDescriptor yX12_counts.desc).map (fun d => d.parameters.length) = some 1 := by decide +kernel
def F_X12_counts_44 (n : Nat) (K_10 : Nat → Int32 → Hp → Option Hp) (v1 : Nat) (v2 : Int32) (σ : Hp) : Option Hp := K_10 v1 (v2 + 1) σ
def F_X12_counts_10 (n : Nat)  : Nat → Nat → Int32 → Hp → Option Hp
  | 0, _, _, _ => none
  | f + 1, v1, v2, σ => ck (¬ ((5 : Int32) < 0 ∨ hL σ v1 ≤ (5 : Int32).toNatClampNeg)) (if (hI σ v1 (5 : Int32).toNatClampNeg) ≤ v2 then (some σ) else (ck (¬ ((43 + v2) < 0 ∨ hL σ v1 ≤ (43 + v2).toNatClampNeg)) (if (hI σ v1 (43 + v2).toNatClampNeg) = 1 then (ck (¬ ((1 : Int32) < 0 ∨ hL σ v1 ≤ (1 : Int32).toNatClampNeg)) (ck (¬ ((1 : Int32) < 0 ∨ hL σ v1 ≤ (1 : Int32).toNatClampNeg)) (lt (pI σ v1 (1 : Int32).toNatClampNeg ((hI σ v1 (1 : Int32).toNatClampNeg) + 1)) fun (σ2 : Hp) => F_X12_counts_44 n (F_X12_counts_10 n  f) v1 v2 σ2))) else (ck (¬ ((2 : Int32) < 0 ∨ hL σ v1 ≤ (2 : Int32).toNatClampNeg)) (ck (¬ ((2 : Int32) < 0 ∨ hL σ v1 ≤ (2 : Int32).toNatClampNeg)) (lt (pI σ v1 (2 : Int32).toNatClampNeg ((hI σ v1 (2 : Int32).toNatClampNeg) + 1)) fun (σ1 : Hp) => F_X12_counts_44 n (F_X12_counts_10 n  f) v1 v2 σ1))))))
def F_X12_counts (n : Nat) (a0 : Nat) (a1 : Nat) (σ : Hp) : Option Hp := ck (¬ ((1 : Int32) < 0 ∨ hL σ a1 ≤ (1 : Int32).toNatClampNeg)) (lt (pI σ a1 (1 : Int32).toNatClampNeg 0) fun (σ3 : Hp) => ck (¬ ((2 : Int32) < 0 ∨ hL σ3 a1 ≤ (2 : Int32).toNatClampNeg)) (lt (pI σ3 a1 (2 : Int32).toNatClampNeg 0) fun (σ4 : Hp) => F_X12_counts_10 n  n a1 0 σ4))
abbrev rm_X12_lesser : Room := { frames := 0, cells := 0, slots := 0, locals := 0 }
theorem h_X12_lesser : yX12_lesser.cls = RX12 ∧ yX12_lesser.cls ≠ "java/lang/invoke/MethodHandle" ∧ yX12_lesser.cls ≠ "java/lang/invoke/VarHandle" ∧ (parseMethodDescriptor yX12_lesser.desc).map (fun d => d.parameters.length) = some 2 := by decide +kernel
def F_X12_lesser (n : Nat) (a0 : Int32) (a1 : Int32) (σ : Hp) : Option (Int32 × Hp) := if a1 ≤ a0 then (some (a1, σ)) else (some (a0, σ))
abbrev rm_X12_endOf : Room := { frames := 0, cells := 0, slots := 0, locals := 0 }
theorem h_X12_endOf : yX12_endOf.cls = RX12 ∧ yX12_endOf.cls ≠ "java/lang/invoke/MethodHandle" ∧ yX12_endOf.cls ≠ "java/lang/invoke/VarHandle" ∧ (parseMethodDescriptor yX12_endOf.desc).map (fun d => d.parameters.length) = some 2 := by decide +kernel
def F_X12_endOf (n : Nat) (a0 : Nat) (a1 : Nat) (a2 : Int32) (σ : Hp) : Option (Int32 × Hp) := ck (¬ ((1 : Int32) < 0 ∨ hL σ a1 ≤ (1 : Int32).toNatClampNeg)) (if (hI σ a1 (1 : Int32).toNatClampNeg) < a2 then (ck (¬ ((2 : Int32) < 0 ∨ hL σ a1 ≤ (2 : Int32).toNatClampNeg)) (if (hI σ a1 (2 : Int32).toNatClampNeg) < a2 then (ck (¬ ((0 : Int32) < 0 ∨ hL σ a1 ≤ (0 : Int32).toNatClampNeg)) (b1 (hR σ a0 0) fun (i1 : Nat) => ck (¬ ((6 : Int32) < 0 ∨ hL σ i1 ≤ (6 : Int32).toNatClampNeg)) (if (hI σ a1 (0 : Int32).toNatClampNeg) < (hI σ i1 (6 : Int32).toNatClampNeg) then (some ((-4), σ)) else (some (2, σ))))) else (some (0, σ)))) else (some (1, σ)))
abbrev rm_X12_allHold : Room := { frames := 0, cells := 0, slots := 0, locals := 0 }
theorem h_X12_allHold : yX12_allHold.cls = RX12 ∧ yX12_allHold.cls ≠ "java/lang/invoke/MethodHandle" ∧ yX12_allHold.cls ≠ "java/lang/invoke/VarHandle" ∧ (parseMethodDescriptor yX12_allHold.desc).map (fun d => d.parameters.length) = some 1 := by decide +kernel
def F_X12_allHold_13 (n : Nat)  : Nat → Nat → Int32 → Int32 → Hp → Option (Int32 × Hp)
  | 0, _, _, _, _ => none
  | f + 1, v1, v2, v3, σ => ck (¬ ((5 : Int32) < 0 ∨ hL σ v1 ≤ (5 : Int32).toNatClampNeg)) (if (hI σ v1 (5 : Int32).toNatClampNeg) ≤ v3 then (some (v2, σ)) else (ck (¬ ((19 + v3) < 0 ∨ hL σ v1 ≤ (19 + v3).toNatClampNeg)) ((F_X12_allHold_13 n  f) v1 (v2 &&& (hI σ v1 (19 + v3).toNatClampNeg)) (v3 + 1) σ)))
def F_X12_allHold (n : Nat) (a0 : Nat) (a1 : Nat) (σ : Hp) : Option (Int32 × Hp) := b1 (hR σ a0 0) fun (i1 : Nat) => ck (¬ ((0 : Int32) < 0 ∨ hL σ i1 ≤ (0 : Int32).toNatClampNeg)) (lt ((1 <<< ((hI σ i1 (0 : Int32).toNatClampNeg) &&& 31)) - 1) fun (x2 : Int32) => F_X12_allHold_13 n  n a1 x2 0 σ)
abbrev rm_X12_amount : Room := { frames := 0, cells := 0, slots := 0, locals := 0 }
theorem h_X12_amount : yX12_amount.cls = RX12 ∧ yX12_amount.cls ≠ "java/lang/invoke/MethodHandle" ∧ yX12_amount.cls ≠ "java/lang/invoke/VarHandle" ∧ (parseMethodDescriptor yX12_amount.desc).map (fun d => d.parameters.length) = some 1 := by decide +kernel
def F_X12_amount (n : Nat) (a0 : Int32) (σ : Hp) : Option (Int32 × Hp) := if 0 ≤ a0 then (some (a0, σ)) else (some (-a0, σ))
theorem w_X12_speaksOf_4 {σ0 τ : Hp} {r : Int32} (X : SX D cA base p s m args meth c cX12_speaksOf 4 (some .int) RX12) (n : Nat)  : ∀ f : Nat, ∀ (v0 : Nat) (v1 : Int32) (v2 : Int32) (v3 : Int32) (σ : Hp) (H : Heap) (locs : List Loc) (ls : Array Slot), hT σ v0 12 → GW D cA base ad σ H → va_S (bA base) s.heap H locs → xT σ0 σ → lv_has ls 4 [(0, .ref (ad v0)), (1, .int v1), (2, .int v2), (3, .int v3)] → F_X12_speaksOf_4 n  f v0 v1 v2 v3 σ = some (r, τ) → W p l e rm_X12_speaksOf s m args below meth c H locs 0 0 (ZI below s args D cA base ad σ0 r τ) (F0 m 4 ls []) := by
  intro f
  induction f with
  | zero => intro v0 v1 v2 v3 σ H locs ls h0 hG hS hE hl hF
            rw [F_X12_speaksOf_4] at hF; cases hF
  | succ f ih =>
    intro v0 v1 v2 v3 σ H locs ls hT_v0 hG hS hE hl hF
    rw [F_X12_speaksOf_4] at hF
    refine lv_iload_n X.1 X.2.1 dX12_speaksOf_4 rfl (lv_at hl 3 rfl) ?_
    refine lv_aload_n X.1 X.2.1 dX12_speaksOf_5 rfl (lv_at hl 0 rfl) ?_
    obtain ⟨i1, hr, hF⟩ := b1_ex hF
    have hT_i1 : hT σ i1 13 := gw_T hG hT_v0 (by decide) hr
    refine gx_get 0 (v := .ref (ad i1)) X hG hT_v0.1 (hT_v0.eq (by decide)) (by decide) rfl inX12 (by decide) k_960 (fun _ h => h) (gx_rfv hr) dX12_speaksOf_6 ?_
    refine lv_iconst (v := 0) X.1 X.2.1 dX12_speaksOf_9 (by decide) ?_
    refine gx_iald X hG hT_i1 hF dX12_speaksOf_10 (fun hF => ?_)
    refine lv_icmp_ge (tgt := 38) X.1 X.2.1 dX12_speaksOf_11 (by decide) (fun hc => ?_) (fun hc => ?_)
    · replace hF := it_t hF hc
      refine lv_iload_n X.1 X.2.1 dX12_speaksOf_38 rfl (lv_at hl 2 rfl) ?_
      exact gx_iret X hG hS hE hF dX12_speaksOf_39
    · replace hF := it_f hF hc
      refine lv_iload_n X.1 X.2.1 dX12_speaksOf_14 rfl (lv_at hl 2 rfl) ?_
      refine lv_iload_n X.1 X.2.1 dX12_speaksOf_15 rfl (lv_at hl 1 rfl) ?_
      refine lv_iload_n X.1 X.2.1 dX12_speaksOf_16 rfl (lv_at hl 3 rfl) ?_
      refine lv_ishr X.1 X.2.1 dX12_speaksOf_17 ?_
      refine lv_iconst (v := 1) X.1 X.2.1 dX12_speaksOf_18 (by decide) ?_
      refine lv_iand X.1 X.2.1 dX12_speaksOf_19 ?_
      refine lv_aload_n X.1 X.2.1 dX12_speaksOf_20 rfl (lv_at hl 0 rfl) ?_
      obtain ⟨i2, hr, hF⟩ := b1_ex hF
      have hT_i2 : hT σ i2 13 := gw_T hG hT_v0 (by decide) hr
      refine gx_get 0 (v := .ref (ad i2)) X hG hT_v0.1 (hT_v0.eq (by decide)) (by decide) rfl inX12 (by decide) k_960 (fun _ h => h) (gx_rfv hr) dX12_speaksOf_21 ?_
      refine lv_bipush (v := 7) X.1 X.2.1 dX12_speaksOf_24 (by decide) ?_
      refine lv_iload_n X.1 X.2.1 dX12_speaksOf_26 rfl (lv_at hl 3 rfl) ?_
      refine lv_iadd X.1 X.2.1 dX12_speaksOf_27 ?_
      refine gx_iald X hG hT_i2 hF dX12_speaksOf_28 (fun hF => ?_)
      refine lv_imul X.1 X.2.1 dX12_speaksOf_29 ?_
      refine lv_iadd X.1 X.2.1 dX12_speaksOf_30 ?_
      refine lv_topi (fun x3 ex3 => ?_)
      replace hF := lt_nm hF ex3
      refine lv_istore_n (lv' := [(2, .int x3), (0, .ref (ad v0)), (1, .int v1), (3, .int v3)]) X.1 X.2.1 dX12_speaksOf_31 rfl hl (by decide) rfl (fun ls hl => ?_)
      refine lv_iinc (v := v3 + 1) (lv' := [(3, .int (v3 + 1)), (2, .int x3), (0, .ref (ad v0)), (1, .int v1)]) X.1 X.2.1 dX12_speaksOf_32 hl (k := 3) rfl rfl (by decide) rfl (fun ls hl => ?_)
      refine lv_goto (tgt := 4) X.1 X.2.1 dX12_speaksOf_35 (by decide) ?_
      exact ih v0 v1 x3 (v3 + 1) σ _ _ ls hT_v0 hG hS hE (lv_sub hl [2, 3, 1, 0] rfl) hF
theorem c_X12_speaksOf (l : Launch) (D : va_G) (cA : Nat → ClassId) (base : Nat) (ad : Nat → Nat) (σ : Hp) (n : Nat) (a0 : Nat) (a1 : Int32) (hT_a0 : hT σ a0 12) {τ : Hp} {r : Int32} (hF : F_X12_speaksOf n a0 a1 σ = some (r, τ)) : MI l yX12_speaksOf cX12_speaksOf 4 (some .int) rm_X12_speaksOf D cA base ad σ [.ref (ad a0), .int a1] r τ := by
  refine Met.ofW (cc := cX12_speaksOf) (maxL := 4) (ret := (some .int)) (by decide) rfl ?_
  intro p e s m args below meth c s₁ B hml hv
  obtain ⟨rfl, hv⟩ := hv
  have X : SX D cA base p s m ([.ref (ad a0), .int a1] : List Value).toArray meth c cX12_speaksOf 4 (some .int) RX12 := sx_of B hml hv
  have hG := hv.1
  have hS : va_S (bA base) s.heap s.heap [] := va_S.rf
  have hE := xT.rf σ
  have hl := lv_entry ([.ref (ad a0), .int a1]) (n := 4) (Nat.le_of_ble_eq_true rfl)
  rw [lg_entry_eq]
  generalize (lg_sl ([.ref (ad a0), .int a1]) ++ List.replicate (4 - (lg_sl ([.ref (ad a0), .int a1])).length) Slot.unset).toArray = ls at hl ⊢
  have hl : lv_has ls 4 [(0, .ref (ad a0)), (1, .int a1)] := hl
  unfold F_X12_speaksOf at hF
  refine lv_iconst (v := 0) X.1 X.2.1 dX12_speaksOf_0 (by decide) ?_
  refine lv_istore_n (lv' := [(2, .int 0), (0, .ref (ad a0)), (1, .int a1)]) X.1 X.2.1 dX12_speaksOf_1 rfl hl (by decide) rfl (fun ls hl => ?_)
  refine lv_iconst (v := 0) X.1 X.2.1 dX12_speaksOf_2 (by decide) ?_
  refine lv_istore_n (lv' := [(3, .int 0), (2, .int 0), (0, .ref (ad a0)), (1, .int a1)]) X.1 X.2.1 dX12_speaksOf_3 rfl hl (by decide) rfl (fun ls hl => ?_)
  exact w_X12_speaksOf_4 X n  n a0 a1 0 0 σ _ _ ls hT_a0 hG hS hE (lv_sub hl [2, 3, 1, 0] rfl) hF
theorem c_X12_sees (l : Launch) (D : va_G) (cA : Nat → ClassId) (base : Nat) (ad : Nat → Nat) (σ : Hp) (n : Nat) (a0 : Nat) (a1 : Int32) (a2 : Int32) (a3 : Int32) (hT_a0 : hT σ a0 12) {τ : Hp} (hF : F_X12_sees n a0 a1 a2 a3 σ = some τ) : MV l yX12_sees cX12_sees 4 rm_X12_sees D cA base ad σ [.ref (ad a0), .int a1, .int a2, .int a3] τ := by
  refine Met.ofW (cc := cX12_sees) (maxL := 4) (ret := none) (by decide) rfl ?_
  intro p e s m args below meth c s₁ B hml hv
  obtain ⟨rfl, hv⟩ := hv
  have X : SX D cA base p s m ([.ref (ad a0), .int a1, .int a2, .int a3] : List Value).toArray meth c cX12_sees 4 none RX12 := sx_of B hml hv
  have hG := hv.1
  have hS : va_S (bA base) s.heap s.heap [] := va_S.rf
  have hE := xT.rf σ
  have hl := lv_entry ([.ref (ad a0), .int a1, .int a2, .int a3]) (n := 4) (Nat.le_of_ble_eq_true rfl)
  rw [lg_entry_eq]
  generalize (lg_sl ([.ref (ad a0), .int a1, .int a2, .int a3]) ++ List.replicate (4 - (lg_sl ([.ref (ad a0), .int a1, .int a2, .int a3])).length) Slot.unset).toArray = ls at hl ⊢
  have hl : lv_has ls 4 [(0, .ref (ad a0)), (1, .int a1), (2, .int a2), (3, .int a3)] := hl
  unfold F_X12_sees at hF
  refine lv_aload_n X.1 X.2.1 dX12_sees_0 rfl (lv_at hl 0 rfl) ?_
  refine lv_iload_n X.1 X.2.1 dX12_sees_1 rfl (lv_at hl 1 rfl) ?_
  refine gx_putI 23  X hG hS hT_a0.1 (hT_a0.eq (by decide)) (by decide) rfl inX12 tyX12_ok nmX12 (by decide) k_983 (fun _ h => h) rfl rfl rfl rfl (Nat.le_of_ble_eq_true rfl) dX12_sees_2 hF (fun σ1 H locs hG hS hX hF => ?_)
  have hT_a0 := hX.T hT_a0
  replace hE := hE.trans hX
  refine lv_aload_n X.1 X.2.1 dX12_sees_5 rfl (lv_at hl 0 rfl) ?_
  refine lv_iload_n X.1 X.2.1 dX12_sees_6 rfl (lv_at hl 2 rfl) ?_
  refine gx_putI 24  X hG hS hT_a0.1 (hT_a0.eq (by decide)) (by decide) rfl inX12 tyX12_ok nmX12 (by decide) k_984 (fun _ h => h) rfl rfl rfl rfl (Nat.le_of_ble_eq_true rfl) dX12_sees_7 hF (fun σ2 H locs hG hS hX hF => ?_)
  have hT_a0 := hX.T hT_a0
  replace hE := hE.trans hX
  refine lv_aload_n X.1 X.2.1 dX12_sees_10 rfl (lv_at hl 0 rfl) ?_
  refine lv_iload_n X.1 X.2.1 dX12_sees_11 rfl (lv_at hl 3 rfl) ?_
  refine gx_putI 25  X hG hS hT_a0.1 (hT_a0.eq (by decide)) (by decide) rfl inX12 tyX12_ok nmX12 (by decide) k_985 (fun _ h => h) rfl rfl rfl rfl (Nat.le_of_ble_eq_true rfl) dX12_sees_12 hF (fun σ3 H locs hG hS hX hF => ?_)
  have hT_a0 := hX.T hT_a0
  replace hE := hE.trans hX
  exact gx_vret X hG hS hE hF dX12_sees_15
theorem w_X12_set_61 {σ0 τ : Hp} {r : Int32} (X : SX D cA base p s m args meth c cX12_set 3 (some .int) RX12) (n : Nat)  : ∀ (v0 : Nat) (v1 : Int32) (v2 : Int32) (s0 : Int64) (s1 : Int64) (s2 : Int64) (σ : Hp) (H : Heap) (locs : List Loc) (ls : Array Slot), hT σ v0 12 → GW D cA base ad σ H → va_S (bA base) s.heap H locs → xT σ0 σ → lv_has ls 3 [(0, .ref (ad v0)), (1, .int v1), (2, .int v2)] → F_X12_set_61 n  v0 v1 v2 s0 s1 s2 σ = some (r, τ) → W p l e rm_X12_set s m args below meth c H locs 0 0 (ZI below s args D cA base ad σ0 r τ) (F0 m 61 ls [.long s0, .long s1, .long s2]) := by
  intro v0 v1 v2 s0 s1 s2 σ H locs ls hT_v0 hG hS hE hl hF
  unfold F_X12_set_61 at hF
  obtain ⟨r2, σ1, hz, hF⟩ := b2_ex hF
  refine gx_rI (gx_runS (As := [.long s2, .long s1, .long s0]) (rest := []) X hG hS (c_X12_isIn l D cA base ad σ n s2 s1 s0  hz) k_1063 k_1061 k_1062 k_4 (h_X12_isIn.2) rfl rfl ⟨by decide, by decide⟩ rfl hl.1 rfl (Nat.le_of_ble_eq_true rfl) dX12_set_61 ⟨Nat.zero_le _, Nat.zero_le _⟩) hS (fun H locs hG hS hX => ?_)
  have hT_v0 := hX.T hT_v0
  replace hE := hE.trans hX
  refine lv_if_eq (tgt := 78) X.1 X.2.1 dX12_set_64 (by decide) (fun hc => ?_) (fun hc => ?_)
  · replace hF := it_t hF hc
    refine lv_iconst (v := (-1)) X.1 X.2.1 dX12_set_78 (by decide) ?_
    exact gx_iret X hG hS hE hF dX12_set_79
  · replace hF := it_f hF hc
    refine lv_aload_n X.1 X.2.1 dX12_set_67 rfl (lv_at hl 0 rfl) ?_
    refine lv_iconst (v := 3) X.1 X.2.1 dX12_set_68 (by decide) ?_
    refine lv_iload_n X.1 X.2.1 dX12_set_69 rfl (lv_at hl 1 rfl) ?_
    refine lv_iadd X.1 X.2.1 dX12_set_70 ?_
    refine lv_iload_n X.1 X.2.1 dX12_set_71 rfl (lv_at hl 2 rfl) ?_
    obtain ⟨r4, σ3, hz, hF⟩ := b2_ex hF
    refine gx_rI (gx_runV (As := [.int (3 + v1), .int v2]) (rest := []) X hG hS hT_v0.1 (hT_v0.eq (by decide)) (by decide) rfl (c_X12_becomes l D cA base ad σ1 n v0 (3 + v1) v2 hT_v0 hz) k_1089 k_1086 k_1088 ks_18 k_4 (h_X12_becomes) rfl rfl ⟨by decide, by decide⟩ rfl hl.1 rfl (Nat.le_of_ble_eq_true rfl) dX12_set_72 ⟨Nat.zero_le _, Nat.zero_le _⟩) hS (fun H locs hG hS hX => ?_)
    have hT_v0 := hX.T hT_v0
    replace hE := hE.trans hX
    refine lv_goto (tgt := 79) X.1 X.2.1 dX12_set_75 (by decide) ?_
    exact gx_iret X hG hS hE hF dX12_set_79
theorem w_X12_set_28 {σ0 τ : Hp} {r : Int32} (X : SX D cA base p s m args meth c cX12_set 3 (some .int) RX12) (n : Nat)  : ∀ (v0 : Nat) (v1 : Int32) (v2 : Int32) (s0 : Int64) (s1 : Int64) (σ : Hp) (H : Heap) (locs : List Loc) (ls : Array Slot), hT σ v0 12 → GW D cA base ad σ H → va_S (bA base) s.heap H locs → xT σ0 σ → lv_has ls 3 [(0, .ref (ad v0)), (1, .int v1), (2, .int v2)] → F_X12_set_28 n  v0 v1 v2 s0 s1 σ = some (r, τ) → W p l e rm_X12_set s m args below meth c H locs 0 0 (ZI below s args D cA base ad σ0 r τ) (F0 m 28 ls [.long s0, .long s1]) := by
  intro v0 v1 v2 s0 s1 σ H locs ls hT_v0 hG hS hE hl hF
  unfold F_X12_set_28 at hF
  refine lv_iload_n X.1 X.2.1 dX12_set_28 rfl (lv_at hl 1 rfl) ?_
  refine lv_if_ne (tgt := 38) X.1 X.2.1 dX12_set_29 (by decide) (fun hc => ?_) (fun hc => ?_)
  · replace hF := it_f hF hc
    refine lv_iload_n X.1 X.2.1 dX12_set_38 rfl (lv_at hl 1 rfl) ?_
    refine lv_iconst (v := 1) X.1 X.2.1 dX12_set_39 (by decide) ?_
    refine lv_icmp_ne (tgt := 49) X.1 X.2.1 dX12_set_40 (by decide) (fun hc => ?_) (fun hc => ?_)
    · replace hF := it_f hF hc
      refine lv_iload_n X.1 X.2.1 dX12_set_49 rfl (lv_at hl 1 rfl) ?_
      refine lv_iconst (v := 2) X.1 X.2.1 dX12_set_50 (by decide) ?_
      refine lv_icmp_ne (tgt := 58) X.1 X.2.1 dX12_set_51 (by decide) (fun hc => ?_) (fun hc => ?_)
      · replace hF := it_f hF hc
        refine lv_ldc2 (v := 3000) X.1 X.2.1 X.2.2.2.2.2.1 (X.w k_1180) dX12_set_58 ?_
        exact w_X12_set_61 X n  v0 v1 v2 3000 s0 s1 σ _ _ ls hT_v0 hG hS hE (lv_sub hl [0, 1, 2] rfl) hF
      · replace hF := it_t hF hc
        refine lv_lconst (v := 1) X.1 X.2.1 dX12_set_54 (by decide) ?_
        refine lv_goto (tgt := 61) X.1 X.2.1 dX12_set_55 (by decide) ?_
        exact w_X12_set_61 X n  v0 v1 v2 1 s0 s1 σ _ _ ls hT_v0 hG hS hE (lv_sub hl [0, 1, 2] rfl) hF
    · replace hF := it_t hF hc
      refine lv_ldc2 (v := 11) X.1 X.2.1 X.2.2.2.2.2.1 (X.w k_1179) dX12_set_43 ?_
      refine lv_goto (tgt := 61) X.1 X.2.1 dX12_set_46 (by decide) ?_
      exact w_X12_set_61 X n  v0 v1 v2 11 s0 s1 σ _ _ ls hT_v0 hG hS hE (lv_sub hl [0, 1, 2] rfl) hF
  · replace hF := it_t hF hc
    refine lv_ldc2 (v := 12) X.1 X.2.1 X.2.2.2.2.2.1 (X.w k_1178) dX12_set_32 ?_
    refine lv_goto (tgt := 61) X.1 X.2.1 dX12_set_35 (by decide) ?_
    exact w_X12_set_61 X n  v0 v1 v2 12 s0 s1 σ _ _ ls hT_v0 hG hS hE (lv_sub hl [0, 1, 2] rfl) hF
theorem w_X12_set_23 {σ0 τ : Hp} {r : Int32} (X : SX D cA base p s m args meth c cX12_set 3 (some .int) RX12) (n : Nat)  : ∀ (v0 : Nat) (v1 : Int32) (v2 : Int32) (s0 : Int64) (σ : Hp) (H : Heap) (locs : List Loc) (ls : Array Slot), hT σ v0 12 → GW D cA base ad σ H → va_S (bA base) s.heap H locs → xT σ0 σ → lv_has ls 3 [(0, .ref (ad v0)), (1, .int v1), (2, .int v2)] → F_X12_set_23 n  v0 v1 v2 s0 σ = some (r, τ) → W p l e rm_X12_set s m args below meth c H locs 0 0 (ZI below s args D cA base ad σ0 r τ) (F0 m 23 ls [.long s0]) := by
  intro v0 v1 v2 s0 σ H locs ls hT_v0 hG hS hE hl hF
  unfold F_X12_set_23 at hF
  refine lv_lconst (v := 1) X.1 X.2.1 dX12_set_23 (by decide) ?_
  refine lv_goto (tgt := 28) X.1 X.2.1 dX12_set_24 (by decide) ?_
  exact w_X12_set_28 X n  v0 v1 v2 1 s0 σ _ _ ls hT_v0 hG hS hE (lv_sub hl [0, 1, 2] rfl) hF
theorem c_X12_set (l : Launch) (D : va_G) (cA : Nat → ClassId) (base : Nat) (ad : Nat → Nat) (σ : Hp) (n : Nat) (a0 : Nat) (a1 : Int32) (a2 : Int32) (hT_a0 : hT σ a0 12) {τ : Hp} {r : Int32} (hF : F_X12_set n a0 a1 a2 σ = some (r, τ)) : MI l yX12_set cX12_set 3 (some .int) rm_X12_set D cA base ad σ [.ref (ad a0), .int a1, .int a2] r τ := by
  refine Met.ofW (cc := cX12_set) (maxL := 3) (ret := (some .int)) (by decide) rfl ?_
  intro p e s m args below meth c s₁ B hml hv
  obtain ⟨rfl, hv⟩ := hv
  have X : SX D cA base p s m ([.ref (ad a0), .int a1, .int a2] : List Value).toArray meth c cX12_set 3 (some .int) RX12 := sx_of B hml hv
  have hG := hv.1
  have hS : va_S (bA base) s.heap s.heap [] := va_S.rf
  have hE := xT.rf σ
  have hl := lv_entry ([.ref (ad a0), .int a1, .int a2]) (n := 3) (Nat.le_of_ble_eq_true rfl)
  rw [lg_entry_eq]
  generalize (lg_sl ([.ref (ad a0), .int a1, .int a2]) ++ List.replicate (3 - (lg_sl ([.ref (ad a0), .int a1, .int a2])).length) Slot.unset).toArray = ls at hl ⊢
  have hl : lv_has ls 3 [(0, .ref (ad a0)), (1, .int a1), (2, .int a2)] := hl
  unfold F_X12_set at hF
  refine lv_iload_n X.1 X.2.1 dX12_set_0 rfl (lv_at hl 1 rfl) ?_
  refine lv_i2l X.1 X.2.1 dX12_set_1 rfl ?_
  refine lv_lconst (v := 0) X.1 X.2.1 dX12_set_2 (by decide) ?_
  refine lv_ldc2 (v := 3) X.1 X.2.1 X.2.2.2.2.2.1 (X.w k_1177) dX12_set_3 ?_
  obtain ⟨r6, σ5, hz, hF⟩ := b2_ex hF
  refine gx_rI (gx_runS (As := [.long a1.toInt64, .long 0, .long 3]) (rest := []) X hG hS (c_X12_isIn l D cA base ad σ n a1.toInt64 0 3  hz) k_1063 k_1061 k_1062 k_4 (h_X12_isIn.2) rfl rfl ⟨by decide, by decide⟩ rfl hl.1 rfl (Nat.le_of_ble_eq_true rfl) dX12_set_6 ⟨Nat.zero_le _, Nat.zero_le _⟩) hS (fun H locs hG hS hX => ?_)
  have hT_a0 := hX.T hT_a0
  replace hE := hE.trans hX
  refine lv_if_eq (tgt := 78) X.1 X.2.1 dX12_set_9 (by decide) (fun hc => ?_) (fun hc => ?_)
  · replace hF := it_t hF hc
    refine lv_iconst (v := (-1)) X.1 X.2.1 dX12_set_78 (by decide) ?_
    exact gx_iret X hG hS hE hF dX12_set_79
  · replace hF := it_f hF hc
    refine lv_iload_n X.1 X.2.1 dX12_set_12 rfl (lv_at hl 2 rfl) ?_
    refine lv_i2l X.1 X.2.1 dX12_set_13 rfl ?_
    refine lv_iload_n X.1 X.2.1 dX12_set_14 rfl (lv_at hl 1 rfl) ?_
    refine lv_if_eq (tgt := 23) X.1 X.2.1 dX12_set_15 (by decide) (fun hc => ?_) (fun hc => ?_)
    · replace hF := it_t hF hc
      exact w_X12_set_23 X n  a0 a1 a2 a2.toInt64 σ5 _ _ ls hT_a0 hG hS hE (lv_sub hl [0, 1, 2] rfl) hF
    · replace hF := it_f hF hc
      refine lv_iload_n X.1 X.2.1 dX12_set_18 rfl (lv_at hl 1 rfl) ?_
      refine lv_iconst (v := 3) X.1 X.2.1 dX12_set_19 (by decide) ?_
      refine lv_icmp_ne (tgt := 27) X.1 X.2.1 dX12_set_20 (by decide) (fun hc => ?_) (fun hc => ?_)
      · replace hF := it_f hF hc
        refine lv_lconst (v := 0) X.1 X.2.1 dX12_set_27 (by decide) ?_
        exact w_X12_set_28 X n  a0 a1 a2 0 a2.toInt64 σ5 _ _ ls hT_a0 hG hS hE (lv_sub hl [0, 1, 2] rfl) hF
      · replace hF := it_t hF hc
        exact w_X12_set_23 X n  a0 a1 a2 a2.toInt64 σ5 _ _ ls hT_a0 hG hS hE (lv_sub hl [0, 1, 2] rfl) hF
theorem w_X12_counts_44 {σ0 τ : Hp} (X : SX D cA base p s m args meth c cX12_counts 3 none RX12) (n : Nat) (K_10 : Nat → Int32 → Hp → Option Hp) (hK_10 : ∀ (v1 : Nat) (v2 : Int32) (σ : Hp) (H : Heap) (locs : List Loc) (ls : Array Slot), hT σ v1 13 → GW D cA base ad σ H → va_S (bA base) s.heap H locs → xT σ0 σ → lv_has ls 3 [(1, .ref (ad v1)), (2, .int v2)] → K_10 v1 v2 σ = some τ → W p l e rm_X12_counts s m args below meth c H locs 0 0 (ZV below s args D cA base ad σ0 τ) (F0 m 10 ls [])) : ∀ (v1 : Nat) (v2 : Int32) (σ : Hp) (H : Heap) (locs : List Loc) (ls : Array Slot), hT σ v1 13 → GW D cA base ad σ H → va_S (bA base) s.heap H locs → xT σ0 σ → lv_has ls 3 [(1, .ref (ad v1)), (2, .int v2)] → F_X12_counts_44 n K_10 v1 v2 σ = some τ → W p l e rm_X12_counts s m args below meth c H locs 0 0 (ZV below s args D cA base ad σ0 τ) (F0 m 44 ls []) := by
  intro v1 v2 σ H locs ls hT_v1 hG hS hE hl hF
  unfold F_X12_counts_44 at hF
  refine lv_iinc (v := v2 + 1) (lv' := [(2, .int (v2 + 1)), (1, .ref (ad v1))]) X.1 X.2.1 dX12_counts_44 hl (k := 1) rfl rfl (by decide) rfl (fun ls hl => ?_)
  refine lv_goto (tgt := 10) X.1 X.2.1 dX12_counts_47 (by decide) ?_
  exact hK_10 v1 (v2 + 1) σ _ _ ls hT_v1 hG hS hE (lv_sub hl [1, 0] rfl) hF
theorem w_X12_counts_10 {σ0 τ : Hp} (X : SX D cA base p s m args meth c cX12_counts 3 none RX12) (n : Nat)  : ∀ f : Nat, ∀ (v1 : Nat) (v2 : Int32) (σ : Hp) (H : Heap) (locs : List Loc) (ls : Array Slot), hT σ v1 13 → GW D cA base ad σ H → va_S (bA base) s.heap H locs → xT σ0 σ → lv_has ls 3 [(1, .ref (ad v1)), (2, .int v2)] → F_X12_counts_10 n  f v1 v2 σ = some τ → W p l e rm_X12_counts s m args below meth c H locs 0 0 (ZV below s args D cA base ad σ0 τ) (F0 m 10 ls []) := by
  intro f
  induction f with
  | zero => intro v1 v2 σ H locs ls h0 hG hS hE hl hF
            rw [F_X12_counts_10] at hF; cases hF
  | succ f ih =>
    intro v1 v2 σ H locs ls hT_v1 hG hS hE hl hF
    rw [F_X12_counts_10] at hF
    refine lv_iload_n X.1 X.2.1 dX12_counts_10 rfl (lv_at hl 1 rfl) ?_
    refine lv_aload_n X.1 X.2.1 dX12_counts_11 rfl (lv_at hl 0 rfl) ?_
    refine lv_iconst (v := 5) X.1 X.2.1 dX12_counts_12 (by decide) ?_
    refine gx_iald X hG hT_v1 hF dX12_counts_13 (fun hF => ?_)
    refine lv_icmp_ge (tgt := 50) X.1 X.2.1 dX12_counts_14 (by decide) (fun hc => ?_) (fun hc => ?_)
    · replace hF := it_t hF hc
      exact gx_vret X hG hS hE hF dX12_counts_50
    · replace hF := it_f hF hc
      refine lv_aload_n X.1 X.2.1 dX12_counts_17 rfl (lv_at hl 0 rfl) ?_
      refine lv_bipush (v := 43) X.1 X.2.1 dX12_counts_18 (by decide) ?_
      refine lv_iload_n X.1 X.2.1 dX12_counts_20 rfl (lv_at hl 1 rfl) ?_
      refine lv_iadd X.1 X.2.1 dX12_counts_21 ?_
      refine gx_iald X hG hT_v1 hF dX12_counts_22 (fun hF => ?_)
      refine lv_iconst (v := 1) X.1 X.2.1 dX12_counts_23 (by decide) ?_
      refine lv_icmp_ne (tgt := 37) X.1 X.2.1 dX12_counts_24 (by decide) (fun hc => ?_) (fun hc => ?_)
      · replace hF := it_f hF hc
        refine lv_aload_n X.1 X.2.1 dX12_counts_37 rfl (lv_at hl 0 rfl) ?_
        refine lv_iconst (v := 2) X.1 X.2.1 dX12_counts_38 (by decide) ?_
        refine lv_dup2_11 X.1 X.2.1 dX12_counts_39 rfl rfl ?_
        refine gx_iald X hG hT_v1 hF dX12_counts_40 (fun hF => ?_)
        refine lv_iconst (v := 1) X.1 X.2.1 dX12_counts_41 (by decide) ?_
        refine lv_iadd X.1 X.2.1 dX12_counts_42 ?_
        refine gx_iast X hG hS hT_v1 hF dX12_counts_43 (fun σ1 H locs hG hS hX hF => ?_)
        have hT_v1 := hX.T hT_v1
        replace hE := hE.trans hX
        exact w_X12_counts_44 X n (F_X12_counts_10 n  f) ih v1 v2 σ1 _ _ ls hT_v1 hG hS hE (lv_sub hl [0, 1] rfl) hF
      · replace hF := it_t hF hc
        refine lv_aload_n X.1 X.2.1 dX12_counts_27 rfl (lv_at hl 0 rfl) ?_
        refine lv_iconst (v := 1) X.1 X.2.1 dX12_counts_28 (by decide) ?_
        refine lv_dup2_11 X.1 X.2.1 dX12_counts_29 rfl rfl ?_
        refine gx_iald X hG hT_v1 hF dX12_counts_30 (fun hF => ?_)
        refine lv_iconst (v := 1) X.1 X.2.1 dX12_counts_31 (by decide) ?_
        refine lv_iadd X.1 X.2.1 dX12_counts_32 ?_
        refine gx_iast X hG hS hT_v1 hF dX12_counts_33 (fun σ2 H locs hG hS hX hF => ?_)
        have hT_v1 := hX.T hT_v1
        replace hE := hE.trans hX
        refine lv_goto (tgt := 44) X.1 X.2.1 dX12_counts_34 (by decide) ?_
        exact w_X12_counts_44 X n (F_X12_counts_10 n  f) ih v1 v2 σ2 _ _ ls hT_v1 hG hS hE (lv_sub hl [0, 1] rfl) hF
theorem c_X12_counts (l : Launch) (D : va_G) (cA : Nat → ClassId) (base : Nat) (ad : Nat → Nat) (σ : Hp) (n : Nat) (a0 : Nat) (a1 : Nat) (hT_a0 : hT σ a0 12) (hT_a1 : hT σ a1 13) {τ : Hp} (hF : F_X12_counts n a0 a1 σ = some τ) : MV l yX12_counts cX12_counts 3 rm_X12_counts D cA base ad σ [.ref (ad a0), .ref (ad a1)] τ := by
  refine Met.ofW (cc := cX12_counts) (maxL := 3) (ret := none) (by decide) rfl ?_
  intro p e s m args below meth c s₁ B hml hv
  obtain ⟨rfl, hv⟩ := hv
  have X : SX D cA base p s m ([.ref (ad a0), .ref (ad a1)] : List Value).toArray meth c cX12_counts 3 none RX12 := sx_of B hml hv
  have hG := hv.1
  have hS : va_S (bA base) s.heap s.heap [] := va_S.rf
  have hE := xT.rf σ
  have hl := lv_entry ([.ref (ad a0), .ref (ad a1)]) (n := 3) (Nat.le_of_ble_eq_true rfl)
  rw [lg_entry_eq]
  generalize (lg_sl ([.ref (ad a0), .ref (ad a1)]) ++ List.replicate (3 - (lg_sl ([.ref (ad a0), .ref (ad a1)])).length) Slot.unset).toArray = ls at hl ⊢
  have hl : lv_has ls 3 [(0, .ref (ad a0)), (1, .ref (ad a1))] := hl
  unfold F_X12_counts at hF
  refine lv_aload_n X.1 X.2.1 dX12_counts_0 rfl (lv_at hl 1 rfl) ?_
  refine lv_iconst (v := 1) X.1 X.2.1 dX12_counts_1 (by decide) ?_
  refine lv_iconst (v := 0) X.1 X.2.1 dX12_counts_2 (by decide) ?_
  refine gx_iast X hG hS hT_a1 hF dX12_counts_3 (fun σ3 H locs hG hS hX hF => ?_)
  have hT_a0 := hX.T hT_a0
  have hT_a1 := hX.T hT_a1
  replace hE := hE.trans hX
  refine lv_aload_n X.1 X.2.1 dX12_counts_4 rfl (lv_at hl 1 rfl) ?_
  refine lv_iconst (v := 2) X.1 X.2.1 dX12_counts_5 (by decide) ?_
  refine lv_iconst (v := 0) X.1 X.2.1 dX12_counts_6 (by decide) ?_
  refine gx_iast X hG hS hT_a1 hF dX12_counts_7 (fun σ4 H locs hG hS hX hF => ?_)
  have hT_a0 := hX.T hT_a0
  have hT_a1 := hX.T hT_a1
  replace hE := hE.trans hX
  refine lv_iconst (v := 0) X.1 X.2.1 dX12_counts_8 (by decide) ?_
  refine lv_istore_n (lv' := [(2, .int 0), (0, .ref (ad a0)), (1, .ref (ad a1))]) X.1 X.2.1 dX12_counts_9 rfl hl (by decide) rfl (fun ls hl => ?_)
  exact w_X12_counts_10 X n  n a1 0 σ4 _ _ ls hT_a1 hG hS hE (lv_sub hl [2, 0] rfl) hF
theorem c_X12_lesser (l : Launch) (D : va_G) (cA : Nat → ClassId) (base : Nat) (ad : Nat → Nat) (σ : Hp) (n : Nat) (a0 : Int32) (a1 : Int32)  {τ : Hp} {r : Int32} (hF : F_X12_lesser n a0 a1 σ = some (r, τ)) : MI l yX12_lesser cX12_lesser 2 (some .int) rm_X12_lesser D cA base ad σ [.int a0, .int a1] r τ := by
  refine Met.ofW (cc := cX12_lesser) (maxL := 2) (ret := (some .int)) (by decide) rfl ?_
  intro p e s m args below meth c s₁ B hml hv
  obtain ⟨rfl, hv⟩ := hv
  have X : SX D cA base p s m ([.int a0, .int a1] : List Value).toArray meth c cX12_lesser 2 (some .int) RX12 := sx_of B hml hv
  have hG := hv.1
  have hS : va_S (bA base) s.heap s.heap [] := va_S.rf
  have hE := xT.rf σ
  have hl := lv_entry ([.int a0, .int a1]) (n := 2) (Nat.le_of_ble_eq_true rfl)
  rw [lg_entry_eq]
  generalize (lg_sl ([.int a0, .int a1]) ++ List.replicate (2 - (lg_sl ([.int a0, .int a1])).length) Slot.unset).toArray = ls at hl ⊢
  have hl : lv_has ls 2 [(0, .int a0), (1, .int a1)] := hl
  unfold F_X12_lesser at hF
  refine lv_iload_n X.1 X.2.1 dX12_lesser_0 rfl (lv_at hl 0 rfl) ?_
  refine lv_iload_n X.1 X.2.1 dX12_lesser_1 rfl (lv_at hl 1 rfl) ?_
  refine lv_icmp_ge (tgt := 9) X.1 X.2.1 dX12_lesser_2 (by decide) (fun hc => ?_) (fun hc => ?_)
  · replace hF := it_t hF hc
    refine lv_iload_n X.1 X.2.1 dX12_lesser_9 rfl (lv_at hl 1 rfl) ?_
    exact gx_iret X hG hS hE hF dX12_lesser_10
  · replace hF := it_f hF hc
    refine lv_iload_n X.1 X.2.1 dX12_lesser_5 rfl (lv_at hl 0 rfl) ?_
    refine lv_goto (tgt := 10) X.1 X.2.1 dX12_lesser_6 (by decide) ?_
    exact gx_iret X hG hS hE hF dX12_lesser_10
theorem c_X12_endOf (l : Launch) (D : va_G) (cA : Nat → ClassId) (base : Nat) (ad : Nat → Nat) (σ : Hp) (n : Nat) (a0 : Nat) (a1 : Nat) (a2 : Int32) (hT_a0 : hT σ a0 12) (hT_a1 : hT σ a1 13) {τ : Hp} {r : Int32} (hF : F_X12_endOf n a0 a1 a2 σ = some (r, τ)) : MI l yX12_endOf cX12_endOf 3 (some .int) rm_X12_endOf D cA base ad σ [.ref (ad a0), .ref (ad a1), .int a2] r τ := by
  refine Met.ofW (cc := cX12_endOf) (maxL := 3) (ret := (some .int)) (by decide) rfl ?_
  intro p e s m args below meth c s₁ B hml hv
  obtain ⟨rfl, hv⟩ := hv
  have X : SX D cA base p s m ([.ref (ad a0), .ref (ad a1), .int a2] : List Value).toArray meth c cX12_endOf 3 (some .int) RX12 := sx_of B hml hv
  have hG := hv.1
  have hS : va_S (bA base) s.heap s.heap [] := va_S.rf
  have hE := xT.rf σ
  have hl := lv_entry ([.ref (ad a0), .ref (ad a1), .int a2]) (n := 3) (Nat.le_of_ble_eq_true rfl)
  rw [lg_entry_eq]
  generalize (lg_sl ([.ref (ad a0), .ref (ad a1), .int a2]) ++ List.replicate (3 - (lg_sl ([.ref (ad a0), .ref (ad a1), .int a2])).length) Slot.unset).toArray = ls at hl ⊢
  have hl : lv_has ls 3 [(0, .ref (ad a0)), (1, .ref (ad a1)), (2, .int a2)] := hl
  unfold F_X12_endOf at hF
  refine lv_aload_n X.1 X.2.1 dX12_endOf_0 rfl (lv_at hl 1 rfl) ?_
  refine lv_iconst (v := 1) X.1 X.2.1 dX12_endOf_1 (by decide) ?_
  refine gx_iald X hG hT_a1 hF dX12_endOf_2 (fun hF => ?_)
  refine lv_iload_n X.1 X.2.1 dX12_endOf_3 rfl (lv_at hl 2 rfl) ?_
  refine lv_icmp_lt (tgt := 11) X.1 X.2.1 dX12_endOf_4 (by decide) (fun hc => ?_) (fun hc => ?_)
  · replace hF := it_t hF hc
    refine lv_aload_n X.1 X.2.1 dX12_endOf_11 rfl (lv_at hl 1 rfl) ?_
    refine lv_iconst (v := 2) X.1 X.2.1 dX12_endOf_12 (by decide) ?_
    refine gx_iald X hG hT_a1 hF dX12_endOf_13 (fun hF => ?_)
    refine lv_iload_n X.1 X.2.1 dX12_endOf_14 rfl (lv_at hl 2 rfl) ?_
    refine lv_icmp_lt (tgt := 22) X.1 X.2.1 dX12_endOf_15 (by decide) (fun hc => ?_) (fun hc => ?_)
    · replace hF := it_t hF hc
      refine lv_aload_n X.1 X.2.1 dX12_endOf_22 rfl (lv_at hl 1 rfl) ?_
      refine lv_iconst (v := 0) X.1 X.2.1 dX12_endOf_23 (by decide) ?_
      refine gx_iald X hG hT_a1 hF dX12_endOf_24 (fun hF => ?_)
      refine lv_aload_n X.1 X.2.1 dX12_endOf_25 rfl (lv_at hl 0 rfl) ?_
      obtain ⟨i1, hr, hF⟩ := b1_ex hF
      have hT_i1 : hT σ i1 13 := gw_T hG hT_a0 (by decide) hr
      refine gx_get 0 (v := .ref (ad i1)) X hG hT_a0.1 (hT_a0.eq (by decide)) (by decide) rfl inX12 (by decide) k_960 (fun _ h => h) (gx_rfv hr) dX12_endOf_26 ?_
      refine lv_bipush (v := 6) X.1 X.2.1 dX12_endOf_29 (by decide) ?_
      refine gx_iald X hG hT_i1 hF dX12_endOf_31 (fun hF => ?_)
      refine lv_icmp_lt (tgt := 39) X.1 X.2.1 dX12_endOf_32 (by decide) (fun hc => ?_) (fun hc => ?_)
      · replace hF := it_t hF hc
        refine lv_bipush (v := (-4)) X.1 X.2.1 dX12_endOf_39 (by decide) ?_
        exact gx_iret X hG hS hE hF dX12_endOf_41
      · replace hF := it_f hF hc
        refine lv_iconst (v := 2) X.1 X.2.1 dX12_endOf_35 (by decide) ?_
        refine lv_goto (tgt := 41) X.1 X.2.1 dX12_endOf_36 (by decide) ?_
        exact gx_iret X hG hS hE hF dX12_endOf_41
    · replace hF := it_f hF hc
      refine lv_iconst (v := 0) X.1 X.2.1 dX12_endOf_18 (by decide) ?_
      refine lv_goto (tgt := 41) X.1 X.2.1 dX12_endOf_19 (by decide) ?_
      exact gx_iret X hG hS hE hF dX12_endOf_41
  · replace hF := it_f hF hc
    refine lv_iconst (v := 1) X.1 X.2.1 dX12_endOf_7 (by decide) ?_
    refine lv_goto (tgt := 41) X.1 X.2.1 dX12_endOf_8 (by decide) ?_
    exact gx_iret X hG hS hE hF dX12_endOf_41
theorem w_X12_allHold_13 {σ0 τ : Hp} {r : Int32} (X : SX D cA base p s m args meth c cX12_allHold 4 (some .int) RX12) (n : Nat)  : ∀ f : Nat, ∀ (v1 : Nat) (v2 : Int32) (v3 : Int32) (σ : Hp) (H : Heap) (locs : List Loc) (ls : Array Slot), hT σ v1 13 → GW D cA base ad σ H → va_S (bA base) s.heap H locs → xT σ0 σ → lv_has ls 4 [(1, .ref (ad v1)), (2, .int v2), (3, .int v3)] → F_X12_allHold_13 n  f v1 v2 v3 σ = some (r, τ) → W p l e rm_X12_allHold s m args below meth c H locs 0 0 (ZI below s args D cA base ad σ0 r τ) (F0 m 13 ls []) := by
  intro f
  induction f with
  | zero => intro v1 v2 v3 σ H locs ls h0 hG hS hE hl hF
            rw [F_X12_allHold_13] at hF; cases hF
  | succ f ih =>
    intro v1 v2 v3 σ H locs ls hT_v1 hG hS hE hl hF
    rw [F_X12_allHold_13] at hF
    refine lv_iload_n X.1 X.2.1 dX12_allHold_13 rfl (lv_at hl 2 rfl) ?_
    refine lv_aload_n X.1 X.2.1 dX12_allHold_14 rfl (lv_at hl 0 rfl) ?_
    refine lv_iconst (v := 5) X.1 X.2.1 dX12_allHold_15 (by decide) ?_
    refine gx_iald X hG hT_v1 hF dX12_allHold_16 (fun hF => ?_)
    refine lv_icmp_ge (tgt := 35) X.1 X.2.1 dX12_allHold_17 (by decide) (fun hc => ?_) (fun hc => ?_)
    · replace hF := it_t hF hc
      refine lv_iload_n X.1 X.2.1 dX12_allHold_35 rfl (lv_at hl 1 rfl) ?_
      exact gx_iret X hG hS hE hF dX12_allHold_36
    · replace hF := it_f hF hc
      refine lv_iload_n X.1 X.2.1 dX12_allHold_20 rfl (lv_at hl 1 rfl) ?_
      refine lv_aload_n X.1 X.2.1 dX12_allHold_21 rfl (lv_at hl 0 rfl) ?_
      refine lv_bipush (v := 19) X.1 X.2.1 dX12_allHold_22 (by decide) ?_
      refine lv_iload_n X.1 X.2.1 dX12_allHold_24 rfl (lv_at hl 2 rfl) ?_
      refine lv_iadd X.1 X.2.1 dX12_allHold_25 ?_
      refine gx_iald X hG hT_v1 hF dX12_allHold_26 (fun hF => ?_)
      refine lv_iand X.1 X.2.1 dX12_allHold_27 ?_
      refine lv_istore_n (lv' := [(2, .int (v2 &&& (hI σ v1 (19 + v3).toNatClampNeg))), (1, .ref (ad v1)), (3, .int v3)]) X.1 X.2.1 dX12_allHold_28 rfl hl (by decide) rfl (fun ls hl => ?_)
      refine lv_iinc (v := v3 + 1) (lv' := [(3, .int (v3 + 1)), (2, .int (v2 &&& (hI σ v1 (19 + v3).toNatClampNeg))), (1, .ref (ad v1))]) X.1 X.2.1 dX12_allHold_29 hl (k := 2) rfl rfl (by decide) rfl (fun ls hl => ?_)
      refine lv_goto (tgt := 13) X.1 X.2.1 dX12_allHold_32 (by decide) ?_
      exact ih v1 (v2 &&& (hI σ v1 (19 + v3).toNatClampNeg)) (v3 + 1) σ _ _ ls hT_v1 hG hS hE (lv_sub hl [2, 1, 0] rfl) hF
theorem c_X12_allHold (l : Launch) (D : va_G) (cA : Nat → ClassId) (base : Nat) (ad : Nat → Nat) (σ : Hp) (n : Nat) (a0 : Nat) (a1 : Nat) (hT_a0 : hT σ a0 12) (hT_a1 : hT σ a1 13) {τ : Hp} {r : Int32} (hF : F_X12_allHold n a0 a1 σ = some (r, τ)) : MI l yX12_allHold cX12_allHold 4 (some .int) rm_X12_allHold D cA base ad σ [.ref (ad a0), .ref (ad a1)] r τ := by
  refine Met.ofW (cc := cX12_allHold) (maxL := 4) (ret := (some .int)) (by decide) rfl ?_
  intro p e s m args below meth c s₁ B hml hv
  obtain ⟨rfl, hv⟩ := hv
  have X : SX D cA base p s m ([.ref (ad a0), .ref (ad a1)] : List Value).toArray meth c cX12_allHold 4 (some .int) RX12 := sx_of B hml hv
  have hG := hv.1
  have hS : va_S (bA base) s.heap s.heap [] := va_S.rf
  have hE := xT.rf σ
  have hl := lv_entry ([.ref (ad a0), .ref (ad a1)]) (n := 4) (Nat.le_of_ble_eq_true rfl)
  rw [lg_entry_eq]
  generalize (lg_sl ([.ref (ad a0), .ref (ad a1)]) ++ List.replicate (4 - (lg_sl ([.ref (ad a0), .ref (ad a1)])).length) Slot.unset).toArray = ls at hl ⊢
  have hl : lv_has ls 4 [(0, .ref (ad a0)), (1, .ref (ad a1))] := hl
  unfold F_X12_allHold at hF
  refine lv_iconst (v := 1) X.1 X.2.1 dX12_allHold_0 (by decide) ?_
  refine lv_aload_n X.1 X.2.1 dX12_allHold_1 rfl (lv_at hl 0 rfl) ?_
  obtain ⟨i1, hr, hF⟩ := b1_ex hF
  have hT_i1 : hT σ i1 13 := gw_T hG hT_a0 (by decide) hr
  refine gx_get 0 (v := .ref (ad i1)) X hG hT_a0.1 (hT_a0.eq (by decide)) (by decide) rfl inX12 (by decide) k_960 (fun _ h => h) (gx_rfv hr) dX12_allHold_2 ?_
  refine lv_iconst (v := 0) X.1 X.2.1 dX12_allHold_5 (by decide) ?_
  refine gx_iald X hG hT_i1 hF dX12_allHold_6 (fun hF => ?_)
  refine lv_ishl X.1 X.2.1 dX12_allHold_7 ?_
  refine lv_iconst (v := 1) X.1 X.2.1 dX12_allHold_8 (by decide) ?_
  refine lv_isub X.1 X.2.1 dX12_allHold_9 ?_
  refine lv_topi (fun x2 ex2 => ?_)
  replace hF := lt_nm hF ex2
  refine lv_istore_n (lv' := [(2, .int x2), (0, .ref (ad a0)), (1, .ref (ad a1))]) X.1 X.2.1 dX12_allHold_10 rfl hl (by decide) rfl (fun ls hl => ?_)
  refine lv_iconst (v := 0) X.1 X.2.1 dX12_allHold_11 (by decide) ?_
  refine lv_istore_n (lv' := [(3, .int 0), (2, .int x2), (0, .ref (ad a0)), (1, .ref (ad a1))]) X.1 X.2.1 dX12_allHold_12 rfl hl (by decide) rfl (fun ls hl => ?_)
  exact w_X12_allHold_13 X n  n a1 x2 0 σ _ _ ls hT_a1 hG hS hE (lv_sub hl [3, 1, 0] rfl) hF
theorem c_X12_amount (l : Launch) (D : va_G) (cA : Nat → ClassId) (base : Nat) (ad : Nat → Nat) (σ : Hp) (n : Nat) (a0 : Int32)  {τ : Hp} {r : Int32} (hF : F_X12_amount n a0 σ = some (r, τ)) : MI l yX12_amount cX12_amount 1 (some .int) rm_X12_amount D cA base ad σ [.int a0] r τ := by
  refine Met.ofW (cc := cX12_amount) (maxL := 1) (ret := (some .int)) (by decide) rfl ?_
  intro p e s m args below meth c s₁ B hml hv
  obtain ⟨rfl, hv⟩ := hv
  have X : SX D cA base p s m ([.int a0] : List Value).toArray meth c cX12_amount 1 (some .int) RX12 := sx_of B hml hv
  have hG := hv.1
  have hS : va_S (bA base) s.heap s.heap [] := va_S.rf
  have hE := xT.rf σ
  have hl := lv_entry ([.int a0]) (n := 1) (Nat.le_of_ble_eq_true rfl)
  rw [lg_entry_eq]
  generalize (lg_sl ([.int a0]) ++ List.replicate (1 - (lg_sl ([.int a0])).length) Slot.unset).toArray = ls at hl ⊢
  have hl : lv_has ls 1 [(0, .int a0)] := hl
  unfold F_X12_amount at hF
  refine lv_iload_n X.1 X.2.1 dX12_amount_0 rfl (lv_at hl 0 rfl) ?_
  refine lv_if_ge (tgt := 9) X.1 X.2.1 dX12_amount_1 (by decide) (fun hc => ?_) (fun hc => ?_)
  · replace hF := it_t hF hc
    refine lv_iload_n X.1 X.2.1 dX12_amount_9 rfl (lv_at hl 0 rfl) ?_
    exact gx_iret X hG hS hE hF dX12_amount_10
  · replace hF := it_f hF hc
    refine lv_iload_n X.1 X.2.1 dX12_amount_4 rfl (lv_at hl 0 rfl) ?_
    refine lv_ineg X.1 X.2.1 dX12_amount_5 ?_
    refine lv_goto (tgt := 10) X.1 X.2.1 dX12_amount_6 (by decide) ?_
    exact gx_iret X hG hS hE hF dX12_amount_10
end W_model2
