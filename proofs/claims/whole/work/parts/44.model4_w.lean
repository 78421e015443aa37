/-! model4: printed by wip/whole/gen.py -/
section W_model4
variable {p : Program} {l : Launch} {e : Env} {s : State} {m : MethodId} {args : Array Value} {below : List Frame} {meth : Method} {c : Code} {D : va_G} {cA : Nat → ClassId} {base : Nat} {ad : Nat → Nat}
abbrev rm_X12_marks : Room := { frames := 1, cells := 0, slots := 0, locals := 23 }
theorem h_X12_marks : yX12_marks.cls = RX12 ∧ yX12_marks.cls ≠ "java/lang/invoke/MethodHandle" ∧ yX12_marks.cls ≠ "java/lang/invoke/VarHandle" ∧ (parseMethodDescriptor yX12_marks.desc).map (fun d => d.parameters.length) = some 1 := by decide +kernel
def F_X12_marks_46 (n : Nat) (K_11 : Nat → Int32 → Int32 → Int32 → Hp → Option Hp) (v0 : Nat) (v1 : Int32) (v2 : Int32) (v3 : Int32) (σ : Hp) : Option Hp := K_11 v0 v1 v2 (v3 + 1) σ
def F_X12_marks_11 (n : Nat)  : Nat → Nat → Int32 → Int32 → Int32 → Hp → Option Hp
  | 0, _, _, _, _, _ => none
  | f + 1, v0, v1, v2, v3, σ => b1 (hR σ v0 0) fun (i1 : Nat) => ck (¬ ((0 : Int32) < 0 ∨ hL σ i1 ≤ (0 : Int32).toNatClampNeg)) (if (hI σ i1 (0 : Int32).toNatClampNeg) ≤ v3 then (some σ) else (if ((v2 >>> (v3 &&& 31)) &&& 1) = 1 then (b1 (hR σ v0 29) fun (i2 : Nat) => ck (¬ (v3 < 0 ∨ hL σ i2 ≤ v3.toNatClampNeg)) (if 0 ≤ (hI σ i2 v3.toNatClampNeg) then (F_X12_marks_46 n (F_X12_marks_11 n  f) v0 v1 v2 v3 σ) else (b1 (hR σ v0 29) fun (i3 : Nat) => ck (¬ (v3 < 0 ∨ hL σ i3 ≤ v3.toNatClampNeg)) (lt (pI σ i3 v3.toNatClampNeg v1) fun (σ4 : Hp) => F_X12_marks_46 n (F_X12_marks_11 n  f) v0 v1 v2 v3 σ4)))) else (F_X12_marks_46 n (F_X12_marks_11 n  f) v0 v1 v2 v3 σ)))
def F_X12_marks (n : Nat) (a0 : Nat) (a1 : Int32) (σ : Hp) : Option Hp := b1 (hR σ a0 5) fun (i5 : Nat) => b2 (F_X12_allHold n a0 i5 σ) fun (r7 : Int32) (σ6 : Hp) => F_X12_marks_11 n  n a0 a1 r7 0 σ6
abbrev rm_X12_one : Room := { frames := 1, cells := 0, slots := 0, locals := 22 }
theorem h_X12_one : yX12_one.cls = RX12 ∧ yX12_one.cls ≠ "java/lang/invoke/MethodHandle" ∧ yX12_one.cls ≠ "java/lang/invoke/VarHandle" ∧ (parseMethodDescriptor yX12_one.desc).map (fun d => d.parameters.length) = some 0 := by decide +kernel
def F_X12_one_44 (n : Nat)  (v1 : Int32) (v2 : Int32) (σ : Hp) : Option (Int32 × Hp) := some (v1 &&& (v2 ^^^ (-1)), σ)
def F_X12_one_6 (n : Nat)  : Nat → Nat → Int32 → Int32 → Int32 → Hp → Option (Int32 × Hp)
  | 0, _, _, _, _, _ => none
  | f + 1, v0, v1, v2, v3, σ => b1 (hR σ v0 0) fun (i1 : Nat) => ck (¬ ((1 : Int32) < 0 ∨ hL σ i1 ≤ (1 : Int32).toNatClampNeg)) (if (hI σ i1 (1 : Int32).toNatClampNeg) ≤ v3 then (F_X12_one_44 n  v1 v2 σ) else (b2 (F_X12_get n v0 v3 6 σ) fun (r3 : Int32) (σ2 : Hp) => b2 (F_X12_get n v0 v3 6 σ2) fun (r5 : Int32) (σ4 : Hp) => (F_X12_one_6 n  f) v0 (v1 ||| r5) (v2 ||| (v1 &&& r3)) (v3 + 1) σ4))
def F_X12_one (n : Nat) (a0 : Nat) (σ : Hp) : Option (Int32 × Hp) := F_X12_one_6 n  n a0 0 0 0 σ
abbrev rm_X12_image : Room := { frames := 0, cells := 0, slots := 0, locals := 0 }
theorem h_X12_image : yX12_image.cls = RX12 ∧ yX12_image.cls ≠ "java/lang/invoke/MethodHandle" ∧ yX12_image.cls ≠ "java/lang/invoke/VarHandle" ∧ (parseMethodDescriptor yX12_image.desc).map (fun d => d.parameters.length) = some 0 := by decide +kernel
def F_X12_image_79 (n : Nat)  (v0 : Nat) (σ : Hp) : Option (Int32 × Hp) := lt (pI σ v0 13 1) fun (σ1 : Hp) => b1 (hR σ1 v0 0) fun (i2 : Nat) => ck (¬ ((1 : Int32) < 0 ∨ hL σ1 i2 ≤ (1 : Int32).toNatClampNeg)) (some (hI σ1 i2 (1 : Int32).toNatClampNeg, σ1))
def F_X12_image_54 (n : Nat)  : Nat → Nat → Int32 → Hp → Option (Int32 × Hp)
  | 0, _, _, _ => none
  | f + 1, v0, v1, σ => if 600 ≤ v1 then (F_X12_image_79 n  v0 σ) else (b1 (hR σ v0 3) fun (i3 : Nat) => b1 (hR σ v0 2) fun (i4 : Nat) => ck (¬ (v1 < 0 ∨ hL σ i4 ≤ v1.toNatClampNeg)) (ck (¬ (v1 < 0 ∨ hL σ i3 ≤ v1.toNatClampNeg)) (lt (pI σ i3 v1.toNatClampNeg (hI σ i4 v1.toNatClampNeg)) fun (σ5 : Hp) => (F_X12_image_54 n  f) v0 (v1 + 1) σ5)))
def F_X12_image_52 (n : Nat)  (v0 : Nat) (σ : Hp) : Option (Int32 × Hp) := F_X12_image_54 n  n v0 0 σ
def F_X12_image_28 (n : Nat)  : Nat → Nat → Int32 → Hp → Option (Int32 × Hp)
  | 0, _, _, _ => none
  | f + 1, v0, v1, σ => if 67 ≤ v1 then (F_X12_image_52 n  v0 σ) else (b1 (hR σ v0 6) fun (i6 : Nat) => b1 (hR σ v0 4) fun (i7 : Nat) => ck (¬ (v1 < 0 ∨ hL σ i7 ≤ v1.toNatClampNeg)) (ck (¬ (v1 < 0 ∨ hL σ i6 ≤ v1.toNatClampNeg)) (lt (pI σ i6 v1.toNatClampNeg (hI σ i7 v1.toNatClampNeg)) fun (σ8 : Hp) => (F_X12_image_28 n  f) v0 (v1 + 1) σ8)))
def F_X12_image_26 (n : Nat)  (v0 : Nat) (σ : Hp) : Option (Int32 × Hp) := F_X12_image_28 n  n v0 0 σ
def F_X12_image_2 (n : Nat)  : Nat → Nat → Int32 → Hp → Option (Int32 × Hp)
  | 0, _, _, _ => none
  | f + 1, v0, v1, σ => if 109 ≤ v1 then (F_X12_image_26 n  v0 σ) else (b1 (hR σ v0 1) fun (i9 : Nat) => b1 (hR σ v0 0) fun (i10 : Nat) => ck (¬ (v1 < 0 ∨ hL σ i10 ≤ v1.toNatClampNeg)) (ck (¬ (v1 < 0 ∨ hL σ i9 ≤ v1.toNatClampNeg)) (lt (pI σ i9 v1.toNatClampNeg (hI σ i10 v1.toNatClampNeg)) fun (σ11 : Hp) => (F_X12_image_2 n  f) v0 (v1 + 1) σ11)))
def F_X12_image (n : Nat) (a0 : Nat) (σ : Hp) : Option (Int32 × Hp) := F_X12_image_2 n  n a0 0 σ
abbrev rm_X12_restore : Room := { frames := 0, cells := 0, slots := 0, locals := 0 }
theorem h_X12_restore : yX12_restore.cls = RX12 ∧ yX12_restore.cls ≠ "java/lang/invoke/MethodHandle" ∧ yX12_restore.cls ≠ "java/lang/invoke/VarHandle" ∧ (parseMethodDescriptor yX12_restore.desc).map (fun d => d.parameters.length) = some 0 := by decide +kernel
def F_X12_restore_89 (n : Nat)  (v0 : Nat) (σ : Hp) : Option (Int32 × Hp) := b1 (hR σ v0 0) fun (i1 : Nat) => ck (¬ ((1 : Int32) < 0 ∨ hL σ i1 ≤ (1 : Int32).toNatClampNeg)) (some (hI σ i1 (1 : Int32).toNatClampNeg, σ))
def F_X12_restore_64 (n : Nat)  : Nat → Nat → Int32 → Hp → Option (Int32 × Hp)
  | 0, _, _, _ => none
  | f + 1, v0, v1, σ => if 600 ≤ v1 then (F_X12_restore_89 n  v0 σ) else (b1 (hR σ v0 2) fun (i2 : Nat) => b1 (hR σ v0 3) fun (i3 : Nat) => ck (¬ (v1 < 0 ∨ hL σ i3 ≤ v1.toNatClampNeg)) (ck (¬ (v1 < 0 ∨ hL σ i2 ≤ v1.toNatClampNeg)) (lt (pI σ i2 v1.toNatClampNeg (hI σ i3 v1.toNatClampNeg)) fun (σ4 : Hp) => (F_X12_restore_64 n  f) v0 (v1 + 1) σ4)))
def F_X12_restore_62 (n : Nat)  (v0 : Nat) (σ : Hp) : Option (Int32 × Hp) := F_X12_restore_64 n  n v0 0 σ
def F_X12_restore_38 (n : Nat)  : Nat → Nat → Int32 → Hp → Option (Int32 × Hp)
  | 0, _, _, _ => none
  | f + 1, v0, v1, σ => if 67 ≤ v1 then (F_X12_restore_62 n  v0 σ) else (b1 (hR σ v0 4) fun (i5 : Nat) => b1 (hR σ v0 6) fun (i6 : Nat) => ck (¬ (v1 < 0 ∨ hL σ i6 ≤ v1.toNatClampNeg)) (ck (¬ (v1 < 0 ∨ hL σ i5 ≤ v1.toNatClampNeg)) (lt (pI σ i5 v1.toNatClampNeg (hI σ i6 v1.toNatClampNeg)) fun (σ7 : Hp) => (F_X12_restore_38 n  f) v0 (v1 + 1) σ7)))
def F_X12_restore_36 (n : Nat)  (v0 : Nat) (σ : Hp) : Option (Int32 × Hp) := F_X12_restore_38 n  n v0 0 σ
def F_X12_restore_12 (n : Nat)  : Nat → Nat → Int32 → Hp → Option (Int32 × Hp)
  | 0, _, _, _ => none
  | f + 1, v0, v1, σ => if 109 ≤ v1 then (F_X12_restore_36 n  v0 σ) else (b1 (hR σ v0 0) fun (i8 : Nat) => b1 (hR σ v0 1) fun (i9 : Nat) => ck (¬ (v1 < 0 ∨ hL σ i9 ≤ v1.toNatClampNeg)) (ck (¬ (v1 < 0 ∨ hL σ i8 ≤ v1.toNatClampNeg)) (lt (pI σ i8 v1.toNatClampNeg (hI σ i9 v1.toNatClampNeg)) fun (σ10 : Hp) => (F_X12_restore_12 n  f) v0 (v1 + 1) σ10)))
def F_X12_restore (n : Nat) (a0 : Nat) (σ : Hp) : Option (Int32 × Hp) := if (hI σ a0 13) = 0 then (some ((-3), σ)) else (F_X12_restore_12 n  n a0 0 σ)
abbrev rm_X12_count : Room := { frames := 1, cells := 0, slots := 0, locals := 23 }
theorem h_X12_count : yX12_count.cls = RX12 ∧ yX12_count.cls ≠ "java/lang/invoke/MethodHandle" ∧ yX12_count.cls ≠ "java/lang/invoke/VarHandle" ∧ (parseMethodDescriptor yX12_count.desc).map (fun d => d.parameters.length) = some 1 := by decide +kernel
def F_X12_count_36 (n : Nat)  (v0 : Nat) (v1 : Int32) (σ : Hp) : Option (Int32 × Hp) := b1 (hR σ v0 0) fun (i1 : Nat) => ck (¬ (v1 < 0 ∨ hL σ i1 ≤ v1.toNatClampNeg)) (some (hI σ i1 v1.toNatClampNeg, σ))
def F_X12_count_71 (n : Nat)  : Nat → Nat → Int32 → Int32 → Hp → Option (Int32 × Hp)
  | 0, _, _, _, _ => none
  | f + 1, v0, v2, v3, σ => b1 (hR σ v0 0) fun (i2 : Nat) => ck (¬ ((1 : Int32) < 0 ∨ hL σ i2 ≤ (1 : Int32).toNatClampNeg)) (if (hI σ i2 (1 : Int32).toNatClampNeg) ≤ v3 then (some (v2, σ)) else (b2 (F_X12_get n v0 v3 6 σ) fun (r4 : Int32) (σ3 : Hp) => (F_X12_count_71 n  f) v0 (v2 &&& r4) (v3 + 1) σ3))
def F_X12_count (n : Nat) (a0 : Nat) (a1 : Int32) (σ : Hp) : Option (Int32 × Hp) := if a1 = 0 then (F_X12_count_36 n  a0 a1 σ) else (if a1 = 1 then (F_X12_count_36 n  a0 a1 σ) else (if a1 = 2 then (F_X12_count_36 n  a0 a1 σ) else (if a1 = 3 then (b1 (hR σ a0 0) fun (i5 : Nat) => ck (¬ ((0 : Int32) < 0 ∨ hL σ i5 ≤ (0 : Int32).toNatClampNeg)) (b2 (F_X12_speaksOf n a0 ((1 <<< ((hI σ i5 (0 : Int32).toNatClampNeg) &&& 31)) - 1) σ) fun (r7 : Int32) (σ6 : Hp) => some (r7, σ6))) else (if a1 = 4 then (b1 (hR σ a0 0) fun (i8 : Nat) => ck (¬ ((0 : Int32) < 0 ∨ hL σ i8 ≤ (0 : Int32).toNatClampNeg)) (lt ((1 <<< ((hI σ i8 (0 : Int32).toNatClampNeg) &&& 31)) - 1) fun (x9 : Int32) => F_X12_count_71 n  n a0 x9 0 σ)) else (some ((-1000000001), σ))))))
theorem w_X12_marks_46 {σ0 τ : Hp} (X : SX D cA base p s m args meth c cX12_marks 4 none RX12) (n : Nat) (K_11 : Nat → Int32 → Int32 → Int32 → Hp → Option Hp) (hK_11 : ∀ (v0 : Nat) (v1 : Int32) (v2 : Int32) (v3 : Int32) (σ : Hp) (H : Heap) (locs : List Loc) (ls : Array Slot), hT σ v0 12 → GW D cA base ad σ H → va_S (bA base) s.heap H locs → xT σ0 σ → lv_has ls 4 [(0, .ref (ad v0)), (1, .int v1), (2, .int v2), (3, .int v3)] → K_11 v0 v1 v2 v3 σ = some τ → W p l e rm_X12_marks s m args below meth c H locs 0 0 (ZV below s args D cA base ad σ0 τ) (F0 m 11 ls [])) : ∀ (v0 : Nat) (v1 : Int32) (v2 : Int32) (v3 : Int32) (σ : Hp) (H : Heap) (locs : List Loc) (ls : Array Slot), hT σ v0 12 → GW D cA base ad σ H → va_S (bA base) s.heap H locs → xT σ0 σ → lv_has ls 4 [(0, .ref (ad v0)), (1, .int v1), (2, .int v2), (3, .int v3)] → F_X12_marks_46 n K_11 v0 v1 v2 v3 σ = some τ → W p l e rm_X12_marks s m args below meth c H locs 0 0 (ZV below s args D cA base ad σ0 τ) (F0 m 46 ls []) := by
  intro v0 v1 v2 v3 σ H locs ls hT_v0 hG hS hE hl hF
  unfold F_X12_marks_46 at hF
  refine lv_iinc (v := v3 + 1) (lv' := [(3, .int (v3 + 1)), (0, .ref (ad v0)), (1, .int v1), (2, .int v2)]) X.1 X.2.1 dX12_marks_46 hl (k := 3) rfl rfl (by decide) rfl (fun ls hl => ?_)
  refine lv_goto (tgt := 11) X.1 X.2.1 dX12_marks_49 (by decide) ?_
  exact hK_11 v0 v1 v2 (v3 + 1) σ _ _ ls hT_v0 hG hS hE (lv_sub hl [1, 2, 3, 0] rfl) hF
theorem w_X12_marks_11 {σ0 τ : Hp} (X : SX D cA base p s m args meth c cX12_marks 4 none RX12) (n : Nat)  : ∀ f : Nat, ∀ (v0 : Nat) (v1 : Int32) (v2 : Int32) (v3 : Int32) (σ : Hp) (H : Heap) (locs : List Loc) (ls : Array Slot), hT σ v0 12 → GW D cA base ad σ H → va_S (bA base) s.heap H locs → xT σ0 σ → lv_has ls 4 [(0, .ref (ad v0)), (1, .int v1), (2, .int v2), (3, .int v3)] → F_X12_marks_11 n  f v0 v1 v2 v3 σ = some τ → W p l e rm_X12_marks s m args below meth c H locs 0 0 (ZV below s args D cA base ad σ0 τ) (F0 m 11 ls []) := by
  intro f
  induction f with
  | zero => intro v0 v1 v2 v3 σ H locs ls h0 hG hS hE hl hF
            rw [F_X12_marks_11] at hF; cases hF
  | succ f ih =>
    intro v0 v1 v2 v3 σ H locs ls hT_v0 hG hS hE hl hF
    rw [F_X12_marks_11] at hF
    refine lv_iload_n X.1 X.2.1 dX12_marks_11 rfl (lv_at hl 3 rfl) ?_
    refine lv_aload_n X.1 X.2.1 dX12_marks_12 rfl (lv_at hl 0 rfl) ?_
    obtain ⟨i1, hr, hF⟩ := b1_ex hF
    have hT_i1 : hT σ i1 13 := gw_T hG hT_v0 (by decide) hr
    refine gx_get 0 (v := .ref (ad i1)) X hG hT_v0.1 (hT_v0.eq (by decide)) (by decide) rfl inX12 (by decide) k_960 (fun _ h => h) (gx_rfv hr) dX12_marks_13 ?_
    refine lv_iconst (v := 0) X.1 X.2.1 dX12_marks_16 (by decide) ?_
    refine gx_iald X hG hT_i1 hF dX12_marks_17 (fun hF => ?_)
    refine lv_icmp_ge (tgt := 52) X.1 X.2.1 dX12_marks_18 (by decide) (fun hc => ?_) (fun hc => ?_)
    · replace hF := it_t hF hc
      exact gx_vret X hG hS hE hF dX12_marks_52
    · replace hF := it_f hF hc
      refine lv_iload_n X.1 X.2.1 dX12_marks_21 rfl (lv_at hl 2 rfl) ?_
      refine lv_iload_n X.1 X.2.1 dX12_marks_22 rfl (lv_at hl 3 rfl) ?_
      refine lv_ishr X.1 X.2.1 dX12_marks_23 ?_
      refine lv_iconst (v := 1) X.1 X.2.1 dX12_marks_24 (by decide) ?_
      refine lv_iand X.1 X.2.1 dX12_marks_25 ?_
      refine lv_iconst (v := 1) X.1 X.2.1 dX12_marks_26 (by decide) ?_
      refine lv_icmp_ne (tgt := 46) X.1 X.2.1 dX12_marks_27 (by decide) (fun hc => ?_) (fun hc => ?_)
      · replace hF := it_f hF hc
        exact w_X12_marks_46 X n (F_X12_marks_11 n  f) ih v0 v1 v2 v3 σ _ _ ls hT_v0 hG hS hE (lv_sub hl [0, 1, 2, 3] rfl) hF
      · replace hF := it_t hF hc
        refine lv_aload_n X.1 X.2.1 dX12_marks_30 rfl (lv_at hl 0 rfl) ?_
        obtain ⟨i2, hr, hF⟩ := b1_ex hF
        have hT_i2 : hT σ i2 13 := gw_T hG hT_v0 (by decide) hr
        refine gx_get 29 (v := .ref (ad i2)) X hG hT_v0.1 (hT_v0.eq (by decide)) (by decide) rfl inX12 (by decide) k_989 (fun _ h => h) (gx_rfv hr) dX12_marks_31 ?_
        refine lv_iload_n X.1 X.2.1 dX12_marks_34 rfl (lv_at hl 3 rfl) ?_
        refine gx_iald X hG hT_i2 hF dX12_marks_35 (fun hF => ?_)
        refine lv_if_ge (tgt := 46) X.1 X.2.1 dX12_marks_36 (by decide) (fun hc => ?_) (fun hc => ?_)
        · replace hF := it_t hF hc
          exact w_X12_marks_46 X n (F_X12_marks_11 n  f) ih v0 v1 v2 v3 σ _ _ ls hT_v0 hG hS hE (lv_sub hl [0, 1, 2, 3] rfl) hF
        · replace hF := it_f hF hc
          refine lv_aload_n X.1 X.2.1 dX12_marks_39 rfl (lv_at hl 0 rfl) ?_
          obtain ⟨i3, hr, hF⟩ := b1_ex hF
          have hT_i3 : hT σ i3 13 := gw_T hG hT_v0 (by decide) hr
          refine gx_get 29 (v := .ref (ad i3)) X hG hT_v0.1 (hT_v0.eq (by decide)) (by decide) rfl inX12 (by decide) k_989 (fun _ h => h) (gx_rfv hr) dX12_marks_40 ?_
          refine lv_iload_n X.1 X.2.1 dX12_marks_43 rfl (lv_at hl 3 rfl) ?_
          refine lv_iload_n X.1 X.2.1 dX12_marks_44 rfl (lv_at hl 1 rfl) ?_
          refine gx_iast X hG hS hT_i3 hF dX12_marks_45 (fun σ4 H locs hG hS hX hF => ?_)
          have hT_v0 := hX.T hT_v0
          replace hE := hE.trans hX
          exact w_X12_marks_46 X n (F_X12_marks_11 n  f) ih v0 v1 v2 v3 σ4 _ _ ls hT_v0 hG hS hE (lv_sub hl [0, 1, 2, 3] rfl) hF
theorem c_X12_marks (l : Launch) (D : va_G) (cA : Nat → ClassId) (base : Nat) (ad : Nat → Nat) (σ : Hp) (n : Nat) (a0 : Nat) (a1 : Int32) (hT_a0 : hT σ a0 12) {τ : Hp} (hF : F_X12_marks n a0 a1 σ = some τ) : MV l yX12_marks cX12_marks 4 rm_X12_marks D cA base ad σ [.ref (ad a0), .int a1] τ := by
  refine Met.ofW (cc := cX12_marks) (maxL := 4) (ret := none) (by decide) rfl ?_
  intro p e s m args below meth c s₁ B hml hv
  obtain ⟨rfl, hv⟩ := hv
  have X : SX D cA base p s m ([.ref (ad a0), .int a1] : List Value).toArray meth c cX12_marks 4 none RX12 := sx_of B hml hv
  have hG := hv.1
  have hS : va_S (bA base) s.heap s.heap [] := va_S.rf
  have hE := xT.rf σ
  have hl := lv_entry ([.ref (ad a0), .int a1]) (n := 4) (Nat.le_of_ble_eq_true rfl)
  rw [lg_entry_eq]
  generalize (lg_sl ([.ref (ad a0), .int a1]) ++ List.replicate (4 - (lg_sl ([.ref (ad a0), .int a1])).length) Slot.unset).toArray = ls at hl ⊢
  have hl : lv_has ls 4 [(0, .ref (ad a0)), (1, .int a1)] := hl
  unfold F_X12_marks at hF
  refine lv_aload_n X.1 X.2.1 dX12_marks_0 rfl (lv_at hl 0 rfl) ?_
  refine lv_aload_n X.1 X.2.1 dX12_marks_1 rfl (lv_at hl 0 rfl) ?_
  obtain ⟨i5, hr, hF⟩ := b1_ex hF
  have hT_i5 : hT σ i5 13 := gw_T hG hT_a0 (by decide) hr
  refine gx_get 5 (v := .ref (ad i5)) X hG hT_a0.1 (hT_a0.eq (by decide)) (by decide) rfl inX12 (by decide) k_965 (fun _ h => h) (gx_rfv hr) dX12_marks_2 ?_
  obtain ⟨r7, σ6, hz, hF⟩ := b2_ex hF
  refine gx_rI (gx_runV (As := [.ref (ad i5)]) (rest := []) X hG hS hT_a0.1 (hT_a0.eq (by decide)) (by decide) rfl (c_X12_allHold l D cA base ad σ n a0 i5 hT_a0 hT_i5 hz) k_1240 k_1237 k_1239 ks_45 k_4 (h_X12_allHold) rfl rfl ⟨by decide, by decide⟩ rfl hl.1 rfl (Nat.le_of_ble_eq_true rfl) dX12_marks_5 ⟨Nat.zero_le _, Nat.zero_le _⟩) hS (fun H locs hG hS hX => ?_)
  have hT_a0 := hX.T hT_a0
  replace hE := hE.trans hX
  refine lv_istore_n (lv' := [(2, .int r7), (0, .ref (ad a0)), (1, .int a1)]) X.1 X.2.1 dX12_marks_8 rfl hl (by decide) rfl (fun ls hl => ?_)
  refine lv_iconst (v := 0) X.1 X.2.1 dX12_marks_9 (by decide) ?_
  refine lv_istore_n (lv' := [(3, .int 0), (2, .int r7), (0, .ref (ad a0)), (1, .int a1)]) X.1 X.2.1 dX12_marks_10 rfl hl (by decide) rfl (fun ls hl => ?_)
  exact w_X12_marks_11 X n  n a0 a1 r7 0 σ6 _ _ ls hT_a0 hG hS hE (lv_sub hl [2, 3, 1, 0] rfl) hF
theorem w_X12_one_44 {σ0 τ : Hp} {r : Int32} (X : SX D cA base p s m args meth c cX12_one 4 (some .int) RX12) (n : Nat)  : ∀ (v1 : Int32) (v2 : Int32) (σ : Hp) (H : Heap) (locs : List Loc) (ls : Array Slot), GW D cA base ad σ H → va_S (bA base) s.heap H locs → xT σ0 σ → lv_has ls 4 [(1, .int v1), (2, .int v2)] → F_X12_one_44 n  v1 v2 σ = some (r, τ) → W p l e rm_X12_one s m args below meth c H locs 0 0 (ZI below s args D cA base ad σ0 r τ) (F0 m 44 ls []) := by
  intro v1 v2 σ H locs ls hG hS hE hl hF
  unfold F_X12_one_44 at hF
  refine lv_iload_n X.1 X.2.1 dX12_one_44 rfl (lv_at hl 0 rfl) ?_
  refine lv_iload_n X.1 X.2.1 dX12_one_45 rfl (lv_at hl 1 rfl) ?_
  refine lv_iconst (v := (-1)) X.1 X.2.1 dX12_one_46 (by decide) ?_
  refine lv_ixor X.1 X.2.1 dX12_one_47 ?_
  refine lv_iand X.1 X.2.1 dX12_one_48 ?_
  exact gx_iret X hG hS hE hF dX12_one_49
theorem w_X12_one_6 {σ0 τ : Hp} {r : Int32} (X : SX D cA base p s m args meth c cX12_one 4 (some .int) RX12) (n : Nat)  : ∀ f : Nat, ∀ (v0 : Nat) (v1 : Int32) (v2 : Int32) (v3 : Int32) (σ : Hp) (H : Heap) (locs : List Loc) (ls : Array Slot), hT σ v0 12 → GW D cA base ad σ H → va_S (bA base) s.heap H locs → xT σ0 σ → lv_has ls 4 [(0, .ref (ad v0)), (1, .int v1), (2, .int v2), (3, .int v3)] → F_X12_one_6 n  f v0 v1 v2 v3 σ = some (r, τ) → W p l e rm_X12_one s m args below meth c H locs 0 0 (ZI below s args D cA base ad σ0 r τ) (F0 m 6 ls []) := by
  intro f
  induction f with
  | zero => intro v0 v1 v2 v3 σ H locs ls h0 hG hS hE hl hF
            rw [F_X12_one_6] at hF; cases hF
  | succ f ih =>
    intro v0 v1 v2 v3 σ H locs ls hT_v0 hG hS hE hl hF
    rw [F_X12_one_6] at hF
    refine lv_iload_n X.1 X.2.1 dX12_one_6 rfl (lv_at hl 3 rfl) ?_
    refine lv_aload_n X.1 X.2.1 dX12_one_7 rfl (lv_at hl 0 rfl) ?_
    obtain ⟨i1, hr, hF⟩ := b1_ex hF
    have hT_i1 : hT σ i1 13 := gw_T hG hT_v0 (by decide) hr
    refine gx_get 0 (v := .ref (ad i1)) X hG hT_v0.1 (hT_v0.eq (by decide)) (by decide) rfl inX12 (by decide) k_960 (fun _ h => h) (gx_rfv hr) dX12_one_8 ?_
    refine lv_iconst (v := 1) X.1 X.2.1 dX12_one_11 (by decide) ?_
    refine gx_iald X hG hT_i1 hF dX12_one_12 (fun hF => ?_)
    refine lv_icmp_ge (tgt := 44) X.1 X.2.1 dX12_one_13 (by decide) (fun hc => ?_) (fun hc => ?_)
    · replace hF := it_t hF hc
      exact w_X12_one_44 X n  v1 v2 σ _ _ ls  hG hS hE (lv_sub hl [1, 2] rfl) hF
    · replace hF := it_f hF hc
      refine lv_iload_n X.1 X.2.1 dX12_one_16 rfl (lv_at hl 2 rfl) ?_
      refine lv_iload_n X.1 X.2.1 dX12_one_17 rfl (lv_at hl 1 rfl) ?_
      refine lv_aload_n X.1 X.2.1 dX12_one_18 rfl (lv_at hl 0 rfl) ?_
      refine lv_iload_n X.1 X.2.1 dX12_one_19 rfl (lv_at hl 3 rfl) ?_
      refine lv_bipush (v := 6) X.1 X.2.1 dX12_one_20 (by decide) ?_
      obtain ⟨r3, σ2, hz, hF⟩ := b2_ex hF
      refine gx_rI (gx_runV (As := [.int v3, .int 6]) (rest := [.int v1, .int v2]) X hG hS hT_v0.1 (hT_v0.eq (by decide)) (by decide) rfl (c_X12_get l D cA base ad σ n v0 v3 6 hT_v0 hz) k_1099 k_1096 k_1098 ks_19 k_4 (h_X12_get) rfl rfl ⟨by decide, by decide⟩ rfl hl.1 rfl (Nat.le_of_ble_eq_true rfl) dX12_one_22 ⟨Nat.zero_le _, Nat.zero_le _⟩) hS (fun H locs hG hS hX => ?_)
      have hT_v0 := hX.T hT_v0
      replace hE := hE.trans hX
      refine lv_iand X.1 X.2.1 dX12_one_25 ?_
      refine lv_ior X.1 X.2.1 dX12_one_26 ?_
      refine lv_istore_n (lv' := [(2, .int (v2 ||| (v1 &&& r3))), (0, .ref (ad v0)), (1, .int v1), (3, .int v3)]) X.1 X.2.1 dX12_one_27 rfl hl (by decide) rfl (fun ls hl => ?_)
      refine lv_iload_n X.1 X.2.1 dX12_one_28 rfl (lv_at hl 2 rfl) ?_
      refine lv_aload_n X.1 X.2.1 dX12_one_29 rfl (lv_at hl 1 rfl) ?_
      refine lv_iload_n X.1 X.2.1 dX12_one_30 rfl (lv_at hl 3 rfl) ?_
      refine lv_bipush (v := 6) X.1 X.2.1 dX12_one_31 (by decide) ?_
      obtain ⟨r5, σ4, hz, hF⟩ := b2_ex hF
      refine gx_rI (gx_runV (As := [.int v3, .int 6]) (rest := [.int v1]) X hG hS hT_v0.1 (hT_v0.eq (by decide)) (by decide) rfl (c_X12_get l D cA base ad σ2 n v0 v3 6 hT_v0 hz) k_1099 k_1096 k_1098 ks_19 k_4 (h_X12_get) rfl rfl ⟨by decide, by decide⟩ rfl hl.1 rfl (Nat.le_of_ble_eq_true rfl) dX12_one_33 ⟨Nat.zero_le _, Nat.zero_le _⟩) hS (fun H locs hG hS hX => ?_)
      have hT_v0 := hX.T hT_v0
      replace hE := hE.trans hX
      refine lv_ior X.1 X.2.1 dX12_one_36 ?_
      refine lv_istore_n (lv' := [(1, .int (v1 ||| r5)), (2, .int (v2 ||| (v1 &&& r3))), (0, .ref (ad v0)), (3, .int v3)]) X.1 X.2.1 dX12_one_37 rfl hl (by decide) rfl (fun ls hl => ?_)
      refine lv_iinc (v := v3 + 1) (lv' := [(3, .int (v3 + 1)), (1, .int (v1 ||| r5)), (2, .int (v2 ||| (v1 &&& r3))), (0, .ref (ad v0))]) X.1 X.2.1 dX12_one_38 hl (k := 3) rfl rfl (by decide) rfl (fun ls hl => ?_)
      refine lv_goto (tgt := 6) X.1 X.2.1 dX12_one_41 (by decide) ?_
      exact ih v0 (v1 ||| r5) (v2 ||| (v1 &&& r3)) (v3 + 1) σ4 _ _ ls hT_v0 hG hS hE (lv_sub hl [3, 1, 2, 0] rfl) hF
theorem c_X12_one (l : Launch) (D : va_G) (cA : Nat → ClassId) (base : Nat) (ad : Nat → Nat) (σ : Hp) (n : Nat) (a0 : Nat) (hT_a0 : hT σ a0 12) {τ : Hp} {r : Int32} (hF : F_X12_one n a0 σ = some (r, τ)) : MI l yX12_one cX12_one 4 (some .int) rm_X12_one D cA base ad σ [.ref (ad a0)] r τ := by
  refine Met.ofW (cc := cX12_one) (maxL := 4) (ret := (some .int)) (by decide) rfl ?_
  intro p e s m args below meth c s₁ B hml hv
  obtain ⟨rfl, hv⟩ := hv
  have X : SX D cA base p s m ([.ref (ad a0)] : List Value).toArray meth c cX12_one 4 (some .int) RX12 := sx_of B hml hv
  have hG := hv.1
  have hS : va_S (bA base) s.heap s.heap [] := va_S.rf
  have hE := xT.rf σ
  have hl := lv_entry ([.ref (ad a0)]) (n := 4) (Nat.le_of_ble_eq_true rfl)
  rw [lg_entry_eq]
  generalize (lg_sl ([.ref (ad a0)]) ++ List.replicate (4 - (lg_sl ([.ref (ad a0)])).length) Slot.unset).toArray = ls at hl ⊢
  have hl : lv_has ls 4 [(0, .ref (ad a0))] := hl
  unfold F_X12_one at hF
  refine lv_iconst (v := 0) X.1 X.2.1 dX12_one_0 (by decide) ?_
  refine lv_istore_n (lv' := [(1, .int 0), (0, .ref (ad a0))]) X.1 X.2.1 dX12_one_1 rfl hl (by decide) rfl (fun ls hl => ?_)
  refine lv_iconst (v := 0) X.1 X.2.1 dX12_one_2 (by decide) ?_
  refine lv_istore_n (lv' := [(2, .int 0), (1, .int 0), (0, .ref (ad a0))]) X.1 X.2.1 dX12_one_3 rfl hl (by decide) rfl (fun ls hl => ?_)
  refine lv_iconst (v := 0) X.1 X.2.1 dX12_one_4 (by decide) ?_
  refine lv_istore_n (lv' := [(3, .int 0), (2, .int 0), (1, .int 0), (0, .ref (ad a0))]) X.1 X.2.1 dX12_one_5 rfl hl (by decide) rfl (fun ls hl => ?_)
  exact w_X12_one_6 X n  n a0 0 0 0 σ _ _ ls hT_a0 hG hS hE (lv_sub hl [3, 2, 1, 0] rfl) hF
theorem w_X12_image_79 {σ0 τ : Hp} {r : Int32} (X : SX D cA base p s m args meth c cX12_image 2 (some .int) RX12) (n : Nat)  : ∀ (v0 : Nat) (σ : Hp) (H : Heap) (locs : List Loc) (ls : Array Slot), hT σ v0 12 → GW D cA base ad σ H → va_S (bA base) s.heap H locs → xT σ0 σ → lv_has ls 2 [(0, .ref (ad v0))] → F_X12_image_79 n  v0 σ = some (r, τ) → W p l e rm_X12_image s m args below meth c H locs 0 0 (ZI below s args D cA base ad σ0 r τ) (F0 m 79 ls []) := by
  intro v0 σ H locs ls hT_v0 hG hS hE hl hF
  unfold F_X12_image_79 at hF
  refine lv_aload_n X.1 X.2.1 dX12_image_79 rfl (lv_at hl 0 rfl) ?_
  refine lv_iconst (v := 1) X.1 X.2.1 dX12_image_80 (by decide) ?_
  refine gx_putI 13  X hG hS hT_v0.1 (hT_v0.eq (by decide)) (by decide) rfl inX12 tyX12_ok nmX12 (by decide) k_973 (fun _ h => h) rfl rfl rfl rfl (Nat.le_of_ble_eq_true rfl) dX12_image_81 hF (fun σ1 H locs hG hS hX hF => ?_)
  have hT_v0 := hX.T hT_v0
  replace hE := hE.trans hX
  refine lv_aload_n X.1 X.2.1 dX12_image_84 rfl (lv_at hl 0 rfl) ?_
  obtain ⟨i2, hr, hF⟩ := b1_ex hF
  have hT_i2 : hT σ1 i2 13 := gw_T hG hT_v0 (by decide) hr
  refine gx_get 0 (v := .ref (ad i2)) X hG hT_v0.1 (hT_v0.eq (by decide)) (by decide) rfl inX12 (by decide) k_960 (fun _ h => h) (gx_rfv hr) dX12_image_85 ?_
  refine lv_iconst (v := 1) X.1 X.2.1 dX12_image_88 (by decide) ?_
  refine gx_iald X hG hT_i2 hF dX12_image_89 (fun hF => ?_)
  exact gx_iret X hG hS hE hF dX12_image_90
theorem w_X12_image_54 {σ0 τ : Hp} {r : Int32} (X : SX D cA base p s m args meth c cX12_image 2 (some .int) RX12) (n : Nat)  : ∀ f : Nat, ∀ (v0 : Nat) (v1 : Int32) (σ : Hp) (H : Heap) (locs : List Loc) (ls : Array Slot), hT σ v0 12 → GW D cA base ad σ H → va_S (bA base) s.heap H locs → xT σ0 σ → lv_has ls 2 [(0, .ref (ad v0)), (1, .int v1)] → F_X12_image_54 n  f v0 v1 σ = some (r, τ) → W p l e rm_X12_image s m args below meth c H locs 0 0 (ZI below s args D cA base ad σ0 r τ) (F0 m 54 ls []) := by
  intro f
  induction f with
  | zero => intro v0 v1 σ H locs ls h0 hG hS hE hl hF
            rw [F_X12_image_54] at hF; cases hF
  | succ f ih =>
    intro v0 v1 σ H locs ls hT_v0 hG hS hE hl hF
    rw [F_X12_image_54] at hF
    refine lv_iload_n X.1 X.2.1 dX12_image_54 rfl (lv_at hl 1 rfl) ?_
    refine lv_sipush (v := 600) X.1 X.2.1 dX12_image_55 (by decide) ?_
    refine lv_icmp_ge (tgt := 79) X.1 X.2.1 dX12_image_58 (by decide) (fun hc => ?_) (fun hc => ?_)
    · replace hF := it_t hF hc
      exact w_X12_image_79 X n  v0 σ _ _ ls hT_v0 hG hS hE (lv_sub hl [0] rfl) hF
    · replace hF := it_f hF hc
      refine lv_aload_n X.1 X.2.1 dX12_image_61 rfl (lv_at hl 0 rfl) ?_
      obtain ⟨i3, hr, hF⟩ := b1_ex hF
      have hT_i3 : hT σ i3 13 := gw_T hG hT_v0 (by decide) hr
      refine gx_get 3 (v := .ref (ad i3)) X hG hT_v0.1 (hT_v0.eq (by decide)) (by decide) rfl inX12 (by decide) k_963 (fun _ h => h) (gx_rfv hr) dX12_image_62 ?_
      refine lv_iload_n X.1 X.2.1 dX12_image_65 rfl (lv_at hl 1 rfl) ?_
      refine lv_aload_n X.1 X.2.1 dX12_image_66 rfl (lv_at hl 0 rfl) ?_
      obtain ⟨i4, hr, hF⟩ := b1_ex hF
      have hT_i4 : hT σ i4 13 := gw_T hG hT_v0 (by decide) hr
      refine gx_get 2 (v := .ref (ad i4)) X hG hT_v0.1 (hT_v0.eq (by decide)) (by decide) rfl inX12 (by decide) k_962 (fun _ h => h) (gx_rfv hr) dX12_image_67 ?_
      refine lv_iload_n X.1 X.2.1 dX12_image_70 rfl (lv_at hl 1 rfl) ?_
      refine gx_iald X hG hT_i4 hF dX12_image_71 (fun hF => ?_)
      refine gx_iast X hG hS hT_i3 hF dX12_image_72 (fun σ5 H locs hG hS hX hF => ?_)
      have hT_v0 := hX.T hT_v0
      replace hE := hE.trans hX
      refine lv_iinc (v := v1 + 1) (lv' := [(1, .int (v1 + 1)), (0, .ref (ad v0))]) X.1 X.2.1 dX12_image_73 hl (k := 1) rfl rfl (by decide) rfl (fun ls hl => ?_)
      refine lv_goto (tgt := 54) X.1 X.2.1 dX12_image_76 (by decide) ?_
      exact ih v0 (v1 + 1) σ5 _ _ ls hT_v0 hG hS hE (lv_sub hl [1, 0] rfl) hF
theorem w_X12_image_52 {σ0 τ : Hp} {r : Int32} (X : SX D cA base p s m args meth c cX12_image 2 (some .int) RX12) (n : Nat)  : ∀ (v0 : Nat) (σ : Hp) (H : Heap) (locs : List Loc) (ls : Array Slot), hT σ v0 12 → GW D cA base ad σ H → va_S (bA base) s.heap H locs → xT σ0 σ → lv_has ls 2 [(0, .ref (ad v0))] → F_X12_image_52 n  v0 σ = some (r, τ) → W p l e rm_X12_image s m args below meth c H locs 0 0 (ZI below s args D cA base ad σ0 r τ) (F0 m 52 ls []) := by
  intro v0 σ H locs ls hT_v0 hG hS hE hl hF
  unfold F_X12_image_52 at hF
  refine lv_iconst (v := 0) X.1 X.2.1 dX12_image_52 (by decide) ?_
  refine lv_istore_n (lv' := [(1, .int 0), (0, .ref (ad v0))]) X.1 X.2.1 dX12_image_53 rfl hl (by decide) rfl (fun ls hl => ?_)
  exact w_X12_image_54 X n  n v0 0 σ _ _ ls hT_v0 hG hS hE (lv_sub hl [1, 0] rfl) hF
theorem w_X12_image_28 {σ0 τ : Hp} {r : Int32} (X : SX D cA base p s m args meth c cX12_image 2 (some .int) RX12) (n : Nat)  : ∀ f : Nat, ∀ (v0 : Nat) (v1 : Int32) (σ : Hp) (H : Heap) (locs : List Loc) (ls : Array Slot), hT σ v0 12 → GW D cA base ad σ H → va_S (bA base) s.heap H locs → xT σ0 σ → lv_has ls 2 [(0, .ref (ad v0)), (1, .int v1)] → F_X12_image_28 n  f v0 v1 σ = some (r, τ) → W p l e rm_X12_image s m args below meth c H locs 0 0 (ZI below s args D cA base ad σ0 r τ) (F0 m 28 ls []) := by
  intro f
  induction f with
  | zero => intro v0 v1 σ H locs ls h0 hG hS hE hl hF
            rw [F_X12_image_28] at hF; cases hF
  | succ f ih =>
    intro v0 v1 σ H locs ls hT_v0 hG hS hE hl hF
    rw [F_X12_image_28] at hF
    refine lv_iload_n X.1 X.2.1 dX12_image_28 rfl (lv_at hl 1 rfl) ?_
    refine lv_bipush (v := 67) X.1 X.2.1 dX12_image_29 (by decide) ?_
    refine lv_icmp_ge (tgt := 52) X.1 X.2.1 dX12_image_31 (by decide) (fun hc => ?_) (fun hc => ?_)
    · replace hF := it_t hF hc
      exact w_X12_image_52 X n  v0 σ _ _ ls hT_v0 hG hS hE (lv_sub hl [0] rfl) hF
    · replace hF := it_f hF hc
      refine lv_aload_n X.1 X.2.1 dX12_image_34 rfl (lv_at hl 0 rfl) ?_
      obtain ⟨i6, hr, hF⟩ := b1_ex hF
      have hT_i6 : hT σ i6 13 := gw_T hG hT_v0 (by decide) hr
      refine gx_get 6 (v := .ref (ad i6)) X hG hT_v0.1 (hT_v0.eq (by decide)) (by decide) rfl inX12 (by decide) k_966 (fun _ h => h) (gx_rfv hr) dX12_image_35 ?_
      refine lv_iload_n X.1 X.2.1 dX12_image_38 rfl (lv_at hl 1 rfl) ?_
      refine lv_aload_n X.1 X.2.1 dX12_image_39 rfl (lv_at hl 0 rfl) ?_
      obtain ⟨i7, hr, hF⟩ := b1_ex hF
      have hT_i7 : hT σ i7 13 := gw_T hG hT_v0 (by decide) hr
      refine gx_get 4 (v := .ref (ad i7)) X hG hT_v0.1 (hT_v0.eq (by decide)) (by decide) rfl inX12 (by decide) k_964 (fun _ h => h) (gx_rfv hr) dX12_image_40 ?_
      refine lv_iload_n X.1 X.2.1 dX12_image_43 rfl (lv_at hl 1 rfl) ?_
      refine gx_iald X hG hT_i7 hF dX12_image_44 (fun hF => ?_)
      refine gx_iast X hG hS hT_i6 hF dX12_image_45 (fun σ8 H locs hG hS hX hF => ?_)
      have hT_v0 := hX.T hT_v0
      replace hE := hE.trans hX
      refine lv_iinc (v := v1 + 1) (lv' := [(1, .int (v1 + 1)), (0, .ref (ad v0))]) X.1 X.2.1 dX12_image_46 hl (k := 1) rfl rfl (by decide) rfl (fun ls hl => ?_)
      refine lv_goto (tgt := 28) X.1 X.2.1 dX12_image_49 (by decide) ?_
      exact ih v0 (v1 + 1) σ8 _ _ ls hT_v0 hG hS hE (lv_sub hl [1, 0] rfl) hF
theorem w_X12_image_26 {σ0 τ : Hp} {r : Int32} (X : SX D cA base p s m args meth c cX12_image 2 (some .int) RX12) (n : Nat)  : ∀ (v0 : Nat) (σ : Hp) (H : Heap) (locs : List Loc) (ls : Array Slot), hT σ v0 12 → GW D cA base ad σ H → va_S (bA base) s.heap H locs → xT σ0 σ → lv_has ls 2 [(0, .ref (ad v0))] → F_X12_image_26 n  v0 σ = some (r, τ) → W p l e rm_X12_image s m args below meth c H locs 0 0 (ZI below s args D cA base ad σ0 r τ) (F0 m 26 ls []) := by
  intro v0 σ H locs ls hT_v0 hG hS hE hl hF
  unfold F_X12_image_26 at hF
  refine lv_iconst (v := 0) X.1 X.2.1 dX12_image_26 (by decide) ?_
  refine lv_istore_n (lv' := [(1, .int 0), (0, .ref (ad v0))]) X.1 X.2.1 dX12_image_27 rfl hl (by decide) rfl (fun ls hl => ?_)
  exact w_X12_image_28 X n  n v0 0 σ _ _ ls hT_v0 hG hS hE (lv_sub hl [1, 0] rfl) hF
theorem w_X12_image_2 {σ0 τ : Hp} {r : Int32} (X : SX D cA base p s m args meth c cX12_image 2 (some .int) RX12) (n : Nat)  : ∀ f : Nat, ∀ (v0 : Nat) (v1 : Int32) (σ : Hp) (H : Heap) (locs : List Loc) (ls : Array Slot), hT σ v0 12 → GW D cA base ad σ H → va_S (bA base) s.heap H locs → xT σ0 σ → lv_has ls 2 [(0, .ref (ad v0)), (1, .int v1)] → F_X12_image_2 n  f v0 v1 σ = some (r, τ) → W p l e rm_X12_image s m args below meth c H locs 0 0 (ZI below s args D cA base ad σ0 r τ) (F0 m 2 ls []) := by
  intro f
  induction f with
  | zero => intro v0 v1 σ H locs ls h0 hG hS hE hl hF
            rw [F_X12_image_2] at hF; cases hF
  | succ f ih =>
    intro v0 v1 σ H locs ls hT_v0 hG hS hE hl hF
    rw [F_X12_image_2] at hF
    refine lv_iload_n X.1 X.2.1 dX12_image_2 rfl (lv_at hl 1 rfl) ?_
    refine lv_bipush (v := 109) X.1 X.2.1 dX12_image_3 (by decide) ?_
    refine lv_icmp_ge (tgt := 26) X.1 X.2.1 dX12_image_5 (by decide) (fun hc => ?_) (fun hc => ?_)
    · replace hF := it_t hF hc
      exact w_X12_image_26 X n  v0 σ _ _ ls hT_v0 hG hS hE (lv_sub hl [0] rfl) hF
    · replace hF := it_f hF hc
      refine lv_aload_n X.1 X.2.1 dX12_image_8 rfl (lv_at hl 0 rfl) ?_
      obtain ⟨i9, hr, hF⟩ := b1_ex hF
      have hT_i9 : hT σ i9 13 := gw_T hG hT_v0 (by decide) hr
      refine gx_get 1 (v := .ref (ad i9)) X hG hT_v0.1 (hT_v0.eq (by decide)) (by decide) rfl inX12 (by decide) k_961 (fun _ h => h) (gx_rfv hr) dX12_image_9 ?_
      refine lv_iload_n X.1 X.2.1 dX12_image_12 rfl (lv_at hl 1 rfl) ?_
      refine lv_aload_n X.1 X.2.1 dX12_image_13 rfl (lv_at hl 0 rfl) ?_
      obtain ⟨i10, hr, hF⟩ := b1_ex hF
      have hT_i10 : hT σ i10 13 := gw_T hG hT_v0 (by decide) hr
      refine gx_get 0 (v := .ref (ad i10)) X hG hT_v0.1 (hT_v0.eq (by decide)) (by decide) rfl inX12 (by decide) k_960 (fun _ h => h) (gx_rfv hr) dX12_image_14 ?_
      refine lv_iload_n X.1 X.2.1 dX12_image_17 rfl (lv_at hl 1 rfl) ?_
      refine gx_iald X hG hT_i10 hF dX12_image_18 (fun hF => ?_)
      refine gx_iast X hG hS hT_i9 hF dX12_image_19 (fun σ11 H locs hG hS hX hF => ?_)
      have hT_v0 := hX.T hT_v0
      replace hE := hE.trans hX
      refine lv_iinc (v := v1 + 1) (lv' := [(1, .int (v1 + 1)), (0, .ref (ad v0))]) X.1 X.2.1 dX12_image_20 hl (k := 1) rfl rfl (by decide) rfl (fun ls hl => ?_)
      refine lv_goto (tgt := 2) X.1 X.2.1 dX12_image_23 (by decide) ?_
      exact ih v0 (v1 + 1) σ11 _ _ ls hT_v0 hG hS hE (lv_sub hl [1, 0] rfl) hF
theorem c_X12_image (l : Launch) (D : va_G) (cA : Nat → ClassId) (base : Nat) (ad : Nat → Nat) (σ : Hp) (n : Nat) (a0 : Nat) (hT_a0 : hT σ a0 12) {τ : Hp} {r : Int32} (hF : F_X12_image n a0 σ = some (r, τ)) : MI l yX12_image cX12_image 2 (some .int) rm_X12_image D cA base ad σ [.ref (ad a0)] r τ := by
  refine Met.ofW (cc := cX12_image) (maxL := 2) (ret := (some .int)) (by decide) rfl ?_
  intro p e s m args below meth c s₁ B hml hv
  obtain ⟨rfl, hv⟩ := hv
  have X : SX D cA base p s m ([.ref (ad a0)] : List Value).toArray meth c cX12_image 2 (some .int) RX12 := sx_of B hml hv
  have hG := hv.1
  have hS : va_S (bA base) s.heap s.heap [] := va_S.rf
  have hE := xT.rf σ
  have hl := lv_entry ([.ref (ad a0)]) (n := 2) (Nat.le_of_ble_eq_true rfl)
  rw [lg_entry_eq]
  generalize (lg_sl ([.ref (ad a0)]) ++ List.replicate (2 - (lg_sl ([.ref (ad a0)])).length) Slot.unset).toArray = ls at hl ⊢
  have hl : lv_has ls 2 [(0, .ref (ad a0))] := hl
  unfold F_X12_image at hF
  refine lv_iconst (v := 0) X.1 X.2.1 dX12_image_0 (by decide) ?_
  refine lv_istore_n (lv' := [(1, .int 0), (0, .ref (ad a0))]) X.1 X.2.1 dX12_image_1 rfl hl (by decide) rfl (fun ls hl => ?_)
  exact w_X12_image_2 X n  n a0 0 σ _ _ ls hT_a0 hG hS hE (lv_sub hl [1, 0] rfl) hF
theorem w_X12_restore_89 {σ0 τ : Hp} {r : Int32} (X : SX D cA base p s m args meth c cX12_restore 2 (some .int) RX12) (n : Nat)  : ∀ (v0 : Nat) (σ : Hp) (H : Heap) (locs : List Loc) (ls : Array Slot), hT σ v0 12 → GW D cA base ad σ H → va_S (bA base) s.heap H locs → xT σ0 σ → lv_has ls 2 [(0, .ref (ad v0))] → F_X12_restore_89 n  v0 σ = some (r, τ) → W p l e rm_X12_restore s m args below meth c H locs 0 0 (ZI below s args D cA base ad σ0 r τ) (F0 m 89 ls []) := by
  intro v0 σ H locs ls hT_v0 hG hS hE hl hF
  unfold F_X12_restore_89 at hF
  refine lv_aload_n X.1 X.2.1 dX12_restore_89 rfl (lv_at hl 0 rfl) ?_
  obtain ⟨i1, hr, hF⟩ := b1_ex hF
  have hT_i1 : hT σ i1 13 := gw_T hG hT_v0 (by decide) hr
  refine gx_get 0 (v := .ref (ad i1)) X hG hT_v0.1 (hT_v0.eq (by decide)) (by decide) rfl inX12 (by decide) k_960 (fun _ h => h) (gx_rfv hr) dX12_restore_90 ?_
  refine lv_iconst (v := 1) X.1 X.2.1 dX12_restore_93 (by decide) ?_
  refine gx_iald X hG hT_i1 hF dX12_restore_94 (fun hF => ?_)
  exact gx_iret X hG hS hE hF dX12_restore_95
theorem w_X12_restore_64 {σ0 τ : Hp} {r : Int32} (X : SX D cA base p s m args meth c cX12_restore 2 (some .int) RX12) (n : Nat)  : ∀ f : Nat, ∀ (v0 : Nat) (v1 : Int32) (σ : Hp) (H : Heap) (locs : List Loc) (ls : Array Slot), hT σ v0 12 → GW D cA base ad σ H → va_S (bA base) s.heap H locs → xT σ0 σ → lv_has ls 2 [(0, .ref (ad v0)), (1, .int v1)] → F_X12_restore_64 n  f v0 v1 σ = some (r, τ) → W p l e rm_X12_restore s m args below meth c H locs 0 0 (ZI below s args D cA base ad σ0 r τ) (F0 m 64 ls []) := by
  intro f
  induction f with
  | zero => intro v0 v1 σ H locs ls h0 hG hS hE hl hF
            rw [F_X12_restore_64] at hF; cases hF
  | succ f ih =>
    intro v0 v1 σ H locs ls hT_v0 hG hS hE hl hF
    rw [F_X12_restore_64] at hF
    refine lv_iload_n X.1 X.2.1 dX12_restore_64 rfl (lv_at hl 1 rfl) ?_
    refine lv_sipush (v := 600) X.1 X.2.1 dX12_restore_65 (by decide) ?_
    refine lv_icmp_ge (tgt := 89) X.1 X.2.1 dX12_restore_68 (by decide) (fun hc => ?_) (fun hc => ?_)
    · replace hF := it_t hF hc
      exact w_X12_restore_89 X n  v0 σ _ _ ls hT_v0 hG hS hE (lv_sub hl [0] rfl) hF
    · replace hF := it_f hF hc
      refine lv_aload_n X.1 X.2.1 dX12_restore_71 rfl (lv_at hl 0 rfl) ?_
      obtain ⟨i2, hr, hF⟩ := b1_ex hF
      have hT_i2 : hT σ i2 13 := gw_T hG hT_v0 (by decide) hr
      refine gx_get 2 (v := .ref (ad i2)) X hG hT_v0.1 (hT_v0.eq (by decide)) (by decide) rfl inX12 (by decide) k_962 (fun _ h => h) (gx_rfv hr) dX12_restore_72 ?_
      refine lv_iload_n X.1 X.2.1 dX12_restore_75 rfl (lv_at hl 1 rfl) ?_
      refine lv_aload_n X.1 X.2.1 dX12_restore_76 rfl (lv_at hl 0 rfl) ?_
      obtain ⟨i3, hr, hF⟩ := b1_ex hF
      have hT_i3 : hT σ i3 13 := gw_T hG hT_v0 (by decide) hr
      refine gx_get 3 (v := .ref (ad i3)) X hG hT_v0.1 (hT_v0.eq (by decide)) (by decide) rfl inX12 (by decide) k_963 (fun _ h => h) (gx_rfv hr) dX12_restore_77 ?_
      refine lv_iload_n X.1 X.2.1 dX12_restore_80 rfl (lv_at hl 1 rfl) ?_
      refine gx_iald X hG hT_i3 hF dX12_restore_81 (fun hF => ?_)
      refine gx_iast X hG hS hT_i2 hF dX12_restore_82 (fun σ4 H locs hG hS hX hF => ?_)
      have hT_v0 := hX.T hT_v0
      replace hE := hE.trans hX
      refine lv_iinc (v := v1 + 1) (lv' := [(1, .int (v1 + 1)), (0, .ref (ad v0))]) X.1 X.2.1 dX12_restore_83 hl (k := 1) rfl rfl (by decide) rfl (fun ls hl => ?_)
      refine lv_goto (tgt := 64) X.1 X.2.1 dX12_restore_86 (by decide) ?_
      exact ih v0 (v1 + 1) σ4 _ _ ls hT_v0 hG hS hE (lv_sub hl [1, 0] rfl) hF
theorem w_X12_restore_62 {σ0 τ : Hp} {r : Int32} (X : SX D cA base p s m args meth c cX12_restore 2 (some .int) RX12) (n : Nat)  : ∀ (v0 : Nat) (σ : Hp) (H : Heap) (locs : List Loc) (ls : Array Slot), hT σ v0 12 → GW D cA base ad σ H → va_S (bA base) s.heap H locs → xT σ0 σ → lv_has ls 2 [(0, .ref (ad v0))] → F_X12_restore_62 n  v0 σ = some (r, τ) → W p l e rm_X12_restore s m args below meth c H locs 0 0 (ZI below s args D cA base ad σ0 r τ) (F0 m 62 ls []) := by
  intro v0 σ H locs ls hT_v0 hG hS hE hl hF
  unfold F_X12_restore_62 at hF
  refine lv_iconst (v := 0) X.1 X.2.1 dX12_restore_62 (by decide) ?_
  refine lv_istore_n (lv' := [(1, .int 0), (0, .ref (ad v0))]) X.1 X.2.1 dX12_restore_63 rfl hl (by decide) rfl (fun ls hl => ?_)
  exact w_X12_restore_64 X n  n v0 0 σ _ _ ls hT_v0 hG hS hE (lv_sub hl [1, 0] rfl) hF
theorem w_X12_restore_38 {σ0 τ : Hp} {r : Int32} (X : SX D cA base p s m args meth c cX12_restore 2 (some .int) RX12) (n : Nat)  : ∀ f : Nat, ∀ (v0 : Nat) (v1 : Int32) (σ : Hp) (H : Heap) (locs : List Loc) (ls : Array Slot), hT σ v0 12 → GW D cA base ad σ H → va_S (bA base) s.heap H locs → xT σ0 σ → lv_has ls 2 [(0, .ref (ad v0)), (1, .int v1)] → F_X12_restore_38 n  f v0 v1 σ = some (r, τ) → W p l e rm_X12_restore s m args below meth c H locs 0 0 (ZI below s args D cA base ad σ0 r τ) (F0 m 38 ls []) := by
  intro f
  induction f with
  | zero => intro v0 v1 σ H locs ls h0 hG hS hE hl hF
            rw [F_X12_restore_38] at hF; cases hF
  | succ f ih =>
    intro v0 v1 σ H locs ls hT_v0 hG hS hE hl hF
    rw [F_X12_restore_38] at hF
    refine lv_iload_n X.1 X.2.1 dX12_restore_38 rfl (lv_at hl 1 rfl) ?_
    refine lv_bipush (v := 67) X.1 X.2.1 dX12_restore_39 (by decide) ?_
    refine lv_icmp_ge (tgt := 62) X.1 X.2.1 dX12_restore_41 (by decide) (fun hc => ?_) (fun hc => ?_)
    · replace hF := it_t hF hc
      exact w_X12_restore_62 X n  v0 σ _ _ ls hT_v0 hG hS hE (lv_sub hl [0] rfl) hF
    · replace hF := it_f hF hc
      refine lv_aload_n X.1 X.2.1 dX12_restore_44 rfl (lv_at hl 0 rfl) ?_
      obtain ⟨i5, hr, hF⟩ := b1_ex hF
      have hT_i5 : hT σ i5 13 := gw_T hG hT_v0 (by decide) hr
      refine gx_get 4 (v := .ref (ad i5)) X hG hT_v0.1 (hT_v0.eq (by decide)) (by decide) rfl inX12 (by decide) k_964 (fun _ h => h) (gx_rfv hr) dX12_restore_45 ?_
      refine lv_iload_n X.1 X.2.1 dX12_restore_48 rfl (lv_at hl 1 rfl) ?_
      refine lv_aload_n X.1 X.2.1 dX12_restore_49 rfl (lv_at hl 0 rfl) ?_
      obtain ⟨i6, hr, hF⟩ := b1_ex hF
      have hT_i6 : hT σ i6 13 := gw_T hG hT_v0 (by decide) hr
      refine gx_get 6 (v := .ref (ad i6)) X hG hT_v0.1 (hT_v0.eq (by decide)) (by decide) rfl inX12 (by decide) k_966 (fun _ h => h) (gx_rfv hr) dX12_restore_50 ?_
      refine lv_iload_n X.1 X.2.1 dX12_restore_53 rfl (lv_at hl 1 rfl) ?_
      refine gx_iald X hG hT_i6 hF dX12_restore_54 (fun hF => ?_)
      refine gx_iast X hG hS hT_i5 hF dX12_restore_55 (fun σ7 H locs hG hS hX hF => ?_)
      have hT_v0 := hX.T hT_v0
      replace hE := hE.trans hX
      refine lv_iinc (v := v1 + 1) (lv' := [(1, .int (v1 + 1)), (0, .ref (ad v0))]) X.1 X.2.1 dX12_restore_56 hl (k := 1) rfl rfl (by decide) rfl (fun ls hl => ?_)
      refine lv_goto (tgt := 38) X.1 X.2.1 dX12_restore_59 (by decide) ?_
      exact ih v0 (v1 + 1) σ7 _ _ ls hT_v0 hG hS hE (lv_sub hl [1, 0] rfl) hF
theorem w_X12_restore_36 {σ0 τ : Hp} {r : Int32} (X : SX D cA base p s m args meth c cX12_restore 2 (some .int) RX12) (n : Nat)  : ∀ (v0 : Nat) (σ : Hp) (H : Heap) (locs : List Loc) (ls : Array Slot), hT σ v0 12 → GW D cA base ad σ H → va_S (bA base) s.heap H locs → xT σ0 σ → lv_has ls 2 [(0, .ref (ad v0))] → F_X12_restore_36 n  v0 σ = some (r, τ) → W p l e rm_X12_restore s m args below meth c H locs 0 0 (ZI below s args D cA base ad σ0 r τ) (F0 m 36 ls []) := by
  intro v0 σ H locs ls hT_v0 hG hS hE hl hF
  unfold F_X12_restore_36 at hF
  refine lv_iconst (v := 0) X.1 X.2.1 dX12_restore_36 (by decide) ?_
  refine lv_istore_n (lv' := [(1, .int 0), (0, .ref (ad v0))]) X.1 X.2.1 dX12_restore_37 rfl hl (by decide) rfl (fun ls hl => ?_)
  exact w_X12_restore_38 X n  n v0 0 σ _ _ ls hT_v0 hG hS hE (lv_sub hl [1, 0] rfl) hF
theorem w_X12_restore_12 {σ0 τ : Hp} {r : Int32} (X : SX D cA base p s m args meth c cX12_restore 2 (some .int) RX12) (n : Nat)  : ∀ f : Nat, ∀ (v0 : Nat) (v1 : Int32) (σ : Hp) (H : Heap) (locs : List Loc) (ls : Array Slot), hT σ v0 12 → GW D cA base ad σ H → va_S (bA base) s.heap H locs → xT σ0 σ → lv_has ls 2 [(0, .ref (ad v0)), (1, .int v1)] → F_X12_restore_12 n  f v0 v1 σ = some (r, τ) → W p l e rm_X12_restore s m args below meth c H locs 0 0 (ZI below s args D cA base ad σ0 r τ) (F0 m 12 ls []) := by
  intro f
  induction f with
  | zero => intro v0 v1 σ H locs ls h0 hG hS hE hl hF
            rw [F_X12_restore_12] at hF; cases hF
  | succ f ih =>
    intro v0 v1 σ H locs ls hT_v0 hG hS hE hl hF
    rw [F_X12_restore_12] at hF
    refine lv_iload_n X.1 X.2.1 dX12_restore_12 rfl (lv_at hl 1 rfl) ?_
    refine lv_bipush (v := 109) X.1 X.2.1 dX12_restore_13 (by decide) ?_
    refine lv_icmp_ge (tgt := 36) X.1 X.2.1 dX12_restore_15 (by decide) (fun hc => ?_) (fun hc => ?_)
    · replace hF := it_t hF hc
      exact w_X12_restore_36 X n  v0 σ _ _ ls hT_v0 hG hS hE (lv_sub hl [0] rfl) hF
    · replace hF := it_f hF hc
      refine lv_aload_n X.1 X.2.1 dX12_restore_18 rfl (lv_at hl 0 rfl) ?_
      obtain ⟨i8, hr, hF⟩ := b1_ex hF
      have hT_i8 : hT σ i8 13 := gw_T hG hT_v0 (by decide) hr
      refine gx_get 0 (v := .ref (ad i8)) X hG hT_v0.1 (hT_v0.eq (by decide)) (by decide) rfl inX12 (by decide) k_960 (fun _ h => h) (gx_rfv hr) dX12_restore_19 ?_
      refine lv_iload_n X.1 X.2.1 dX12_restore_22 rfl (lv_at hl 1 rfl) ?_
      refine lv_aload_n X.1 X.2.1 dX12_restore_23 rfl (lv_at hl 0 rfl) ?_
      obtain ⟨i9, hr, hF⟩ := b1_ex hF
      have hT_i9 : hT σ i9 13 := gw_T hG hT_v0 (by decide) hr
      refine gx_get 1 (v := .ref (ad i9)) X hG hT_v0.1 (hT_v0.eq (by decide)) (by decide) rfl inX12 (by decide) k_961 (fun _ h => h) (gx_rfv hr) dX12_restore_24 ?_
      refine lv_iload_n X.1 X.2.1 dX12_restore_27 rfl (lv_at hl 1 rfl) ?_
      refine gx_iald X hG hT_i9 hF dX12_restore_28 (fun hF => ?_)
      refine gx_iast X hG hS hT_i8 hF dX12_restore_29 (fun σ10 H locs hG hS hX hF => ?_)
      have hT_v0 := hX.T hT_v0
      replace hE := hE.trans hX
      refine lv_iinc (v := v1 + 1) (lv' := [(1, .int (v1 + 1)), (0, .ref (ad v0))]) X.1 X.2.1 dX12_restore_30 hl (k := 1) rfl rfl (by decide) rfl (fun ls hl => ?_)
      refine lv_goto (tgt := 12) X.1 X.2.1 dX12_restore_33 (by decide) ?_
      exact ih v0 (v1 + 1) σ10 _ _ ls hT_v0 hG hS hE (lv_sub hl [1, 0] rfl) hF
theorem c_X12_restore (l : Launch) (D : va_G) (cA : Nat → ClassId) (base : Nat) (ad : Nat → Nat) (σ : Hp) (n : Nat) (a0 : Nat) (hT_a0 : hT σ a0 12) {τ : Hp} {r : Int32} (hF : F_X12_restore n a0 σ = some (r, τ)) : MI l yX12_restore cX12_restore 2 (some .int) rm_X12_restore D cA base ad σ [.ref (ad a0)] r τ := by
  refine Met.ofW (cc := cX12_restore) (maxL := 2) (ret := (some .int)) (by decide) rfl ?_
  intro p e s m args below meth c s₁ B hml hv
  obtain ⟨rfl, hv⟩ := hv
  have X : SX D cA base p s m ([.ref (ad a0)] : List Value).toArray meth c cX12_restore 2 (some .int) RX12 := sx_of B hml hv
  have hG := hv.1
  have hS : va_S (bA base) s.heap s.heap [] := va_S.rf
  have hE := xT.rf σ
  have hl := lv_entry ([.ref (ad a0)]) (n := 2) (Nat.le_of_ble_eq_true rfl)
  rw [lg_entry_eq]
  generalize (lg_sl ([.ref (ad a0)]) ++ List.replicate (2 - (lg_sl ([.ref (ad a0)])).length) Slot.unset).toArray = ls at hl ⊢
  have hl : lv_has ls 2 [(0, .ref (ad a0))] := hl
  unfold F_X12_restore at hF
  refine lv_aload_n X.1 X.2.1 dX12_restore_0 rfl (lv_at hl 0 rfl) ?_
  refine gx_get 13 (v := .int (hI σ a0 13)) X hG hT_a0.1 (hT_a0.eq (by decide)) (by decide) rfl inX12 (by decide) k_973 (fun _ h => h) rfl dX12_restore_1 ?_
  refine lv_if_ne (tgt := 10) X.1 X.2.1 dX12_restore_4 (by decide) (fun hc => ?_) (fun hc => ?_)
  · replace hF := it_f hF hc
    refine lv_iconst (v := 0) X.1 X.2.1 dX12_restore_10 (by decide) ?_
    refine lv_istore_n (lv' := [(1, .int 0), (0, .ref (ad a0))]) X.1 X.2.1 dX12_restore_11 rfl hl (by decide) rfl (fun ls hl => ?_)
    exact w_X12_restore_12 X n  n a0 0 σ _ _ ls hT_a0 hG hS hE (lv_sub hl [1, 0] rfl) hF
  · replace hF := it_t hF hc
    refine lv_bipush (v := (-3)) X.1 X.2.1 dX12_restore_7 (by decide) ?_
    exact gx_iret X hG hS hE hF dX12_restore_9
theorem w_X12_count_36 {σ0 τ : Hp} {r : Int32} (X : SX D cA base p s m args meth c cX12_count 4 (some .int) RX12) (n : Nat)  : ∀ (v0 : Nat) (v1 : Int32) (σ : Hp) (H : Heap) (locs : List Loc) (ls : Array Slot), hT σ v0 12 → GW D cA base ad σ H → va_S (bA base) s.heap H locs → xT σ0 σ → lv_has ls 4 [(0, .ref (ad v0)), (1, .int v1)] → F_X12_count_36 n  v0 v1 σ = some (r, τ) → W p l e rm_X12_count s m args below meth c H locs 0 0 (ZI below s args D cA base ad σ0 r τ) (F0 m 36 ls []) := by
  intro v0 v1 σ H locs ls hT_v0 hG hS hE hl hF
  unfold F_X12_count_36 at hF
  refine lv_aload_n X.1 X.2.1 dX12_count_36 rfl (lv_at hl 0 rfl) ?_
  obtain ⟨i1, hr, hF⟩ := b1_ex hF
  have hT_i1 : hT σ i1 13 := gw_T hG hT_v0 (by decide) hr
  refine gx_get 0 (v := .ref (ad i1)) X hG hT_v0.1 (hT_v0.eq (by decide)) (by decide) rfl inX12 (by decide) k_960 (fun _ h => h) (gx_rfv hr) dX12_count_37 ?_
  refine lv_iload_n X.1 X.2.1 dX12_count_40 rfl (lv_at hl 1 rfl) ?_
  refine gx_iald X hG hT_i1 hF dX12_count_41 (fun hF => ?_)
  exact gx_iret X hG hS hE hF dX12_count_42
theorem w_X12_count_71 {σ0 τ : Hp} {r : Int32} (X : SX D cA base p s m args meth c cX12_count 4 (some .int) RX12) (n : Nat)  : ∀ f : Nat, ∀ (v0 : Nat) (v2 : Int32) (v3 : Int32) (σ : Hp) (H : Heap) (locs : List Loc) (ls : Array Slot), hT σ v0 12 → GW D cA base ad σ H → va_S (bA base) s.heap H locs → xT σ0 σ → lv_has ls 4 [(0, .ref (ad v0)), (2, .int v2), (3, .int v3)] → F_X12_count_71 n  f v0 v2 v3 σ = some (r, τ) → W p l e rm_X12_count s m args below meth c H locs 0 0 (ZI below s args D cA base ad σ0 r τ) (F0 m 71 ls []) := by
  intro f
  induction f with
  | zero => intro v0 v2 v3 σ H locs ls h0 hG hS hE hl hF
            rw [F_X12_count_71] at hF; cases hF
  | succ f ih =>
    intro v0 v2 v3 σ H locs ls hT_v0 hG hS hE hl hF
    rw [F_X12_count_71] at hF
    refine lv_iload_n X.1 X.2.1 dX12_count_71 rfl (lv_at hl 2 rfl) ?_
    refine lv_aload_n X.1 X.2.1 dX12_count_72 rfl (lv_at hl 0 rfl) ?_
    obtain ⟨i2, hr, hF⟩ := b1_ex hF
    have hT_i2 : hT σ i2 13 := gw_T hG hT_v0 (by decide) hr
    refine gx_get 0 (v := .ref (ad i2)) X hG hT_v0.1 (hT_v0.eq (by decide)) (by decide) rfl inX12 (by decide) k_960 (fun _ h => h) (gx_rfv hr) dX12_count_73 ?_
    refine lv_iconst (v := 1) X.1 X.2.1 dX12_count_76 (by decide) ?_
    refine gx_iald X hG hT_i2 hF dX12_count_77 (fun hF => ?_)
    refine lv_icmp_ge (tgt := 97) X.1 X.2.1 dX12_count_78 (by decide) (fun hc => ?_) (fun hc => ?_)
    · replace hF := it_t hF hc
      refine lv_iload_n X.1 X.2.1 dX12_count_97 rfl (lv_at hl 1 rfl) ?_
      exact gx_iret X hG hS hE hF dX12_count_98
    · replace hF := it_f hF hc
      refine lv_iload_n X.1 X.2.1 dX12_count_81 rfl (lv_at hl 1 rfl) ?_
      refine lv_aload_n X.1 X.2.1 dX12_count_82 rfl (lv_at hl 0 rfl) ?_
      refine lv_iload_n X.1 X.2.1 dX12_count_83 rfl (lv_at hl 2 rfl) ?_
      refine lv_bipush (v := 6) X.1 X.2.1 dX12_count_84 (by decide) ?_
      obtain ⟨r4, σ3, hz, hF⟩ := b2_ex hF
      refine gx_rI (gx_runV (As := [.int v3, .int 6]) (rest := [.int v2]) X hG hS hT_v0.1 (hT_v0.eq (by decide)) (by decide) rfl (c_X12_get l D cA base ad σ n v0 v3 6 hT_v0 hz) k_1099 k_1096 k_1098 ks_19 k_4 (h_X12_get) rfl rfl ⟨by decide, by decide⟩ rfl hl.1 rfl (Nat.le_of_ble_eq_true rfl) dX12_count_86 ⟨Nat.zero_le _, Nat.zero_le _⟩) hS (fun H locs hG hS hX => ?_)
      have hT_v0 := hX.T hT_v0
      replace hE := hE.trans hX
      refine lv_iand X.1 X.2.1 dX12_count_89 ?_
      refine lv_istore_n (lv' := [(2, .int (v2 &&& r4)), (0, .ref (ad v0)), (3, .int v3)]) X.1 X.2.1 dX12_count_90 rfl hl (by decide) rfl (fun ls hl => ?_)
      refine lv_iinc (v := v3 + 1) (lv' := [(3, .int (v3 + 1)), (2, .int (v2 &&& r4)), (0, .ref (ad v0))]) X.1 X.2.1 dX12_count_91 hl (k := 2) rfl rfl (by decide) rfl (fun ls hl => ?_)
      refine lv_goto (tgt := 71) X.1 X.2.1 dX12_count_94 (by decide) ?_
      exact ih v0 (v2 &&& r4) (v3 + 1) σ3 _ _ ls hT_v0 hG hS hE (lv_sub hl [2, 1, 0] rfl) hF
theorem c_X12_count (l : Launch) (D : va_G) (cA : Nat → ClassId) (base : Nat) (ad : Nat → Nat) (σ : Hp) (n : Nat) (a0 : Nat) (a1 : Int32) (hT_a0 : hT σ a0 12) {τ : Hp} {r : Int32} (hF : F_X12_count n a0 a1 σ = some (r, τ)) : MI l yX12_count cX12_count 4 (some .int) rm_X12_count D cA base ad σ [.ref (ad a0), .int a1] r τ := by
  refine Met.ofW (cc := cX12_count) (maxL := 4) (ret := (some .int)) (by decide) rfl ?_
  intro p e s m args below meth c s₁ B hml hv
  obtain ⟨rfl, hv⟩ := hv
  have X : SX D cA base p s m ([.ref (ad a0), .int a1] : List Value).toArray meth c cX12_count 4 (some .int) RX12 := sx_of B hml hv
  have hG := hv.1
  have hS : va_S (bA base) s.heap s.heap [] := va_S.rf
  have hE := xT.rf σ
  have hl := lv_entry ([.ref (ad a0), .int a1]) (n := 4) (Nat.le_of_ble_eq_true rfl)
  rw [lg_entry_eq]
  generalize (lg_sl ([.ref (ad a0), .int a1]) ++ List.replicate (4 - (lg_sl ([.ref (ad a0), .int a1])).length) Slot.unset).toArray = ls at hl ⊢
  have hl : lv_has ls 4 [(0, .ref (ad a0)), (1, .int a1)] := hl
  unfold F_X12_count at hF
  refine lv_iload_n X.1 X.2.1 dX12_count_0 rfl (lv_at hl 1 rfl) ?_
  by_cases hc0 : a1 = 0
  · replace hF := it_t hF hc0
    refine lv_tableIn (tgt := 36) X.1 X.2.1 dX12_count_1 (by rw [hc0]; decide) (by rw [hc0]; decide) (by rw [hc0]; rfl) (by decide) ?_
    exact w_X12_count_36 X n  a0 a1 σ _ _ ls hT_a0 hG hS hE (lv_sub hl [0, 1] rfl) hF
  replace hF := it_f hF hc0
  by_cases hc1 : a1 = 1
  · replace hF := it_t hF hc1
    refine lv_tableIn (tgt := 36) X.1 X.2.1 dX12_count_1 (by rw [hc1]; decide) (by rw [hc1]; decide) (by rw [hc1]; rfl) (by decide) ?_
    exact w_X12_count_36 X n  a0 a1 σ _ _ ls hT_a0 hG hS hE (lv_sub hl [0, 1] rfl) hF
  replace hF := it_f hF hc1
  by_cases hc2 : a1 = 2
  · replace hF := it_t hF hc2
    refine lv_tableIn (tgt := 36) X.1 X.2.1 dX12_count_1 (by rw [hc2]; decide) (by rw [hc2]; decide) (by rw [hc2]; rfl) (by decide) ?_
    exact w_X12_count_36 X n  a0 a1 σ _ _ ls hT_a0 hG hS hE (lv_sub hl [0, 1] rfl) hF
  replace hF := it_f hF hc2
  by_cases hc3 : a1 = 3
  · replace hF := it_t hF hc3
    refine lv_tableIn (tgt := 43) X.1 X.2.1 dX12_count_1 (by rw [hc3]; decide) (by rw [hc3]; decide) (by rw [hc3]; rfl) (by decide) ?_
    refine lv_aload_n X.1 X.2.1 dX12_count_43 rfl (lv_at hl 0 rfl) ?_
    refine lv_iconst (v := 1) X.1 X.2.1 dX12_count_44 (by decide) ?_
    refine lv_aload_n X.1 X.2.1 dX12_count_45 rfl (lv_at hl 0 rfl) ?_
    obtain ⟨i5, hr, hF⟩ := b1_ex hF
    have hT_i5 : hT σ i5 13 := gw_T hG hT_a0 (by decide) hr
    refine gx_get 0 (v := .ref (ad i5)) X hG hT_a0.1 (hT_a0.eq (by decide)) (by decide) rfl inX12 (by decide) k_960 (fun _ h => h) (gx_rfv hr) dX12_count_46 ?_
    refine lv_iconst (v := 0) X.1 X.2.1 dX12_count_49 (by decide) ?_
    refine gx_iald X hG hT_i5 hF dX12_count_50 (fun hF => ?_)
    refine lv_ishl X.1 X.2.1 dX12_count_51 ?_
    refine lv_iconst (v := 1) X.1 X.2.1 dX12_count_52 (by decide) ?_
    refine lv_isub X.1 X.2.1 dX12_count_53 ?_
    obtain ⟨r7, σ6, hz, hF⟩ := b2_ex hF
    refine gx_rI (gx_runV (As := [.int ((1 <<< ((hI σ i5 (0 : Int32).toNatClampNeg) &&& 31)) - 1)]) (rest := []) X hG hS hT_a0.1 (hT_a0.eq (by decide)) (by decide) rfl (c_X12_speaksOf l D cA base ad σ n a0 ((1 <<< ((hI σ i5 (0 : Int32).toNatClampNeg) &&& 31)) - 1) hT_a0 hz) k_1160 k_1157 k_1159 ks_30 k_4 (h_X12_speaksOf) rfl rfl ⟨by decide, by decide⟩ rfl hl.1 rfl (Nat.le_of_ble_eq_true rfl) dX12_count_54 ⟨Nat.zero_le _, Nat.zero_le _⟩) hS (fun H locs hG hS hX => ?_)
    have hT_a0 := hX.T hT_a0
    replace hE := hE.trans hX
    exact gx_iret X hG hS hE hF dX12_count_57
  replace hF := it_f hF hc3
  by_cases hc4 : a1 = 4
  · replace hF := it_t hF hc4
    refine lv_tableIn (tgt := 58) X.1 X.2.1 dX12_count_1 (by rw [hc4]; decide) (by rw [hc4]; decide) (by rw [hc4]; rfl) (by decide) ?_
    refine lv_iconst (v := 1) X.1 X.2.1 dX12_count_58 (by decide) ?_
    refine lv_aload_n X.1 X.2.1 dX12_count_59 rfl (lv_at hl 0 rfl) ?_
    obtain ⟨i8, hr, hF⟩ := b1_ex hF
    have hT_i8 : hT σ i8 13 := gw_T hG hT_a0 (by decide) hr
    refine gx_get 0 (v := .ref (ad i8)) X hG hT_a0.1 (hT_a0.eq (by decide)) (by decide) rfl inX12 (by decide) k_960 (fun _ h => h) (gx_rfv hr) dX12_count_60 ?_
    refine lv_iconst (v := 0) X.1 X.2.1 dX12_count_63 (by decide) ?_
    refine gx_iald X hG hT_i8 hF dX12_count_64 (fun hF => ?_)
    refine lv_ishl X.1 X.2.1 dX12_count_65 ?_
    refine lv_iconst (v := 1) X.1 X.2.1 dX12_count_66 (by decide) ?_
    refine lv_isub X.1 X.2.1 dX12_count_67 ?_
    refine lv_topi (fun x9 ex9 => ?_)
    replace hF := lt_nm hF ex9
    refine lv_istore_n (lv' := [(2, .int x9), (0, .ref (ad a0)), (1, .int a1)]) X.1 X.2.1 dX12_count_68 rfl hl (by decide) rfl (fun ls hl => ?_)
    refine lv_iconst (v := 0) X.1 X.2.1 dX12_count_69 (by decide) ?_
    refine lv_istore_n (lv' := [(3, .int 0), (2, .int x9), (0, .ref (ad a0)), (1, .int a1)]) X.1 X.2.1 dX12_count_70 rfl hl (by decide) rfl (fun ls hl => ?_)
    exact w_X12_count_71 X n  n a0 x9 0 σ _ _ ls hT_a0 hG hS hE (lv_sub hl [2, 1, 0] rfl) hF
  replace hF := it_f hF hc4
  have hz0 := ne_lit hc0 (z := 0) (by decide)
  have hz1 := ne_lit hc1 (z := 1) (by decide)
  have hz2 := ne_lit hc2 (z := 2) (by decide)
  have hz3 := ne_lit hc3 (z := 3) (by decide)
  have hz4 := ne_lit hc4 (z := 4) (by decide)
  refine lv_tableOut (tgt := 99) X.1 X.2.1 dX12_count_1 (by omega) (by decide) ?_
  refine lv_ldc (v := (-1000000001)) X.1 X.2.1 X.2.2.2.2.2.1 (X.w k_1095) dX12_count_99 ?_
  exact gx_iret X hG hS hE hF dX12_count_101
end W_model4
