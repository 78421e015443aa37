/-! model13: printed by wip/whole/gen.py -/
section W_model13
variable {p : Program} {l : Launch} {e : Env} {s : State} {m : MethodId} {args : Array Value} {below : List Frame} {meth : Method} {c : Code} {D : va_G} {cA : Nat → ClassId} {base : Nat} {ad : Nat → Nat}
abbrev rm_X12_restore : Room := { frames := 0, cells := 0, slots := 0, locals := 0 }
theorem h_X12_restore : yX12_restore.cls = RX12 ∧ yX12_restore.cls ≠ "java/lang/invoke/MethodHandle" ∧ yX12_restore.cls ≠ "java/lang/invoke/VarHandle" ∧ (parseMethodDescriptor yX12_restore.desc).map (fun d => d.parameters.length) = some 0 := by decide +kernel
def F_X12_restore_89 (n : Nat)  (v0 : Nat) (σ : Hp) : Option (Int32 × Hp) := b1 (hR σ v0 0) fun (i1 : Nat) => ck (¬ ((1 : Int32) < 0 ∨ hL σ i1 ≤ (1 : Int32).toNatClampNeg)) (some (hI σ i1 (1 : Int32).toNatClampNeg, σ))
def F_X12_restore_64 (n : Nat)  : Nat → Nat → Int32 → Hp → Option (Int32 × Hp)
  | 0, _, _, _ => none
  | f + 1, v0, v1, σ => if 600 ≤ v1 then (F_X12_restore_89 n  v0 σ) else (b1 (hR σ v0 2) fun (i2 : Nat) => b1 (hR σ v0 3) fun (i3 : Nat) => ck (¬ (v1 < 0 ∨ hL σ i3 ≤ v1.toNatClampNeg)) (ck (¬ (v1 < 0 ∨ hL σ i2 ≤ v1.toNatClampNeg)) (lt (pI σ i2 v1.toNatClampNeg (hI σ i3 v1.toNatClampNeg)) fun (σ4 : Hp) => (F_X12_restore_64 n  f) v0 (v1 + 1) σ4)))
def F_X12_restore_62 (n : Nat)  (v0 : Nat) (σ : Hp) : Option (Int32 × Hp) := F_X12_restore_64 n  n v0 0 σ
def F_X12_restore_38 (n : Nat)  : Nat → Nat → Int32 → Hp → Option (Int32 × Hp)
  | 0, _, _, _ => none
  | f + 1, v0, v1, σ => if 67 ≤ v1 then (F_X12_restore_62 n  v0 σ) else (b1 (hR σ v0 4) fun (i5 : Nat) => b1 (hR σ v0 6) fun (i6 : Nat) => ck (¬ (v1 < 0 ∨ hL σ i6 ≤ v1.toNatClampNeg)) (ck (¬ (v1 < 0 ∨ hL σ i5 ≤ v1.toNatClampNeg)) (lt (pI σ i5 v1.toNatClampNeg (hI σ i6 v1.toNatClampNeg)) fun (σ7 : Hp) => (F_X12_restore_38 n  f) v0 (v1 + 1) σ7)))
def F_X12_restore_36 (n : Nat)  (v0 : Nat) (σ : Hp) : Option (Int32 × Hp) := F_X12_restore_38 n  n v0 0 σ
def F_X12_restore_12 (n : Nat)  : Nat → Nat → Int32 → Hp → Option (Int32 × Hp)
  | 0, _, _, _ => none
  | f + 1, v0, v1, σ => if 109 ≤ v1 then (F_X12_restore_36 n  v0 σ) else (b1 (hR σ v0 0) fun (i8 : Nat) => b1 (hR σ v0 1) fun (i9 : Nat) => ck (¬ (v1 < 0 ∨ hL σ i9 ≤ v1.toNatClampNeg)) (ck (¬ (v1 < 0 ∨ hL σ i8 ≤ v1.toNatClampNeg)) (lt (pI σ i8 v1.toNatClampNeg (hI σ i9 v1.toNatClampNeg)) fun (σ10 : Hp) => (F_X12_restore_12 n  f) v0 (v1 + 1) σ10)))
def F_X12_restore (n : Nat) (a0 : Nat) (σ : Hp) : Option (Int32 × Hp) := if (hI σ a0 13) = 0 then (some ((-3), σ)) else (F_X12_restore_12 n  n a0 0 σ)
abbrev rm_X12_count : Room := { frames := 1, cells := 0, slots := 0, locals := 23 }
theorem h_X12_count : yX12_count.cls = RX12 ∧ yX12_count.cls ≠ "java/lang/invoke/MethodHandle" ∧ yX12_count.cls ≠ "java/lang/invoke/VarHandle" ∧ (parseMethodDescriptor yX12_count.desc).map (fun d => d.parameters.length) = some 1 := by decide +kernel
def F_X12_count_36 (n : Nat)  (v0 : Nat) (v1 : Int32) (σ : Hp) : Option (Int32 × Hp) := b1 (hR σ v0 0) fun (i1 : Nat) => ck (¬ (v1 < 0 ∨ hL σ i1 ≤ v1.toNatClampNeg)) (some (hI σ i1 v1.toNatClampNeg, σ))
def F_X12_count_71 (n : Nat)  : Nat → Nat → Int32 → Int32 → Hp → Option (Int32 × Hp)
  | 0, _, _, _, _ => none
  | f + 1, v0, v2, v3, σ => b1 (hR σ v0 0) fun (i2 : Nat) => ck (¬ ((1 : Int32) < 0 ∨ hL σ i2 ≤ (1 : Int32).toNatClampNeg)) (if (hI σ i2 (1 : Int32).toNatClampNeg) ≤ v3 then (some (v2, σ)) else (b2 (F_X12_get n v0 v3 6 σ) fun (r4 : Int32) (σ3 : Hp) => (F_X12_count_71 n  f) v0 (v2 &&& r4) (v3 + 1) σ3))
def F_X12_count (n : Nat) (a0 : Nat) (a1 : Int32) (σ : Hp) : Option (Int32 × Hp) := if a1 = 0 then (F_X12_count_36 n  a0 a1 σ) else (if a1 = 1 then (F_X12_count_36 n  a0 a1 σ) else (if a1 = 2 then (F_X12_count_36 n  a0 a1 σ) else (if a1 = 3 then (b1 (hR σ a0 0) fun (i5 : Nat) => ck (¬ ((0 : Int32) < 0 ∨ hL σ i5 ≤ (0 : Int32).toNatClampNeg)) (b2 (F_X12_speaksOf n a0 ((1 <<< ((hI σ i5 (0 : Int32).toNatClampNeg) &&& 31)) - 1) σ) fun (r7 : Int32) (σ6 : Hp) => some (r7, σ6))) else (if a1 = 4 then (b1 (hR σ a0 0) fun (i8 : Nat) => ck (¬ ((0 : Int32) < 0 ∨ hL σ i8 ≤ (0 : Int32).toNatClampNeg)) (lt ((1 <<< ((hI σ i8 (0 : Int32).toNatClampNeg) &&& 31)) - 1) fun (x9 : Int32) => F_X12_count_71 n  n a0 x9 0 σ)) else (some ((-1000000001), σ))))))
abbrev rm_X12_voiceOf : Room := { frames := 1, cells := 0, slots := 0, locals := 22 }
theorem h_X12_voiceOf : yX12_voiceOf.cls = RX12 ∧ yX12_voiceOf.cls ≠ "java/lang/invoke/MethodHandle" ∧ yX12_voiceOf.cls ≠ "java/lang/invoke/VarHandle" ∧ (parseMethodDescriptor yX12_voiceOf.desc).map (fun d => d.parameters.length) = some 1 := by decide +kernel
def F_X12_voiceOf (n : Nat) (a0 : Nat) (a1 : Int32) (σ : Hp) : Option (Int32 × Hp) := b2 (F_X12_get n a0 a1 2 σ) fun (r2 : Int32) (σ1 : Hp) => b2 (F_X12_get n a0 a1 6 σ1) fun (r4 : Int32) (σ3 : Hp) => b2 (F_X12_bits n r4 σ3) fun (r6 : Int32) (σ5 : Hp) => b2 (F_X12_get n a0 a1 1 σ5) fun (r8 : Int32) (σ7 : Hp) => b2 (F_X12_get n a0 a1 0 σ7) fun (r10 : Int32) (σ9 : Hp) => if r10 = 1 then (some (r2 + r6, σ9)) else (if r10 = 2 then (some (r2 + r8, σ9)) else (if r10 = 3 then (some (2 * (r2 + r8), σ9)) else (if r10 = 4 then (some ((r2 + r6) + 5, σ9)) else (if r10 = 5 then (some (r2 + 10, σ9)) else (if r10 = 6 then (some (r2 - 1, σ9)) else (if r10 = 7 then (b2 (F_X12_get n a0 a1 4 σ9) fun (r12 : Int32) (σ11 : Hp) => some ((r2 - 1) + r12, σ11)) else (some (r2, σ9))))))))
abbrev rm_X12_keep : Room := { frames := 2, cells := 0, slots := 0, locals := 46 }
theorem h_X12_keep : yX12_keep.cls = RX12 ∧ yX12_keep.cls ≠ "java/lang/invoke/MethodHandle" ∧ yX12_keep.cls ≠ "java/lang/invoke/VarHandle" ∧ (parseMethodDescriptor yX12_keep.desc).map (fun d => d.parameters.length) = some 3 := by decide +kernel
def F_X12_keep_130 (n : Nat)  (s0 : Int32) (s1 : Int32) (s2 : Nat) (σ : Hp) : Option (Int32 × Hp) := ck (¬ (s1 < 0 ∨ hL σ s2 ≤ s1.toNatClampNeg)) (lt (pI σ s2 s1.toNatClampNeg s0) fun (σ1 : Hp) => some (0, σ1))
def F_X12_keep_92 (n : Nat)  (s0 : Int32) (s1 : Nat) (σ : Hp) : Option (Int32 × Hp) := F_X12_keep_130 n  (-15) s0 s1 σ
def F_X12_keep_32 (n : Nat)  (v0 : Nat) (v1 : Int32) (v2 : Int32) (v3 : Int32) (σ : Hp) : Option (Int32 × Hp) := b1 (hR σ v0 7) fun (i2 : Nat) => ck (¬ (v1 < 0 ∨ hL σ i2 ≤ v1.toNatClampNeg)) (lt (pI σ i2 v1.toNatClampNeg v2) fun (σ3 : Hp) => if v2 = 0 then (some (0, σ3)) else (b2 (F_X12_get n v0 v3 0 σ3) fun (r5 : Int32) (σ4 : Hp) => b1 (hR σ4 v0 11) fun (i6 : Nat) => b2 (F_X12_voiceOf n v0 v3 σ4) fun (r8 : Int32) (σ7 : Hp) => ck (¬ (v1 < 0 ∨ hL σ7 i6 ≤ v1.toNatClampNeg)) (lt (pI σ7 i6 v1.toNatClampNeg r8) fun (σ9 : Hp) => b1 (hR σ9 v0 12) fun (i10 : Nat) => if r5 = 6 then (F_X12_keep_92 n  v1 i10 σ9) else (if r5 = 7 then (F_X12_keep_92 n  v1 i10 σ9) else (b2 (F_X12_get n v0 v3 1 σ9) fun (r12 : Int32) (σ11 : Hp) => if r12 = 0 then (F_X12_keep_92 n  v1 i10 σ11) else (if r5 = 3 then (F_X12_keep_130 n  (100 + v3) v1 i10 σ11) else (if r5 = 4 then (b2 (F_X12_get n v0 v3 1 σ11) fun (r14 : Int32) (σ13 : Hp) => F_X12_keep_130 n  (200 + r14) v1 i10 σ13) else (F_X12_keep_130 n  v3 v1 i10 σ11))))))))
def F_X12_keep (n : Nat) (a0 : Nat) (a1 : Int32) (a2 : Int32) (a3 : Int32) (σ : Hp) : Option (Int32 × Hp) := b2 (F_X12_isShelf n a1 σ) fun (r16 : Int32) (σ15 : Hp) => if r16 = 0 then (some ((-1), σ15)) else (b2 (F_X12_isIn n a2.toInt64 0 1 σ15) fun (r18 : Int32) (σ17 : Hp) => if r18 = 0 then (some ((-1), σ17)) else (if a2 = 1 then (b2 (F_X12_isJuror n a0 a3 σ17) fun (r20 : Int32) (σ19 : Hp) => if r20 = 0 then (some ((-1), σ19)) else (F_X12_keep_32 n  a0 a1 a2 a3 σ19)) else (F_X12_keep_32 n  a0 a1 a2 a3 σ17)))
theorem w_X12_restore_89 {σ0 τ : Hp} {r : Int32} (X : SX D cA base p s m args meth c cX12_restore 2 (some .int) RX12) (n : Nat)  : ∀ (v0 : Nat) (σ : Hp) (H : Heap) (locs : List Loc) (ls : Array Slot), hT σ v0 12 → GW D cA base ad σ H → va_S (bA base) s.heap H locs → xT σ0 σ → lv_has ls 2 [(0, .ref (ad v0))] → F_X12_restore_89 n  v0 σ = some (r, τ) → W p l e rm_X12_restore s m args below meth c H locs 0 0 (ZI below s args D cA base ad σ0 r τ) (F0 m 89 ls []) := by
  intro v0 σ H locs ls hT_v0 hG hS hE hl hF
  unfold F_X12_restore_89 at hF
  refine lv_aload_n X.1 X.2.1 dX12_restore_89 rfl (lv_at hl 0 rfl) ?_
  obtain ⟨i1, hr, hF⟩ := b1_ex hF
  have hT_i1 : hT σ i1 13 := gw_T hG hT_v0 (by decide) hr
  refine gx_get 0 (v := .ref (ad i1)) X hG hT_v0.1 (hT_v0.eq (by decide)) (by decide) rfl inX12 (by decide) k_960 (fun _ h => h) (gx_rfv hr) dX12_restore_90 ?_
  refine lv_iconst (v := 1) X.1 X.2.1 dX12_restore_93 (by decide) ?_
  refine gx_iald X hG hT_i1 hF dX12_restore_94 (fun hF => ?_)
  exact gx_iret X hG hS hE hF dX12_restore_95
theorem w_X12_restore_64 {σ0 τ : Hp} {r : Int32} (X : SX D cA base p s m args meth c cX12_restore 2 (some .int) RX12) (n : Nat)  : ∀ f : Nat, ∀ (v0 : Nat) (v1 : Int32) (σ : Hp) (H : Heap) (locs : List Loc) (ls : Array Slot), hT σ v0 12 → GW D cA base ad σ H → va_S (bA base) s.heap H locs → xT σ0 σ → lv_has ls 2 [(0, .ref (ad v0)), (1, .int v1)] → F_X12_restore_64 n  f v0 v1 σ = some (r, τ) → W p l e rm_X12_restore s m args below meth c H locs 0 0 (ZI below s args D cA base ad σ0 r τ) (F0 m 64 ls []) := by
  intro f
  induction f with
  | zero => intro v0 v1 σ H locs ls h0 hG hS hE hl hF
            rw [F_X12_restore_64] at hF; cases hF
  | succ f ih =>
    intro v0 v1 σ H locs ls hT_v0 hG hS hE hl hF
    rw [F_X12_restore_64] at hF
    refine lv_iload_n X.1 X.2.1 dX12_restore_64 rfl (lv_at hl 1 rfl) ?_
    refine lv_sipush (v := 600) X.1 X.2.1 dX12_restore_65 (by decide) ?_
    refine lv_icmp_ge (tgt := 89) X.1 X.2.1 dX12_restore_68 (by decide) (fun hc => ?_) (fun hc => ?_)
    · replace hF := it_t hF hc
      exact w_X12_restore_89 X n  v0 σ _ _ ls hT_v0 hG hS hE (lv_sub hl [0] rfl) hF
    · replace hF := it_f hF hc
      refine lv_aload_n X.1 X.2.1 dX12_restore_71 rfl (lv_at hl 0 rfl) ?_
      obtain ⟨i2, hr, hF⟩ := b1_ex hF
      have hT_i2 : hT σ i2 13 := gw_T hG hT_v0 (by decide) hr
      refine gx_get 2 (v := .ref (ad i2)) X hG hT_v0.1 (hT_v0.eq (by decide)) (by decide) rfl inX12 (by decide) k_962 (fun _ h => h) (gx_rfv hr) dX12_restore_72 ?_
      refine lv_iload_n X.1 X.2.1 dX12_restore_75 rfl (lv_at hl 1 rfl) ?_
      refine lv_aload_n X.1 X.2.1 dX12_restore_76 rfl (lv_at hl 0 rfl) ?_
      obtain ⟨i3, hr, hF⟩ := b1_ex hF
      have hT_i3 : hT σ i3 13 := gw_T hG hT_v0 (by decide) hr
      refine gx_get 3 (v := .ref (ad i3)) X hG hT_v0.1 (hT_v0.eq (by decide)) (by decide) rfl inX12 (by decide) k_963 (fun _ h => h) (gx_rfv hr) dX12_restore_77 ?_
      refine lv_iload_n X.1 X.2.1 dX12_restore_80 rfl (lv_at hl 1 rfl) ?_
      refine gx_iald X hG hT_i3 hF dX12_restore_81 (fun hF => ?_)
      refine gx_iast X hG hS hT_i2 hF dX12_restore_82 (fun σ4 H locs hG hS hX hF => ?_)
      have hT_v0 := hX.T hT_v0
      replace hE := hE.trans hX
      refine lv_iinc (v := v1 + 1) (lv' := [(1, .int (v1 + 1)), (0, .ref (ad v0))]) X.1 X.2.1 dX12_restore_83 hl (k := 1) rfl rfl (by decide) rfl (fun ls hl => ?_)
      refine lv_goto (tgt := 64) X.1 X.2.1 dX12_restore_86 (by decide) ?_
      exact ih v0 (v1 + 1) σ4 _ _ ls hT_v0 hG hS hE (lv_sub hl [1, 0] rfl) hF
theorem w_X12_restore_62 {σ0 τ : Hp} {r : Int32} (X : SX D cA base p s m args meth c cX12_restore 2 (some .int) RX12) (n : Nat)  : ∀ (v0 : Nat) (σ : Hp) (H : Heap) (locs : List Loc) (ls : Array Slot), hT σ v0 12 → GW D cA base ad σ H → va_S (bA base) s.heap H locs → xT σ0 σ → lv_has ls 2 [(0, .ref (ad v0))] → F_X12_restore_62 n  v0 σ = some (r, τ) → W p l e rm_X12_restore s m args below meth c H locs 0 0 (ZI below s args D cA base ad σ0 r τ) (F0 m 62 ls []) := by
  intro v0 σ H locs ls hT_v0 hG hS hE hl hF
  unfold F_X12_restore_62 at hF
  refine lv_iconst (v := 0) X.1 X.2.1 dX12_restore_62 (by decide) ?_
  refine lv_istore_n (lv' := [(1, .int 0), (0, .ref (ad v0))]) X.1 X.2.1 dX12_restore_63 rfl hl (by decide) rfl (fun ls hl => ?_)
  exact w_X12_restore_64 X n  n v0 0 σ _ _ ls hT_v0 hG hS hE (lv_sub hl [1, 0] rfl) hF
theorem w_X12_restore_38 {σ0 τ : Hp} {r : Int32} (X : SX D cA base p s m args meth c cX12_restore 2 (some .int) RX12) (n : Nat)  : ∀ f : Nat, ∀ (v0 : Nat) (v1 : Int32) (σ : Hp) (H : Heap) (locs : List Loc) (ls : Array Slot), hT σ v0 12 → GW D cA base ad σ H → va_S (bA base) s.heap H locs → xT σ0 σ → lv_has ls 2 [(0, .ref (ad v0)), (1, .int v1)] → F_X12_restore_38 n  f v0 v1 σ = some (r, τ) → W p l e rm_X12_restore s m args below meth c H locs 0 0 (ZI below s args D cA base ad σ0 r τ) (F0 m 38 ls []) := by
  intro f
  induction f with
  | zero => intro v0 v1 σ H locs ls h0 hG hS hE hl hF
            rw [F_X12_restore_38] at hF; cases hF
  | succ f ih =>
    intro v0 v1 σ H locs ls hT_v0 hG hS hE hl hF
    rw [F_X12_restore_38] at hF
    refine lv_iload_n X.1 X.2.1 dX12_restore_38 rfl (lv_at hl 1 rfl) ?_
    refine lv_bipush (v := 67) X.1 X.2.1 dX12_restore_39 (by decide) ?_
    refine lv_icmp_ge (tgt := 62) X.1 X.2.1 dX12_restore_41 (by decide) (fun hc => ?_) (fun hc => ?_)
    · replace hF := it_t hF hc
      exact w_X12_restore_62 X n  v0 σ _ _ ls hT_v0 hG hS hE (lv_sub hl [0] rfl) hF
    · replace hF := it_f hF hc
      refine lv_aload_n X.1 X.2.1 dX12_restore_44 rfl (lv_at hl 0 rfl) ?_
      obtain ⟨i5, hr, hF⟩ := b1_ex hF
      have hT_i5 : hT σ i5 13 := gw_T hG hT_v0 (by decide) hr
      refine gx_get 4 (v := .ref (ad i5)) X hG hT_v0.1 (hT_v0.eq (by decide)) (by decide) rfl inX12 (by decide) k_964 (fun _ h => h) (gx_rfv hr) dX12_restore_45 ?_
      refine lv_iload_n X.1 X.2.1 dX12_restore_48 rfl (lv_at hl 1 rfl) ?_
      refine lv_aload_n X.1 X.2.1 dX12_restore_49 rfl (lv_at hl 0 rfl) ?_
      obtain ⟨i6, hr, hF⟩ := b1_ex hF
      have hT_i6 : hT σ i6 13 := gw_T hG hT_v0 (by decide) hr
      refine gx_get 6 (v := .ref (ad i6)) X hG hT_v0.1 (hT_v0.eq (by decide)) (by decide) rfl inX12 (by decide) k_966 (fun _ h => h) (gx_rfv hr) dX12_restore_50 ?_
      refine lv_iload_n X.1 X.2.1 dX12_restore_53 rfl (lv_at hl 1 rfl) ?_
      refine gx_iald X hG hT_i6 hF dX12_restore_54 (fun hF => ?_)
      refine gx_iast X hG hS hT_i5 hF dX12_restore_55 (fun σ7 H locs hG hS hX hF => ?_)
      have hT_v0 := hX.T hT_v0
      replace hE := hE.trans hX
      refine lv_iinc (v := v1 + 1) (lv' := [(1, .int (v1 + 1)), (0, .ref (ad v0))]) X.1 X.2.1 dX12_restore_56 hl (k := 1) rfl rfl (by decide) rfl (fun ls hl => ?_)
      refine lv_goto (tgt := 38) X.1 X.2.1 dX12_restore_59 (by decide) ?_
      exact ih v0 (v1 + 1) σ7 _ _ ls hT_v0 hG hS hE (lv_sub hl [1, 0] rfl) hF
theorem w_X12_restore_36 {σ0 τ : Hp} {r : Int32} (X : SX D cA base p s m args meth c cX12_restore 2 (some .int) RX12) (n : Nat)  : ∀ (v0 : Nat) (σ : Hp) (H : Heap) (locs : List Loc) (ls : Array Slot), hT σ v0 12 → GW D cA base ad σ H → va_S (bA base) s.heap H locs → xT σ0 σ → lv_has ls 2 [(0, .ref (ad v0))] → F_X12_restore_36 n  v0 σ = some (r, τ) → W p l e rm_X12_restore s m args below meth c H locs 0 0 (ZI below s args D cA base ad σ0 r τ) (F0 m 36 ls []) := by
  intro v0 σ H locs ls hT_v0 hG hS hE hl hF
  unfold F_X12_restore_36 at hF
  refine lv_iconst (v := 0) X.1 X.2.1 dX12_restore_36 (by decide) ?_
  refine lv_istore_n (lv' := [(1, .int 0), (0, .ref (ad v0))]) X.1 X.2.1 dX12_restore_37 rfl hl (by decide) rfl (fun ls hl => ?_)
  exact w_X12_restore_38 X n  n v0 0 σ _ _ ls hT_v0 hG hS hE (lv_sub hl [1, 0] rfl) hF
theorem w_X12_restore_12 {σ0 τ : Hp} {r : Int32} (X : SX D cA base p s m args meth c cX12_restore 2 (some .int) RX12) (n : Nat)  : ∀ f : Nat, ∀ (v0 : Nat) (v1 : Int32) (σ : Hp) (H : Heap) (locs : List Loc) (ls : Array Slot), hT σ v0 12 → GW D cA base ad σ H → va_S (bA base) s.heap H locs → xT σ0 σ → lv_has ls 2 [(0, .ref (ad v0)), (1, .int v1)] → F_X12_restore_12 n  f v0 v1 σ = some (r, τ) → W p l e rm_X12_restore s m args below meth c H locs 0 0 (ZI below s args D cA base ad σ0 r τ) (F0 m 12 ls []) := by
  intro f
  induction f with
  | zero => intro v0 v1 σ H locs ls h0 hG hS hE hl hF
            rw [F_X12_restore_12] at hF; cases hF
  | succ f ih =>
    intro v0 v1 σ H locs ls hT_v0 hG hS hE hl hF
    rw [F_X12_restore_12] at hF
    refine lv_iload_n X.1 X.2.1 dX12_restore_12 rfl (lv_at hl 1 rfl) ?_
    refine lv_bipush (v := 109) X.1 X.2.1 dX12_restore_13 (by decide) ?_
    refine lv_icmp_ge (tgt := 36) X.1 X.2.1 dX12_restore_15 (by decide) (fun hc => ?_) (fun hc => ?_)
    · replace hF := it_t hF hc
      exact w_X12_restore_36 X n  v0 σ _ _ ls hT_v0 hG hS hE (lv_sub hl [0] rfl) hF
    · replace hF := it_f hF hc
      refine lv_aload_n X.1 X.2.1 dX12_restore_18 rfl (lv_at hl 0 rfl) ?_
      obtain ⟨i8, hr, hF⟩ := b1_ex hF
      have hT_i8 : hT σ i8 13 := gw_T hG hT_v0 (by decide) hr
      refine gx_get 0 (v := .ref (ad i8)) X hG hT_v0.1 (hT_v0.eq (by decide)) (by decide) rfl inX12 (by decide) k_960 (fun _ h => h) (gx_rfv hr) dX12_restore_19 ?_
      refine lv_iload_n X.1 X.2.1 dX12_restore_22 rfl (lv_at hl 1 rfl) ?_
      refine lv_aload_n X.1 X.2.1 dX12_restore_23 rfl (lv_at hl 0 rfl) ?_
      obtain ⟨i9, hr, hF⟩ := b1_ex hF
      have hT_i9 : hT σ i9 13 := gw_T hG hT_v0 (by decide) hr
      refine gx_get 1 (v := .ref (ad i9)) X hG hT_v0.1 (hT_v0.eq (by decide)) (by decide) rfl inX12 (by decide) k_961 (fun _ h => h) (gx_rfv hr) dX12_restore_24 ?_
      refine lv_iload_n X.1 X.2.1 dX12_restore_27 rfl (lv_at hl 1 rfl) ?_
      refine gx_iald X hG hT_i9 hF dX12_restore_28 (fun hF => ?_)
      refine gx_iast X hG hS hT_i8 hF dX12_restore_29 (fun σ10 H locs hG hS hX hF => ?_)
      have hT_v0 := hX.T hT_v0
      replace hE := hE.trans hX
      refine lv_iinc (v := v1 + 1) (lv' := [(1, .int (v1 + 1)), (0, .ref (ad v0))]) X.1 X.2.1 dX12_restore_30 hl (k := 1) rfl rfl (by decide) rfl (fun ls hl => ?_)
      refine lv_goto (tgt := 12) X.1 X.2.1 dX12_restore_33 (by decide) ?_
      exact ih v0 (v1 + 1) σ10 _ _ ls hT_v0 hG hS hE (lv_sub hl [1, 0] rfl) hF
theorem c_X12_restore (l : Launch) (D : va_G) (cA : Nat → ClassId) (base : Nat) (ad : Nat → Nat) (σ : Hp) (n : Nat) (a0 : Nat) (hT_a0 : hT σ a0 12) {τ : Hp} {r : Int32} (hF : F_X12_restore n a0 σ = some (r, τ)) : MI l yX12_restore cX12_restore 2 (some .int) rm_X12_restore D cA base ad σ [.ref (ad a0)] r τ := by
  refine Met.ofW (cc := cX12_restore) (maxL := 2) (ret := (some .int)) (by decide) rfl ?_
  intro p e s m args below meth c s₁ B hml hv
  obtain ⟨rfl, hv⟩ := hv
  have X : SX D cA base p s m ([.ref (ad a0)] : List Value).toArray meth c cX12_restore 2 (some .int) RX12 := sx_of B hml hv
  have hG := hv.1
  have hS : va_S (bA base) s.heap s.heap [] := va_S.rf
  have hE := xT.rf σ
  have hl := lv_entry ([.ref (ad a0)]) (n := 2) (Nat.le_of_ble_eq_true rfl)
  rw [lg_entry_eq]
  generalize (lg_sl ([.ref (ad a0)]) ++ List.replicate (2 - (lg_sl ([.ref (ad a0)])).length) Slot.unset).toArray = ls at hl ⊢
  have hl : lv_has ls 2 [(0, .ref (ad a0))] := hl
  unfold F_X12_restore at hF
  refine lv_aload_n X.1 X.2.1 dX12_restore_0 rfl (lv_at hl 0 rfl) ?_
  refine gx_get 13 (v := .int (hI σ a0 13)) X hG hT_a0.1 (hT_a0.eq (by decide)) (by decide) rfl inX12 (by decide) k_973 (fun _ h => h) rfl dX12_restore_1 ?_
  refine lv_if_ne (tgt := 10) X.1 X.2.1 dX12_restore_4 (by decide) (fun hc => ?_) (fun hc => ?_)
  · replace hF := it_f hF hc
    refine lv_iconst (v := 0) X.1 X.2.1 dX12_restore_10 (by decide) ?_
    refine lv_istore_n (lv' := [(1, .int 0), (0, .ref (ad a0))]) X.1 X.2.1 dX12_restore_11 rfl hl (by decide) rfl (fun ls hl => ?_)
    exact w_X12_restore_12 X n  n a0 0 σ _ _ ls hT_a0 hG hS hE (lv_sub hl [1, 0] rfl) hF
  · replace hF := it_t hF hc
    refine lv_bipush (v := (-3)) X.1 X.2.1 dX12_restore_7 (by decide) ?_
    exact gx_iret X hG hS hE hF dX12_restore_9
theorem w_X12_count_36 {σ0 τ : Hp} {r : Int32} (X : SX D cA base p s m args meth c cX12_count 4 (some .int) RX12) (n : Nat)  : ∀ (v0 : Nat) (v1 : Int32) (σ : Hp) (H : Heap) (locs : List Loc) (ls : Array Slot), hT σ v0 12 → GW D cA base ad σ H → va_S (bA base) s.heap H locs → xT σ0 σ → lv_has ls 4 [(0, .ref (ad v0)), (1, .int v1)] → F_X12_count_36 n  v0 v1 σ = some (r, τ) → W p l e rm_X12_count s m args below meth c H locs 0 0 (ZI below s args D cA base ad σ0 r τ) (F0 m 36 ls []) := by
  intro v0 v1 σ H locs ls hT_v0 hG hS hE hl hF
  unfold F_X12_count_36 at hF
  refine lv_aload_n X.1 X.2.1 dX12_count_36 rfl (lv_at hl 0 rfl) ?_
  obtain ⟨i1, hr, hF⟩ := b1_ex hF
  have hT_i1 : hT σ i1 13 := gw_T hG hT_v0 (by decide) hr
  refine gx_get 0 (v := .ref (ad i1)) X hG hT_v0.1 (hT_v0.eq (by decide)) (by decide) rfl inX12 (by decide) k_960 (fun _ h => h) (gx_rfv hr) dX12_count_37 ?_
  refine lv_iload_n X.1 X.2.1 dX12_count_40 rfl (lv_at hl 1 rfl) ?_
  refine gx_iald X hG hT_i1 hF dX12_count_41 (fun hF => ?_)
  exact gx_iret X hG hS hE hF dX12_count_42
theorem w_X12_count_71 {σ0 τ : Hp} {r : Int32} (X : SX D cA base p s m args meth c cX12_count 4 (some .int) RX12) (n : Nat)  : ∀ f : Nat, ∀ (v0 : Nat) (v2 : Int32) (v3 : Int32) (σ : Hp) (H : Heap) (locs : List Loc) (ls : Array Slot), hT σ v0 12 → GW D cA base ad σ H → va_S (bA base) s.heap H locs → xT σ0 σ → lv_has ls 4 [(0, .ref (ad v0)), (2, .int v2), (3, .int v3)] → F_X12_count_71 n  f v0 v2 v3 σ = some (r, τ) → W p l e rm_X12_count s m args below meth c H locs 0 0 (ZI below s args D cA base ad σ0 r τ) (F0 m 71 ls []) := by
  intro f
  induction f with
  | zero => intro v0 v2 v3 σ H locs ls h0 hG hS hE hl hF
            rw [F_X12_count_71] at hF; cases hF
  | succ f ih =>
    intro v0 v2 v3 σ H locs ls hT_v0 hG hS hE hl hF
    rw [F_X12_count_71] at hF
    refine lv_iload_n X.1 X.2.1 dX12_count_71 rfl (lv_at hl 2 rfl) ?_
    refine lv_aload_n X.1 X.2.1 dX12_count_72 rfl (lv_at hl 0 rfl) ?_
    obtain ⟨i2, hr, hF⟩ := b1_ex hF
    have hT_i2 : hT σ i2 13 := gw_T hG hT_v0 (by decide) hr
    refine gx_get 0 (v := .ref (ad i2)) X hG hT_v0.1 (hT_v0.eq (by decide)) (by decide) rfl inX12 (by decide) k_960 (fun _ h => h) (gx_rfv hr) dX12_count_73 ?_
    refine lv_iconst (v := 1) X.1 X.2.1 dX12_count_76 (by decide) ?_
    refine gx_iald X hG hT_i2 hF dX12_count_77 (fun hF => ?_)
    refine lv_icmp_ge (tgt := 97) X.1 X.2.1 dX12_count_78 (by decide) (fun hc => ?_) (fun hc => ?_)
    · replace hF := it_t hF hc
      refine lv_iload_n X.1 X.2.1 dX12_count_97 rfl (lv_at hl 1 rfl) ?_
      exact gx_iret X hG hS hE hF dX12_count_98
    · replace hF := it_f hF hc
      refine lv_iload_n X.1 X.2.1 dX12_count_81 rfl (lv_at hl 1 rfl) ?_
      refine lv_aload_n X.1 X.2.1 dX12_count_82 rfl (lv_at hl 0 rfl) ?_
      refine lv_iload_n X.1 X.2.1 dX12_count_83 rfl (lv_at hl 2 rfl) ?_
      refine lv_bipush (v := 6) X.1 X.2.1 dX12_count_84 (by decide) ?_
      obtain ⟨r4, σ3, hz, hF⟩ := b2_ex hF
      refine gx_rI (gx_runV (As := [.int v3, .int 6]) (rest := [.int v2]) X hG hS hT_v0.1 (hT_v0.eq (by decide)) (by decide) rfl (c_X12_get l D cA base ad σ n v0 v3 6 hT_v0 hz) k_1099 k_1096 k_1098 ks_19 k_4 (h_X12_get) rfl rfl ⟨by decide, by decide⟩ rfl hl.1 rfl (Nat.le_of_ble_eq_true rfl) dX12_count_86 ⟨Nat.zero_le _, Nat.zero_le _⟩) hS (fun H locs hG hS hX => ?_)
      have hT_v0 := hX.T hT_v0
      replace hE := hE.trans hX
      refine lv_iand X.1 X.2.1 dX12_count_89 ?_
      refine lv_istore_n (lv' := [(2, .int (v2 &&& r4)), (0, .ref (ad v0)), (3, .int v3)]) X.1 X.2.1 dX12_count_90 rfl hl (by decide) rfl (fun ls hl => ?_)
      refine lv_iinc (v := v3 + 1) (lv' := [(3, .int (v3 + 1)), (2, .int (v2 &&& r4)), (0, .ref (ad v0))]) X.1 X.2.1 dX12_count_91 hl (k := 2) rfl rfl (by decide) rfl (fun ls hl => ?_)
      refine lv_goto (tgt := 71) X.1 X.2.1 dX12_count_94 (by decide) ?_
      exact ih v0 (v2 &&& r4) (v3 + 1) σ3 _ _ ls hT_v0 hG hS hE (lv_sub hl [2, 1, 0] rfl) hF
theorem c_X12_count (l : Launch) (D : va_G) (cA : Nat → ClassId) (base : Nat) (ad : Nat → Nat) (σ : Hp) (n : Nat) (a0 : Nat) (a1 : Int32) (hT_a0 : hT σ a0 12) {τ : Hp} {r : Int32} (hF : F_X12_count n a0 a1 σ = some (r, τ)) : MI l yX12_count cX12_count 4 (some .int) rm_X12_count D cA base ad σ [.ref (ad a0), .int a1] r τ := by
  refine Met.ofW (cc := cX12_count) (maxL := 4) (ret := (some .int)) (by decide) rfl ?_
  intro p e s m args below meth c s₁ B hml hv
  obtain ⟨rfl, hv⟩ := hv
  have X : SX D cA base p s m ([.ref (ad a0), .int a1] : List Value).toArray meth c cX12_count 4 (some .int) RX12 := sx_of B hml hv
  have hG := hv.1
  have hS : va_S (bA base) s.heap s.heap [] := va_S.rf
  have hE := xT.rf σ
  have hl := lv_entry ([.ref (ad a0), .int a1]) (n := 4) (Nat.le_of_ble_eq_true rfl)
  rw [lg_entry_eq]
  generalize (lg_sl ([.ref (ad a0), .int a1]) ++ List.replicate (4 - (lg_sl ([.ref (ad a0), .int a1])).length) Slot.unset).toArray = ls at hl ⊢
  have hl : lv_has ls 4 [(0, .ref (ad a0)), (1, .int a1)] := hl
  unfold F_X12_count at hF
  refine lv_iload_n X.1 X.2.1 dX12_count_0 rfl (lv_at hl 1 rfl) ?_
  by_cases hc0 : a1 = 0
  · replace hF := it_t hF hc0
    refine lv_tableIn (tgt := 36) X.1 X.2.1 dX12_count_1 (by rw [hc0]; decide) (by rw [hc0]; decide) (by rw [hc0]; rfl) (by decide) ?_
    exact w_X12_count_36 X n  a0 a1 σ _ _ ls hT_a0 hG hS hE (lv_sub hl [0, 1] rfl) hF
  replace hF := it_f hF hc0
  by_cases hc1 : a1 = 1
  · replace hF := it_t hF hc1
    refine lv_tableIn (tgt := 36) X.1 X.2.1 dX12_count_1 (by rw [hc1]; decide) (by rw [hc1]; decide) (by rw [hc1]; rfl) (by decide) ?_
    exact w_X12_count_36 X n  a0 a1 σ _ _ ls hT_a0 hG hS hE (lv_sub hl [0, 1] rfl) hF
  replace hF := it_f hF hc1
  by_cases hc2 : a1 = 2
  · replace hF := it_t hF hc2
    refine lv_tableIn (tgt := 36) X.1 X.2.1 dX12_count_1 (by rw [hc2]; decide) (by rw [hc2]; decide) (by rw [hc2]; rfl) (by decide) ?_
    exact w_X12_count_36 X n  a0 a1 σ _ _ ls hT_a0 hG hS hE (lv_sub hl [0, 1] rfl) hF
  replace hF := it_f hF hc2
  by_cases hc3 : a1 = 3
  · replace hF := it_t hF hc3
    refine lv_tableIn (tgt := 43) X.1 X.2.1 dX12_count_1 (by rw [hc3]; decide) (by rw [hc3]; decide) (by rw [hc3]; rfl) (by decide) ?_
    refine lv_aload_n X.1 X.2.1 dX12_count_43 rfl (lv_at hl 0 rfl) ?_
    refine lv_iconst (v := 1) X.1 X.2.1 dX12_count_44 (by decide) ?_
    refine lv_aload_n X.1 X.2.1 dX12_count_45 rfl (lv_at hl 0 rfl) ?_
    obtain ⟨i5, hr, hF⟩ := b1_ex hF
    have hT_i5 : hT σ i5 13 := gw_T hG hT_a0 (by decide) hr
    refine gx_get 0 (v := .ref (ad i5)) X hG hT_a0.1 (hT_a0.eq (by decide)) (by decide) rfl inX12 (by decide) k_960 (fun _ h => h) (gx_rfv hr) dX12_count_46 ?_
    refine lv_iconst (v := 0) X.1 X.2.1 dX12_count_49 (by decide) ?_
    refine gx_iald X hG hT_i5 hF dX12_count_50 (fun hF => ?_)
    refine lv_ishl X.1 X.2.1 dX12_count_51 ?_
    refine lv_iconst (v := 1) X.1 X.2.1 dX12_count_52 (by decide) ?_
    refine lv_isub X.1 X.2.1 dX12_count_53 ?_
    obtain ⟨r7, σ6, hz, hF⟩ := b2_ex hF
    refine gx_rI (gx_runV (As := [.int ((1 <<< ((hI σ i5 (0 : Int32).toNatClampNeg) &&& 31)) - 1)]) (rest := []) X hG hS hT_a0.1 (hT_a0.eq (by decide)) (by decide) rfl (c_X12_speaksOf l D cA base ad σ n a0 ((1 <<< ((hI σ i5 (0 : Int32).toNatClampNeg) &&& 31)) - 1) hT_a0 hz) k_1160 k_1157 k_1159 ks_30 k_4 (h_X12_speaksOf) rfl rfl ⟨by decide, by decide⟩ rfl hl.1 rfl (Nat.le_of_ble_eq_true rfl) dX12_count_54 ⟨Nat.zero_le _, Nat.zero_le _⟩) hS (fun H locs hG hS hX => ?_)
    have hT_a0 := hX.T hT_a0
    replace hE := hE.trans hX
    exact gx_iret X hG hS hE hF dX12_count_57
  replace hF := it_f hF hc3
  by_cases hc4 : a1 = 4
  · replace hF := it_t hF hc4
    refine lv_tableIn (tgt := 58) X.1 X.2.1 dX12_count_1 (by rw [hc4]; decide) (by rw [hc4]; decide) (by rw [hc4]; rfl) (by decide) ?_
    refine lv_iconst (v := 1) X.1 X.2.1 dX12_count_58 (by decide) ?_
    refine lv_aload_n X.1 X.2.1 dX12_count_59 rfl (lv_at hl 0 rfl) ?_
    obtain ⟨i8, hr, hF⟩ := b1_ex hF
    have hT_i8 : hT σ i8 13 := gw_T hG hT_a0 (by decide) hr
    refine gx_get 0 (v := .ref (ad i8)) X hG hT_a0.1 (hT_a0.eq (by decide)) (by decide) rfl inX12 (by decide) k_960 (fun _ h => h) (gx_rfv hr) dX12_count_60 ?_
    refine lv_iconst (v := 0) X.1 X.2.1 dX12_count_63 (by decide) ?_
    refine gx_iald X hG hT_i8 hF dX12_count_64 (fun hF => ?_)
    refine lv_ishl X.1 X.2.1 dX12_count_65 ?_
    refine lv_iconst (v := 1) X.1 X.2.1 dX12_count_66 (by decide) ?_
    refine lv_isub X.1 X.2.1 dX12_count_67 ?_
    refine lv_topi (fun x9 ex9 => ?_)
    replace hF := lt_nm hF ex9
    refine lv_istore_n (lv' := [(2, .int x9), (0, .ref (ad a0)), (1, .int a1)]) X.1 X.2.1 dX12_count_68 rfl hl (by decide) rfl (fun ls hl => ?_)
    refine lv_iconst (v := 0) X.1 X.2.1 dX12_count_69 (by decide) ?_
    refine lv_istore_n (lv' := [(3, .int 0), (2, .int x9), (0, .ref (ad a0)), (1, .int a1)]) X.1 X.2.1 dX12_count_70 rfl hl (by decide) rfl (fun ls hl => ?_)
    exact w_X12_count_71 X n  n a0 x9 0 σ _ _ ls hT_a0 hG hS hE (lv_sub hl [2, 1, 0] rfl) hF
  replace hF := it_f hF hc4
  have hz0 := ne_lit hc0 (z := 0) (by decide)
  have hz1 := ne_lit hc1 (z := 1) (by decide)
  have hz2 := ne_lit hc2 (z := 2) (by decide)
  have hz3 := ne_lit hc3 (z := 3) (by decide)
  have hz4 := ne_lit hc4 (z := 4) (by decide)
  refine lv_tableOut (tgt := 99) X.1 X.2.1 dX12_count_1 (by omega) (by decide) ?_
  refine lv_ldc (v := (-1000000001)) X.1 X.2.1 X.2.2.2.2.2.1 (X.w k_1095) dX12_count_99 ?_
  exact gx_iret X hG hS hE hF dX12_count_101
theorem c_X12_voiceOf (l : Launch) (D : va_G) (cA : Nat → ClassId) (base : Nat) (ad : Nat → Nat) (σ : Hp) (n : Nat) (a0 : Nat) (a1 : Int32) (hT_a0 : hT σ a0 12) {τ : Hp} {r : Int32} (hF : F_X12_voiceOf n a0 a1 σ = some (r, τ)) : MI l yX12_voiceOf cX12_voiceOf 5 (some .int) rm_X12_voiceOf D cA base ad σ [.ref (ad a0), .int a1] r τ := by
  refine Met.ofW (cc := cX12_voiceOf) (maxL := 5) (ret := (some .int)) (by decide) rfl ?_
  intro p e s m args below meth c s₁ B hml hv
  obtain ⟨rfl, hv⟩ := hv
  have X : SX D cA base p s m ([.ref (ad a0), .int a1] : List Value).toArray meth c cX12_voiceOf 5 (some .int) RX12 := sx_of B hml hv
  have hG := hv.1
  have hS : va_S (bA base) s.heap s.heap [] := va_S.rf
  have hE := xT.rf σ
  have hl := lv_entry ([.ref (ad a0), .int a1]) (n := 5) (Nat.le_of_ble_eq_true rfl)
  rw [lg_entry_eq]
  generalize (lg_sl ([.ref (ad a0), .int a1]) ++ List.replicate (5 - (lg_sl ([.ref (ad a0), .int a1])).length) Slot.unset).toArray = ls at hl ⊢
  have hl : lv_has ls 5 [(0, .ref (ad a0)), (1, .int a1)] := hl
  unfold F_X12_voiceOf at hF
  refine lv_aload_n X.1 X.2.1 dX12_voiceOf_0 rfl (lv_at hl 0 rfl) ?_
  refine lv_iload_n X.1 X.2.1 dX12_voiceOf_1 rfl (lv_at hl 1 rfl) ?_
  refine lv_iconst (v := 2) X.1 X.2.1 dX12_voiceOf_2 (by decide) ?_
  obtain ⟨r2, σ1, hz, hF⟩ := b2_ex hF
  refine gx_rI (gx_runV (As := [.int a1, .int 2]) (rest := []) X hG hS hT_a0.1 (hT_a0.eq (by decide)) (by decide) rfl (c_X12_get l D cA base ad σ n a0 a1 2 hT_a0 hz) k_1099 k_1096 k_1098 ks_19 k_4 (h_X12_get) rfl rfl ⟨by decide, by decide⟩ rfl hl.1 rfl (Nat.le_of_ble_eq_true rfl) dX12_voiceOf_3 ⟨Nat.zero_le _, Nat.zero_le _⟩) hS (fun H locs hG hS hX => ?_)
  have hT_a0 := hX.T hT_a0
  replace hE := hE.trans hX
  refine lv_istore_n (lv' := [(2, .int r2), (0, .ref (ad a0)), (1, .int a1)]) X.1 X.2.1 dX12_voiceOf_6 rfl hl (by decide) rfl (fun ls hl => ?_)
  refine lv_aload_n X.1 X.2.1 dX12_voiceOf_7 rfl (lv_at hl 1 rfl) ?_
  refine lv_iload_n X.1 X.2.1 dX12_voiceOf_8 rfl (lv_at hl 2 rfl) ?_
  refine lv_bipush (v := 6) X.1 X.2.1 dX12_voiceOf_9 (by decide) ?_
  obtain ⟨r4, σ3, hz, hF⟩ := b2_ex hF
  refine gx_rI (gx_runV (As := [.int a1, .int 6]) (rest := []) X hG hS hT_a0.1 (hT_a0.eq (by decide)) (by decide) rfl (c_X12_get l D cA base ad σ1 n a0 a1 6 hT_a0 hz) k_1099 k_1096 k_1098 ks_19 k_4 (h_X12_get) rfl rfl ⟨by decide, by decide⟩ rfl hl.1 rfl (Nat.le_of_ble_eq_true rfl) dX12_voiceOf_11 ⟨Nat.zero_le _, Nat.zero_le _⟩) hS (fun H locs hG hS hX => ?_)
  have hT_a0 := hX.T hT_a0
  replace hE := hE.trans hX
  obtain ⟨r6, σ5, hz, hF⟩ := b2_ex hF
  refine gx_rI (gx_runS (As := [.int r4]) (rest := []) X hG hS (c_X12_bits l D cA base ad σ3 n r4 hz) k_1322 k_1320 k_1321 k_4 (h_X12_bits.2) rfl rfl ⟨by decide, by decide⟩ rfl hl.1 rfl (Nat.le_of_ble_eq_true rfl) dX12_voiceOf_14 ⟨Nat.zero_le _, Nat.zero_le _⟩) hS (fun H locs hG hS hX => ?_)
  have hT_a0 := hX.T hT_a0
  replace hE := hE.trans hX
  refine lv_istore_n (lv' := [(3, .int r6), (2, .int r2), (0, .ref (ad a0)), (1, .int a1)]) X.1 X.2.1 dX12_voiceOf_17 rfl hl (by decide) rfl (fun ls hl => ?_)
  refine lv_aload_n X.1 X.2.1 dX12_voiceOf_18 rfl (lv_at hl 2 rfl) ?_
  refine lv_iload_n X.1 X.2.1 dX12_voiceOf_19 rfl (lv_at hl 3 rfl) ?_
  refine lv_iconst (v := 1) X.1 X.2.1 dX12_voiceOf_20 (by decide) ?_
  obtain ⟨r8, σ7, hz, hF⟩ := b2_ex hF
  refine gx_rI (gx_runV (As := [.int a1, .int 1]) (rest := []) X hG hS hT_a0.1 (hT_a0.eq (by decide)) (by decide) rfl (c_X12_get l D cA base ad σ5 n a0 a1 1 hT_a0 hz) k_1099 k_1096 k_1098 ks_19 k_4 (h_X12_get) rfl rfl ⟨by decide, by decide⟩ rfl hl.1 rfl (Nat.le_of_ble_eq_true rfl) dX12_voiceOf_21 ⟨Nat.zero_le _, Nat.zero_le _⟩) hS (fun H locs hG hS hX => ?_)
  have hT_a0 := hX.T hT_a0
  replace hE := hE.trans hX
  refine lv_istore (lv' := [(4, .int r8), (3, .int r6), (2, .int r2), (0, .ref (ad a0)), (1, .int a1)]) X.1 X.2.1 dX12_voiceOf_24 hl (by decide) rfl (fun ls hl => ?_)
  refine lv_aload_n X.1 X.2.1 dX12_voiceOf_26 rfl (lv_at hl 3 rfl) ?_
  refine lv_iload_n X.1 X.2.1 dX12_voiceOf_27 rfl (lv_at hl 4 rfl) ?_
  refine lv_iconst (v := 0) X.1 X.2.1 dX12_voiceOf_28 (by decide) ?_
  obtain ⟨r10, σ9, hz, hF⟩ := b2_ex hF
  refine gx_rI (gx_runV (As := [.int a1, .int 0]) (rest := []) X hG hS hT_a0.1 (hT_a0.eq (by decide)) (by decide) rfl (c_X12_get l D cA base ad σ7 n a0 a1 0 hT_a0 hz) k_1099 k_1096 k_1098 ks_19 k_4 (h_X12_get) rfl rfl ⟨by decide, by decide⟩ rfl hl.1 rfl (Nat.le_of_ble_eq_true rfl) dX12_voiceOf_29 ⟨Nat.zero_le _, Nat.zero_le _⟩) hS (fun H locs hG hS hX => ?_)
  have hT_a0 := hX.T hT_a0
  replace hE := hE.trans hX
  by_cases hc0 : r10 = 1
  · replace hF := it_t hF hc0
    refine lv_tableIn (tgt := 76) X.1 X.2.1 dX12_voiceOf_32 (by rw [hc0]; decide) (by rw [hc0]; decide) (by rw [hc0]; rfl) (by decide) ?_
    refine lv_iload_n X.1 X.2.1 dX12_voiceOf_76 rfl (lv_at hl 2 rfl) ?_
    refine lv_iload_n X.1 X.2.1 dX12_voiceOf_77 rfl (lv_at hl 1 rfl) ?_
    refine lv_iadd X.1 X.2.1 dX12_voiceOf_78 ?_
    exact gx_iret X hG hS hE hF dX12_voiceOf_79
  replace hF := it_f hF hc0
  by_cases hc1 : r10 = 2
  · replace hF := it_t hF hc1
    refine lv_tableIn (tgt := 80) X.1 X.2.1 dX12_voiceOf_32 (by rw [hc1]; decide) (by rw [hc1]; decide) (by rw [hc1]; rfl) (by decide) ?_
    refine lv_iload_n X.1 X.2.1 dX12_voiceOf_80 rfl (lv_at hl 2 rfl) ?_
    refine lv_iload X.1 X.2.1 dX12_voiceOf_81 (lv_at hl 0 rfl) ?_
    refine lv_iadd X.1 X.2.1 dX12_voiceOf_83 ?_
    exact gx_iret X hG hS hE hF dX12_voiceOf_84
  replace hF := it_f hF hc1
  by_cases hc2 : r10 = 3
  · replace hF := it_t hF hc2
    refine lv_tableIn (tgt := 85) X.1 X.2.1 dX12_voiceOf_32 (by rw [hc2]; decide) (by rw [hc2]; decide) (by rw [hc2]; rfl) (by decide) ?_
    refine lv_iconst (v := 2) X.1 X.2.1 dX12_voiceOf_85 (by decide) ?_
    refine lv_iload_n X.1 X.2.1 dX12_voiceOf_86 rfl (lv_at hl 2 rfl) ?_
    refine lv_iload X.1 X.2.1 dX12_voiceOf_87 (lv_at hl 0 rfl) ?_
    refine lv_iadd X.1 X.2.1 dX12_voiceOf_89 ?_
    refine lv_imul X.1 X.2.1 dX12_voiceOf_90 ?_
    exact gx_iret X hG hS hE hF dX12_voiceOf_91
  replace hF := it_f hF hc2
  by_cases hc3 : r10 = 4
  · replace hF := it_t hF hc3
    refine lv_tableIn (tgt := 92) X.1 X.2.1 dX12_voiceOf_32 (by rw [hc3]; decide) (by rw [hc3]; decide) (by rw [hc3]; rfl) (by decide) ?_
    refine lv_iload_n X.1 X.2.1 dX12_voiceOf_92 rfl (lv_at hl 2 rfl) ?_
    refine lv_iload_n X.1 X.2.1 dX12_voiceOf_93 rfl (lv_at hl 1 rfl) ?_
    refine lv_iadd X.1 X.2.1 dX12_voiceOf_94 ?_
    refine lv_iconst (v := 5) X.1 X.2.1 dX12_voiceOf_95 (by decide) ?_
    refine lv_iadd X.1 X.2.1 dX12_voiceOf_96 ?_
    exact gx_iret X hG hS hE hF dX12_voiceOf_97
  replace hF := it_f hF hc3
  by_cases hc4 : r10 = 5
  · replace hF := it_t hF hc4
    refine lv_tableIn (tgt := 98) X.1 X.2.1 dX12_voiceOf_32 (by rw [hc4]; decide) (by rw [hc4]; decide) (by rw [hc4]; rfl) (by decide) ?_
    refine lv_iload_n X.1 X.2.1 dX12_voiceOf_98 rfl (lv_at hl 2 rfl) ?_
    refine lv_bipush (v := 10) X.1 X.2.1 dX12_voiceOf_99 (by decide) ?_
    refine lv_iadd X.1 X.2.1 dX12_voiceOf_101 ?_
    exact gx_iret X hG hS hE hF dX12_voiceOf_102
  replace hF := it_f hF hc4
  by_cases hc5 : r10 = 6
  · replace hF := it_t hF hc5
    refine lv_tableIn (tgt := 103) X.1 X.2.1 dX12_voiceOf_32 (by rw [hc5]; decide) (by rw [hc5]; decide) (by rw [hc5]; rfl) (by decide) ?_
    refine lv_iload_n X.1 X.2.1 dX12_voiceOf_103 rfl (lv_at hl 2 rfl) ?_
    refine lv_iconst (v := 1) X.1 X.2.1 dX12_voiceOf_104 (by decide) ?_
    refine lv_isub X.1 X.2.1 dX12_voiceOf_105 ?_
    exact gx_iret X hG hS hE hF dX12_voiceOf_106
  replace hF := it_f hF hc5
  by_cases hc6 : r10 = 7
  · replace hF := it_t hF hc6
    refine lv_tableIn (tgt := 107) X.1 X.2.1 dX12_voiceOf_32 (by rw [hc6]; decide) (by rw [hc6]; decide) (by rw [hc6]; rfl) (by decide) ?_
    refine lv_iload_n X.1 X.2.1 dX12_voiceOf_107 rfl (lv_at hl 2 rfl) ?_
    refine lv_iconst (v := 1) X.1 X.2.1 dX12_voiceOf_108 (by decide) ?_
    refine lv_isub X.1 X.2.1 dX12_voiceOf_109 ?_
    refine lv_aload_n X.1 X.2.1 dX12_voiceOf_110 rfl (lv_at hl 3 rfl) ?_
    refine lv_iload_n X.1 X.2.1 dX12_voiceOf_111 rfl (lv_at hl 4 rfl) ?_
    refine lv_iconst (v := 4) X.1 X.2.1 dX12_voiceOf_112 (by decide) ?_
    obtain ⟨r12, σ11, hz, hF⟩ := b2_ex hF
    refine gx_rI (gx_runV (As := [.int a1, .int 4]) (rest := [.int (r2 - 1)]) X hG hS hT_a0.1 (hT_a0.eq (by decide)) (by decide) rfl (c_X12_get l D cA base ad σ9 n a0 a1 4 hT_a0 hz) k_1099 k_1096 k_1098 ks_19 k_4 (h_X12_get) rfl rfl ⟨by decide, by decide⟩ rfl hl.1 rfl (Nat.le_of_ble_eq_true rfl) dX12_voiceOf_113 ⟨Nat.zero_le _, Nat.zero_le _⟩) hS (fun H locs hG hS hX => ?_)
    have hT_a0 := hX.T hT_a0
    replace hE := hE.trans hX
    refine lv_iadd X.1 X.2.1 dX12_voiceOf_116 ?_
    exact gx_iret X hG hS hE hF dX12_voiceOf_117
  replace hF := it_f hF hc6
  have hz0 := ne_lit hc0 (z := 1) (by decide)
  have hz1 := ne_lit hc1 (z := 2) (by decide)
  have hz2 := ne_lit hc2 (z := 3) (by decide)
  have hz3 := ne_lit hc3 (z := 4) (by decide)
  have hz4 := ne_lit hc4 (z := 5) (by decide)
  have hz5 := ne_lit hc5 (z := 6) (by decide)
  have hz6 := ne_lit hc6 (z := 7) (by decide)
  refine lv_tableOut (tgt := 118) X.1 X.2.1 dX12_voiceOf_32 (by omega) (by decide) ?_
  refine lv_iload_n X.1 X.2.1 dX12_voiceOf_118 rfl (lv_at hl 2 rfl) ?_
  exact gx_iret X hG hS hE hF dX12_voiceOf_119
theorem w_X12_keep_130 {σ0 τ : Hp} {r : Int32} (X : SX D cA base p s m args meth c cX12_keep 5 (some .int) RX12) (n : Nat)  : ∀ (s0 : Int32) (s1 : Int32) (s2 : Nat) (σ : Hp) (H : Heap) (locs : List Loc) (ls : Array Slot), hT σ s2 13 → GW D cA base ad σ H → va_S (bA base) s.heap H locs → xT σ0 σ → lv_has ls 5 [] → F_X12_keep_130 n  s0 s1 s2 σ = some (r, τ) → W p l e rm_X12_keep s m args below meth c H locs 0 0 (ZI below s args D cA base ad σ0 r τ) (F0 m 130 ls [.int s0, .int s1, .ref (ad s2)]) := by
  intro s0 s1 s2 σ H locs ls hT_s2 hG hS hE hl hF
  unfold F_X12_keep_130 at hF
  refine gx_iast X hG hS hT_s2 hF dX12_keep_130 (fun σ1 H locs hG hS hX hF => ?_)
  replace hE := hE.trans hX
  refine lv_iconst (v := 0) X.1 X.2.1 dX12_keep_131 (by decide) ?_
  exact gx_iret X hG hS hE hF dX12_keep_132
theorem w_X12_keep_92 {σ0 τ : Hp} {r : Int32} (X : SX D cA base p s m args meth c cX12_keep 5 (some .int) RX12) (n : Nat)  : ∀ (s0 : Int32) (s1 : Nat) (σ : Hp) (H : Heap) (locs : List Loc) (ls : Array Slot), hT σ s1 13 → GW D cA base ad σ H → va_S (bA base) s.heap H locs → xT σ0 σ → lv_has ls 5 [] → F_X12_keep_92 n  s0 s1 σ = some (r, τ) → W p l e rm_X12_keep s m args below meth c H locs 0 0 (ZI below s args D cA base ad σ0 r τ) (F0 m 92 ls [.int s0, .ref (ad s1)]) := by
  intro s0 s1 σ H locs ls hT_s1 hG hS hE hl hF
  unfold F_X12_keep_92 at hF
  refine lv_bipush (v := (-15)) X.1 X.2.1 dX12_keep_92 (by decide) ?_
  refine lv_goto (tgt := 130) X.1 X.2.1 dX12_keep_94 (by decide) ?_
  exact w_X12_keep_130 X n  (-15) s0 s1 σ _ _ ls hT_s1 hG hS hE (lv_sub hl [] rfl) hF
theorem w_X12_keep_32 {σ0 τ : Hp} {r : Int32} (X : SX D cA base p s m args meth c cX12_keep 5 (some .int) RX12) (n : Nat)  : ∀ (v0 : Nat) (v1 : Int32) (v2 : Int32) (v3 : Int32) (σ : Hp) (H : Heap) (locs : List Loc) (ls : Array Slot), hT σ v0 12 → GW D cA base ad σ H → va_S (bA base) s.heap H locs → xT σ0 σ → lv_has ls 5 [(0, .ref (ad v0)), (1, .int v1), (2, .int v2), (3, .int v3)] → F_X12_keep_32 n  v0 v1 v2 v3 σ = some (r, τ) → W p l e rm_X12_keep s m args below meth c H locs 0 0 (ZI below s args D cA base ad σ0 r τ) (F0 m 32 ls []) := by
  intro v0 v1 v2 v3 σ H locs ls hT_v0 hG hS hE hl hF
  unfold F_X12_keep_32 at hF
  refine lv_aload_n X.1 X.2.1 dX12_keep_32 rfl (lv_at hl 0 rfl) ?_
  obtain ⟨i2, hr, hF⟩ := b1_ex hF
  have hT_i2 : hT σ i2 13 := gw_T hG hT_v0 (by decide) hr
  refine gx_get 7 (v := .ref (ad i2)) X hG hT_v0.1 (hT_v0.eq (by decide)) (by decide) rfl inX12 (by decide) k_967 (fun _ h => h) (gx_rfv hr) dX12_keep_33 ?_
  refine lv_iload_n X.1 X.2.1 dX12_keep_36 rfl (lv_at hl 1 rfl) ?_
  refine lv_iload_n X.1 X.2.1 dX12_keep_37 rfl (lv_at hl 2 rfl) ?_
  refine gx_iast X hG hS hT_i2 hF dX12_keep_38 (fun σ3 H locs hG hS hX hF => ?_)
  have hT_v0 := hX.T hT_v0
  replace hE := hE.trans hX
  refine lv_iload_n X.1 X.2.1 dX12_keep_39 rfl (lv_at hl 2 rfl) ?_
  refine lv_if_ne (tgt := 45) X.1 X.2.1 dX12_keep_40 (by decide) (fun hc => ?_) (fun hc => ?_)
  · replace hF := it_f hF hc
    refine lv_aload_n X.1 X.2.1 dX12_keep_45 rfl (lv_at hl 0 rfl) ?_
    refine lv_iload_n X.1 X.2.1 dX12_keep_46 rfl (lv_at hl 3 rfl) ?_
    refine lv_iconst (v := 0) X.1 X.2.1 dX12_keep_47 (by decide) ?_
    obtain ⟨r5, σ4, hz, hF⟩ := b2_ex hF
    refine gx_rI (gx_runV (As := [.int v3, .int 0]) (rest := []) X hG hS hT_v0.1 (hT_v0.eq (by decide)) (by decide) rfl (c_X12_get l D cA base ad σ3 n v0 v3 0 hT_v0 hz) k_1099 k_1096 k_1098 ks_19 k_4 (h_X12_get) rfl rfl ⟨by decide, by decide⟩ rfl hl.1 rfl (Nat.le_of_ble_eq_true rfl) dX12_keep_48 ⟨Nat.zero_le _, Nat.zero_le _⟩) hS (fun H locs hG hS hX => ?_)
    have hT_v0 := hX.T hT_v0
    replace hE := hE.trans hX
    refine lv_istore (lv' := [(4, .int r5), (0, .ref (ad v0)), (1, .int v1), (2, .int v2), (3, .int v3)]) X.1 X.2.1 dX12_keep_51 hl (by decide) rfl (fun ls hl => ?_)
    refine lv_aload_n X.1 X.2.1 dX12_keep_53 rfl (lv_at hl 1 rfl) ?_
    obtain ⟨i6, hr, hF⟩ := b1_ex hF
    have hT_i6 : hT σ4 i6 13 := gw_T hG hT_v0 (by decide) hr
    refine gx_get 11 (v := .ref (ad i6)) X hG hT_v0.1 (hT_v0.eq (by decide)) (by decide) rfl inX12 (by decide) k_971 (fun _ h => h) (gx_rfv hr) dX12_keep_54 ?_
    refine lv_iload_n X.1 X.2.1 dX12_keep_57 rfl (lv_at hl 2 rfl) ?_
    refine lv_aload_n X.1 X.2.1 dX12_keep_58 rfl (lv_at hl 1 rfl) ?_
    refine lv_iload_n X.1 X.2.1 dX12_keep_59 rfl (lv_at hl 4 rfl) ?_
    obtain ⟨r8, σ7, hz, hF⟩ := b2_ex hF
    refine gx_rI (gx_runV (As := [.int v3]) (rest := [.int v1, .ref (ad i6)]) X hG hS hT_v0.1 (hT_v0.eq (by decide)) (by decide) rfl (c_X12_voiceOf l D cA base ad σ4 n v0 v3 hT_v0 hz) k_1354 k_1351 k_1353 ks_54 k_4 (h_X12_voiceOf) rfl rfl ⟨by decide, by decide⟩ rfl hl.1 rfl (Nat.le_of_ble_eq_true rfl) dX12_keep_60 ⟨Nat.zero_le _, Nat.zero_le _⟩) hS (fun H locs hG hS hX => ?_)
    have hT_v0 := hX.T hT_v0
    have hT_i6 := hX.T hT_i6
    replace hE := hE.trans hX
    refine gx_iast X hG hS hT_i6 hF dX12_keep_63 (fun σ9 H locs hG hS hX hF => ?_)
    have hT_v0 := hX.T hT_v0
    replace hE := hE.trans hX
    refine lv_aload_n X.1 X.2.1 dX12_keep_64 rfl (lv_at hl 1 rfl) ?_
    obtain ⟨i10, hr, hF⟩ := b1_ex hF
    have hT_i10 : hT σ9 i10 13 := gw_T hG hT_v0 (by decide) hr
    refine gx_get 12 (v := .ref (ad i10)) X hG hT_v0.1 (hT_v0.eq (by decide)) (by decide) rfl inX12 (by decide) k_972 (fun _ h => h) (gx_rfv hr) dX12_keep_65 ?_
    refine lv_iload_n X.1 X.2.1 dX12_keep_68 rfl (lv_at hl 2 rfl) ?_
    refine lv_iload X.1 X.2.1 dX12_keep_69 (lv_at hl 0 rfl) ?_
    refine lv_bipush (v := 6) X.1 X.2.1 dX12_keep_71 (by decide) ?_
    refine lv_icmp_eq (tgt := 92) X.1 X.2.1 dX12_keep_73 (by decide) (fun hc => ?_) (fun hc => ?_)
    · replace hF := it_t hF hc
      exact w_X12_keep_92 X n  v1 i10 σ9 _ _ ls hT_i10 hG hS hE (lv_sub hl [] rfl) hF
    · replace hF := it_f hF hc
      refine lv_iload X.1 X.2.1 dX12_keep_76 (lv_at hl 0 rfl) ?_
      refine lv_bipush (v := 7) X.1 X.2.1 dX12_keep_78 (by decide) ?_
      refine lv_icmp_eq (tgt := 92) X.1 X.2.1 dX12_keep_80 (by decide) (fun hc => ?_) (fun hc => ?_)
      · replace hF := it_t hF hc
        exact w_X12_keep_92 X n  v1 i10 σ9 _ _ ls hT_i10 hG hS hE (lv_sub hl [] rfl) hF
      · replace hF := it_f hF hc
        refine lv_aload_n X.1 X.2.1 dX12_keep_83 rfl (lv_at hl 1 rfl) ?_
        refine lv_iload_n X.1 X.2.1 dX12_keep_84 rfl (lv_at hl 4 rfl) ?_
        refine lv_iconst (v := 1) X.1 X.2.1 dX12_keep_85 (by decide) ?_
        obtain ⟨r12, σ11, hz, hF⟩ := b2_ex hF
        refine gx_rI (gx_runV (As := [.int v3, .int 1]) (rest := [.int v1, .ref (ad i10)]) X hG hS hT_v0.1 (hT_v0.eq (by decide)) (by decide) rfl (c_X12_get l D cA base ad σ9 n v0 v3 1 hT_v0 hz) k_1099 k_1096 k_1098 ks_19 k_4 (h_X12_get) rfl rfl ⟨by decide, by decide⟩ rfl hl.1 rfl (Nat.le_of_ble_eq_true rfl) dX12_keep_86 ⟨Nat.zero_le _, Nat.zero_le _⟩) hS (fun H locs hG hS hX => ?_)
        have hT_v0 := hX.T hT_v0
        have hT_i10 := hX.T hT_i10
        replace hE := hE.trans hX
        refine lv_if_ne (tgt := 97) X.1 X.2.1 dX12_keep_89 (by decide) (fun hc => ?_) (fun hc => ?_)
        · replace hF := it_f hF hc
          refine lv_iload X.1 X.2.1 dX12_keep_97 (lv_at hl 0 rfl) ?_
          refine lv_iconst (v := 3) X.1 X.2.1 dX12_keep_99 (by decide) ?_
          refine lv_icmp_ne (tgt := 110) X.1 X.2.1 dX12_keep_100 (by decide) (fun hc => ?_) (fun hc => ?_)
          · replace hF := it_f hF hc
            refine lv_iload X.1 X.2.1 dX12_keep_110 (lv_at hl 0 rfl) ?_
            refine lv_iconst (v := 4) X.1 X.2.1 dX12_keep_112 (by decide) ?_
            refine lv_icmp_ne (tgt := 129) X.1 X.2.1 dX12_keep_113 (by decide) (fun hc => ?_) (fun hc => ?_)
            · replace hF := it_f hF hc
              refine lv_iload_n X.1 X.2.1 dX12_keep_129 rfl (lv_at hl 4 rfl) ?_
              exact w_X12_keep_130 X n  v3 v1 i10 σ11 _ _ ls hT_i10 hG hS hE (lv_sub hl [] rfl) hF
            · replace hF := it_t hF hc
              refine lv_sipush (v := 200) X.1 X.2.1 dX12_keep_116 (by decide) ?_
              refine lv_aload_n X.1 X.2.1 dX12_keep_119 rfl (lv_at hl 1 rfl) ?_
              refine lv_iload_n X.1 X.2.1 dX12_keep_120 rfl (lv_at hl 4 rfl) ?_
              refine lv_iconst (v := 1) X.1 X.2.1 dX12_keep_121 (by decide) ?_
              obtain ⟨r14, σ13, hz, hF⟩ := b2_ex hF
              refine gx_rI (gx_runV (As := [.int v3, .int 1]) (rest := [.int 200, .int v1, .ref (ad i10)]) X hG hS hT_v0.1 (hT_v0.eq (by decide)) (by decide) rfl (c_X12_get l D cA base ad σ11 n v0 v3 1 hT_v0 hz) k_1099 k_1096 k_1098 ks_19 k_4 (h_X12_get) rfl rfl ⟨by decide, by decide⟩ rfl hl.1 rfl (Nat.le_of_ble_eq_true rfl) dX12_keep_122 ⟨Nat.zero_le _, Nat.zero_le _⟩) hS (fun H locs hG hS hX => ?_)
              have hT_v0 := hX.T hT_v0
              have hT_i10 := hX.T hT_i10
              replace hE := hE.trans hX
              refine lv_iadd X.1 X.2.1 dX12_keep_125 ?_
              refine lv_goto (tgt := 130) X.1 X.2.1 dX12_keep_126 (by decide) ?_
              exact w_X12_keep_130 X n  (200 + r14) v1 i10 σ13 _ _ ls hT_i10 hG hS hE (lv_sub hl [] rfl) hF
          · replace hF := it_t hF hc
            refine lv_bipush (v := 100) X.1 X.2.1 dX12_keep_103 (by decide) ?_
            refine lv_iload_n X.1 X.2.1 dX12_keep_105 rfl (lv_at hl 4 rfl) ?_
            refine lv_iadd X.1 X.2.1 dX12_keep_106 ?_
            refine lv_goto (tgt := 130) X.1 X.2.1 dX12_keep_107 (by decide) ?_
            exact w_X12_keep_130 X n  (100 + v3) v1 i10 σ11 _ _ ls hT_i10 hG hS hE (lv_sub hl [] rfl) hF
        · replace hF := it_t hF hc
          exact w_X12_keep_92 X n  v1 i10 σ11 _ _ ls hT_i10 hG hS hE (lv_sub hl [] rfl) hF
  · replace hF := it_t hF hc
    refine lv_iconst (v := 0) X.1 X.2.1 dX12_keep_43 (by decide) ?_
    exact gx_iret X hG hS hE hF dX12_keep_44
theorem c_X12_keep (l : Launch) (D : va_G) (cA : Nat → ClassId) (base : Nat) (ad : Nat → Nat) (σ : Hp) (n : Nat) (a0 : Nat) (a1 : Int32) (a2 : Int32) (a3 : Int32) (hT_a0 : hT σ a0 12) {τ : Hp} {r : Int32} (hF : F_X12_keep n a0 a1 a2 a3 σ = some (r, τ)) : MI l yX12_keep cX12_keep 5 (some .int) rm_X12_keep D cA base ad σ [.ref (ad a0), .int a1, .int a2, .int a3] r τ := by
  refine Met.ofW (cc := cX12_keep) (maxL := 5) (ret := (some .int)) (by decide) rfl ?_
  intro p e s m args below meth c s₁ B hml hv
  obtain ⟨rfl, hv⟩ := hv
  have X : SX D cA base p s m ([.ref (ad a0), .int a1, .int a2, .int a3] : List Value).toArray meth c cX12_keep 5 (some .int) RX12 := sx_of B hml hv
  have hG := hv.1
  have hS : va_S (bA base) s.heap s.heap [] := va_S.rf
  have hE := xT.rf σ
  have hl := lv_entry ([.ref (ad a0), .int a1, .int a2, .int a3]) (n := 5) (Nat.le_of_ble_eq_true rfl)
  rw [lg_entry_eq]
  generalize (lg_sl ([.ref (ad a0), .int a1, .int a2, .int a3]) ++ List.replicate (5 - (lg_sl ([.ref (ad a0), .int a1, .int a2, .int a3])).length) Slot.unset).toArray = ls at hl ⊢
  have hl : lv_has ls 5 [(0, .ref (ad a0)), (1, .int a1), (2, .int a2), (3, .int a3)] := hl
  unfold F_X12_keep at hF
  refine lv_iload_n X.1 X.2.1 dX12_keep_0 rfl (lv_at hl 1 rfl) ?_
  obtain ⟨r16, σ15, hz, hF⟩ := b2_ex hF
  refine gx_rI (gx_runS (As := [.int a1]) (rest := []) X hG hS (c_X12_isShelf l D cA base ad σ n a1 hz) k_1110 k_1108 k_1109 k_4 (h_X12_isShelf.2) rfl rfl ⟨by decide, by decide⟩ rfl hl.1 rfl (Nat.le_of_ble_eq_true rfl) dX12_keep_1 ⟨Nat.zero_le _, Nat.zero_le _⟩) hS (fun H locs hG hS hX => ?_)
  have hT_a0 := hX.T hT_a0
  replace hE := hE.trans hX
  refine lv_if_eq (tgt := 30) X.1 X.2.1 dX12_keep_4 (by decide) (fun hc => ?_) (fun hc => ?_)
  · replace hF := it_t hF hc
    refine lv_iconst (v := (-1)) X.1 X.2.1 dX12_keep_30 (by decide) ?_
    exact gx_iret X hG hS hE hF dX12_keep_31
  · replace hF := it_f hF hc
    refine lv_iload_n X.1 X.2.1 dX12_keep_7 rfl (lv_at hl 2 rfl) ?_
    refine lv_i2l X.1 X.2.1 dX12_keep_8 rfl ?_
    refine lv_lconst (v := 0) X.1 X.2.1 dX12_keep_9 (by decide) ?_
    refine lv_lconst (v := 1) X.1 X.2.1 dX12_keep_10 (by decide) ?_
    obtain ⟨r18, σ17, hz, hF⟩ := b2_ex hF
    refine gx_rI (gx_runS (As := [.long a2.toInt64, .long 0, .long 1]) (rest := []) X hG hS (c_X12_isIn l D cA base ad σ15 n a2.toInt64 0 1 hz) k_1063 k_1061 k_1062 k_4 (h_X12_isIn.2) rfl rfl ⟨by decide, by decide⟩ rfl hl.1 rfl (Nat.le_of_ble_eq_true rfl) dX12_keep_11 ⟨Nat.zero_le _, Nat.zero_le _⟩) hS (fun H locs hG hS hX => ?_)
    have hT_a0 := hX.T hT_a0
    replace hE := hE.trans hX
    refine lv_if_eq (tgt := 30) X.1 X.2.1 dX12_keep_14 (by decide) (fun hc => ?_) (fun hc => ?_)
    · replace hF := it_t hF hc
      refine lv_iconst (v := (-1)) X.1 X.2.1 dX12_keep_30 (by decide) ?_
      exact gx_iret X hG hS hE hF dX12_keep_31
    · replace hF := it_f hF hc
      refine lv_iload_n X.1 X.2.1 dX12_keep_17 rfl (lv_at hl 2 rfl) ?_
      refine lv_iconst (v := 1) X.1 X.2.1 dX12_keep_18 (by decide) ?_
      refine lv_icmp_ne (tgt := 32) X.1 X.2.1 dX12_keep_19 (by decide) (fun hc => ?_) (fun hc => ?_)
      · replace hF := it_f hF hc
        exact w_X12_keep_32 X n  a0 a1 a2 a3 σ17 _ _ ls hT_a0 hG hS hE (lv_sub hl [0, 1, 2, 3] rfl) hF
      · replace hF := it_t hF hc
        refine lv_aload_n X.1 X.2.1 dX12_keep_22 rfl (lv_at hl 0 rfl) ?_
        refine lv_iload_n X.1 X.2.1 dX12_keep_23 rfl (lv_at hl 3 rfl) ?_
        obtain ⟨r20, σ19, hz, hF⟩ := b2_ex hF
        refine gx_rI (gx_runV (As := [.int a3]) (rest := []) X hG hS hT_a0.1 (hT_a0.eq (by decide)) (by decide) rfl (c_X12_isJuror l D cA base ad σ17 n a0 a3 hT_a0 hz) k_1081 k_1078 k_1080 ks_16 k_4 (h_X12_isJuror) rfl rfl ⟨by decide, by decide⟩ rfl hl.1 rfl (Nat.le_of_ble_eq_true rfl) dX12_keep_24 ⟨Nat.zero_le _, Nat.zero_le _⟩) hS (fun H locs hG hS hX => ?_)
        have hT_a0 := hX.T hT_a0
        replace hE := hE.trans hX
        refine lv_if_ne (tgt := 32) X.1 X.2.1 dX12_keep_27 (by decide) (fun hc => ?_) (fun hc => ?_)
        · replace hF := it_f hF hc
          exact w_X12_keep_32 X n  a0 a1 a2 a3 σ19 _ _ ls hT_a0 hG hS hE (lv_sub hl [0, 1, 2, 3] rfl) hF
        · replace hF := it_t hF hc
          refine lv_iconst (v := (-1)) X.1 X.2.1 dX12_keep_30 (by decide) ?_
          exact gx_iret X hG hS hE hF dX12_keep_31
end W_model13
