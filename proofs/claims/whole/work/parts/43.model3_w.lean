/-! model3: printed by wip/whole/gen.py -/
section W_model3
variable {p : Program} {l : Launch} {e : Env} {s : State} {m : MethodId} {args : Array Value} {below : List Frame} {meth : Method} {c : Code} {D : va_G} {cA : Nat → ClassId} {base : Nat} {ad : Nat → Nat}
abbrev rm_X12_law : Room := { frames := 31, cells := 0, slots := 0, locals := 668 }
theorem h_X12_law : yX12_law.cls = RX12 ∧ yX12_law.cls ≠ "java/lang/invoke/MethodHandle" ∧ yX12_law.cls ≠ "java/lang/invoke/VarHandle" ∧ (parseMethodDescriptor yX12_law.desc).map (fun d => d.parameters.length) = some 1 := by decide +kernel
def F_X12_law_90 (n : Nat)  (v0 : Nat) (σ : Hp) : Option (Int32 × Hp) := some ((-100) - (hI σ v0 16), σ)
def F_X12_law_141 (n : Nat)  (v0 : Nat) (σ : Hp) : Option (Int32 × Hp) := b1 (hR σ v0 0) fun (i1 : Nat) => b1 (hR σ v0 0) fun (i2 : Nat) => ck (¬ ((2 : Int32) < 0 ∨ hL σ i2 ≤ (2 : Int32).toNatClampNeg)) (ck (¬ ((103 + (hI σ i2 (2 : Int32).toNatClampNeg)) < 0 ∨ hL σ i1 ≤ (103 + (hI σ i2 (2 : Int32).toNatClampNeg)).toNatClampNeg)) (lt (pI σ i1 (103 + (hI σ i2 (2 : Int32).toNatClampNeg)).toNatClampNeg (hI σ v0 18)) fun (σ3 : Hp) => b1 (hR σ3 v0 0) fun (i4 : Nat) => ck (¬ ((2 : Int32) < 0 ∨ hL σ3 i4 ≤ (2 : Int32).toNatClampNeg)) (ck (¬ ((2 : Int32) < 0 ∨ hL σ3 i4 ≤ (2 : Int32).toNatClampNeg)) (lt (pI σ3 i4 (2 : Int32).toNatClampNeg ((hI σ3 i4 (2 : Int32).toNatClampNeg) + 1)) fun (σ5 : Hp) => b1 (hR σ5 v0 0) fun (i6 : Nat) => ck (¬ ((2 : Int32) < 0 ∨ hL σ5 i6 ≤ (2 : Int32).toNatClampNeg)) (some ((hI σ5 i6 (2 : Int32).toNatClampNeg) - 1, σ5))))))
def F_X12_law_100 (n : Nat)  : Nat → Nat → Int32 → Hp → Option (Int32 × Hp)
  | 0, _, _, _ => none
  | f + 1, v0, v3, σ => if (hI σ v0 18) ≤ v3 then (F_X12_law_141 n  v0 σ) else (b1 (hR σ v0 2) fun (i7 : Nat) => b1 (hR σ v0 0) fun (i8 : Nat) => ck (¬ ((2 : Int32) < 0 ∨ hL σ i8 ≤ (2 : Int32).toNatClampNeg)) (b1 (hR σ v0 10) fun (i9 : Nat) => ck (¬ (((hI σ v0 17) + v3) < 0 ∨ hL σ i9 ≤ ((hI σ v0 17) + v3).toNatClampNeg)) (ck (¬ (((100 * (hI σ i8 (2 : Int32).toNatClampNeg)) + v3) < 0 ∨ hL σ i7 ≤ ((100 * (hI σ i8 (2 : Int32).toNatClampNeg)) + v3).toNatClampNeg)) (lt (pI σ i7 ((100 * (hI σ i8 (2 : Int32).toNatClampNeg)) + v3).toNatClampNeg (hI σ i9 ((hI σ v0 17) + v3).toNatClampNeg)) fun (σ10 : Hp) => (F_X12_law_100 n  f) v0 (v3 + 1) σ10))))
def F_X12_law (n : Nat) (a0 : Nat) (a1 : Int32) (σ : Hp) : Option (Int32 × Hp) := b2 (F_X12_isShelf n a1 σ) fun (r12 : Int32) (σ11 : Hp) => if r12 = 0 then (some ((-1), σ11)) else (b1 (hR σ11 a0 0) fun (i13 : Nat) => ck (¬ ((2 : Int32) < 0 ∨ hL σ11 i13 ≤ (2 : Int32).toNatClampNeg)) (if (hI σ11 i13 (2 : Int32).toNatClampNeg) = 6 then (some ((-2), σ11)) else (b2 (F_X12_wrongRow n a0 a1 0 σ11) fun (r15 : Int32) (σ14 : Hp) => if r15 = 0 then (b1 (hR σ14 a0 10) fun (i16 : Nat) => lt (pR σ14 a0 15 (some i16)) fun (σ17 : Hp) => lt (pI σ17 a0 17 (100 * a1)) fun (σ18 : Hp) => b1 (hR σ18 a0 9) fun (i19 : Nat) => ck (¬ (a1 < 0 ∨ hL σ18 i19 ≤ a1.toNatClampNeg)) (lt (pI σ18 a0 18 (hI σ18 i19 a1.toNatClampNeg)) fun (σ20 : Hp) => lt (pI σ20 a0 16 0) fun (σ21 : Hp) => lt (pI σ21 a0 19 0) fun (σ22 : Hp) => b2 (F_X12_readsSum n 8 a0 σ22) fun (r24 : Int32) (σ23 : Hp) => if r24 = 0 then (F_X12_law_90 n  a0 σ23) else (if (hI σ23 a0 16) = (hI σ23 a0 18) then (F_X12_law_100 n  n a0 0 σ23) else (F_X12_law_90 n  a0 σ23)))) else (some (r15, σ14)))))
abbrev rmr_X12_sum (d : Nat) : Room := { frames := 3 * d + 6, cells := 0, slots := 0, locals := 69 * d + 160 }
theorem h_X12_sum : yX12_sum.cls = RX12 ∧ yX12_sum.cls ≠ "java/lang/invoke/MethodHandle" ∧ yX12_sum.cls ≠ "java/lang/invoke/VarHandle" ∧ (parseMethodDescriptor yX12_sum.desc).map (fun d => d.parameters.length) = some 0 := by decide +kernel
abbrev rmr_X12_atom (d : Nat) : Room := { frames := 3 * d + 7, cells := 0, slots := 0, locals := 69 * d + 183 }
theorem h_X12_atom : yX12_atom.cls = RX12 ∧ yX12_atom.cls ≠ "java/lang/invoke/MethodHandle" ∧ yX12_atom.cls ≠ "java/lang/invoke/VarHandle" ∧ (parseMethodDescriptor yX12_atom.desc).map (fun d => d.parameters.length) = some 0 := by decide +kernel
def F_X12_atom_51 (KS : Nat → Hp → Option (Int32 × Hp)) (n : Nat)  (v0 : Nat) (v1 : Int32) (σ : Hp) : Option (Int32 × Hp) := b2 (KS v0 σ) fun (r2 : Int32) (σ1 : Hp) => lt (pI σ1 v0 16 ((hI σ1 v0 16) + 1)) fun (σ3 : Hp) => if v1 = 40 then (some (r2, σ3)) else (b2 (KS v0 σ3) fun (r5 : Int32) (σ4 : Hp) => lt (pI σ4 v0 16 ((hI σ4 v0 16) + 1)) fun (σ6 : Hp) => if r2 ≤ r5 then (some (r5, σ6)) else (some (r2, σ6)))
def F_X12_atom (KS : Nat → Hp → Option (Int32 × Hp)) (n : Nat) (a0 : Nat) (σ : Hp) : Option (Int32 × Hp) := b2 (F_X12_sign n a0 σ) fun (r8 : Int32) (σ7 : Hp) => b2 (F_X12_isIn n r8.toInt64 48 57 σ7) fun (r10 : Int32) (σ9 : Hp) => if r10 = 0 then (lt (pI σ9 a0 16 ((hI σ9 a0 16) + 1)) fun (σ11 : Hp) => if r8 = 40 then (F_X12_atom_51 KS n  a0 r8 σ11) else (if r8 = 91 then (F_X12_atom_51 KS n  a0 r8 σ11) else (if r8 = 116 then (some (hI σ11 a0 21, σ11)) else (if r8 = 112 then (some (hI σ11 a0 22, σ11)) else (if r8 = 121 then (some (hI σ11 a0 23, σ11)) else (if r8 = 110 then (some (hI σ11 a0 24, σ11)) else (some (hI σ11 a0 25, σ11)))))))) else (b2 (F_X12_readsNumber n a0 σ9) fun (r13 : Int32) (σ12 : Hp) => some (hI σ12 a0 20, σ12))
abbrev rmr_X12_product (d : Nat) : Room := { frames := 3 * d + 8, cells := 0, slots := 0, locals := 69 * d + 206 }
theorem h_X12_product : yX12_product.cls = RX12 ∧ yX12_product.cls ≠ "java/lang/invoke/MethodHandle" ∧ yX12_product.cls ≠ "java/lang/invoke/VarHandle" ∧ (parseMethodDescriptor yX12_product.desc).map (fun d => d.parameters.length) = some 0 := by decide +kernel
def F_X12_product_66 (KS : Nat → Hp → Option (Int32 × Hp)) (n : Nat) (K_5 : Nat → Int32 → Hp → Option (Int32 × Hp)) (v0 : Nat) (s0 : Int32) (σ : Hp) : Option (Int32 × Hp) := K_5 v0 s0 σ
def F_X12_product_23 (KS : Nat → Hp → Option (Int32 × Hp)) (n : Nat) (K_5 : Nat → Int32 → Hp → Option (Int32 × Hp)) (v0 : Nat) (v1 : Int32) (σ : Hp) : Option (Int32 × Hp) := b2 (F_X12_sign n v0 σ) fun (r2 : Int32) (σ1 : Hp) => lt (pI σ1 v0 16 ((hI σ1 v0 16) + 1)) fun (σ3 : Hp) => b2 (F_X12_atom KS n v0 σ3) fun (r5 : Int32) (σ4 : Hp) => if r2 = 42 then (F_X12_product_66 KS n K_5 v0 (v1 * r5) σ4) else (if r5 = 0 then (F_X12_product_66 KS n K_5 v0 0 σ4) else (ck (¬ r5 = 0) (F_X12_product_66 KS n K_5 v0 (v1 / r5) σ4)))
def F_X12_product_5 (KS : Nat → Hp → Option (Int32 × Hp)) (n : Nat)  : Nat → Nat → Int32 → Hp → Option (Int32 × Hp)
  | 0, _, _, _ => none
  | f + 1, v0, v1, σ => b2 (F_X12_sign n v0 σ) fun (r7 : Int32) (σ6 : Hp) => if r7 = 42 then (F_X12_product_23 KS n (F_X12_product_5 KS n  f) v0 v1 σ6) else (b2 (F_X12_sign n v0 σ6) fun (r9 : Int32) (σ8 : Hp) => if r9 = 47 then (F_X12_product_23 KS n (F_X12_product_5 KS n  f) v0 v1 σ8) else (some (v1, σ8)))
def F_X12_product (KS : Nat → Hp → Option (Int32 × Hp)) (n : Nat) (a0 : Nat) (σ : Hp) : Option (Int32 × Hp) := b2 (F_X12_atom KS n a0 σ) fun (r11 : Int32) (σ10 : Hp) => F_X12_product_5 KS n  n a0 r11 σ10
theorem w_X12_law_90 {σ0 τ : Hp} {r : Int32} (X : SX D cA base p s m args meth c cX12_law 4 (some .int) RX12) (n : Nat)  : ∀ (v0 : Nat) (σ : Hp) (H : Heap) (locs : List Loc) (ls : Array Slot), hT σ v0 12 → GW D cA base ad σ H → va_S (bA base) s.heap H locs → xT σ0 σ → lv_has ls 4 [(0, .ref (ad v0))] → F_X12_law_90 n  v0 σ = some (r, τ) → W p l e rm_X12_law s m args below meth c H locs 0 0 (ZI below s args D cA base ad σ0 r τ) (F0 m 90 ls []) := by
  intro v0 σ H locs ls hT_v0 hG hS hE hl hF
  unfold F_X12_law_90 at hF
  refine lv_bipush (v := (-100)) X.1 X.2.1 dX12_law_90 (by decide) ?_
  refine lv_aload_n X.1 X.2.1 dX12_law_92 rfl (lv_at hl 0 rfl) ?_
  refine gx_get 16 (v := .int (hI σ v0 16)) X hG hT_v0.1 (hT_v0.eq (by decide)) (by decide) rfl inX12 (by decide) k_976 (fun _ h => h) rfl dX12_law_93 ?_
  refine lv_isub X.1 X.2.1 dX12_law_96 ?_
  exact gx_iret X hG hS hE hF dX12_law_97
theorem w_X12_law_141 {σ0 τ : Hp} {r : Int32} (X : SX D cA base p s m args meth c cX12_law 4 (some .int) RX12) (n : Nat)  : ∀ (v0 : Nat) (σ : Hp) (H : Heap) (locs : List Loc) (ls : Array Slot), hT σ v0 12 → GW D cA base ad σ H → va_S (bA base) s.heap H locs → xT σ0 σ → lv_has ls 4 [(0, .ref (ad v0))] → F_X12_law_141 n  v0 σ = some (r, τ) → W p l e rm_X12_law s m args below meth c H locs 0 0 (ZI below s args D cA base ad σ0 r τ) (F0 m 141 ls []) := by
  intro v0 σ H locs ls hT_v0 hG hS hE hl hF
  unfold F_X12_law_141 at hF
  refine lv_aload_n X.1 X.2.1 dX12_law_141 rfl (lv_at hl 0 rfl) ?_
  obtain ⟨i1, hr, hF⟩ := b1_ex hF
  have hT_i1 : hT σ i1 13 := gw_T hG hT_v0 (by decide) hr
  refine gx_get 0 (v := .ref (ad i1)) X hG hT_v0.1 (hT_v0.eq (by decide)) (by decide) rfl inX12 (by decide) k_960 (fun _ h => h) (gx_rfv hr) dX12_law_142 ?_
  refine lv_bipush (v := 103) X.1 X.2.1 dX12_law_145 (by decide) ?_
  refine lv_aload_n X.1 X.2.1 dX12_law_147 rfl (lv_at hl 0 rfl) ?_
  obtain ⟨i2, hr, hF⟩ := b1_ex hF
  have hT_i2 : hT σ i2 13 := gw_T hG hT_v0 (by decide) hr
  refine gx_get 0 (v := .ref (ad i2)) X hG hT_v0.1 (hT_v0.eq (by decide)) (by decide) rfl inX12 (by decide) k_960 (fun _ h => h) (gx_rfv hr) dX12_law_148 ?_
  refine lv_iconst (v := 2) X.1 X.2.1 dX12_law_151 (by decide) ?_
  refine gx_iald X hG hT_i2 hF dX12_law_152 (fun hF => ?_)
  refine lv_iadd X.1 X.2.1 dX12_law_153 ?_
  refine lv_aload_n X.1 X.2.1 dX12_law_154 rfl (lv_at hl 0 rfl) ?_
  refine gx_get 18 (v := .int (hI σ v0 18)) X hG hT_v0.1 (hT_v0.eq (by decide)) (by decide) rfl inX12 (by decide) k_978 (fun _ h => h) rfl dX12_law_155 ?_
  refine gx_iast X hG hS hT_i1 hF dX12_law_158 (fun σ3 H locs hG hS hX hF => ?_)
  have hT_v0 := hX.T hT_v0
  replace hE := hE.trans hX
  refine lv_aload_n X.1 X.2.1 dX12_law_159 rfl (lv_at hl 0 rfl) ?_
  obtain ⟨i4, hr, hF⟩ := b1_ex hF
  have hT_i4 : hT σ3 i4 13 := gw_T hG hT_v0 (by decide) hr
  refine gx_get 0 (v := .ref (ad i4)) X hG hT_v0.1 (hT_v0.eq (by decide)) (by decide) rfl inX12 (by decide) k_960 (fun _ h => h) (gx_rfv hr) dX12_law_160 ?_
  refine lv_iconst (v := 2) X.1 X.2.1 dX12_law_163 (by decide) ?_
  refine lv_dup2_11 X.1 X.2.1 dX12_law_164 rfl rfl ?_
  refine gx_iald X hG hT_i4 hF dX12_law_165 (fun hF => ?_)
  refine lv_iconst (v := 1) X.1 X.2.1 dX12_law_166 (by decide) ?_
  refine lv_iadd X.1 X.2.1 dX12_law_167 ?_
  refine gx_iast X hG hS hT_i4 hF dX12_law_168 (fun σ5 H locs hG hS hX hF => ?_)
  have hT_v0 := hX.T hT_v0
  replace hE := hE.trans hX
  refine lv_aload_n X.1 X.2.1 dX12_law_169 rfl (lv_at hl 0 rfl) ?_
  obtain ⟨i6, hr, hF⟩ := b1_ex hF
  have hT_i6 : hT σ5 i6 13 := gw_T hG hT_v0 (by decide) hr
  refine gx_get 0 (v := .ref (ad i6)) X hG hT_v0.1 (hT_v0.eq (by decide)) (by decide) rfl inX12 (by decide) k_960 (fun _ h => h) (gx_rfv hr) dX12_law_170 ?_
  refine lv_iconst (v := 2) X.1 X.2.1 dX12_law_173 (by decide) ?_
  refine gx_iald X hG hT_i6 hF dX12_law_174 (fun hF => ?_)
  refine lv_iconst (v := 1) X.1 X.2.1 dX12_law_175 (by decide) ?_
  refine lv_isub X.1 X.2.1 dX12_law_176 ?_
  exact gx_iret X hG hS hE hF dX12_law_177
theorem w_X12_law_100 {σ0 τ : Hp} {r : Int32} (X : SX D cA base p s m args meth c cX12_law 4 (some .int) RX12) (n : Nat)  : ∀ f : Nat, ∀ (v0 : Nat) (v3 : Int32) (σ : Hp) (H : Heap) (locs : List Loc) (ls : Array Slot), hT σ v0 12 → GW D cA base ad σ H → va_S (bA base) s.heap H locs → xT σ0 σ → lv_has ls 4 [(0, .ref (ad v0)), (3, .int v3)] → F_X12_law_100 n  f v0 v3 σ = some (r, τ) → W p l e rm_X12_law s m args below meth c H locs 0 0 (ZI below s args D cA base ad σ0 r τ) (F0 m 100 ls []) := by
  intro f
  induction f with
  | zero => intro v0 v3 σ H locs ls h0 hG hS hE hl hF
            rw [F_X12_law_100] at hF; cases hF
  | succ f ih =>
    intro v0 v3 σ H locs ls hT_v0 hG hS hE hl hF
    rw [F_X12_law_100] at hF
    refine lv_iload_n X.1 X.2.1 dX12_law_100 rfl (lv_at hl 1 rfl) ?_
    refine lv_aload_n X.1 X.2.1 dX12_law_101 rfl (lv_at hl 0 rfl) ?_
    refine gx_get 18 (v := .int (hI σ v0 18)) X hG hT_v0.1 (hT_v0.eq (by decide)) (by decide) rfl inX12 (by decide) k_978 (fun _ h => h) rfl dX12_law_102 ?_
    refine lv_icmp_ge (tgt := 141) X.1 X.2.1 dX12_law_105 (by decide) (fun hc => ?_) (fun hc => ?_)
    · replace hF := it_t hF hc
      exact w_X12_law_141 X n  v0 σ _ _ ls hT_v0 hG hS hE (lv_sub hl [0] rfl) hF
    · replace hF := it_f hF hc
      refine lv_aload_n X.1 X.2.1 dX12_law_108 rfl (lv_at hl 0 rfl) ?_
      obtain ⟨i7, hr, hF⟩ := b1_ex hF
      have hT_i7 : hT σ i7 13 := gw_T hG hT_v0 (by decide) hr
      refine gx_get 2 (v := .ref (ad i7)) X hG hT_v0.1 (hT_v0.eq (by decide)) (by decide) rfl inX12 (by decide) k_962 (fun _ h => h) (gx_rfv hr) dX12_law_109 ?_
      refine lv_bipush (v := 100) X.1 X.2.1 dX12_law_112 (by decide) ?_
      refine lv_aload_n X.1 X.2.1 dX12_law_114 rfl (lv_at hl 0 rfl) ?_
      obtain ⟨i8, hr, hF⟩ := b1_ex hF
      have hT_i8 : hT σ i8 13 := gw_T hG hT_v0 (by decide) hr
      refine gx_get 0 (v := .ref (ad i8)) X hG hT_v0.1 (hT_v0.eq (by decide)) (by decide) rfl inX12 (by decide) k_960 (fun _ h => h) (gx_rfv hr) dX12_law_115 ?_
      refine lv_iconst (v := 2) X.1 X.2.1 dX12_law_118 (by decide) ?_
      refine gx_iald X hG hT_i8 hF dX12_law_119 (fun hF => ?_)
      refine lv_imul X.1 X.2.1 dX12_law_120 ?_
      refine lv_iload_n X.1 X.2.1 dX12_law_121 rfl (lv_at hl 1 rfl) ?_
      refine lv_iadd X.1 X.2.1 dX12_law_122 ?_
      refine lv_aload_n X.1 X.2.1 dX12_law_123 rfl (lv_at hl 0 rfl) ?_
      obtain ⟨i9, hr, hF⟩ := b1_ex hF
      have hT_i9 : hT σ i9 13 := gw_T hG hT_v0 (by decide) hr
      refine gx_get 10 (v := .ref (ad i9)) X hG hT_v0.1 (hT_v0.eq (by decide)) (by decide) rfl inX12 (by decide) k_970 (fun _ h => h) (gx_rfv hr) dX12_law_124 ?_
      refine lv_aload_n X.1 X.2.1 dX12_law_127 rfl (lv_at hl 0 rfl) ?_
      refine gx_get 17 (v := .int (hI σ v0 17)) X hG hT_v0.1 (hT_v0.eq (by decide)) (by decide) rfl inX12 (by decide) k_977 (fun _ h => h) rfl dX12_law_128 ?_
      refine lv_iload_n X.1 X.2.1 dX12_law_131 rfl (lv_at hl 1 rfl) ?_
      refine lv_iadd X.1 X.2.1 dX12_law_132 ?_
      refine gx_iald X hG hT_i9 hF dX12_law_133 (fun hF => ?_)
      refine gx_iast X hG hS hT_i7 hF dX12_law_134 (fun σ10 H locs hG hS hX hF => ?_)
      have hT_v0 := hX.T hT_v0
      replace hE := hE.trans hX
      refine lv_iinc (v := v3 + 1) (lv' := [(3, .int (v3 + 1)), (0, .ref (ad v0))]) X.1 X.2.1 dX12_law_135 hl (k := 1) rfl rfl (by decide) rfl (fun ls hl => ?_)
      refine lv_goto (tgt := 100) X.1 X.2.1 dX12_law_138 (by decide) ?_
      exact ih v0 (v3 + 1) σ10 _ _ ls hT_v0 hG hS hE (lv_sub hl [1, 0] rfl) hF
theorem c_X12_law (l : Launch) (D : va_G) (cA : Nat → ClassId) (base : Nat) (ad : Nat → Nat) (σ : Hp) (n : Nat) (a0 : Nat) (a1 : Int32) (hT_a0 : hT σ a0 12) {τ : Hp} {r : Int32} (hF : F_X12_law n a0 a1 σ = some (r, τ)) : MI l yX12_law cX12_law 4 (some .int) rm_X12_law D cA base ad σ [.ref (ad a0), .int a1] r τ := by
  refine Met.ofW (cc := cX12_law) (maxL := 4) (ret := (some .int)) (by decide) rfl ?_
  intro p e s m args below meth c s₁ B hml hv
  obtain ⟨rfl, hv⟩ := hv
  have X : SX D cA base p s m ([.ref (ad a0), .int a1] : List Value).toArray meth c cX12_law 4 (some .int) RX12 := sx_of B hml hv
  have hG := hv.1
  have hS : va_S (bA base) s.heap s.heap [] := va_S.rf
  have hE := xT.rf σ
  have hl := lv_entry ([.ref (ad a0), .int a1]) (n := 4) (Nat.le_of_ble_eq_true rfl)
  rw [lg_entry_eq]
  generalize (lg_sl ([.ref (ad a0), .int a1]) ++ List.replicate (4 - (lg_sl ([.ref (ad a0), .int a1])).length) Slot.unset).toArray = ls at hl ⊢
  have hl : lv_has ls 4 [(0, .ref (ad a0)), (1, .int a1)] := hl
  unfold F_X12_law at hF
  refine lv_iload_n X.1 X.2.1 dX12_law_0 rfl (lv_at hl 1 rfl) ?_
  obtain ⟨r12, σ11, hz, hF⟩ := b2_ex hF
  refine gx_rI (gx_runS (As := [.int a1]) (rest := []) X hG hS (c_X12_isShelf l D cA base ad σ n a1 hz) k_1110 k_1108 k_1109 k_4 (h_X12_isShelf.2) rfl rfl ⟨by decide, by decide⟩ rfl hl.1 rfl (Nat.le_of_ble_eq_true rfl) dX12_law_1 ⟨Nat.zero_le _, Nat.zero_le _⟩) hS (fun H locs hG hS hX => ?_)
  have hT_a0 := hX.T hT_a0
  replace hE := hE.trans hX
  refine lv_if_ne (tgt := 9) X.1 X.2.1 dX12_law_4 (by decide) (fun hc => ?_) (fun hc => ?_)
  · replace hF := it_f hF hc
    refine lv_aload_n X.1 X.2.1 dX12_law_9 rfl (lv_at hl 0 rfl) ?_
    obtain ⟨i13, hr, hF⟩ := b1_ex hF
    have hT_i13 : hT σ11 i13 13 := gw_T hG hT_a0 (by decide) hr
    refine gx_get 0 (v := .ref (ad i13)) X hG hT_a0.1 (hT_a0.eq (by decide)) (by decide) rfl inX12 (by decide) k_960 (fun _ h => h) (gx_rfv hr) dX12_law_10 ?_
    refine lv_iconst (v := 2) X.1 X.2.1 dX12_law_13 (by decide) ?_
    refine gx_iald X hG hT_i13 hF dX12_law_14 (fun hF => ?_)
    refine lv_bipush (v := 6) X.1 X.2.1 dX12_law_15 (by decide) ?_
    refine lv_icmp_ne (tgt := 23) X.1 X.2.1 dX12_law_17 (by decide) (fun hc => ?_) (fun hc => ?_)
    · replace hF := it_f hF hc
      refine lv_aload_n X.1 X.2.1 dX12_law_23 rfl (lv_at hl 0 rfl) ?_
      refine lv_iload_n X.1 X.2.1 dX12_law_24 rfl (lv_at hl 1 rfl) ?_
      refine lv_iconst (v := 0) X.1 X.2.1 dX12_law_25 (by decide) ?_
      obtain ⟨r15, σ14, hz, hF⟩ := b2_ex hF
      refine gx_rI (gx_runV (As := [.int a1, .int 0]) (rest := []) X hG hS hT_a0.1 (hT_a0.eq (by decide)) (by decide) rfl (c_X12_wrongRow l D cA base ad σ11 n a0 a1 0 hT_a0 hz) k_1115 k_1112 k_1114 ks_21 k_4 (h_X12_wrongRow) rfl rfl ⟨by decide, by decide⟩ rfl hl.1 rfl (Nat.le_of_ble_eq_true rfl) dX12_law_26 ⟨Nat.zero_le _, Nat.zero_le _⟩) hS (fun H locs hG hS hX => ?_)
      have hT_a0 := hX.T hT_a0
      replace hE := hE.trans hX
      refine lv_istore_n (lv' := [(2, .int r15), (0, .ref (ad a0)), (1, .int a1)]) X.1 X.2.1 dX12_law_29 rfl hl (by decide) rfl (fun ls hl => ?_)
      refine lv_iload_n X.1 X.2.1 dX12_law_30 rfl (lv_at hl 0 rfl) ?_
      refine lv_if_eq (tgt := 36) X.1 X.2.1 dX12_law_31 (by decide) (fun hc => ?_) (fun hc => ?_)
      · replace hF := it_t hF hc
        refine lv_aload_n X.1 X.2.1 dX12_law_36 rfl (lv_at hl 1 rfl) ?_
        refine lv_aload_n X.1 X.2.1 dX12_law_37 rfl (lv_at hl 1 rfl) ?_
        obtain ⟨i16, hr, hF⟩ := b1_ex hF
        have hT_i16 : hT σ14 i16 13 := gw_T hG hT_a0 (by decide) hr
        refine gx_get 10 (v := .ref (ad i16)) X hG hT_a0.1 (hT_a0.eq (by decide)) (by decide) rfl inX12 (by decide) k_970 (fun _ h => h) (gx_rfv hr) dX12_law_38 ?_
        refine gx_putR 15 (x := (some i16)) X hG hS hT_a0.1 (hT_a0.eq (by decide)) (by decide) rfl inX12 tyX12_ok nmX12 (by decide) k_975 (fun _ h => h) rfl (gx_narA _) (gx_fitA _) rfl (oT.some hT_i16) (Nat.le_of_ble_eq_true rfl) dX12_law_41 hF (fun σ17 H locs hG hS hX hF => ?_)
        have hT_a0 := hX.T hT_a0
        replace hE := hE.trans hX
        refine lv_aload_n X.1 X.2.1 dX12_law_44 rfl (lv_at hl 1 rfl) ?_
        refine lv_bipush (v := 100) X.1 X.2.1 dX12_law_45 (by decide) ?_
        refine lv_iload_n X.1 X.2.1 dX12_law_47 rfl (lv_at hl 2 rfl) ?_
        refine lv_imul X.1 X.2.1 dX12_law_48 ?_
        refine gx_putI 17  X hG hS hT_a0.1 (hT_a0.eq (by decide)) (by decide) rfl inX12 tyX12_ok nmX12 (by decide) k_977 (fun _ h => h) rfl rfl rfl rfl (Nat.le_of_ble_eq_true rfl) dX12_law_49 hF (fun σ18 H locs hG hS hX hF => ?_)
        have hT_a0 := hX.T hT_a0
        replace hE := hE.trans hX
        refine lv_aload_n X.1 X.2.1 dX12_law_52 rfl (lv_at hl 1 rfl) ?_
        refine lv_aload_n X.1 X.2.1 dX12_law_53 rfl (lv_at hl 1 rfl) ?_
        obtain ⟨i19, hr, hF⟩ := b1_ex hF
        have hT_i19 : hT σ18 i19 13 := gw_T hG hT_a0 (by decide) hr
        refine gx_get 9 (v := .ref (ad i19)) X hG hT_a0.1 (hT_a0.eq (by decide)) (by decide) rfl inX12 (by decide) k_969 (fun _ h => h) (gx_rfv hr) dX12_law_54 ?_
        refine lv_iload_n X.1 X.2.1 dX12_law_57 rfl (lv_at hl 2 rfl) ?_
        refine gx_iald X hG hT_i19 hF dX12_law_58 (fun hF => ?_)
        refine gx_putI 18  X hG hS hT_a0.1 (hT_a0.eq (by decide)) (by decide) rfl inX12 tyX12_ok nmX12 (by decide) k_978 (fun _ h => h) rfl rfl rfl rfl (Nat.le_of_ble_eq_true rfl) dX12_law_59 hF (fun σ20 H locs hG hS hX hF => ?_)
        have hT_a0 := hX.T hT_a0
        replace hE := hE.trans hX
        refine lv_aload_n X.1 X.2.1 dX12_law_62 rfl (lv_at hl 1 rfl) ?_
        refine lv_iconst (v := 0) X.1 X.2.1 dX12_law_63 (by decide) ?_
        refine gx_putI 16  X hG hS hT_a0.1 (hT_a0.eq (by decide)) (by decide) rfl inX12 tyX12_ok nmX12 (by decide) k_976 (fun _ h => h) rfl rfl rfl rfl (Nat.le_of_ble_eq_true rfl) dX12_law_64 hF (fun σ21 H locs hG hS hX hF => ?_)
        have hT_a0 := hX.T hT_a0
        replace hE := hE.trans hX
        refine lv_aload_n X.1 X.2.1 dX12_law_67 rfl (lv_at hl 1 rfl) ?_
        refine lv_iconst (v := 0) X.1 X.2.1 dX12_law_68 (by decide) ?_
        refine gx_putI 19  X hG hS hT_a0.1 (hT_a0.eq (by decide)) (by decide) rfl inX12 tyX12_ok nmX12 (by decide) k_979 (fun _ h => h) rfl rfl rfl rfl (Nat.le_of_ble_eq_true rfl) dX12_law_69 hF (fun σ22 H locs hG hS hX hF => ?_)
        have hT_a0 := hX.T hT_a0
        replace hE := hE.trans hX
        refine lv_aload_n X.1 X.2.1 dX12_law_72 rfl (lv_at hl 1 rfl) ?_
        obtain ⟨r24, σ23, hz, hF⟩ := b2_ex hF
        refine gx_rI (gx_runV (As := []) (rest := []) X hG hS hT_a0.1 (hT_a0.eq (by decide)) (by decide) rfl (c_X12_readsSum l D cA base ad σ22 n 8 a0 hT_a0 hz) k_1119 k_1116 k_1118 ks_22 k_4 (h_X12_readsSum) rfl rfl ⟨by decide, by decide⟩ rfl hl.1 rfl (Nat.le_of_ble_eq_true rfl) dX12_law_73 ⟨Nat.zero_le _, Nat.zero_le _⟩) hS (fun H locs hG hS hX => ?_)
        have hT_a0 := hX.T hT_a0
        replace hE := hE.trans hX
        refine lv_if_eq (tgt := 90) X.1 X.2.1 dX12_law_76 (by decide) (fun hc => ?_) (fun hc => ?_)
        · replace hF := it_t hF hc
          exact w_X12_law_90 X n  a0 σ23 _ _ ls hT_a0 hG hS hE (lv_sub hl [1] rfl) hF
        · replace hF := it_f hF hc
          refine lv_aload_n X.1 X.2.1 dX12_law_79 rfl (lv_at hl 1 rfl) ?_
          refine gx_get 16 (v := .int (hI σ23 a0 16)) X hG hT_a0.1 (hT_a0.eq (by decide)) (by decide) rfl inX12 (by decide) k_976 (fun _ h => h) rfl dX12_law_80 ?_
          refine lv_aload_n X.1 X.2.1 dX12_law_83 rfl (lv_at hl 1 rfl) ?_
          refine gx_get 18 (v := .int (hI σ23 a0 18)) X hG hT_a0.1 (hT_a0.eq (by decide)) (by decide) rfl inX12 (by decide) k_978 (fun _ h => h) rfl dX12_law_84 ?_
          refine lv_icmp_eq (tgt := 98) X.1 X.2.1 dX12_law_87 (by decide) (fun hc => ?_) (fun hc => ?_)
          · replace hF := it_t hF hc
            refine lv_iconst (v := 0) X.1 X.2.1 dX12_law_98 (by decide) ?_
            refine lv_istore_n (lv' := [(3, .int 0), (2, .int r15), (0, .ref (ad a0)), (1, .int a1)]) X.1 X.2.1 dX12_law_99 rfl hl (by decide) rfl (fun ls hl => ?_)
            exact w_X12_law_100 X n  n a0 0 σ23 _ _ ls hT_a0 hG hS hE (lv_sub hl [2, 0] rfl) hF
          · replace hF := it_f hF hc
            exact w_X12_law_90 X n  a0 σ23 _ _ ls hT_a0 hG hS hE (lv_sub hl [1] rfl) hF
      · replace hF := it_f hF hc
        refine lv_iload_n X.1 X.2.1 dX12_law_34 rfl (lv_at hl 0 rfl) ?_
        exact gx_iret X hG hS hE hF dX12_law_35
    · replace hF := it_t hF hc
      refine lv_bipush (v := (-2)) X.1 X.2.1 dX12_law_20 (by decide) ?_
      exact gx_iret X hG hS hE hF dX12_law_22
  · replace hF := it_t hF hc
    refine lv_iconst (v := (-1)) X.1 X.2.1 dX12_law_7 (by decide) ?_
    exact gx_iret X hG hS hE hF dX12_law_8
theorem w_X12_atom_51 {σ0 τ : Hp} {r : Int32} (X : SX D cA base p s m args meth c cX12_atom 4 (some .int) RX12) (n : Nat) (d : Nat) (KS : Nat → Hp → Option (Int32 × Hp)) (hKS : ∀ (σ : Hp) (a0 : Nat) {τ : Hp} {r : Int32}, hT σ a0 12 → KS a0 σ = some (r, τ) → MI l yX12_sum cX12_sum 4 (some .int) (rmr_X12_sum d) D cA base ad σ [.ref (ad a0)] r τ)  : ∀ (v0 : Nat) (v1 : Int32) (σ : Hp) (H : Heap) (locs : List Loc) (ls : Array Slot), hT σ v0 12 → GW D cA base ad σ H → va_S (bA base) s.heap H locs → xT σ0 σ → lv_has ls 4 [(0, .ref (ad v0)), (1, .int v1)] → F_X12_atom_51 KS n  v0 v1 σ = some (r, τ) → W p l e (rmr_X12_atom d) s m args below meth c H locs 0 0 (ZI below s args D cA base ad σ0 r τ) (F0 m 51 ls []) := by
  intro v0 v1 σ H locs ls hT_v0 hG hS hE hl hF
  unfold F_X12_atom_51 at hF
  refine lv_aload_n X.1 X.2.1 dX12_atom_51 rfl (lv_at hl 0 rfl) ?_
  obtain ⟨r2, σ1, hz, hF⟩ := b2_ex hF
  refine gx_rI (gx_runV (As := []) (rest := []) X hG hS hT_v0.1 (hT_v0.eq (by decide)) (by decide) rfl (hKS σ v0 hT_v0 hz) k_1164 k_1161 k_1163 ks_31 k_4 (h_X12_sum) rfl rfl ⟨by show 3 * d + 6 + 1 ≤ 3 * d + 7; omega, by show 8 + (4 + 11) + (69 * d + 160) ≤ 69 * d + 183; omega⟩ rfl hl.1 rfl (Nat.le_of_ble_eq_true rfl) dX12_atom_52 ⟨Nat.zero_le _, Nat.zero_le _⟩) hS (fun H locs hG hS hX => ?_)
  have hT_v0 := hX.T hT_v0
  replace hE := hE.trans hX
  refine lv_istore_n (lv' := [(2, .int r2), (0, .ref (ad v0)), (1, .int v1)]) X.1 X.2.1 dX12_atom_55 rfl hl (by decide) rfl (fun ls hl => ?_)
  refine lv_aload_n X.1 X.2.1 dX12_atom_56 rfl (lv_at hl 1 rfl) ?_
  refine lv_dup X.1 X.2.1 dX12_atom_57 rfl ?_
  refine gx_get 16 (v := .int (hI σ1 v0 16)) X hG hT_v0.1 (hT_v0.eq (by decide)) (by decide) rfl inX12 (by decide) k_976 (fun _ h => h) rfl dX12_atom_58 ?_
  refine lv_iconst (v := 1) X.1 X.2.1 dX12_atom_61 (by decide) ?_
  refine lv_iadd X.1 X.2.1 dX12_atom_62 ?_
  refine gx_putI 16  X hG hS hT_v0.1 (hT_v0.eq (by decide)) (by decide) rfl inX12 tyX12_ok nmX12 (by decide) k_976 (fun _ h => h) rfl rfl rfl rfl (Nat.le_of_ble_eq_true rfl) dX12_atom_63 hF (fun σ3 H locs hG hS hX hF => ?_)
  have hT_v0 := hX.T hT_v0
  replace hE := hE.trans hX
  refine lv_iload_n X.1 X.2.1 dX12_atom_66 rfl (lv_at hl 2 rfl) ?_
  refine lv_bipush (v := 40) X.1 X.2.1 dX12_atom_67 (by decide) ?_
  refine lv_icmp_ne (tgt := 74) X.1 X.2.1 dX12_atom_69 (by decide) (fun hc => ?_) (fun hc => ?_)
  · replace hF := it_f hF hc
    refine lv_aload_n X.1 X.2.1 dX12_atom_74 rfl (lv_at hl 1 rfl) ?_
    obtain ⟨r5, σ4, hz, hF⟩ := b2_ex hF
    refine gx_rI (gx_runV (As := []) (rest := []) X hG hS hT_v0.1 (hT_v0.eq (by decide)) (by decide) rfl (hKS σ3 v0 hT_v0 hz) k_1164 k_1161 k_1163 ks_31 k_4 (h_X12_sum) rfl rfl ⟨by show 3 * d + 6 + 1 ≤ 3 * d + 7; omega, by show 8 + (4 + 11) + (69 * d + 160) ≤ 69 * d + 183; omega⟩ rfl hl.1 rfl (Nat.le_of_ble_eq_true rfl) dX12_atom_75 ⟨Nat.zero_le _, Nat.zero_le _⟩) hS (fun H locs hG hS hX => ?_)
    have hT_v0 := hX.T hT_v0
    replace hE := hE.trans hX
    refine lv_istore_n (lv' := [(3, .int r5), (2, .int r2), (0, .ref (ad v0)), (1, .int v1)]) X.1 X.2.1 dX12_atom_78 rfl hl (by decide) rfl (fun ls hl => ?_)
    refine lv_aload_n X.1 X.2.1 dX12_atom_79 rfl (lv_at hl 2 rfl) ?_
    refine lv_dup X.1 X.2.1 dX12_atom_80 rfl ?_
    refine gx_get 16 (v := .int (hI σ4 v0 16)) X hG hT_v0.1 (hT_v0.eq (by decide)) (by decide) rfl inX12 (by decide) k_976 (fun _ h => h) rfl dX12_atom_81 ?_
    refine lv_iconst (v := 1) X.1 X.2.1 dX12_atom_84 (by decide) ?_
    refine lv_iadd X.1 X.2.1 dX12_atom_85 ?_
    refine gx_putI 16  X hG hS hT_v0.1 (hT_v0.eq (by decide)) (by decide) rfl inX12 tyX12_ok nmX12 (by decide) k_976 (fun _ h => h) rfl rfl rfl rfl (Nat.le_of_ble_eq_true rfl) dX12_atom_86 hF (fun σ6 H locs hG hS hX hF => ?_)
    have hT_v0 := hX.T hT_v0
    replace hE := hE.trans hX
    refine lv_iload_n X.1 X.2.1 dX12_atom_89 rfl (lv_at hl 1 rfl) ?_
    refine lv_iload_n X.1 X.2.1 dX12_atom_90 rfl (lv_at hl 0 rfl) ?_
    refine lv_icmp_le (tgt := 98) X.1 X.2.1 dX12_atom_91 (by decide) (fun hc => ?_) (fun hc => ?_)
    · replace hF := it_t hF hc
      refine lv_iload_n X.1 X.2.1 dX12_atom_98 rfl (lv_at hl 0 rfl) ?_
      exact gx_iret X hG hS hE hF dX12_atom_99
    · replace hF := it_f hF hc
      refine lv_iload_n X.1 X.2.1 dX12_atom_94 rfl (lv_at hl 1 rfl) ?_
      refine lv_goto (tgt := 99) X.1 X.2.1 dX12_atom_95 (by decide) ?_
      exact gx_iret X hG hS hE hF dX12_atom_99
  · replace hF := it_t hF hc
    refine lv_iload_n X.1 X.2.1 dX12_atom_72 rfl (lv_at hl 0 rfl) ?_
    exact gx_iret X hG hS hE hF dX12_atom_73
theorem c_X12_atom (l : Launch) (D : va_G) (cA : Nat → ClassId) (base : Nat) (ad : Nat → Nat) (σ : Hp) (n : Nat) (d : Nat) (KS : Nat → Hp → Option (Int32 × Hp)) (hKS : ∀ (σ : Hp) (a0 : Nat) {τ : Hp} {r : Int32}, hT σ a0 12 → KS a0 σ = some (r, τ) → MI l yX12_sum cX12_sum 4 (some .int) (rmr_X12_sum d) D cA base ad σ [.ref (ad a0)] r τ) (a0 : Nat) (hT_a0 : hT σ a0 12) {τ : Hp} {r : Int32} (hF : F_X12_atom KS n a0 σ = some (r, τ)) : MI l yX12_atom cX12_atom 4 (some .int) (rmr_X12_atom d) D cA base ad σ [.ref (ad a0)] r τ := by
  refine Met.ofW (cc := cX12_atom) (maxL := 4) (ret := (some .int)) (by decide) rfl ?_
  intro p e s m args below meth c s₁ B hml hv
  obtain ⟨rfl, hv⟩ := hv
  have X : SX D cA base p s m ([.ref (ad a0)] : List Value).toArray meth c cX12_atom 4 (some .int) RX12 := sx_of B hml hv
  have hG := hv.1
  have hS : va_S (bA base) s.heap s.heap [] := va_S.rf
  have hE := xT.rf σ
  have hl := lv_entry ([.ref (ad a0)]) (n := 4) (Nat.le_of_ble_eq_true rfl)
  rw [lg_entry_eq]
  generalize (lg_sl ([.ref (ad a0)]) ++ List.replicate (4 - (lg_sl ([.ref (ad a0)])).length) Slot.unset).toArray = ls at hl ⊢
  have hl : lv_has ls 4 [(0, .ref (ad a0))] := hl
  unfold F_X12_atom at hF
  refine lv_aload_n X.1 X.2.1 dX12_atom_0 rfl (lv_at hl 0 rfl) ?_
  obtain ⟨r8, σ7, hz, hF⟩ := b2_ex hF
  refine gx_rI (gx_runV (As := []) (rest := []) X hG hS hT_a0.1 (hT_a0.eq (by decide)) (by decide) rfl (c_X12_sign l D cA base ad σ n a0 hT_a0 hz) k_1131 k_1128 k_1130 ks_25 k_4 (h_X12_sign) rfl rfl ⟨by show 0 + 1 ≤ 3 * d + 7; omega, by show 8 + (1 + 11) + 0 ≤ 69 * d + 183; omega⟩ rfl hl.1 rfl (Nat.le_of_ble_eq_true rfl) dX12_atom_1 ⟨Nat.zero_le _, Nat.zero_le _⟩) hS (fun H locs hG hS hX => ?_)
  have hT_a0 := hX.T hT_a0
  replace hE := hE.trans hX
  refine lv_istore_n (lv' := [(1, .int r8), (0, .ref (ad a0))]) X.1 X.2.1 dX12_atom_4 rfl hl (by decide) rfl (fun ls hl => ?_)
  refine lv_iload_n X.1 X.2.1 dX12_atom_5 rfl (lv_at hl 0 rfl) ?_
  refine lv_i2l X.1 X.2.1 dX12_atom_6 rfl ?_
  refine lv_ldc2 (v := 48) X.1 X.2.1 X.2.2.2.2.2.1 (X.w k_1143) dX12_atom_7 ?_
  refine lv_ldc2 (v := 57) X.1 X.2.1 X.2.2.2.2.2.1 (X.w k_1144) dX12_atom_10 ?_
  obtain ⟨r10, σ9, hz, hF⟩ := b2_ex hF
  refine gx_rI (gx_runS (As := [.long r8.toInt64, .long 48, .long 57]) (rest := []) X hG hS (c_X12_isIn l D cA base ad σ7 n r8.toInt64 48 57 hz) k_1063 k_1061 k_1062 k_4 (h_X12_isIn.2) rfl rfl ⟨by show 0 + 1 ≤ 3 * d + 7; omega, by show 8 + (6 + 11) + 0 ≤ 69 * d + 183; omega⟩ rfl hl.1 rfl (Nat.le_of_ble_eq_true rfl) dX12_atom_13 ⟨Nat.zero_le _, Nat.zero_le _⟩) hS (fun H locs hG hS hX => ?_)
  have hT_a0 := hX.T hT_a0
  replace hE := hE.trans hX
  refine lv_if_eq (tgt := 29) X.1 X.2.1 dX12_atom_16 (by decide) (fun hc => ?_) (fun hc => ?_)
  · replace hF := it_t hF hc
    refine lv_aload_n X.1 X.2.1 dX12_atom_29 rfl (lv_at hl 1 rfl) ?_
    refine lv_dup X.1 X.2.1 dX12_atom_30 rfl ?_
    refine gx_get 16 (v := .int (hI σ9 a0 16)) X hG hT_a0.1 (hT_a0.eq (by decide)) (by decide) rfl inX12 (by decide) k_976 (fun _ h => h) rfl dX12_atom_31 ?_
    refine lv_iconst (v := 1) X.1 X.2.1 dX12_atom_34 (by decide) ?_
    refine lv_iadd X.1 X.2.1 dX12_atom_35 ?_
    refine gx_putI 16  X hG hS hT_a0.1 (hT_a0.eq (by decide)) (by decide) rfl inX12 tyX12_ok nmX12 (by decide) k_976 (fun _ h => h) rfl rfl rfl rfl (Nat.le_of_ble_eq_true rfl) dX12_atom_36 hF (fun σ11 H locs hG hS hX hF => ?_)
    have hT_a0 := hX.T hT_a0
    replace hE := hE.trans hX
    refine lv_iload_n X.1 X.2.1 dX12_atom_39 rfl (lv_at hl 0 rfl) ?_
    refine lv_bipush (v := 40) X.1 X.2.1 dX12_atom_40 (by decide) ?_
    refine lv_icmp_eq (tgt := 51) X.1 X.2.1 dX12_atom_42 (by decide) (fun hc => ?_) (fun hc => ?_)
    · replace hF := it_t hF hc
      exact w_X12_atom_51 X n d KS hKS  a0 r8 σ11 _ _ ls hT_a0 hG hS hE (lv_sub hl [1, 0] rfl) hF
    · replace hF := it_f hF hc
      refine lv_iload_n X.1 X.2.1 dX12_atom_45 rfl (lv_at hl 0 rfl) ?_
      refine lv_bipush (v := 91) X.1 X.2.1 dX12_atom_46 (by decide) ?_
      refine lv_icmp_ne (tgt := 100) X.1 X.2.1 dX12_atom_48 (by decide) (fun hc => ?_) (fun hc => ?_)
      · replace hF := it_f hF hc
        refine lv_iload_n X.1 X.2.1 dX12_atom_100 rfl (lv_at hl 0 rfl) ?_
        refine lv_bipush (v := 116) X.1 X.2.1 dX12_atom_101 (by decide) ?_
        refine lv_icmp_ne (tgt := 113) X.1 X.2.1 dX12_atom_103 (by decide) (fun hc => ?_) (fun hc => ?_)
        · replace hF := it_f hF hc
          refine lv_iload_n X.1 X.2.1 dX12_atom_113 rfl (lv_at hl 0 rfl) ?_
          refine lv_bipush (v := 112) X.1 X.2.1 dX12_atom_114 (by decide) ?_
          refine lv_icmp_ne (tgt := 126) X.1 X.2.1 dX12_atom_116 (by decide) (fun hc => ?_) (fun hc => ?_)
          · replace hF := it_f hF hc
            refine lv_iload_n X.1 X.2.1 dX12_atom_126 rfl (lv_at hl 0 rfl) ?_
            refine lv_bipush (v := 121) X.1 X.2.1 dX12_atom_127 (by decide) ?_
            refine lv_icmp_ne (tgt := 139) X.1 X.2.1 dX12_atom_129 (by decide) (fun hc => ?_) (fun hc => ?_)
            · replace hF := it_f hF hc
              refine lv_iload_n X.1 X.2.1 dX12_atom_139 rfl (lv_at hl 0 rfl) ?_
              refine lv_bipush (v := 110) X.1 X.2.1 dX12_atom_140 (by decide) ?_
              refine lv_icmp_ne (tgt := 152) X.1 X.2.1 dX12_atom_142 (by decide) (fun hc => ?_) (fun hc => ?_)
              · replace hF := it_f hF hc
                refine lv_aload_n X.1 X.2.1 dX12_atom_152 rfl (lv_at hl 1 rfl) ?_
                refine gx_get 25 (v := .int (hI σ11 a0 25)) X hG hT_a0.1 (hT_a0.eq (by decide)) (by decide) rfl inX12 (by decide) k_985 (fun _ h => h) rfl dX12_atom_153 ?_
                exact gx_iret X hG hS hE hF dX12_atom_156
              · replace hF := it_t hF hc
                refine lv_aload_n X.1 X.2.1 dX12_atom_145 rfl (lv_at hl 1 rfl) ?_
                refine gx_get 24 (v := .int (hI σ11 a0 24)) X hG hT_a0.1 (hT_a0.eq (by decide)) (by decide) rfl inX12 (by decide) k_984 (fun _ h => h) rfl dX12_atom_146 ?_
                refine lv_goto (tgt := 156) X.1 X.2.1 dX12_atom_149 (by decide) ?_
                exact gx_iret X hG hS hE hF dX12_atom_156
            · replace hF := it_t hF hc
              refine lv_aload_n X.1 X.2.1 dX12_atom_132 rfl (lv_at hl 1 rfl) ?_
              refine gx_get 23 (v := .int (hI σ11 a0 23)) X hG hT_a0.1 (hT_a0.eq (by decide)) (by decide) rfl inX12 (by decide) k_983 (fun _ h => h) rfl dX12_atom_133 ?_
              refine lv_goto (tgt := 156) X.1 X.2.1 dX12_atom_136 (by decide) ?_
              exact gx_iret X hG hS hE hF dX12_atom_156
          · replace hF := it_t hF hc
            refine lv_aload_n X.1 X.2.1 dX12_atom_119 rfl (lv_at hl 1 rfl) ?_
            refine gx_get 22 (v := .int (hI σ11 a0 22)) X hG hT_a0.1 (hT_a0.eq (by decide)) (by decide) rfl inX12 (by decide) k_982 (fun _ h => h) rfl dX12_atom_120 ?_
            refine lv_goto (tgt := 156) X.1 X.2.1 dX12_atom_123 (by decide) ?_
            exact gx_iret X hG hS hE hF dX12_atom_156
        · replace hF := it_t hF hc
          refine lv_aload_n X.1 X.2.1 dX12_atom_106 rfl (lv_at hl 1 rfl) ?_
          refine gx_get 21 (v := .int (hI σ11 a0 21)) X hG hT_a0.1 (hT_a0.eq (by decide)) (by decide) rfl inX12 (by decide) k_981 (fun _ h => h) rfl dX12_atom_107 ?_
          refine lv_goto (tgt := 156) X.1 X.2.1 dX12_atom_110 (by decide) ?_
          exact gx_iret X hG hS hE hF dX12_atom_156
      · replace hF := it_t hF hc
        exact w_X12_atom_51 X n d KS hKS  a0 r8 σ11 _ _ ls hT_a0 hG hS hE (lv_sub hl [1, 0] rfl) hF
  · replace hF := it_f hF hc
    refine lv_aload_n X.1 X.2.1 dX12_atom_19 rfl (lv_at hl 1 rfl) ?_
    obtain ⟨r13, σ12, hz, hF⟩ := b2_ex hF
    refine gx_rI (gx_runV (As := []) (rest := []) X hG hS hT_a0.1 (hT_a0.eq (by decide)) (by decide) rfl (c_X12_readsNumber l D cA base ad σ9 n a0 hT_a0 hz) k_1142 k_1139 k_1141 ks_27 k_4 (h_X12_readsNumber) rfl rfl ⟨by show 1 + 1 ≤ 3 * d + 7; omega, by show 8 + (2 + 11) + 25 ≤ 69 * d + 183; omega⟩ rfl hl.1 rfl (Nat.le_of_ble_eq_true rfl) dX12_atom_20 ⟨Nat.zero_le _, Nat.zero_le _⟩) hS (fun H locs hG hS hX => ?_)
    have hT_a0 := hX.T hT_a0
    replace hE := hE.trans hX
    refine lv_istore_n (lv' := [(2, .int r13), (1, .int r8), (0, .ref (ad a0))]) X.1 X.2.1 dX12_atom_23 rfl hl (by decide) rfl (fun ls hl => ?_)
    refine lv_aload_n X.1 X.2.1 dX12_atom_24 rfl (lv_at hl 2 rfl) ?_
    refine gx_get 20 (v := .int (hI σ12 a0 20)) X hG hT_a0.1 (hT_a0.eq (by decide)) (by decide) rfl inX12 (by decide) k_980 (fun _ h => h) rfl dX12_atom_25 ?_
    exact gx_iret X hG hS hE hF dX12_atom_28
theorem w_X12_product_66 {σ0 τ : Hp} {r : Int32} (X : SX D cA base p s m args meth c cX12_product 4 (some .int) RX12) (n : Nat) (d : Nat) (KS : Nat → Hp → Option (Int32 × Hp)) (hKS : ∀ (σ : Hp) (a0 : Nat) {τ : Hp} {r : Int32}, hT σ a0 12 → KS a0 σ = some (r, τ) → MI l yX12_sum cX12_sum 4 (some .int) (rmr_X12_sum d) D cA base ad σ [.ref (ad a0)] r τ) (K_5 : Nat → Int32 → Hp → Option (Int32 × Hp)) (hK_5 : ∀ (v0 : Nat) (v1 : Int32) (σ : Hp) (H : Heap) (locs : List Loc) (ls : Array Slot), hT σ v0 12 → GW D cA base ad σ H → va_S (bA base) s.heap H locs → xT σ0 σ → lv_has ls 4 [(0, .ref (ad v0)), (1, .int v1)] → K_5 v0 v1 σ = some (r, τ) → W p l e (rmr_X12_product d) s m args below meth c H locs 0 0 (ZI below s args D cA base ad σ0 r τ) (F0 m 5 ls [])) : ∀ (v0 : Nat) (s0 : Int32) (σ : Hp) (H : Heap) (locs : List Loc) (ls : Array Slot), hT σ v0 12 → GW D cA base ad σ H → va_S (bA base) s.heap H locs → xT σ0 σ → lv_has ls 4 [(0, .ref (ad v0))] → F_X12_product_66 KS n K_5 v0 s0 σ = some (r, τ) → W p l e (rmr_X12_product d) s m args below meth c H locs 0 0 (ZI below s args D cA base ad σ0 r τ) (F0 m 66 ls [.int s0]) := by
  intro v0 s0 σ H locs ls hT_v0 hG hS hE hl hF
  unfold F_X12_product_66 at hF
  refine lv_istore_n (lv' := [(1, .int s0), (0, .ref (ad v0))]) X.1 X.2.1 dX12_product_66 rfl hl (by decide) rfl (fun ls hl => ?_)
  refine lv_goto (tgt := 5) X.1 X.2.1 dX12_product_67 (by decide) ?_
  exact hK_5 v0 s0 σ _ _ ls hT_v0 hG hS hE (lv_sub hl [1, 0] rfl) hF
theorem w_X12_product_23 {σ0 τ : Hp} {r : Int32} (X : SX D cA base p s m args meth c cX12_product 4 (some .int) RX12) (n : Nat) (d : Nat) (KS : Nat → Hp → Option (Int32 × Hp)) (hKS : ∀ (σ : Hp) (a0 : Nat) {τ : Hp} {r : Int32}, hT σ a0 12 → KS a0 σ = some (r, τ) → MI l yX12_sum cX12_sum 4 (some .int) (rmr_X12_sum d) D cA base ad σ [.ref (ad a0)] r τ) (K_5 : Nat → Int32 → Hp → Option (Int32 × Hp)) (hK_5 : ∀ (v0 : Nat) (v1 : Int32) (σ : Hp) (H : Heap) (locs : List Loc) (ls : Array Slot), hT σ v0 12 → GW D cA base ad σ H → va_S (bA base) s.heap H locs → xT σ0 σ → lv_has ls 4 [(0, .ref (ad v0)), (1, .int v1)] → K_5 v0 v1 σ = some (r, τ) → W p l e (rmr_X12_product d) s m args below meth c H locs 0 0 (ZI below s args D cA base ad σ0 r τ) (F0 m 5 ls [])) : ∀ (v0 : Nat) (v1 : Int32) (σ : Hp) (H : Heap) (locs : List Loc) (ls : Array Slot), hT σ v0 12 → GW D cA base ad σ H → va_S (bA base) s.heap H locs → xT σ0 σ → lv_has ls 4 [(0, .ref (ad v0)), (1, .int v1)] → F_X12_product_23 KS n K_5 v0 v1 σ = some (r, τ) → W p l e (rmr_X12_product d) s m args below meth c H locs 0 0 (ZI below s args D cA base ad σ0 r τ) (F0 m 23 ls []) := by
  intro v0 v1 σ H locs ls hT_v0 hG hS hE hl hF
  unfold F_X12_product_23 at hF
  refine lv_aload_n X.1 X.2.1 dX12_product_23 rfl (lv_at hl 0 rfl) ?_
  obtain ⟨r2, σ1, hz, hF⟩ := b2_ex hF
  refine gx_rI (gx_runV (As := []) (rest := []) X hG hS hT_v0.1 (hT_v0.eq (by decide)) (by decide) rfl (c_X12_sign l D cA base ad σ n v0 hT_v0 hz) k_1131 k_1128 k_1130 ks_25 k_4 (h_X12_sign) rfl rfl ⟨by show 0 + 1 ≤ 3 * d + 8; omega, by show 8 + (1 + 11) + 0 ≤ 69 * d + 206; omega⟩ rfl hl.1 rfl (Nat.le_of_ble_eq_true rfl) dX12_product_24 ⟨Nat.zero_le _, Nat.zero_le _⟩) hS (fun H locs hG hS hX => ?_)
  have hT_v0 := hX.T hT_v0
  replace hE := hE.trans hX
  refine lv_istore_n (lv' := [(2, .int r2), (0, .ref (ad v0)), (1, .int v1)]) X.1 X.2.1 dX12_product_27 rfl hl (by decide) rfl (fun ls hl => ?_)
  refine lv_aload_n X.1 X.2.1 dX12_product_28 rfl (lv_at hl 1 rfl) ?_
  refine lv_dup X.1 X.2.1 dX12_product_29 rfl ?_
  refine gx_get 16 (v := .int (hI σ1 v0 16)) X hG hT_v0.1 (hT_v0.eq (by decide)) (by decide) rfl inX12 (by decide) k_976 (fun _ h => h) rfl dX12_product_30 ?_
  refine lv_iconst (v := 1) X.1 X.2.1 dX12_product_33 (by decide) ?_
  refine lv_iadd X.1 X.2.1 dX12_product_34 ?_
  refine gx_putI 16  X hG hS hT_v0.1 (hT_v0.eq (by decide)) (by decide) rfl inX12 tyX12_ok nmX12 (by decide) k_976 (fun _ h => h) rfl rfl rfl rfl (Nat.le_of_ble_eq_true rfl) dX12_product_35 hF (fun σ3 H locs hG hS hX hF => ?_)
  have hT_v0 := hX.T hT_v0
  replace hE := hE.trans hX
  refine lv_aload_n X.1 X.2.1 dX12_product_38 rfl (lv_at hl 1 rfl) ?_
  obtain ⟨r5, σ4, hz, hF⟩ := b2_ex hF
  refine gx_rI (gx_runV (As := []) (rest := []) X hG hS hT_v0.1 (hT_v0.eq (by decide)) (by decide) rfl (c_X12_atom l D cA base ad σ3 n d KS hKS v0 hT_v0 hz) k_1172 k_1169 k_1171 ks_33 k_4 (h_X12_atom) rfl rfl ⟨by show 3 * d + 7 + 1 ≤ 3 * d + 8; omega, by show 8 + (4 + 11) + (69 * d + 183) ≤ 69 * d + 206; omega⟩ rfl hl.1 rfl (Nat.le_of_ble_eq_true rfl) dX12_product_39 ⟨Nat.zero_le _, Nat.zero_le _⟩) hS (fun H locs hG hS hX => ?_)
  have hT_v0 := hX.T hT_v0
  replace hE := hE.trans hX
  refine lv_istore_n (lv' := [(3, .int r5), (2, .int r2), (0, .ref (ad v0)), (1, .int v1)]) X.1 X.2.1 dX12_product_42 rfl hl (by decide) rfl (fun ls hl => ?_)
  refine lv_iload_n X.1 X.2.1 dX12_product_43 rfl (lv_at hl 1 rfl) ?_
  refine lv_bipush (v := 42) X.1 X.2.1 dX12_product_44 (by decide) ?_
  refine lv_icmp_ne (tgt := 55) X.1 X.2.1 dX12_product_46 (by decide) (fun hc => ?_) (fun hc => ?_)
  · replace hF := it_f hF hc
    refine lv_iload_n X.1 X.2.1 dX12_product_55 rfl (lv_at hl 0 rfl) ?_
    refine lv_if_ne (tgt := 63) X.1 X.2.1 dX12_product_56 (by decide) (fun hc => ?_) (fun hc => ?_)
    · replace hF := it_f hF hc
      refine lv_iload_n X.1 X.2.1 dX12_product_63 rfl (lv_at hl 3 rfl) ?_
      refine lv_iload_n X.1 X.2.1 dX12_product_64 rfl (lv_at hl 0 rfl) ?_
      obtain ⟨hne, hF⟩ := ck_ex hF
      refine lv_idiv X.1 X.2.1 dX12_product_65 hne ?_
      exact w_X12_product_66 X n d KS hKS K_5 hK_5 v0 (v1 / r5) σ4 _ _ ls hT_v0 hG hS hE (lv_sub hl [2] rfl) hF
    · replace hF := it_t hF hc
      refine lv_iconst (v := 0) X.1 X.2.1 dX12_product_59 (by decide) ?_
      refine lv_goto (tgt := 66) X.1 X.2.1 dX12_product_60 (by decide) ?_
      exact w_X12_product_66 X n d KS hKS K_5 hK_5 v0 0 σ4 _ _ ls hT_v0 hG hS hE (lv_sub hl [2] rfl) hF
  · replace hF := it_t hF hc
    refine lv_iload_n X.1 X.2.1 dX12_product_49 rfl (lv_at hl 3 rfl) ?_
    refine lv_iload_n X.1 X.2.1 dX12_product_50 rfl (lv_at hl 0 rfl) ?_
    refine lv_imul X.1 X.2.1 dX12_product_51 ?_
    refine lv_goto (tgt := 66) X.1 X.2.1 dX12_product_52 (by decide) ?_
    exact w_X12_product_66 X n d KS hKS K_5 hK_5 v0 (v1 * r5) σ4 _ _ ls hT_v0 hG hS hE (lv_sub hl [2] rfl) hF
theorem w_X12_product_5 {σ0 τ : Hp} {r : Int32} (X : SX D cA base p s m args meth c cX12_product 4 (some .int) RX12) (n : Nat) (d : Nat) (KS : Nat → Hp → Option (Int32 × Hp)) (hKS : ∀ (σ : Hp) (a0 : Nat) {τ : Hp} {r : Int32}, hT σ a0 12 → KS a0 σ = some (r, τ) → MI l yX12_sum cX12_sum 4 (some .int) (rmr_X12_sum d) D cA base ad σ [.ref (ad a0)] r τ)  : ∀ f : Nat, ∀ (v0 : Nat) (v1 : Int32) (σ : Hp) (H : Heap) (locs : List Loc) (ls : Array Slot), hT σ v0 12 → GW D cA base ad σ H → va_S (bA base) s.heap H locs → xT σ0 σ → lv_has ls 4 [(0, .ref (ad v0)), (1, .int v1)] → F_X12_product_5 KS n  f v0 v1 σ = some (r, τ) → W p l e (rmr_X12_product d) s m args below meth c H locs 0 0 (ZI below s args D cA base ad σ0 r τ) (F0 m 5 ls []) := by
  intro f
  induction f with
  | zero => intro v0 v1 σ H locs ls h0 hG hS hE hl hF
            rw [F_X12_product_5] at hF; cases hF
  | succ f ih =>
    intro v0 v1 σ H locs ls hT_v0 hG hS hE hl hF
    rw [F_X12_product_5] at hF
    refine lv_aload_n X.1 X.2.1 dX12_product_5 rfl (lv_at hl 0 rfl) ?_
    obtain ⟨r7, σ6, hz, hF⟩ := b2_ex hF
    refine gx_rI (gx_runV (As := []) (rest := []) X hG hS hT_v0.1 (hT_v0.eq (by decide)) (by decide) rfl (c_X12_sign l D cA base ad σ n v0 hT_v0 hz) k_1131 k_1128 k_1130 ks_25 k_4 (h_X12_sign) rfl rfl ⟨by show 0 + 1 ≤ 3 * d + 8; omega, by show 8 + (1 + 11) + 0 ≤ 69 * d + 206; omega⟩ rfl hl.1 rfl (Nat.le_of_ble_eq_true rfl) dX12_product_6 ⟨Nat.zero_le _, Nat.zero_le _⟩) hS (fun H locs hG hS hX => ?_)
    have hT_v0 := hX.T hT_v0
    replace hE := hE.trans hX
    refine lv_bipush (v := 42) X.1 X.2.1 dX12_product_9 (by decide) ?_
    refine lv_icmp_eq (tgt := 23) X.1 X.2.1 dX12_product_11 (by decide) (fun hc => ?_) (fun hc => ?_)
    · replace hF := it_t hF hc
      exact w_X12_product_23 X n d KS hKS (F_X12_product_5 KS n  f) ih v0 v1 σ6 _ _ ls hT_v0 hG hS hE (lv_sub hl [0, 1] rfl) hF
    · replace hF := it_f hF hc
      refine lv_aload_n X.1 X.2.1 dX12_product_14 rfl (lv_at hl 0 rfl) ?_
      obtain ⟨r9, σ8, hz, hF⟩ := b2_ex hF
      refine gx_rI (gx_runV (As := []) (rest := []) X hG hS hT_v0.1 (hT_v0.eq (by decide)) (by decide) rfl (c_X12_sign l D cA base ad σ6 n v0 hT_v0 hz) k_1131 k_1128 k_1130 ks_25 k_4 (h_X12_sign) rfl rfl ⟨by show 0 + 1 ≤ 3 * d + 8; omega, by show 8 + (1 + 11) + 0 ≤ 69 * d + 206; omega⟩ rfl hl.1 rfl (Nat.le_of_ble_eq_true rfl) dX12_product_15 ⟨Nat.zero_le _, Nat.zero_le _⟩) hS (fun H locs hG hS hX => ?_)
      have hT_v0 := hX.T hT_v0
      replace hE := hE.trans hX
      refine lv_bipush (v := 47) X.1 X.2.1 dX12_product_18 (by decide) ?_
      refine lv_icmp_ne (tgt := 70) X.1 X.2.1 dX12_product_20 (by decide) (fun hc => ?_) (fun hc => ?_)
      · replace hF := it_f hF hc
        refine lv_iload_n X.1 X.2.1 dX12_product_70 rfl (lv_at hl 1 rfl) ?_
        exact gx_iret X hG hS hE hF dX12_product_71
      · replace hF := it_t hF hc
        exact w_X12_product_23 X n d KS hKS (F_X12_product_5 KS n  f) ih v0 v1 σ8 _ _ ls hT_v0 hG hS hE (lv_sub hl [0, 1] rfl) hF
theorem c_X12_product (l : Launch) (D : va_G) (cA : Nat → ClassId) (base : Nat) (ad : Nat → Nat) (σ : Hp) (n : Nat) (d : Nat) (KS : Nat → Hp → Option (Int32 × Hp)) (hKS : ∀ (σ : Hp) (a0 : Nat) {τ : Hp} {r : Int32}, hT σ a0 12 → KS a0 σ = some (r, τ) → MI l yX12_sum cX12_sum 4 (some .int) (rmr_X12_sum d) D cA base ad σ [.ref (ad a0)] r τ) (a0 : Nat) (hT_a0 : hT σ a0 12) {τ : Hp} {r : Int32} (hF : F_X12_product KS n a0 σ = some (r, τ)) : MI l yX12_product cX12_product 4 (some .int) (rmr_X12_product d) D cA base ad σ [.ref (ad a0)] r τ := by
  refine Met.ofW (cc := cX12_product) (maxL := 4) (ret := (some .int)) (by decide) rfl ?_
  intro p e s m args below meth c s₁ B hml hv
  obtain ⟨rfl, hv⟩ := hv
  have X : SX D cA base p s m ([.ref (ad a0)] : List Value).toArray meth c cX12_product 4 (some .int) RX12 := sx_of B hml hv
  have hG := hv.1
  have hS : va_S (bA base) s.heap s.heap [] := va_S.rf
  have hE := xT.rf σ
  have hl := lv_entry ([.ref (ad a0)]) (n := 4) (Nat.le_of_ble_eq_true rfl)
  rw [lg_entry_eq]
  generalize (lg_sl ([.ref (ad a0)]) ++ List.replicate (4 - (lg_sl ([.ref (ad a0)])).length) Slot.unset).toArray = ls at hl ⊢
  have hl : lv_has ls 4 [(0, .ref (ad a0))] := hl
  unfold F_X12_product at hF
  refine lv_aload_n X.1 X.2.1 dX12_product_0 rfl (lv_at hl 0 rfl) ?_
  obtain ⟨r11, σ10, hz, hF⟩ := b2_ex hF
  refine gx_rI (gx_runV (As := []) (rest := []) X hG hS hT_a0.1 (hT_a0.eq (by decide)) (by decide) rfl (c_X12_atom l D cA base ad σ n d KS hKS a0 hT_a0 hz) k_1172 k_1169 k_1171 ks_33 k_4 (h_X12_atom) rfl rfl ⟨by show 3 * d + 7 + 1 ≤ 3 * d + 8; omega, by show 8 + (4 + 11) + (69 * d + 183) ≤ 69 * d + 206; omega⟩ rfl hl.1 rfl (Nat.le_of_ble_eq_true rfl) dX12_product_1 ⟨Nat.zero_le _, Nat.zero_le _⟩) hS (fun H locs hG hS hX => ?_)
  have hT_a0 := hX.T hT_a0
  replace hE := hE.trans hX
  refine lv_istore_n (lv' := [(1, .int r11), (0, .ref (ad a0))]) X.1 X.2.1 dX12_product_4 rfl hl (by decide) rfl (fun ls hl => ?_)
  exact w_X12_product_5 X n d KS hKS  n a0 r11 σ10 _ _ ls hT_a0 hG hS hE (lv_sub hl [1, 0] rfl) hF
end W_model3
