/-! model2: printed by wip/whole/gen.py -/
section W_model2
variable {p : Program} {l : Launch} {e : Env} {s : State} {m : MethodId} {args : Array Value} {below : List Frame} {meth : Method} {c : Code} {D : va_G} {cA : Nat → ClassId} {base : Nat} {ad : Nat → Nat}
abbrev rm_X12_takes : Room := { frames := 1, cells := 0, slots := 0, locals := 20 }
theorem h_X12_takes : yX12_takes.cls = RX12 ∧ yX12_takes.cls ≠ "java/lang/invoke/MethodHandle" ∧ yX12_takes.cls ≠ "java/lang/invoke/VarHandle" ∧ (parseMethodDescriptor yX12_takes.desc).map (fun d => d.parameters.length) = some 1 := by decide +kernel
def F_X12_takes (n : Nat) (a0 : Nat) (a1 : Int32) (σ : Hp) : Option (Int32 × Hp) := b2 (F_X12_sign n a0 σ) fun (r2 : Int32) (σ1 : Hp) => if r2 = a1 then (lt (pI σ1 a0 16 ((hI σ1 a0 16) + 1)) fun (σ3 : Hp) => some (1, σ3)) else (some (0, σ1))
abbrev rm_X12_readsNumber : Room := { frames := 1, cells := 0, slots := 0, locals := 25 }
theorem h_X12_readsNumber : yX12_readsNumber.cls = RX12 ∧ yX12_readsNumber.cls ≠ "java/lang/invoke/MethodHandle" ∧ yX12_readsNumber.cls ≠ "java/lang/invoke/VarHandle" ∧ (parseMethodDescriptor yX12_readsNumber.desc).map (fun d => d.parameters.length) = some 0 := by decide +kernel
def F_X12_readsNumber_42 (n : Nat)  : Nat → Nat → Int32 → Hp → Option (Int32 × Hp)
  | 0, _, _, _ => none
  | f + 1, v0, v1, σ => if 3 ≤ v1 then (some (1, σ)) else (if (hI σ v0 20) ≤ 0 then (some (1, σ)) else (b2 (F_X12_sign n v0 σ) fun (r2 : Int32) (σ1 : Hp) => b2 (F_X12_isIn n r2.toInt64 48 57 σ1) fun (r4 : Int32) (σ3 : Hp) => if r4 = 0 then (some (1, σ3)) else (b2 (F_X12_sign n v0 σ3) fun (r6 : Int32) (σ5 : Hp) => lt (pI σ5 v0 20 (((10 * (hI σ3 v0 20)) + r6) - 48)) fun (σ7 : Hp) => lt (pI σ7 v0 16 ((hI σ7 v0 16) + 1)) fun (σ8 : Hp) => (F_X12_readsNumber_42 n  f) v0 (v1 + 1) σ8)))
def F_X12_readsNumber (n : Nat) (a0 : Nat) (σ : Hp) : Option (Int32 × Hp) := b2 (F_X12_sign n a0 σ) fun (r10 : Int32) (σ9 : Hp) => b2 (F_X12_isIn n r10.toInt64 48 57 σ9) fun (r12 : Int32) (σ11 : Hp) => if r12 = 0 then (some (0, σ11)) else (b2 (F_X12_sign n a0 σ11) fun (r14 : Int32) (σ13 : Hp) => lt (pI σ13 a0 20 (r14 - 48)) fun (σ15 : Hp) => lt (pI σ15 a0 16 ((hI σ15 a0 16) + 1)) fun (σ16 : Hp) => F_X12_readsNumber_42 n  n a0 1 σ16)
abbrev rm_X12_isField : Room := { frames := 0, cells := 0, slots := 0, locals := 0 }
theorem h_X12_isField : yX12_isField.cls = RX12 ∧ yX12_isField.cls ≠ "java/lang/invoke/MethodHandle" ∧ yX12_isField.cls ≠ "java/lang/invoke/VarHandle" ∧ (parseMethodDescriptor yX12_isField.desc).map (fun d => d.parameters.length) = some 1 := by decide +kernel
def F_X12_isField_30 (n : Nat)   (σ : Hp) : Option (Int32 × Hp) := some (1, σ)
def F_X12_isField (n : Nat) (a0 : Int32) (σ : Hp) : Option (Int32 × Hp) := if a0 = 116 then (F_X12_isField_30 n  σ) else (if a0 = 112 then (F_X12_isField_30 n  σ) else (if a0 = 121 then (F_X12_isField_30 n  σ) else (if a0 = 110 then (F_X12_isField_30 n  σ) else (if a0 = 109 then (F_X12_isField_30 n  σ) else (some (0, σ))))))
abbrev rmr_X12_readsSum (d : Nat) : Room := { frames := 3 * d + 6, cells := 0, slots := 0, locals := 61 * d + 160 }
theorem h_X12_readsSum : yX12_readsSum.cls = RX12 ∧ yX12_readsSum.cls ≠ "java/lang/invoke/MethodHandle" ∧ yX12_readsSum.cls ≠ "java/lang/invoke/VarHandle" ∧ (parseMethodDescriptor yX12_readsSum.desc).map (fun d => d.parameters.length) = some 0 := by decide +kernel
abbrev rmr_X12_readsAtom (d : Nat) : Room := { frames := 3 * d + 7, cells := 0, slots := 0, locals := 61 * d + 180 }
theorem h_X12_readsAtom : yX12_readsAtom.cls = RX12 ∧ yX12_readsAtom.cls ≠ "java/lang/invoke/MethodHandle" ∧ yX12_readsAtom.cls ≠ "java/lang/invoke/VarHandle" ∧ (parseMethodDescriptor yX12_readsAtom.desc).map (fun d => d.parameters.length) = some 0 := by decide +kernel
def F_X12_readsAtom_91 (KS : Nat → Hp → Option (Int32 × Hp)) (n : Nat)  (v0 : Nat) (s0 : Int32) (s1 : Nat) (σ : Hp) : Option (Int32 × Hp) := b2 (F_X12_takes n s1 s0 σ) fun (r2 : Int32) (σ1 : Hp) => if r2 = 0 then (some (0, σ1)) else (lt (pI σ1 v0 19 ((hI σ1 v0 19) - 1)) fun (σ3 : Hp) => some (1, σ3))
def F_X12_readsAtom_77 (KS : Nat → Hp → Option (Int32 × Hp)) (n : Nat)  (v0 : Nat) (v1 : Int32) (σ : Hp) : Option (Int32 × Hp) := if v1 = 91 then (F_X12_readsAtom_91 KS n  v0 93 v0 σ) else (F_X12_readsAtom_91 KS n  v0 41 v0 σ)
def F_X12_readsAtom_17 (KS : Nat → Hp → Option (Int32 × Hp)) (n : Nat)  (v0 : Nat) (v1 : Int32) (σ : Hp) : Option (Int32 × Hp) := if (hI σ v0 19) = 6 then (some (0, σ)) else (lt (pI σ v0 16 ((hI σ v0 16) + 1)) fun (σ4 : Hp) => lt (pI σ4 v0 19 ((hI σ4 v0 19) + 1)) fun (σ5 : Hp) => b2 (KS v0 σ5) fun (r7 : Int32) (σ6 : Hp) => if r7 = 0 then (some (0, σ6)) else (if v1 = 91 then (b2 (F_X12_takes n v0 44 σ6) fun (r9 : Int32) (σ8 : Hp) => if r9 = 0 then (some (0, σ8)) else (b2 (KS v0 σ8) fun (r11 : Int32) (σ10 : Hp) => if r11 = 0 then (some (0, σ10)) else (F_X12_readsAtom_77 KS n  v0 v1 σ10))) else (F_X12_readsAtom_77 KS n  v0 v1 σ6)))
def F_X12_readsAtom (KS : Nat → Hp → Option (Int32 × Hp)) (n : Nat) (a0 : Nat) (σ : Hp) : Option (Int32 × Hp) := b2 (F_X12_sign n a0 σ) fun (r13 : Int32) (σ12 : Hp) => if r13 = 40 then (F_X12_readsAtom_17 KS n  a0 r13 σ12) else (if r13 = 91 then (F_X12_readsAtom_17 KS n  a0 r13 σ12) else (b2 (F_X12_isField n r13 σ12) fun (r15 : Int32) (σ14 : Hp) => if r15 = 0 then (b2 (F_X12_readsNumber n a0 σ14) fun (r17 : Int32) (σ16 : Hp) => ck (r17 = 0 ∨ r17 = 1) (some (r17, σ16))) else (lt (pI σ14 a0 16 ((hI σ14 a0 16) + 1)) fun (σ18 : Hp) => some (1, σ18))))
abbrev rmr_X12_readsProduct (d : Nat) : Room := { frames := 3 * d + 8, cells := 0, slots := 0, locals := 61 * d + 201 }
theorem h_X12_readsProduct : yX12_readsProduct.cls = RX12 ∧ yX12_readsProduct.cls ≠ "java/lang/invoke/MethodHandle" ∧ yX12_readsProduct.cls ≠ "java/lang/invoke/VarHandle" ∧ (parseMethodDescriptor yX12_readsProduct.desc).map (fun d => d.parameters.length) = some 0 := by decide +kernel
def F_X12_readsProduct_0 (KS : Nat → Hp → Option (Int32 × Hp)) (n : Nat)  : Nat → Nat → Hp → Option (Int32 × Hp)
  | 0, _, _ => none
  | f + 1, v0, σ => b2 (F_X12_readsAtom KS n v0 σ) fun (r2 : Int32) (σ1 : Hp) => if r2 = 0 then (some (0, σ1)) else (b2 (F_X12_takes n v0 42 σ1) fun (r4 : Int32) (σ3 : Hp) => if r4 = 0 then (b2 (F_X12_takes n v0 47 σ3) fun (r6 : Int32) (σ5 : Hp) => if r6 = 0 then (some (1, σ5)) else ((F_X12_readsProduct_0 KS n  f) v0 σ5)) else ((F_X12_readsProduct_0 KS n  f) v0 σ3))
def F_X12_readsProduct (KS : Nat → Hp → Option (Int32 × Hp)) (n : Nat) (a0 : Nat) (σ : Hp) : Option (Int32 × Hp) := F_X12_readsProduct_0 KS n  n a0 σ
def F_X12_readsSum_0 (KS : Nat → Hp → Option (Int32 × Hp)) (n : Nat)  : Nat → Nat → Hp → Option (Int32 × Hp)
  | 0, _, _ => none
  | f + 1, v0, σ => b2 (F_X12_readsProduct KS n v0 σ) fun (r2 : Int32) (σ1 : Hp) => if r2 = 0 then (some (0, σ1)) else (b2 (F_X12_takes n v0 43 σ1) fun (r4 : Int32) (σ3 : Hp) => if r4 = 0 then (b2 (F_X12_takes n v0 45 σ3) fun (r6 : Int32) (σ5 : Hp) => if r6 = 0 then (some (1, σ5)) else ((F_X12_readsSum_0 KS n  f) v0 σ5)) else ((F_X12_readsSum_0 KS n  f) v0 σ3))
def F_X12_readsSumB (KS : Nat → Hp → Option (Int32 × Hp)) (n : Nat) (a0 : Nat) (σ : Hp) : Option (Int32 × Hp) := F_X12_readsSum_0 KS n  n a0 σ
def F_X12_readsSum (n : Nat) : Nat → Nat → Hp → Option (Int32 × Hp)
  | 0, _, _ => none
  | d + 1, a0, σ => F_X12_readsSumB (F_X12_readsSum n d) n a0 σ
abbrev rm_X12_wrongRow : Room := { frames := 2, cells := 0, slots := 0, locals := 45 }
theorem h_X12_wrongRow : yX12_wrongRow.cls = RX12 ∧ yX12_wrongRow.cls ≠ "java/lang/invoke/MethodHandle" ∧ yX12_wrongRow.cls ≠ "java/lang/invoke/VarHandle" ∧ (parseMethodDescriptor yX12_wrongRow.desc).map (fun d => d.parameters.length) = some 2 := by decide +kernel
def F_X12_wrongRow_49 (n : Nat)   (σ : Hp) : Option (Int32 × Hp) := some ((-12), σ)
def F_X12_wrongRow (n : Nat) (a0 : Nat) (a1 : Int32) (a2 : Int32) (σ : Hp) : Option (Int32 × Hp) := b2 (F_X12_isShelf n a1 σ) fun (r2 : Int32) (σ1 : Hp) => if r2 = 0 then (some ((-1), σ1)) else (b1 (hR σ1 a0 7) fun (i3 : Nat) => ck (¬ (a1 < 0 ∨ hL σ1 i3 ≤ a1.toNatClampNeg)) (if (hI σ1 i3 a1.toNatClampNeg) = 0 then (some ((-11), σ1)) else (b1 (hR σ1 a0 7) fun (i4 : Nat) => ck (¬ (a1 < 0 ∨ hL σ1 i4 ≤ a1.toNatClampNeg)) (if (hI σ1 i4 a1.toNatClampNeg) = 2 then (if a2 < 0 then (some (0, σ1)) else (b1 (hR σ1 a0 8) fun (i5 : Nat) => ck (¬ (a1 < 0 ∨ hL σ1 i5 ≤ a1.toNatClampNeg)) (if (hI σ1 i5 a1.toNatClampNeg) = a2 then (some (0, σ1)) else (F_X12_wrongRow_49 n  σ1)))) else (F_X12_wrongRow_49 n  σ1)))))
theorem c_X12_takes (l : Launch) (D : va_G) (cA : Nat → ClassId) (base : Nat) (ad : Nat → Nat) (σ : Hp) (n : Nat) (a0 : Nat) (a1 : Int32) (hT_a0 : hT σ a0 12) {τ : Hp} {r : Int32} (hF : F_X12_takes n a0 a1 σ = some (r, τ)) : MI l yX12_takes cX12_takes 2 (some .boolean) rm_X12_takes D cA base ad σ [.ref (ad a0), .int a1] r τ := by
  refine Met.ofW (cc := cX12_takes) (maxL := 2) (ret := (some .boolean)) (by decide) rfl ?_
  intro p e s m args below meth c s₁ B hml hv
  obtain ⟨rfl, hv⟩ := hv
  have X : SX D cA base p s m ([.ref (ad a0), .int a1] : List Value).toArray meth c cX12_takes 2 (some .boolean) RX12 := sx_of B hml hv
  have hG := hv.1
  have hS : va_S (bA base) s.heap s.heap [] := va_S.rf
  have hE := xT.rf σ
  have hl := lv_entry ([.ref (ad a0), .int a1]) (n := 2) (Nat.le_of_ble_eq_true rfl)
  rw [lg_entry_eq]
  generalize (lg_sl ([.ref (ad a0), .int a1]) ++ List.replicate (2 - (lg_sl ([.ref (ad a0), .int a1])).length) Slot.unset).toArray = ls at hl ⊢
  have hl : lv_has ls 2 [(0, .ref (ad a0)), (1, .int a1)] := hl
  unfold F_X12_takes at hF
  refine lv_aload_n X.1 X.2.1 dX12_takes_0 rfl (lv_at hl 0 rfl) ?_
  obtain ⟨r2, σ1, hz, hF⟩ := b2_ex hF
  refine gx_rI (gx_runV (As := []) (rest := []) X hG hS hT_a0.1 (hT_a0.eq (by decide)) (by decide) rfl (c_X12_sign l D cA base ad σ n a0 hT_a0 hz) k_1131 k_1128 k_1130 ks_25 k_4 (h_X12_sign) rfl rfl ⟨by decide, by decide⟩ rfl hl.1 rfl (Nat.le_of_ble_eq_true rfl) dX12_takes_1 ⟨Nat.zero_le _, Nat.zero_le _⟩) hS (fun H locs hG hS hX => ?_)
  have hT_a0 := hX.T hT_a0
  replace hE := hE.trans hX
  refine lv_iload_n X.1 X.2.1 dX12_takes_4 rfl (lv_at hl 1 rfl) ?_
  refine lv_icmp_eq (tgt := 10) X.1 X.2.1 dX12_takes_5 (by decide) (fun hc => ?_) (fun hc => ?_)
  · replace hF := it_t hF hc
    refine lv_aload_n X.1 X.2.1 dX12_takes_10 rfl (lv_at hl 0 rfl) ?_
    refine lv_dup X.1 X.2.1 dX12_takes_11 rfl ?_
    refine gx_get 16 (v := .int (hI σ1 a0 16)) X hG hT_a0.1 (hT_a0.eq (by decide)) (by decide) rfl inX12 (by decide) k_976 (fun _ h => h) rfl dX12_takes_12 ?_
    refine lv_iconst (v := 1) X.1 X.2.1 dX12_takes_15 (by decide) ?_
    refine lv_iadd X.1 X.2.1 dX12_takes_16 ?_
    refine gx_putI 16  X hG hS hT_a0.1 (hT_a0.eq (by decide)) (by decide) rfl inX12 tyX12_ok nmX12 (by decide) k_976 (fun _ h => h) rfl rfl rfl rfl (Nat.le_of_ble_eq_true rfl) dX12_takes_17 hF (fun σ3 H locs hG hS hX hF => ?_)
    have hT_a0 := hX.T hT_a0
    replace hE := hE.trans hX
    refine lv_iconst (v := 1) X.1 X.2.1 dX12_takes_20 (by decide) ?_
    exact gx_zret X hG hS hE hF rfl dX12_takes_21
  · replace hF := it_f hF hc
    refine lv_iconst (v := 0) X.1 X.2.1 dX12_takes_8 (by decide) ?_
    exact gx_zret X hG hS hE hF rfl dX12_takes_9
theorem w_X12_readsNumber_42 {σ0 τ : Hp} {r : Int32} (X : SX D cA base p s m args meth c cX12_readsNumber 2 (some .boolean) RX12) (n : Nat)  : ∀ f : Nat, ∀ (v0 : Nat) (v1 : Int32) (σ : Hp) (H : Heap) (locs : List Loc) (ls : Array Slot), hT σ v0 12 → GW D cA base ad σ H → va_S (bA base) s.heap H locs → xT σ0 σ → lv_has ls 2 [(0, .ref (ad v0)), (1, .int v1)] → F_X12_readsNumber_42 n  f v0 v1 σ = some (r, τ) → W p l e rm_X12_readsNumber s m args below meth c H locs 0 0 (ZI below s args D cA base ad σ0 r τ) (F0 m 42 ls []) := by
  intro f
  induction f with
  | zero => intro v0 v1 σ H locs ls h0 hG hS hE hl hF
            rw [F_X12_readsNumber_42] at hF; cases hF
  | succ f ih =>
    intro v0 v1 σ H locs ls hT_v0 hG hS hE hl hF
    rw [F_X12_readsNumber_42] at hF
    refine lv_iload_n X.1 X.2.1 dX12_readsNumber_42 rfl (lv_at hl 1 rfl) ?_
    refine lv_iconst (v := 3) X.1 X.2.1 dX12_readsNumber_43 (by decide) ?_
    refine lv_icmp_ge (tgt := 106) X.1 X.2.1 dX12_readsNumber_44 (by decide) (fun hc => ?_) (fun hc => ?_)
    · replace hF := it_t hF hc
      refine lv_iconst (v := 1) X.1 X.2.1 dX12_readsNumber_106 (by decide) ?_
      exact gx_zret X hG hS hE hF rfl dX12_readsNumber_107
    · replace hF := it_f hF hc
      refine lv_aload_n X.1 X.2.1 dX12_readsNumber_47 rfl (lv_at hl 0 rfl) ?_
      refine gx_get 20 (v := .int (hI σ v0 20)) X hG hT_v0.1 (hT_v0.eq (by decide)) (by decide) rfl inX12 (by decide) k_980 (fun _ h => h) rfl dX12_readsNumber_48 ?_
      refine lv_if_le (tgt := 106) X.1 X.2.1 dX12_readsNumber_51 (by decide) (fun hc => ?_) (fun hc => ?_)
      · replace hF := it_t hF hc
        refine lv_iconst (v := 1) X.1 X.2.1 dX12_readsNumber_106 (by decide) ?_
        exact gx_zret X hG hS hE hF rfl dX12_readsNumber_107
      · replace hF := it_f hF hc
        refine lv_aload_n X.1 X.2.1 dX12_readsNumber_54 rfl (lv_at hl 0 rfl) ?_
        obtain ⟨r2, σ1, hz, hF⟩ := b2_ex hF
        refine gx_rI (gx_runV (As := []) (rest := []) X hG hS hT_v0.1 (hT_v0.eq (by decide)) (by decide) rfl (c_X12_sign l D cA base ad σ n v0 hT_v0 hz) k_1131 k_1128 k_1130 ks_25 k_4 (h_X12_sign) rfl rfl ⟨by decide, by decide⟩ rfl hl.1 rfl (Nat.le_of_ble_eq_true rfl) dX12_readsNumber_55 ⟨Nat.zero_le _, Nat.zero_le _⟩) hS (fun H locs hG hS hX => ?_)
        have hT_v0 := hX.T hT_v0
        replace hE := hE.trans hX
        refine lv_i2l X.1 X.2.1 dX12_readsNumber_58 rfl ?_
        refine lv_ldc2 (v := 48) X.1 X.2.1 X.2.2.2.2.2.1 (X.w k_1143) dX12_readsNumber_59 ?_
        refine lv_ldc2 (v := 57) X.1 X.2.1 X.2.2.2.2.2.1 (X.w k_1144) dX12_readsNumber_62 ?_
        obtain ⟨r4, σ3, hz, hF⟩ := b2_ex hF
        refine gx_rI (gx_runS (As := [.long r2.toInt64, .long 48, .long 57]) (rest := []) X hG hS (c_X12_isIn l D cA base ad σ1 n r2.toInt64 48 57 hz) k_1063 k_1061 k_1062 k_4 (h_X12_isIn.2) rfl rfl ⟨by decide, by decide⟩ rfl hl.1 rfl (Nat.le_of_ble_eq_true rfl) dX12_readsNumber_65 ⟨Nat.zero_le _, Nat.zero_le _⟩) hS (fun H locs hG hS hX => ?_)
        have hT_v0 := hX.T hT_v0
        replace hE := hE.trans hX
        refine lv_if_eq (tgt := 106) X.1 X.2.1 dX12_readsNumber_68 (by decide) (fun hc => ?_) (fun hc => ?_)
        · replace hF := it_t hF hc
          refine lv_iconst (v := 1) X.1 X.2.1 dX12_readsNumber_106 (by decide) ?_
          exact gx_zret X hG hS hE hF rfl dX12_readsNumber_107
        · replace hF := it_f hF hc
          refine lv_aload_n X.1 X.2.1 dX12_readsNumber_71 rfl (lv_at hl 0 rfl) ?_
          refine lv_bipush (v := 10) X.1 X.2.1 dX12_readsNumber_72 (by decide) ?_
          refine lv_aload_n X.1 X.2.1 dX12_readsNumber_74 rfl (lv_at hl 0 rfl) ?_
          refine gx_get 20 (v := .int (hI σ3 v0 20)) X hG hT_v0.1 (hT_v0.eq (by decide)) (by decide) rfl inX12 (by decide) k_980 (fun _ h => h) rfl dX12_readsNumber_75 ?_
          refine lv_imul X.1 X.2.1 dX12_readsNumber_78 ?_
          refine lv_aload_n X.1 X.2.1 dX12_readsNumber_79 rfl (lv_at hl 0 rfl) ?_
          obtain ⟨r6, σ5, hz, hF⟩ := b2_ex hF
          refine gx_rI (gx_runV (As := []) (rest := [.int (10 * (hI σ3 v0 20)), .ref (ad v0)]) X hG hS hT_v0.1 (hT_v0.eq (by decide)) (by decide) rfl (c_X12_sign l D cA base ad σ3 n v0 hT_v0 hz) k_1131 k_1128 k_1130 ks_25 k_4 (h_X12_sign) rfl rfl ⟨by decide, by decide⟩ rfl hl.1 rfl (Nat.le_of_ble_eq_true rfl) dX12_readsNumber_80 ⟨Nat.zero_le _, Nat.zero_le _⟩) hS (fun H locs hG hS hX => ?_)
          have hT_v0 := hX.T hT_v0
          replace hE := hE.trans hX
          refine lv_iadd X.1 X.2.1 dX12_readsNumber_83 ?_
          refine lv_bipush (v := 48) X.1 X.2.1 dX12_readsNumber_84 (by decide) ?_
          refine lv_isub X.1 X.2.1 dX12_readsNumber_86 ?_
          refine gx_putI 20  X hG hS hT_v0.1 (hT_v0.eq (by decide)) (by decide) rfl inX12 tyX12_ok nmX12 (by decide) k_980 (fun _ h => h) rfl rfl rfl rfl (Nat.le_of_ble_eq_true rfl) dX12_readsNumber_87 hF (fun σ7 H locs hG hS hX hF => ?_)
          have hT_v0 := hX.T hT_v0
          replace hE := hE.trans hX
          refine lv_aload_n X.1 X.2.1 dX12_readsNumber_90 rfl (lv_at hl 0 rfl) ?_
          refine lv_dup X.1 X.2.1 dX12_readsNumber_91 rfl ?_
          refine gx_get 16 (v := .int (hI σ7 v0 16)) X hG hT_v0.1 (hT_v0.eq (by decide)) (by decide) rfl inX12 (by decide) k_976 (fun _ h => h) rfl dX12_readsNumber_92 ?_
          refine lv_iconst (v := 1) X.1 X.2.1 dX12_readsNumber_95 (by decide) ?_
          refine lv_iadd X.1 X.2.1 dX12_readsNumber_96 ?_
          refine gx_putI 16  X hG hS hT_v0.1 (hT_v0.eq (by decide)) (by decide) rfl inX12 tyX12_ok nmX12 (by decide) k_976 (fun _ h => h) rfl rfl rfl rfl (Nat.le_of_ble_eq_true rfl) dX12_readsNumber_97 hF (fun σ8 H locs hG hS hX hF => ?_)
          have hT_v0 := hX.T hT_v0
          replace hE := hE.trans hX
          refine lv_iinc (v := v1 + 1) (lv' := [(1, .int (v1 + 1)), (0, .ref (ad v0))]) X.1 X.2.1 dX12_readsNumber_100 hl (k := 1) rfl rfl (by decide) rfl (fun ls hl => ?_)
          refine lv_goto (tgt := 42) X.1 X.2.1 dX12_readsNumber_103 (by decide) ?_
          exact ih v0 (v1 + 1) σ8 _ _ ls hT_v0 hG hS hE (lv_sub hl [1, 0] rfl) hF
theorem c_X12_readsNumber (l : Launch) (D : va_G) (cA : Nat → ClassId) (base : Nat) (ad : Nat → Nat) (σ : Hp) (n : Nat) (a0 : Nat) (hT_a0 : hT σ a0 12) {τ : Hp} {r : Int32} (hF : F_X12_readsNumber n a0 σ = some (r, τ)) : MI l yX12_readsNumber cX12_readsNumber 2 (some .boolean) rm_X12_readsNumber D cA base ad σ [.ref (ad a0)] r τ := by
  refine Met.ofW (cc := cX12_readsNumber) (maxL := 2) (ret := (some .boolean)) (by decide) rfl ?_
  intro p e s m args below meth c s₁ B hml hv
  obtain ⟨rfl, hv⟩ := hv
  have X : SX D cA base p s m ([.ref (ad a0)] : List Value).toArray meth c cX12_readsNumber 2 (some .boolean) RX12 := sx_of B hml hv
  have hG := hv.1
  have hS : va_S (bA base) s.heap s.heap [] := va_S.rf
  have hE := xT.rf σ
  have hl := lv_entry ([.ref (ad a0)]) (n := 2) (Nat.le_of_ble_eq_true rfl)
  rw [lg_entry_eq]
  generalize (lg_sl ([.ref (ad a0)]) ++ List.replicate (2 - (lg_sl ([.ref (ad a0)])).length) Slot.unset).toArray = ls at hl ⊢
  have hl : lv_has ls 2 [(0, .ref (ad a0))] := hl
  unfold F_X12_readsNumber at hF
  refine lv_aload_n X.1 X.2.1 dX12_readsNumber_0 rfl (lv_at hl 0 rfl) ?_
  obtain ⟨r10, σ9, hz, hF⟩ := b2_ex hF
  refine gx_rI (gx_runV (As := []) (rest := []) X hG hS hT_a0.1 (hT_a0.eq (by decide)) (by decide) rfl (c_X12_sign l D cA base ad σ n a0 hT_a0 hz) k_1131 k_1128 k_1130 ks_25 k_4 (h_X12_sign) rfl rfl ⟨by decide, by decide⟩ rfl hl.1 rfl (Nat.le_of_ble_eq_true rfl) dX12_readsNumber_1 ⟨Nat.zero_le _, Nat.zero_le _⟩) hS (fun H locs hG hS hX => ?_)
  have hT_a0 := hX.T hT_a0
  replace hE := hE.trans hX
  refine lv_i2l X.1 X.2.1 dX12_readsNumber_4 rfl ?_
  refine lv_ldc2 (v := 48) X.1 X.2.1 X.2.2.2.2.2.1 (X.w k_1143) dX12_readsNumber_5 ?_
  refine lv_ldc2 (v := 57) X.1 X.2.1 X.2.2.2.2.2.1 (X.w k_1144) dX12_readsNumber_8 ?_
  obtain ⟨r12, σ11, hz, hF⟩ := b2_ex hF
  refine gx_rI (gx_runS (As := [.long r10.toInt64, .long 48, .long 57]) (rest := []) X hG hS (c_X12_isIn l D cA base ad σ9 n r10.toInt64 48 57 hz) k_1063 k_1061 k_1062 k_4 (h_X12_isIn.2) rfl rfl ⟨by decide, by decide⟩ rfl hl.1 rfl (Nat.le_of_ble_eq_true rfl) dX12_readsNumber_11 ⟨Nat.zero_le _, Nat.zero_le _⟩) hS (fun H locs hG hS hX => ?_)
  have hT_a0 := hX.T hT_a0
  replace hE := hE.trans hX
  refine lv_if_ne (tgt := 19) X.1 X.2.1 dX12_readsNumber_14 (by decide) (fun hc => ?_) (fun hc => ?_)
  · replace hF := it_f hF hc
    refine lv_aload_n X.1 X.2.1 dX12_readsNumber_19 rfl (lv_at hl 0 rfl) ?_
    refine lv_aload_n X.1 X.2.1 dX12_readsNumber_20 rfl (lv_at hl 0 rfl) ?_
    obtain ⟨r14, σ13, hz, hF⟩ := b2_ex hF
    refine gx_rI (gx_runV (As := []) (rest := [.ref (ad a0)]) X hG hS hT_a0.1 (hT_a0.eq (by decide)) (by decide) rfl (c_X12_sign l D cA base ad σ11 n a0 hT_a0 hz) k_1131 k_1128 k_1130 ks_25 k_4 (h_X12_sign) rfl rfl ⟨by decide, by decide⟩ rfl hl.1 rfl (Nat.le_of_ble_eq_true rfl) dX12_readsNumber_21 ⟨Nat.zero_le _, Nat.zero_le _⟩) hS (fun H locs hG hS hX => ?_)
    have hT_a0 := hX.T hT_a0
    replace hE := hE.trans hX
    refine lv_bipush (v := 48) X.1 X.2.1 dX12_readsNumber_24 (by decide) ?_
    refine lv_isub X.1 X.2.1 dX12_readsNumber_26 ?_
    refine gx_putI 20  X hG hS hT_a0.1 (hT_a0.eq (by decide)) (by decide) rfl inX12 tyX12_ok nmX12 (by decide) k_980 (fun _ h => h) rfl rfl rfl rfl (Nat.le_of_ble_eq_true rfl) dX12_readsNumber_27 hF (fun σ15 H locs hG hS hX hF => ?_)
    have hT_a0 := hX.T hT_a0
    replace hE := hE.trans hX
    refine lv_aload_n X.1 X.2.1 dX12_readsNumber_30 rfl (lv_at hl 0 rfl) ?_
    refine lv_dup X.1 X.2.1 dX12_readsNumber_31 rfl ?_
    refine gx_get 16 (v := .int (hI σ15 a0 16)) X hG hT_a0.1 (hT_a0.eq (by decide)) (by decide) rfl inX12 (by decide) k_976 (fun _ h => h) rfl dX12_readsNumber_32 ?_
    refine lv_iconst (v := 1) X.1 X.2.1 dX12_readsNumber_35 (by decide) ?_
    refine lv_iadd X.1 X.2.1 dX12_readsNumber_36 ?_
    refine gx_putI 16  X hG hS hT_a0.1 (hT_a0.eq (by decide)) (by decide) rfl inX12 tyX12_ok nmX12 (by decide) k_976 (fun _ h => h) rfl rfl rfl rfl (Nat.le_of_ble_eq_true rfl) dX12_readsNumber_37 hF (fun σ16 H locs hG hS hX hF => ?_)
    have hT_a0 := hX.T hT_a0
    replace hE := hE.trans hX
    refine lv_iconst (v := 1) X.1 X.2.1 dX12_readsNumber_40 (by decide) ?_
    refine lv_istore_n (lv' := [(1, .int 1), (0, .ref (ad a0))]) X.1 X.2.1 dX12_readsNumber_41 rfl hl (by decide) rfl (fun ls hl => ?_)
    exact w_X12_readsNumber_42 X n  n a0 1 σ16 _ _ ls hT_a0 hG hS hE (lv_sub hl [1, 0] rfl) hF
  · replace hF := it_t hF hc
    refine lv_iconst (v := 0) X.1 X.2.1 dX12_readsNumber_17 (by decide) ?_
    exact gx_zret X hG hS hE hF rfl dX12_readsNumber_18
theorem w_X12_isField_30 {σ0 τ : Hp} {r : Int32} (X : SX D cA base p s m args meth c cX12_isField 1 (some .boolean) RX12) (n : Nat)  : ∀  (σ : Hp) (H : Heap) (locs : List Loc) (ls : Array Slot), GW D cA base ad σ H → va_S (bA base) s.heap H locs → xT σ0 σ → lv_has ls 1 [] → F_X12_isField_30 n  σ = some (r, τ) → W p l e rm_X12_isField s m args below meth c H locs 0 0 (ZI below s args D cA base ad σ0 r τ) (F0 m 30 ls []) := by
  intro σ H locs ls hG hS hE hl hF
  unfold F_X12_isField_30 at hF
  refine lv_iconst (v := 1) X.1 X.2.1 dX12_isField_30 (by decide) ?_
  refine lv_goto (tgt := 35) X.1 X.2.1 dX12_isField_31 (by decide) ?_
  exact gx_zret X hG hS hE hF rfl dX12_isField_35
theorem c_X12_isField (l : Launch) (D : va_G) (cA : Nat → ClassId) (base : Nat) (ad : Nat → Nat) (σ : Hp) (n : Nat) (a0 : Int32)  {τ : Hp} {r : Int32} (hF : F_X12_isField n a0 σ = some (r, τ)) : MI l yX12_isField cX12_isField 1 (some .boolean) rm_X12_isField D cA base ad σ [.int a0] r τ := by
  refine Met.ofW (cc := cX12_isField) (maxL := 1) (ret := (some .boolean)) (by decide) rfl ?_
  intro p e s m args below meth c s₁ B hml hv
  obtain ⟨rfl, hv⟩ := hv
  have X : SX D cA base p s m ([.int a0] : List Value).toArray meth c cX12_isField 1 (some .boolean) RX12 := sx_of B hml hv
  have hG := hv.1
  have hS : va_S (bA base) s.heap s.heap [] := va_S.rf
  have hE := xT.rf σ
  have hl := lv_entry ([.int a0]) (n := 1) (Nat.le_of_ble_eq_true rfl)
  rw [lg_entry_eq]
  generalize (lg_sl ([.int a0]) ++ List.replicate (1 - (lg_sl ([.int a0])).length) Slot.unset).toArray = ls at hl ⊢
  have hl : lv_has ls 1 [(0, .int a0)] := hl
  unfold F_X12_isField at hF
  refine lv_iload_n X.1 X.2.1 dX12_isField_0 rfl (lv_at hl 0 rfl) ?_
  refine lv_bipush (v := 116) X.1 X.2.1 dX12_isField_1 (by decide) ?_
  refine lv_icmp_eq (tgt := 30) X.1 X.2.1 dX12_isField_3 (by decide) (fun hc => ?_) (fun hc => ?_)
  · replace hF := it_t hF hc
    exact w_X12_isField_30 X n  σ _ _ ls  hG hS hE (lv_sub hl [] rfl) hF
  · replace hF := it_f hF hc
    refine lv_iload_n X.1 X.2.1 dX12_isField_6 rfl (lv_at hl 0 rfl) ?_
    refine lv_bipush (v := 112) X.1 X.2.1 dX12_isField_7 (by decide) ?_
    refine lv_icmp_eq (tgt := 30) X.1 X.2.1 dX12_isField_9 (by decide) (fun hc => ?_) (fun hc => ?_)
    · replace hF := it_t hF hc
      exact w_X12_isField_30 X n  σ _ _ ls  hG hS hE (lv_sub hl [] rfl) hF
    · replace hF := it_f hF hc
      refine lv_iload_n X.1 X.2.1 dX12_isField_12 rfl (lv_at hl 0 rfl) ?_
      refine lv_bipush (v := 121) X.1 X.2.1 dX12_isField_13 (by decide) ?_
      refine lv_icmp_eq (tgt := 30) X.1 X.2.1 dX12_isField_15 (by decide) (fun hc => ?_) (fun hc => ?_)
      · replace hF := it_t hF hc
        exact w_X12_isField_30 X n  σ _ _ ls  hG hS hE (lv_sub hl [] rfl) hF
      · replace hF := it_f hF hc
        refine lv_iload_n X.1 X.2.1 dX12_isField_18 rfl (lv_at hl 0 rfl) ?_
        refine lv_bipush (v := 110) X.1 X.2.1 dX12_isField_19 (by decide) ?_
        refine lv_icmp_eq (tgt := 30) X.1 X.2.1 dX12_isField_21 (by decide) (fun hc => ?_) (fun hc => ?_)
        · replace hF := it_t hF hc
          exact w_X12_isField_30 X n  σ _ _ ls  hG hS hE (lv_sub hl [] rfl) hF
        · replace hF := it_f hF hc
          refine lv_iload_n X.1 X.2.1 dX12_isField_24 rfl (lv_at hl 0 rfl) ?_
          refine lv_bipush (v := 109) X.1 X.2.1 dX12_isField_25 (by decide) ?_
          refine lv_icmp_ne (tgt := 34) X.1 X.2.1 dX12_isField_27 (by decide) (fun hc => ?_) (fun hc => ?_)
          · replace hF := it_f hF hc
            refine lv_iconst (v := 0) X.1 X.2.1 dX12_isField_34 (by decide) ?_
            exact gx_zret X hG hS hE hF rfl dX12_isField_35
          · replace hF := it_t hF hc
            exact w_X12_isField_30 X n  σ _ _ ls  hG hS hE (lv_sub hl [] rfl) hF
theorem w_X12_readsAtom_91 {σ0 τ : Hp} {r : Int32} (X : SX D cA base p s m args meth c cX12_readsAtom 2 (some .boolean) RX12) (n : Nat) (d : Nat) (KS : Nat → Hp → Option (Int32 × Hp)) (hKS : ∀ (σ : Hp) (a0 : Nat) {τ : Hp} {r : Int32}, hT σ a0 12 → KS a0 σ = some (r, τ) → MI l yX12_readsSum cX12_readsSum 1 (some .boolean) (rmr_X12_readsSum d) D cA base ad σ [.ref (ad a0)] r τ)  : ∀ (v0 : Nat) (s0 : Int32) (s1 : Nat) (σ : Hp) (H : Heap) (locs : List Loc) (ls : Array Slot), hT σ v0 12 → hT σ s1 12 → GW D cA base ad σ H → va_S (bA base) s.heap H locs → xT σ0 σ → lv_has ls 2 [(0, .ref (ad v0))] → F_X12_readsAtom_91 KS n  v0 s0 s1 σ = some (r, τ) → W p l e (rmr_X12_readsAtom d) s m args below meth c H locs 0 0 (ZI below s args D cA base ad σ0 r τ) (F0 m 91 ls [.int s0, .ref (ad s1)]) := by
  intro v0 s0 s1 σ H locs ls hT_v0 hT_s1 hG hS hE hl hF
  unfold F_X12_readsAtom_91 at hF
  obtain ⟨r2, σ1, hz, hF⟩ := b2_ex hF
  refine gx_rI (gx_runV (As := [.int s0]) (rest := []) X hG hS hT_s1.1 (hT_s1.eq (by decide)) (by decide) rfl (c_X12_takes l D cA base ad σ n s1 s0 hT_s1 hz) k_1135 k_1132 k_1134 ks_26 k_4 (h_X12_takes) rfl rfl ⟨by show 1 + 1 ≤ 3 * d + 7; omega, by show 8 + (2 + 11) + 20 ≤ 61 * d + 180; omega⟩ rfl hl.1 rfl (Nat.le_of_ble_eq_true rfl) dX12_readsAtom_91 ⟨Nat.zero_le _, Nat.zero_le _⟩) hS (fun H locs hG hS hX => ?_)
  have hT_v0 := hX.T hT_v0
  replace hE := hE.trans hX
  refine lv_if_ne (tgt := 99) X.1 X.2.1 dX12_readsAtom_94 (by decide) (fun hc => ?_) (fun hc => ?_)
  · replace hF := it_f hF hc
    refine lv_aload_n X.1 X.2.1 dX12_readsAtom_99 rfl (lv_at hl 0 rfl) ?_
    refine lv_dup X.1 X.2.1 dX12_readsAtom_100 rfl ?_
    refine gx_get 19 (v := .int (hI σ1 v0 19)) X hG hT_v0.1 (hT_v0.eq (by decide)) (by decide) rfl inX12 (by decide) k_979 (fun _ h => h) rfl dX12_readsAtom_101 ?_
    refine lv_iconst (v := 1) X.1 X.2.1 dX12_readsAtom_104 (by decide) ?_
    refine lv_isub X.1 X.2.1 dX12_readsAtom_105 ?_
    refine gx_putI 19  X hG hS hT_v0.1 (hT_v0.eq (by decide)) (by decide) rfl inX12 tyX12_ok nmX12 (by decide) k_979 (fun _ h => h) rfl rfl rfl rfl (Nat.le_of_ble_eq_true rfl) dX12_readsAtom_106 hF (fun σ3 H locs hG hS hX hF => ?_)
    have hT_v0 := hX.T hT_v0
    replace hE := hE.trans hX
    refine lv_iconst (v := 1) X.1 X.2.1 dX12_readsAtom_109 (by decide) ?_
    exact gx_zret X hG hS hE hF rfl dX12_readsAtom_110
  · replace hF := it_t hF hc
    refine lv_iconst (v := 0) X.1 X.2.1 dX12_readsAtom_97 (by decide) ?_
    exact gx_zret X hG hS hE hF rfl dX12_readsAtom_98
theorem w_X12_readsAtom_77 {σ0 τ : Hp} {r : Int32} (X : SX D cA base p s m args meth c cX12_readsAtom 2 (some .boolean) RX12) (n : Nat) (d : Nat) (KS : Nat → Hp → Option (Int32 × Hp)) (hKS : ∀ (σ : Hp) (a0 : Nat) {τ : Hp} {r : Int32}, hT σ a0 12 → KS a0 σ = some (r, τ) → MI l yX12_readsSum cX12_readsSum 1 (some .boolean) (rmr_X12_readsSum d) D cA base ad σ [.ref (ad a0)] r τ)  : ∀ (v0 : Nat) (v1 : Int32) (σ : Hp) (H : Heap) (locs : List Loc) (ls : Array Slot), hT σ v0 12 → GW D cA base ad σ H → va_S (bA base) s.heap H locs → xT σ0 σ → lv_has ls 2 [(0, .ref (ad v0)), (1, .int v1)] → F_X12_readsAtom_77 KS n  v0 v1 σ = some (r, τ) → W p l e (rmr_X12_readsAtom d) s m args below meth c H locs 0 0 (ZI below s args D cA base ad σ0 r τ) (F0 m 77 ls []) := by
  intro v0 v1 σ H locs ls hT_v0 hG hS hE hl hF
  unfold F_X12_readsAtom_77 at hF
  refine lv_aload_n X.1 X.2.1 dX12_readsAtom_77 rfl (lv_at hl 0 rfl) ?_
  refine lv_iload_n X.1 X.2.1 dX12_readsAtom_78 rfl (lv_at hl 1 rfl) ?_
  refine lv_bipush (v := 91) X.1 X.2.1 dX12_readsAtom_79 (by decide) ?_
  refine lv_icmp_ne (tgt := 89) X.1 X.2.1 dX12_readsAtom_81 (by decide) (fun hc => ?_) (fun hc => ?_)
  · replace hF := it_f hF hc
    refine lv_bipush (v := 41) X.1 X.2.1 dX12_readsAtom_89 (by decide) ?_
    exact w_X12_readsAtom_91 X n d KS hKS  v0 41 v0 σ _ _ ls hT_v0 hT_v0 hG hS hE (lv_sub hl [0] rfl) hF
  · replace hF := it_t hF hc
    refine lv_bipush (v := 93) X.1 X.2.1 dX12_readsAtom_84 (by decide) ?_
    refine lv_goto (tgt := 91) X.1 X.2.1 dX12_readsAtom_86 (by decide) ?_
    exact w_X12_readsAtom_91 X n d KS hKS  v0 93 v0 σ _ _ ls hT_v0 hT_v0 hG hS hE (lv_sub hl [0] rfl) hF
theorem w_X12_readsAtom_17 {σ0 τ : Hp} {r : Int32} (X : SX D cA base p s m args meth c cX12_readsAtom 2 (some .boolean) RX12) (n : Nat) (d : Nat) (KS : Nat → Hp → Option (Int32 × Hp)) (hKS : ∀ (σ : Hp) (a0 : Nat) {τ : Hp} {r : Int32}, hT σ a0 12 → KS a0 σ = some (r, τ) → MI l yX12_readsSum cX12_readsSum 1 (some .boolean) (rmr_X12_readsSum d) D cA base ad σ [.ref (ad a0)] r τ)  : ∀ (v0 : Nat) (v1 : Int32) (σ : Hp) (H : Heap) (locs : List Loc) (ls : Array Slot), hT σ v0 12 → GW D cA base ad σ H → va_S (bA base) s.heap H locs → xT σ0 σ → lv_has ls 2 [(0, .ref (ad v0)), (1, .int v1)] → F_X12_readsAtom_17 KS n  v0 v1 σ = some (r, τ) → W p l e (rmr_X12_readsAtom d) s m args below meth c H locs 0 0 (ZI below s args D cA base ad σ0 r τ) (F0 m 17 ls []) := by
  intro v0 v1 σ H locs ls hT_v0 hG hS hE hl hF
  unfold F_X12_readsAtom_17 at hF
  refine lv_aload_n X.1 X.2.1 dX12_readsAtom_17 rfl (lv_at hl 0 rfl) ?_
  refine gx_get 19 (v := .int (hI σ v0 19)) X hG hT_v0.1 (hT_v0.eq (by decide)) (by decide) rfl inX12 (by decide) k_979 (fun _ h => h) rfl dX12_readsAtom_18 ?_
  refine lv_bipush (v := 6) X.1 X.2.1 dX12_readsAtom_21 (by decide) ?_
  refine lv_icmp_ne (tgt := 28) X.1 X.2.1 dX12_readsAtom_23 (by decide) (fun hc => ?_) (fun hc => ?_)
  · replace hF := it_f hF hc
    refine lv_aload_n X.1 X.2.1 dX12_readsAtom_28 rfl (lv_at hl 0 rfl) ?_
    refine lv_dup X.1 X.2.1 dX12_readsAtom_29 rfl ?_
    refine gx_get 16 (v := .int (hI σ v0 16)) X hG hT_v0.1 (hT_v0.eq (by decide)) (by decide) rfl inX12 (by decide) k_976 (fun _ h => h) rfl dX12_readsAtom_30 ?_
    refine lv_iconst (v := 1) X.1 X.2.1 dX12_readsAtom_33 (by decide) ?_
    refine lv_iadd X.1 X.2.1 dX12_readsAtom_34 ?_
    refine gx_putI 16  X hG hS hT_v0.1 (hT_v0.eq (by decide)) (by decide) rfl inX12 tyX12_ok nmX12 (by decide) k_976 (fun _ h => h) rfl rfl rfl rfl (Nat.le_of_ble_eq_true rfl) dX12_readsAtom_35 hF (fun σ4 H locs hG hS hX hF => ?_)
    have hT_v0 := hX.T hT_v0
    replace hE := hE.trans hX
    refine lv_aload_n X.1 X.2.1 dX12_readsAtom_38 rfl (lv_at hl 0 rfl) ?_
    refine lv_dup X.1 X.2.1 dX12_readsAtom_39 rfl ?_
    refine gx_get 19 (v := .int (hI σ4 v0 19)) X hG hT_v0.1 (hT_v0.eq (by decide)) (by decide) rfl inX12 (by decide) k_979 (fun _ h => h) rfl dX12_readsAtom_40 ?_
    refine lv_iconst (v := 1) X.1 X.2.1 dX12_readsAtom_43 (by decide) ?_
    refine lv_iadd X.1 X.2.1 dX12_readsAtom_44 ?_
    refine gx_putI 19  X hG hS hT_v0.1 (hT_v0.eq (by decide)) (by decide) rfl inX12 tyX12_ok nmX12 (by decide) k_979 (fun _ h => h) rfl rfl rfl rfl (Nat.le_of_ble_eq_true rfl) dX12_readsAtom_45 hF (fun σ5 H locs hG hS hX hF => ?_)
    have hT_v0 := hX.T hT_v0
    replace hE := hE.trans hX
    refine lv_aload_n X.1 X.2.1 dX12_readsAtom_48 rfl (lv_at hl 0 rfl) ?_
    obtain ⟨r7, σ6, hz, hF⟩ := b2_ex hF
    refine gx_rI (gx_runV (As := []) (rest := []) X hG hS hT_v0.1 (hT_v0.eq (by decide)) (by decide) rfl (hKS σ5 v0 hT_v0 hz) k_1119 k_1116 k_1118 ks_22 k_4 (h_X12_readsSum) rfl rfl ⟨by show 3 * d + 6 + 1 ≤ 3 * d + 7; omega, by show 8 + (1 + 11) + (61 * d + 160) ≤ 61 * d + 180; omega⟩ rfl hl.1 rfl (Nat.le_of_ble_eq_true rfl) dX12_readsAtom_49 ⟨Nat.zero_le _, Nat.zero_le _⟩) hS (fun H locs hG hS hX => ?_)
    have hT_v0 := hX.T hT_v0
    replace hE := hE.trans hX
    refine lv_if_eq (tgt := 97) X.1 X.2.1 dX12_readsAtom_52 (by decide) (fun hc => ?_) (fun hc => ?_)
    · replace hF := it_t hF hc
      refine lv_iconst (v := 0) X.1 X.2.1 dX12_readsAtom_97 (by decide) ?_
      exact gx_zret X hG hS hE hF rfl dX12_readsAtom_98
    · replace hF := it_f hF hc
      refine lv_iload_n X.1 X.2.1 dX12_readsAtom_55 rfl (lv_at hl 1 rfl) ?_
      refine lv_bipush (v := 91) X.1 X.2.1 dX12_readsAtom_56 (by decide) ?_
      refine lv_icmp_ne (tgt := 77) X.1 X.2.1 dX12_readsAtom_58 (by decide) (fun hc => ?_) (fun hc => ?_)
      · replace hF := it_f hF hc
        exact w_X12_readsAtom_77 X n d KS hKS  v0 v1 σ6 _ _ ls hT_v0 hG hS hE (lv_sub hl [0, 1] rfl) hF
      · replace hF := it_t hF hc
        refine lv_aload_n X.1 X.2.1 dX12_readsAtom_61 rfl (lv_at hl 0 rfl) ?_
        refine lv_bipush (v := 44) X.1 X.2.1 dX12_readsAtom_62 (by decide) ?_
        obtain ⟨r9, σ8, hz, hF⟩ := b2_ex hF
        refine gx_rI (gx_runV (As := [.int 44]) (rest := []) X hG hS hT_v0.1 (hT_v0.eq (by decide)) (by decide) rfl (c_X12_takes l D cA base ad σ6 n v0 44 hT_v0 hz) k_1135 k_1132 k_1134 ks_26 k_4 (h_X12_takes) rfl rfl ⟨by show 1 + 1 ≤ 3 * d + 7; omega, by show 8 + (2 + 11) + 20 ≤ 61 * d + 180; omega⟩ rfl hl.1 rfl (Nat.le_of_ble_eq_true rfl) dX12_readsAtom_64 ⟨Nat.zero_le _, Nat.zero_le _⟩) hS (fun H locs hG hS hX => ?_)
        have hT_v0 := hX.T hT_v0
        replace hE := hE.trans hX
        refine lv_if_eq (tgt := 97) X.1 X.2.1 dX12_readsAtom_67 (by decide) (fun hc => ?_) (fun hc => ?_)
        · replace hF := it_t hF hc
          refine lv_iconst (v := 0) X.1 X.2.1 dX12_readsAtom_97 (by decide) ?_
          exact gx_zret X hG hS hE hF rfl dX12_readsAtom_98
        · replace hF := it_f hF hc
          refine lv_aload_n X.1 X.2.1 dX12_readsAtom_70 rfl (lv_at hl 0 rfl) ?_
          obtain ⟨r11, σ10, hz, hF⟩ := b2_ex hF
          refine gx_rI (gx_runV (As := []) (rest := []) X hG hS hT_v0.1 (hT_v0.eq (by decide)) (by decide) rfl (hKS σ8 v0 hT_v0 hz) k_1119 k_1116 k_1118 ks_22 k_4 (h_X12_readsSum) rfl rfl ⟨by show 3 * d + 6 + 1 ≤ 3 * d + 7; omega, by show 8 + (1 + 11) + (61 * d + 160) ≤ 61 * d + 180; omega⟩ rfl hl.1 rfl (Nat.le_of_ble_eq_true rfl) dX12_readsAtom_71 ⟨Nat.zero_le _, Nat.zero_le _⟩) hS (fun H locs hG hS hX => ?_)
          have hT_v0 := hX.T hT_v0
          replace hE := hE.trans hX
          refine lv_if_eq (tgt := 97) X.1 X.2.1 dX12_readsAtom_74 (by decide) (fun hc => ?_) (fun hc => ?_)
          · replace hF := it_t hF hc
            refine lv_iconst (v := 0) X.1 X.2.1 dX12_readsAtom_97 (by decide) ?_
            exact gx_zret X hG hS hE hF rfl dX12_readsAtom_98
          · replace hF := it_f hF hc
            exact w_X12_readsAtom_77 X n d KS hKS  v0 v1 σ10 _ _ ls hT_v0 hG hS hE (lv_sub hl [0, 1] rfl) hF
  · replace hF := it_t hF hc
    refine lv_iconst (v := 0) X.1 X.2.1 dX12_readsAtom_26 (by decide) ?_
    exact gx_zret X hG hS hE hF rfl dX12_readsAtom_27
theorem c_X12_readsAtom (l : Launch) (D : va_G) (cA : Nat → ClassId) (base : Nat) (ad : Nat → Nat) (σ : Hp) (n : Nat) (d : Nat) (KS : Nat → Hp → Option (Int32 × Hp)) (hKS : ∀ (σ : Hp) (a0 : Nat) {τ : Hp} {r : Int32}, hT σ a0 12 → KS a0 σ = some (r, τ) → MI l yX12_readsSum cX12_readsSum 1 (some .boolean) (rmr_X12_readsSum d) D cA base ad σ [.ref (ad a0)] r τ) (a0 : Nat) (hT_a0 : hT σ a0 12) {τ : Hp} {r : Int32} (hF : F_X12_readsAtom KS n a0 σ = some (r, τ)) : MI l yX12_readsAtom cX12_readsAtom 2 (some .boolean) (rmr_X12_readsAtom d) D cA base ad σ [.ref (ad a0)] r τ := by
  refine Met.ofW (cc := cX12_readsAtom) (maxL := 2) (ret := (some .boolean)) (by decide) rfl ?_
  intro p e s m args below meth c s₁ B hml hv
  obtain ⟨rfl, hv⟩ := hv
  have X : SX D cA base p s m ([.ref (ad a0)] : List Value).toArray meth c cX12_readsAtom 2 (some .boolean) RX12 := sx_of B hml hv
  have hG := hv.1
  have hS : va_S (bA base) s.heap s.heap [] := va_S.rf
  have hE := xT.rf σ
  have hl := lv_entry ([.ref (ad a0)]) (n := 2) (Nat.le_of_ble_eq_true rfl)
  rw [lg_entry_eq]
  generalize (lg_sl ([.ref (ad a0)]) ++ List.replicate (2 - (lg_sl ([.ref (ad a0)])).length) Slot.unset).toArray = ls at hl ⊢
  have hl : lv_has ls 2 [(0, .ref (ad a0))] := hl
  unfold F_X12_readsAtom at hF
  refine lv_aload_n X.1 X.2.1 dX12_readsAtom_0 rfl (lv_at hl 0 rfl) ?_
  obtain ⟨r13, σ12, hz, hF⟩ := b2_ex hF
  refine gx_rI (gx_runV (As := []) (rest := []) X hG hS hT_a0.1 (hT_a0.eq (by decide)) (by decide) rfl (c_X12_sign l D cA base ad σ n a0 hT_a0 hz) k_1131 k_1128 k_1130 ks_25 k_4 (h_X12_sign) rfl rfl ⟨by show 0 + 1 ≤ 3 * d + 7; omega, by show 8 + (1 + 11) + 0 ≤ 61 * d + 180; omega⟩ rfl hl.1 rfl (Nat.le_of_ble_eq_true rfl) dX12_readsAtom_1 ⟨Nat.zero_le _, Nat.zero_le _⟩) hS (fun H locs hG hS hX => ?_)
  have hT_a0 := hX.T hT_a0
  replace hE := hE.trans hX
  refine lv_istore_n (lv' := [(1, .int r13), (0, .ref (ad a0))]) X.1 X.2.1 dX12_readsAtom_4 rfl hl (by decide) rfl (fun ls hl => ?_)
  refine lv_iload_n X.1 X.2.1 dX12_readsAtom_5 rfl (lv_at hl 0 rfl) ?_
  refine lv_bipush (v := 40) X.1 X.2.1 dX12_readsAtom_6 (by decide) ?_
  refine lv_icmp_eq (tgt := 17) X.1 X.2.1 dX12_readsAtom_8 (by decide) (fun hc => ?_) (fun hc => ?_)
  · replace hF := it_t hF hc
    exact w_X12_readsAtom_17 X n d KS hKS  a0 r13 σ12 _ _ ls hT_a0 hG hS hE (lv_sub hl [1, 0] rfl) hF
  · replace hF := it_f hF hc
    refine lv_iload_n X.1 X.2.1 dX12_readsAtom_11 rfl (lv_at hl 0 rfl) ?_
    refine lv_bipush (v := 91) X.1 X.2.1 dX12_readsAtom_12 (by decide) ?_
    refine lv_icmp_ne (tgt := 111) X.1 X.2.1 dX12_readsAtom_14 (by decide) (fun hc => ?_) (fun hc => ?_)
    · replace hF := it_f hF hc
      refine lv_iload_n X.1 X.2.1 dX12_readsAtom_111 rfl (lv_at hl 0 rfl) ?_
      obtain ⟨r15, σ14, hz, hF⟩ := b2_ex hF
      refine gx_rI (gx_runS (As := [.int r13]) (rest := []) X hG hS (c_X12_isField l D cA base ad σ12 n r13 hz) k_1138 k_1136 k_1137 k_4 (h_X12_isField.2) rfl rfl ⟨by show 0 + 1 ≤ 3 * d + 7; omega, by show 8 + (1 + 11) + 0 ≤ 61 * d + 180; omega⟩ rfl hl.1 rfl (Nat.le_of_ble_eq_true rfl) dX12_readsAtom_112 ⟨Nat.zero_le _, Nat.zero_le _⟩) hS (fun H locs hG hS hX => ?_)
      have hT_a0 := hX.T hT_a0
      replace hE := hE.trans hX
      refine lv_if_eq (tgt := 130) X.1 X.2.1 dX12_readsAtom_115 (by decide) (fun hc => ?_) (fun hc => ?_)
      · replace hF := it_t hF hc
        refine lv_aload_n X.1 X.2.1 dX12_readsAtom_130 rfl (lv_at hl 1 rfl) ?_
        obtain ⟨r17, σ16, hz, hF⟩ := b2_ex hF
        refine gx_rI (gx_runV (As := []) (rest := []) X hG hS hT_a0.1 (hT_a0.eq (by decide)) (by decide) rfl (c_X12_readsNumber l D cA base ad σ14 n a0 hT_a0 hz) k_1142 k_1139 k_1141 ks_27 k_4 (h_X12_readsNumber) rfl rfl ⟨by show 1 + 1 ≤ 3 * d + 7; omega, by show 8 + (2 + 11) + 25 ≤ 61 * d + 180; omega⟩ rfl hl.1 rfl (Nat.le_of_ble_eq_true rfl) dX12_readsAtom_131 ⟨Nat.zero_le _, Nat.zero_le _⟩) hS (fun H locs hG hS hX => ?_)
        have hT_a0 := hX.T hT_a0
        replace hE := hE.trans hX
        obtain ⟨hz01, hF⟩ := ck_ex hF
        exact gx_zret X hG hS hE hF (nz_b hz01) dX12_readsAtom_134
      · replace hF := it_f hF hc
        refine lv_aload_n X.1 X.2.1 dX12_readsAtom_118 rfl (lv_at hl 1 rfl) ?_
        refine lv_dup X.1 X.2.1 dX12_readsAtom_119 rfl ?_
        refine gx_get 16 (v := .int (hI σ14 a0 16)) X hG hT_a0.1 (hT_a0.eq (by decide)) (by decide) rfl inX12 (by decide) k_976 (fun _ h => h) rfl dX12_readsAtom_120 ?_
        refine lv_iconst (v := 1) X.1 X.2.1 dX12_readsAtom_123 (by decide) ?_
        refine lv_iadd X.1 X.2.1 dX12_readsAtom_124 ?_
        refine gx_putI 16  X hG hS hT_a0.1 (hT_a0.eq (by decide)) (by decide) rfl inX12 tyX12_ok nmX12 (by decide) k_976 (fun _ h => h) rfl rfl rfl rfl (Nat.le_of_ble_eq_true rfl) dX12_readsAtom_125 hF (fun σ18 H locs hG hS hX hF => ?_)
        have hT_a0 := hX.T hT_a0
        replace hE := hE.trans hX
        refine lv_iconst (v := 1) X.1 X.2.1 dX12_readsAtom_128 (by decide) ?_
        exact gx_zret X hG hS hE hF rfl dX12_readsAtom_129
    · replace hF := it_t hF hc
      exact w_X12_readsAtom_17 X n d KS hKS  a0 r13 σ12 _ _ ls hT_a0 hG hS hE (lv_sub hl [1, 0] rfl) hF
theorem w_X12_readsProduct_0 {σ0 τ : Hp} {r : Int32} (X : SX D cA base p s m args meth c cX12_readsProduct 1 (some .boolean) RX12) (n : Nat) (d : Nat) (KS : Nat → Hp → Option (Int32 × Hp)) (hKS : ∀ (σ : Hp) (a0 : Nat) {τ : Hp} {r : Int32}, hT σ a0 12 → KS a0 σ = some (r, τ) → MI l yX12_readsSum cX12_readsSum 1 (some .boolean) (rmr_X12_readsSum d) D cA base ad σ [.ref (ad a0)] r τ)  : ∀ f : Nat, ∀ (v0 : Nat) (σ : Hp) (H : Heap) (locs : List Loc) (ls : Array Slot), hT σ v0 12 → GW D cA base ad σ H → va_S (bA base) s.heap H locs → xT σ0 σ → lv_has ls 1 [(0, .ref (ad v0))] → F_X12_readsProduct_0 KS n  f v0 σ = some (r, τ) → W p l e (rmr_X12_readsProduct d) s m args below meth c H locs 0 0 (ZI below s args D cA base ad σ0 r τ) (F0 m 0 ls []) := by
  intro f
  induction f with
  | zero => intro v0 σ H locs ls h0 hG hS hE hl hF
            rw [F_X12_readsProduct_0] at hF; cases hF
  | succ f ih =>
    intro v0 σ H locs ls hT_v0 hG hS hE hl hF
    rw [F_X12_readsProduct_0] at hF
    refine lv_aload_n X.1 X.2.1 dX12_readsProduct_0 rfl (lv_at hl 0 rfl) ?_
    obtain ⟨r2, σ1, hz, hF⟩ := b2_ex hF
    refine gx_rI (gx_runV (As := []) (rest := []) X hG hS hT_v0.1 (hT_v0.eq (by decide)) (by decide) rfl (c_X12_readsAtom l D cA base ad σ n d KS hKS v0 hT_v0 hz) k_1127 k_1124 k_1126 ks_24 k_4 (h_X12_readsAtom) rfl rfl ⟨by show 3 * d + 7 + 1 ≤ 3 * d + 8; omega, by show 8 + (2 + 11) + (61 * d + 180) ≤ 61 * d + 201; omega⟩ rfl hl.1 rfl (Nat.le_of_ble_eq_true rfl) dX12_readsProduct_1 ⟨Nat.zero_le _, Nat.zero_le _⟩) hS (fun H locs hG hS hX => ?_)
    have hT_v0 := hX.T hT_v0
    replace hE := hE.trans hX
    refine lv_if_ne (tgt := 9) X.1 X.2.1 dX12_readsProduct_4 (by decide) (fun hc => ?_) (fun hc => ?_)
    · replace hF := it_f hF hc
      refine lv_aload_n X.1 X.2.1 dX12_readsProduct_9 rfl (lv_at hl 0 rfl) ?_
      refine lv_bipush (v := 42) X.1 X.2.1 dX12_readsProduct_10 (by decide) ?_
      obtain ⟨r4, σ3, hz, hF⟩ := b2_ex hF
      refine gx_rI (gx_runV (As := [.int 42]) (rest := []) X hG hS hT_v0.1 (hT_v0.eq (by decide)) (by decide) rfl (c_X12_takes l D cA base ad σ1 n v0 42 hT_v0 hz) k_1135 k_1132 k_1134 ks_26 k_4 (h_X12_takes) rfl rfl ⟨by show 1 + 1 ≤ 3 * d + 8; omega, by show 8 + (2 + 11) + 20 ≤ 61 * d + 201; omega⟩ rfl hl.1 rfl (Nat.le_of_ble_eq_true rfl) dX12_readsProduct_12 ⟨Nat.zero_le _, Nat.zero_le _⟩) hS (fun H locs hG hS hX => ?_)
      have hT_v0 := hX.T hT_v0
      replace hE := hE.trans hX
      refine lv_if_ne (tgt := 0) X.1 X.2.1 dX12_readsProduct_15 (by decide) (fun hc => ?_) (fun hc => ?_)
      · replace hF := it_f hF hc
        exact ih v0 σ3 _ _ ls hT_v0 hG hS hE (lv_sub hl [0] rfl) hF
      · replace hF := it_t hF hc
        refine lv_aload_n X.1 X.2.1 dX12_readsProduct_18 rfl (lv_at hl 0 rfl) ?_
        refine lv_bipush (v := 47) X.1 X.2.1 dX12_readsProduct_19 (by decide) ?_
        obtain ⟨r6, σ5, hz, hF⟩ := b2_ex hF
        refine gx_rI (gx_runV (As := [.int 47]) (rest := []) X hG hS hT_v0.1 (hT_v0.eq (by decide)) (by decide) rfl (c_X12_takes l D cA base ad σ3 n v0 47 hT_v0 hz) k_1135 k_1132 k_1134 ks_26 k_4 (h_X12_takes) rfl rfl ⟨by show 1 + 1 ≤ 3 * d + 8; omega, by show 8 + (2 + 11) + 20 ≤ 61 * d + 201; omega⟩ rfl hl.1 rfl (Nat.le_of_ble_eq_true rfl) dX12_readsProduct_21 ⟨Nat.zero_le _, Nat.zero_le _⟩) hS (fun H locs hG hS hX => ?_)
        have hT_v0 := hX.T hT_v0
        replace hE := hE.trans hX
        refine lv_if_ne (tgt := 0) X.1 X.2.1 dX12_readsProduct_24 (by decide) (fun hc => ?_) (fun hc => ?_)
        · replace hF := it_f hF hc
          exact ih v0 σ5 _ _ ls hT_v0 hG hS hE (lv_sub hl [0] rfl) hF
        · replace hF := it_t hF hc
          refine lv_iconst (v := 1) X.1 X.2.1 dX12_readsProduct_27 (by decide) ?_
          exact gx_zret X hG hS hE hF rfl dX12_readsProduct_28
    · replace hF := it_t hF hc
      refine lv_iconst (v := 0) X.1 X.2.1 dX12_readsProduct_7 (by decide) ?_
      exact gx_zret X hG hS hE hF rfl dX12_readsProduct_8
theorem c_X12_readsProduct (l : Launch) (D : va_G) (cA : Nat → ClassId) (base : Nat) (ad : Nat → Nat) (σ : Hp) (n : Nat) (d : Nat) (KS : Nat → Hp → Option (Int32 × Hp)) (hKS : ∀ (σ : Hp) (a0 : Nat) {τ : Hp} {r : Int32}, hT σ a0 12 → KS a0 σ = some (r, τ) → MI l yX12_readsSum cX12_readsSum 1 (some .boolean) (rmr_X12_readsSum d) D cA base ad σ [.ref (ad a0)] r τ) (a0 : Nat) (hT_a0 : hT σ a0 12) {τ : Hp} {r : Int32} (hF : F_X12_readsProduct KS n a0 σ = some (r, τ)) : MI l yX12_readsProduct cX12_readsProduct 1 (some .boolean) (rmr_X12_readsProduct d) D cA base ad σ [.ref (ad a0)] r τ := by
  refine Met.ofW (cc := cX12_readsProduct) (maxL := 1) (ret := (some .boolean)) (by decide) rfl ?_
  intro p e s m args below meth c s₁ B hml hv
  obtain ⟨rfl, hv⟩ := hv
  have X : SX D cA base p s m ([.ref (ad a0)] : List Value).toArray meth c cX12_readsProduct 1 (some .boolean) RX12 := sx_of B hml hv
  have hG := hv.1
  have hS : va_S (bA base) s.heap s.heap [] := va_S.rf
  have hE := xT.rf σ
  have hl := lv_entry ([.ref (ad a0)]) (n := 1) (Nat.le_of_ble_eq_true rfl)
  rw [lg_entry_eq]
  generalize (lg_sl ([.ref (ad a0)]) ++ List.replicate (1 - (lg_sl ([.ref (ad a0)])).length) Slot.unset).toArray = ls at hl ⊢
  have hl : lv_has ls 1 [(0, .ref (ad a0))] := hl
  unfold F_X12_readsProduct at hF
  exact w_X12_readsProduct_0 X n d KS hKS  n a0 σ _ _ ls hT_a0 hG hS hE (lv_sub hl [0] rfl) hF
theorem w_X12_readsSum_0 {σ0 τ : Hp} {r : Int32} (X : SX D cA base p s m args meth c cX12_readsSum 1 (some .boolean) RX12) (n : Nat) (d : Nat) (KS : Nat → Hp → Option (Int32 × Hp)) (hKS : ∀ (σ : Hp) (a0 : Nat) {τ : Hp} {r : Int32}, hT σ a0 12 → KS a0 σ = some (r, τ) → MI l yX12_readsSum cX12_readsSum 1 (some .boolean) (rmr_X12_readsSum d) D cA base ad σ [.ref (ad a0)] r τ)  : ∀ f : Nat, ∀ (v0 : Nat) (σ : Hp) (H : Heap) (locs : List Loc) (ls : Array Slot), hT σ v0 12 → GW D cA base ad σ H → va_S (bA base) s.heap H locs → xT σ0 σ → lv_has ls 1 [(0, .ref (ad v0))] → F_X12_readsSum_0 KS n  f v0 σ = some (r, τ) → W p l e (rmr_X12_readsSum (d + 1)) s m args below meth c H locs 0 0 (ZI below s args D cA base ad σ0 r τ) (F0 m 0 ls []) := by
  intro f
  induction f with
  | zero => intro v0 σ H locs ls h0 hG hS hE hl hF
            rw [F_X12_readsSum_0] at hF; cases hF
  | succ f ih =>
    intro v0 σ H locs ls hT_v0 hG hS hE hl hF
    rw [F_X12_readsSum_0] at hF
    refine lv_aload_n X.1 X.2.1 dX12_readsSum_0 rfl (lv_at hl 0 rfl) ?_
    obtain ⟨r2, σ1, hz, hF⟩ := b2_ex hF
    refine gx_rI (gx_runV (As := []) (rest := []) X hG hS hT_v0.1 (hT_v0.eq (by decide)) (by decide) rfl (c_X12_readsProduct l D cA base ad σ n d KS hKS v0 hT_v0 hz) k_1123 k_1120 k_1122 ks_23 k_4 (h_X12_readsProduct) rfl rfl ⟨by show 3 * d + 8 + 1 ≤ 3 * d + 9; omega, by show 8 + (1 + 11) + (61 * d + 201) ≤ 61 * d + 221; omega⟩ rfl hl.1 rfl (Nat.le_of_ble_eq_true rfl) dX12_readsSum_1 ⟨Nat.zero_le _, Nat.zero_le _⟩) hS (fun H locs hG hS hX => ?_)
    have hT_v0 := hX.T hT_v0
    replace hE := hE.trans hX
    refine lv_if_ne (tgt := 9) X.1 X.2.1 dX12_readsSum_4 (by decide) (fun hc => ?_) (fun hc => ?_)
    · replace hF := it_f hF hc
      refine lv_aload_n X.1 X.2.1 dX12_readsSum_9 rfl (lv_at hl 0 rfl) ?_
      refine lv_bipush (v := 43) X.1 X.2.1 dX12_readsSum_10 (by decide) ?_
      obtain ⟨r4, σ3, hz, hF⟩ := b2_ex hF
      refine gx_rI (gx_runV (As := [.int 43]) (rest := []) X hG hS hT_v0.1 (hT_v0.eq (by decide)) (by decide) rfl (c_X12_takes l D cA base ad σ1 n v0 43 hT_v0 hz) k_1135 k_1132 k_1134 ks_26 k_4 (h_X12_takes) rfl rfl ⟨by show 1 + 1 ≤ 3 * d + 9; omega, by show 8 + (2 + 11) + 20 ≤ 61 * d + 221; omega⟩ rfl hl.1 rfl (Nat.le_of_ble_eq_true rfl) dX12_readsSum_12 ⟨Nat.zero_le _, Nat.zero_le _⟩) hS (fun H locs hG hS hX => ?_)
      have hT_v0 := hX.T hT_v0
      replace hE := hE.trans hX
      refine lv_if_ne (tgt := 0) X.1 X.2.1 dX12_readsSum_15 (by decide) (fun hc => ?_) (fun hc => ?_)
      · replace hF := it_f hF hc
        exact ih v0 σ3 _ _ ls hT_v0 hG hS hE (lv_sub hl [0] rfl) hF
      · replace hF := it_t hF hc
        refine lv_aload_n X.1 X.2.1 dX12_readsSum_18 rfl (lv_at hl 0 rfl) ?_
        refine lv_bipush (v := 45) X.1 X.2.1 dX12_readsSum_19 (by decide) ?_
        obtain ⟨r6, σ5, hz, hF⟩ := b2_ex hF
        refine gx_rI (gx_runV (As := [.int 45]) (rest := []) X hG hS hT_v0.1 (hT_v0.eq (by decide)) (by decide) rfl (c_X12_takes l D cA base ad σ3 n v0 45 hT_v0 hz) k_1135 k_1132 k_1134 ks_26 k_4 (h_X12_takes) rfl rfl ⟨by show 1 + 1 ≤ 3 * d + 9; omega, by show 8 + (2 + 11) + 20 ≤ 61 * d + 221; omega⟩ rfl hl.1 rfl (Nat.le_of_ble_eq_true rfl) dX12_readsSum_21 ⟨Nat.zero_le _, Nat.zero_le _⟩) hS (fun H locs hG hS hX => ?_)
        have hT_v0 := hX.T hT_v0
        replace hE := hE.trans hX
        refine lv_if_ne (tgt := 0) X.1 X.2.1 dX12_readsSum_24 (by decide) (fun hc => ?_) (fun hc => ?_)
        · replace hF := it_f hF hc
          exact ih v0 σ5 _ _ ls hT_v0 hG hS hE (lv_sub hl [0] rfl) hF
        · replace hF := it_t hF hc
          refine lv_iconst (v := 1) X.1 X.2.1 dX12_readsSum_27 (by decide) ?_
          exact gx_zret X hG hS hE hF rfl dX12_readsSum_28
    · replace hF := it_t hF hc
      refine lv_iconst (v := 0) X.1 X.2.1 dX12_readsSum_7 (by decide) ?_
      exact gx_zret X hG hS hE hF rfl dX12_readsSum_8
theorem c_X12_readsSumB (l : Launch) (D : va_G) (cA : Nat → ClassId) (base : Nat) (ad : Nat → Nat) (σ : Hp) (n : Nat) (d : Nat) (KS : Nat → Hp → Option (Int32 × Hp)) (hKS : ∀ (σ : Hp) (a0 : Nat) {τ : Hp} {r : Int32}, hT σ a0 12 → KS a0 σ = some (r, τ) → MI l yX12_readsSum cX12_readsSum 1 (some .boolean) (rmr_X12_readsSum d) D cA base ad σ [.ref (ad a0)] r τ) (a0 : Nat) (hT_a0 : hT σ a0 12) {τ : Hp} {r : Int32} (hF : F_X12_readsSumB KS n a0 σ = some (r, τ)) : MI l yX12_readsSum cX12_readsSum 1 (some .boolean) (rmr_X12_readsSum (d + 1)) D cA base ad σ [.ref (ad a0)] r τ := by
  refine Met.ofW (cc := cX12_readsSum) (maxL := 1) (ret := (some .boolean)) (by decide) rfl ?_
  intro p e s m args below meth c s₁ B hml hv
  obtain ⟨rfl, hv⟩ := hv
  have X : SX D cA base p s m ([.ref (ad a0)] : List Value).toArray meth c cX12_readsSum 1 (some .boolean) RX12 := sx_of B hml hv
  have hG := hv.1
  have hS : va_S (bA base) s.heap s.heap [] := va_S.rf
  have hE := xT.rf σ
  have hl := lv_entry ([.ref (ad a0)]) (n := 1) (Nat.le_of_ble_eq_true rfl)
  rw [lg_entry_eq]
  generalize (lg_sl ([.ref (ad a0)]) ++ List.replicate (1 - (lg_sl ([.ref (ad a0)])).length) Slot.unset).toArray = ls at hl ⊢
  have hl : lv_has ls 1 [(0, .ref (ad a0))] := hl
  unfold F_X12_readsSumB at hF
  exact w_X12_readsSum_0 X n d KS hKS  n a0 σ _ _ ls hT_a0 hG hS hE (lv_sub hl [0] rfl) hF
theorem c_X12_readsSum (l : Launch) (D : va_G) (cA : Nat → ClassId) (base : Nat) (ad : Nat → Nat) : ∀ (σ : Hp) (n d : Nat) (a0 : Nat), hT σ a0 12 → ∀ {τ : Hp} {r : Int32} , F_X12_readsSum n d a0 σ = some (r, τ) → MI l yX12_readsSum cX12_readsSum 1 (some .boolean) (rmr_X12_readsSum d) D cA base ad σ [.ref (ad a0)] r τ := by
  intro σ n d
  induction d generalizing σ with
  | zero => intro a0 h0 τ r hF
            rw [F_X12_readsSum] at hF; cases hF
  | succ d ih =>
    intro a0 h0 τ r hF
    rw [F_X12_readsSum] at hF
    exact c_X12_readsSumB l D cA base ad σ n d (F_X12_readsSum n d) (fun σ a0 τ r h0 hz => ih σ a0 h0 hz) a0 h0 hF
theorem w_X12_wrongRow_49 {σ0 τ : Hp} {r : Int32} (X : SX D cA base p s m args meth c cX12_wrongRow 3 (some .int) RX12) (n : Nat)  : ∀  (σ : Hp) (H : Heap) (locs : List Loc) (ls : Array Slot), GW D cA base ad σ H → va_S (bA base) s.heap H locs → xT σ0 σ → lv_has ls 3 [] → F_X12_wrongRow_49 n  σ = some (r, τ) → W p l e rm_X12_wrongRow s m args below meth c H locs 0 0 (ZI below s args D cA base ad σ0 r τ) (F0 m 49 ls []) := by
  intro σ H locs ls hG hS hE hl hF
  unfold F_X12_wrongRow_49 at hF
  refine lv_bipush (v := (-12)) X.1 X.2.1 dX12_wrongRow_49 (by decide) ?_
  refine lv_goto (tgt := 55) X.1 X.2.1 dX12_wrongRow_51 (by decide) ?_
  exact gx_iret X hG hS hE hF dX12_wrongRow_55
theorem c_X12_wrongRow (l : Launch) (D : va_G) (cA : Nat → ClassId) (base : Nat) (ad : Nat → Nat) (σ : Hp) (n : Nat) (a0 : Nat) (a1 : Int32) (a2 : Int32) (hT_a0 : hT σ a0 12) {τ : Hp} {r : Int32} (hF : F_X12_wrongRow n a0 a1 a2 σ = some (r, τ)) : MI l yX12_wrongRow cX12_wrongRow 3 (some .int) rm_X12_wrongRow D cA base ad σ [.ref (ad a0), .int a1, .int a2] r τ := by
  refine Met.ofW (cc := cX12_wrongRow) (maxL := 3) (ret := (some .int)) (by decide) rfl ?_
  intro p e s m args below meth c s₁ B hml hv
  obtain ⟨rfl, hv⟩ := hv
  have X : SX D cA base p s m ([.ref (ad a0), .int a1, .int a2] : List Value).toArray meth c cX12_wrongRow 3 (some .int) RX12 := sx_of B hml hv
  have hG := hv.1
  have hS : va_S (bA base) s.heap s.heap [] := va_S.rf
  have hE := xT.rf σ
  have hl := lv_entry ([.ref (ad a0), .int a1, .int a2]) (n := 3) (Nat.le_of_ble_eq_true rfl)
  rw [lg_entry_eq]
  generalize (lg_sl ([.ref (ad a0), .int a1, .int a2]) ++ List.replicate (3 - (lg_sl ([.ref (ad a0), .int a1, .int a2])).length) Slot.unset).toArray = ls at hl ⊢
  have hl : lv_has ls 3 [(0, .ref (ad a0)), (1, .int a1), (2, .int a2)] := hl
  unfold F_X12_wrongRow at hF
  refine lv_iload_n X.1 X.2.1 dX12_wrongRow_0 rfl (lv_at hl 1 rfl) ?_
  obtain ⟨r2, σ1, hz, hF⟩ := b2_ex hF
  refine gx_rI (gx_runS (As := [.int a1]) (rest := []) X hG hS (c_X12_isShelf l D cA base ad σ n a1 hz) k_1110 k_1108 k_1109 k_4 (h_X12_isShelf.2) rfl rfl ⟨by decide, by decide⟩ rfl hl.1 rfl (Nat.le_of_ble_eq_true rfl) dX12_wrongRow_1 ⟨Nat.zero_le _, Nat.zero_le _⟩) hS (fun H locs hG hS hX => ?_)
  have hT_a0 := hX.T hT_a0
  replace hE := hE.trans hX
  refine lv_if_ne (tgt := 11) X.1 X.2.1 dX12_wrongRow_4 (by decide) (fun hc => ?_) (fun hc => ?_)
  · replace hF := it_f hF hc
    refine lv_aload_n X.1 X.2.1 dX12_wrongRow_11 rfl (lv_at hl 0 rfl) ?_
    obtain ⟨i3, hr, hF⟩ := b1_ex hF
    have hT_i3 : hT σ1 i3 13 := gw_T hG hT_a0 (by decide) hr
    refine gx_get 7 (v := .ref (ad i3)) X hG hT_a0.1 (hT_a0.eq (by decide)) (by decide) rfl inX12 (by decide) k_967 (fun _ h => h) (gx_rfv hr) dX12_wrongRow_12 ?_
    refine lv_iload_n X.1 X.2.1 dX12_wrongRow_15 rfl (lv_at hl 1 rfl) ?_
    refine gx_iald X hG hT_i3 hF dX12_wrongRow_16 (fun hF => ?_)
    refine lv_if_ne (tgt := 25) X.1 X.2.1 dX12_wrongRow_17 (by decide) (fun hc => ?_) (fun hc => ?_)
    · replace hF := it_f hF hc
      refine lv_aload_n X.1 X.2.1 dX12_wrongRow_25 rfl (lv_at hl 0 rfl) ?_
      obtain ⟨i4, hr, hF⟩ := b1_ex hF
      have hT_i4 : hT σ1 i4 13 := gw_T hG hT_a0 (by decide) hr
      refine gx_get 7 (v := .ref (ad i4)) X hG hT_a0.1 (hT_a0.eq (by decide)) (by decide) rfl inX12 (by decide) k_967 (fun _ h => h) (gx_rfv hr) dX12_wrongRow_26 ?_
      refine lv_iload_n X.1 X.2.1 dX12_wrongRow_29 rfl (lv_at hl 1 rfl) ?_
      refine gx_iald X hG hT_i4 hF dX12_wrongRow_30 (fun hF => ?_)
      refine lv_iconst (v := 2) X.1 X.2.1 dX12_wrongRow_31 (by decide) ?_
      refine lv_icmp_ne (tgt := 49) X.1 X.2.1 dX12_wrongRow_32 (by decide) (fun hc => ?_) (fun hc => ?_)
      · replace hF := it_f hF hc
        exact w_X12_wrongRow_49 X n  σ1 _ _ ls  hG hS hE (lv_sub hl [] rfl) hF
      · replace hF := it_t hF hc
        refine lv_iload_n X.1 X.2.1 dX12_wrongRow_35 rfl (lv_at hl 2 rfl) ?_
        refine lv_if_lt (tgt := 54) X.1 X.2.1 dX12_wrongRow_36 (by decide) (fun hc => ?_) (fun hc => ?_)
        · replace hF := it_t hF hc
          refine lv_iconst (v := 0) X.1 X.2.1 dX12_wrongRow_54 (by decide) ?_
          exact gx_iret X hG hS hE hF dX12_wrongRow_55
        · replace hF := it_f hF hc
          refine lv_aload_n X.1 X.2.1 dX12_wrongRow_39 rfl (lv_at hl 0 rfl) ?_
          obtain ⟨i5, hr, hF⟩ := b1_ex hF
          have hT_i5 : hT σ1 i5 13 := gw_T hG hT_a0 (by decide) hr
          refine gx_get 8 (v := .ref (ad i5)) X hG hT_a0.1 (hT_a0.eq (by decide)) (by decide) rfl inX12 (by decide) k_968 (fun _ h => h) (gx_rfv hr) dX12_wrongRow_40 ?_
          refine lv_iload_n X.1 X.2.1 dX12_wrongRow_43 rfl (lv_at hl 1 rfl) ?_
          refine gx_iald X hG hT_i5 hF dX12_wrongRow_44 (fun hF => ?_)
          refine lv_iload_n X.1 X.2.1 dX12_wrongRow_45 rfl (lv_at hl 2 rfl) ?_
          refine lv_icmp_eq (tgt := 54) X.1 X.2.1 dX12_wrongRow_46 (by decide) (fun hc => ?_) (fun hc => ?_)
          · replace hF := it_t hF hc
            refine lv_iconst (v := 0) X.1 X.2.1 dX12_wrongRow_54 (by decide) ?_
            exact gx_iret X hG hS hE hF dX12_wrongRow_55
          · replace hF := it_f hF hc
            exact w_X12_wrongRow_49 X n  σ1 _ _ ls  hG hS hE (lv_sub hl [] rfl) hF
    · replace hF := it_t hF hc
      refine lv_bipush (v := (-11)) X.1 X.2.1 dX12_wrongRow_20 (by decide) ?_
      refine lv_goto (tgt := 55) X.1 X.2.1 dX12_wrongRow_22 (by decide) ?_
      exact gx_iret X hG hS hE hF dX12_wrongRow_55
  · replace hF := it_t hF hc
    refine lv_iconst (v := (-1)) X.1 X.2.1 dX12_wrongRow_7 (by decide) ?_
    refine lv_goto (tgt := 55) X.1 X.2.1 dX12_wrongRow_8 (by decide) ?_
    exact gx_iret X hG hS hE hF dX12_wrongRow_55
end W_model2
