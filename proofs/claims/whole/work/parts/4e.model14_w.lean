/-! model14: printed by wip/whole/gen.py -/
section W_model14
variable {p : Program} {l : Launch} {e : Env} {s : State} {m : MethodId} {args : Array Value} {below : List Frame} {meth : Method} {c : Code} {D : va_G} {cA : Nat → ClassId} {base : Nat} {ad : Nat → Nat}
abbrev rm_X12_row : Room := { frames := 2, cells := 0, slots := 0, locals := 45 }
theorem h_X12_row : yX12_row.cls = RX12 ∧ yX12_row.cls ≠ "java/lang/invoke/MethodHandle" ∧ yX12_row.cls ≠ "java/lang/invoke/VarHandle" ∧ (parseMethodDescriptor yX12_row.desc).map (fun d => d.parameters.length) = some 3 := by decide +kernel
def F_X12_row_58 (n : Nat)  : Nat → Nat → Int32 → Int32 → Hp → Option (Int32 × Hp)
  | 0, _, _, _, _ => none
  | f + 1, v0, v1, v4, σ => if 100 ≤ v4 then (some (0, σ)) else (b1 (hR σ v0 10) fun (i1 : Nat) => ck (¬ (((100 * v1) + v4) < 0 ∨ hL σ i1 ≤ ((100 * v1) + v4).toNatClampNeg)) (lt (pI σ i1 ((100 * v1) + v4).toNatClampNeg 0) fun (σ2 : Hp) => (F_X12_row_58 n  f) v0 v1 (v4 + 1) σ2))
def F_X12_row (n : Nat) (a0 : Nat) (a1 : Int32) (a2 : Int32) (a3 : Int32) (σ : Hp) : Option (Int32 × Hp) := b2 (F_X12_isShelf n a1 σ) fun (r4 : Int32) (σ3 : Hp) => if r4 = 0 then (some ((-1), σ3)) else (b2 (F_X12_isIn n a2.toInt64 0 2 σ3) fun (r6 : Int32) (σ5 : Hp) => if r6 = 0 then (some ((-1), σ5)) else (if a3 ≤ 100 then (if 0 ≤ a3 then (b1 (hR σ5 a0 7) fun (i7 : Nat) => ck (¬ (a1 < 0 ∨ hL σ5 i7 ≤ a1.toNatClampNeg)) (lt (pI σ5 i7 a1.toNatClampNeg 2) fun (σ8 : Hp) => b1 (hR σ8 a0 8) fun (i9 : Nat) => ck (¬ (a1 < 0 ∨ hL σ8 i9 ≤ a1.toNatClampNeg)) (lt (pI σ8 i9 a1.toNatClampNeg a2) fun (σ10 : Hp) => b1 (hR σ10 a0 9) fun (i11 : Nat) => ck (¬ (a1 < 0 ∨ hL σ10 i11 ≤ a1.toNatClampNeg)) (lt (pI σ10 i11 a1.toNatClampNeg a3) fun (σ12 : Hp) => F_X12_row_58 n  n a0 a1 0 σ12)))) else (some ((-14), σ5))) else (some ((-1), σ5))))
abbrev rm_X12_put : Room := { frames := 3, cells := 0, slots := 0, locals := 67 }
theorem h_X12_put : yX12_put.cls = RX12 ∧ yX12_put.cls ≠ "java/lang/invoke/MethodHandle" ∧ yX12_put.cls ≠ "java/lang/invoke/VarHandle" ∧ (parseMethodDescriptor yX12_put.desc).map (fun d => d.parameters.length) = some 3 := by decide +kernel
def F_X12_put_77 (n : Nat)  (s0 : Int32) (s1 : Int32) (s2 : Nat) (σ : Hp) : Option (Int32 × Hp) := ck (¬ (s1 < 0 ∨ hL σ s2 ≤ s1.toNatClampNeg)) (lt (pI σ s2 s1.toNatClampNeg s0) fun (σ1 : Hp) => some (0, σ1))
def F_X12_put (n : Nat) (a0 : Nat) (a1 : Int32) (a2 : Int32) (a3 : Int32) (σ : Hp) : Option (Int32 × Hp) := b2 (F_X12_wrongRow n a0 a1 (-1) σ) fun (r3 : Int32) (σ2 : Hp) => if r3 = 0 then (b1 (hR σ2 a0 9) fun (i4 : Nat) => ck (¬ (a1 < 0 ∨ hL σ2 i4 ≤ a1.toNatClampNeg)) (b2 (F_X12_isIn n a2.toInt64 0 (((hI σ2 i4 a1.toNatClampNeg) - 1).toInt64) σ2) fun (r6 : Int32) (σ5 : Hp) => if r6 = 0 then (some ((-13), σ5)) else (b1 (hR σ5 a0 10) fun (i7 : Nat) => b1 (hR σ5 a0 8) fun (i8 : Nat) => ck (¬ (a1 < 0 ∨ hL σ5 i8 ≤ a1.toNatClampNeg)) (if (hI σ5 i8 a1.toNatClampNeg) = 0 then (F_X12_put_77 n  a3.toInt8.toInt32 ((100 * a1) + a2) i7 σ5) else (b1 (hR σ5 a0 8) fun (i9 : Nat) => ck (¬ (a1 < 0 ∨ hL σ5 i9 ≤ a1.toNatClampNeg)) (if (hI σ5 i9 a1.toNatClampNeg) = 1 then (F_X12_put_77 n  a3.toInt16.toInt32 ((100 * a1) + a2) i7 σ5) else (F_X12_put_77 n  a3 ((100 * a1) + a2) i7 σ5))))))) else (some (r3, σ2))
abbrev rm_X12_element : Room := { frames := 2, cells := 0, slots := 0, locals := 45 }
theorem h_X12_element : yX12_element.cls = RX12 ∧ yX12_element.cls ≠ "java/lang/invoke/MethodHandle" ∧ yX12_element.cls ≠ "java/lang/invoke/VarHandle" ∧ (parseMethodDescriptor yX12_element.desc).map (fun d => d.parameters.length) = some 2 := by decide +kernel
def F_X12_element_45 (n : Nat)  (v0 : Nat) (v1 : Int32) (v2 : Int32) (s0 : Int32) (s1 : Nat) (σ : Hp) : Option (Int64 × Hp) := lt (pI σ s1 14 s0) fun (σ1 : Hp) => if (hI σ1 v0 14) = 0 then (b1 (hR σ1 v0 10) fun (i2 : Nat) => ck (¬ (((100 * v1) + v2) < 0 ∨ hL σ1 i2 ≤ ((100 * v1) + v2).toNatClampNeg)) (some ((hI σ1 i2 ((100 * v1) + v2).toNatClampNeg).toInt64, σ1))) else (some (0, σ1))
def F_X12_element_40 (n : Nat)  (v0 : Nat) (v1 : Int32) (v2 : Int32) (s0 : Nat) (σ : Hp) : Option (Int64 × Hp) := F_X12_element_45 n  v0 v1 v2 2 s0 σ
def F_X12_element (n : Nat) (a0 : Nat) (a1 : Int32) (a2 : Int32) (σ : Hp) : Option (Int64 × Hp) := b2 (F_X12_isShelf n a1 σ) fun (r4 : Int32) (σ3 : Hp) => if r4 = 0 then (F_X12_element_45 n  a0 a1 a2 1 a0 σ3) else (b1 (hR σ3 a0 7) fun (i5 : Nat) => ck (¬ (a1 < 0 ∨ hL σ3 i5 ≤ a1.toNatClampNeg)) (if (hI σ3 i5 a1.toNatClampNeg) = 2 then (b1 (hR σ3 a0 9) fun (i6 : Nat) => ck (¬ (a1 < 0 ∨ hL σ3 i6 ≤ a1.toNatClampNeg)) (b2 (F_X12_isIn n a2.toInt64 0 (((hI σ3 i6 a1.toNatClampNeg) - 1).toInt64) σ3) fun (r8 : Int32) (σ7 : Hp) => if r8 = 0 then (F_X12_element_40 n  a0 a1 a2 a0 σ7) else (F_X12_element_45 n  a0 a1 a2 0 a0 σ7))) else (F_X12_element_40 n  a0 a1 a2 a0 σ3)))
abbrev rm_X12_copy : Room := { frames := 2, cells := 0, slots := 0, locals := 45 }
theorem h_X12_copy : yX12_copy.cls = RX12 ∧ yX12_copy.cls ≠ "java/lang/invoke/MethodHandle" ∧ yX12_copy.cls ≠ "java/lang/invoke/VarHandle" ∧ (parseMethodDescriptor yX12_copy.desc).map (fun d => d.parameters.length) = some 5 := by decide +kernel
def F_X12_copy_147 (n : Nat) (K_122 : Nat → Int32 → Int32 → Int32 → Int32 → Int32 → Int32 → Hp → Option (Int32 × Hp)) (v0 : Nat) (v1 : Int32) (v2 : Int32) (v3 : Int32) (v4 : Int32) (v5 : Int32) (v6 : Int32) (s0 : Int32) (σ : Hp) : Option (Int32 × Hp) := b1 (hR σ v0 10) fun (i1 : Nat) => b1 (hR σ v0 10) fun (i2 : Nat) => ck (¬ ((((100 * v1) + v2) + s0) < 0 ∨ hL σ i2 ≤ (((100 * v1) + v2) + s0).toNatClampNeg)) (ck (¬ ((((100 * v3) + v4) + s0) < 0 ∨ hL σ i1 ≤ (((100 * v3) + v4) + s0).toNatClampNeg)) (lt (pI σ i1 (((100 * v3) + v4) + s0).toNatClampNeg (hI σ i2 (((100 * v1) + v2) + s0).toNatClampNeg)) fun (σ3 : Hp) => K_122 v0 v1 v2 v3 v4 v5 (v6 + 1) σ3))
def F_X12_copy_122 (n : Nat)  : Nat → Nat → Int32 → Int32 → Int32 → Int32 → Int32 → Int32 → Hp → Option (Int32 × Hp)
  | 0, _, _, _, _, _, _, _, _ => none
  | f + 1, v0, v1, v2, v3, v4, v5, v6, σ => if v5 ≤ v6 then (some (v5, σ)) else (if v2 ≤ v4 then (F_X12_copy_147 n (F_X12_copy_122 n  f) v0 v1 v2 v3 v4 v5 v6 ((v5 - 1) - v6) σ) else (F_X12_copy_147 n (F_X12_copy_122 n  f) v0 v1 v2 v3 v4 v5 v6 v6 σ))
def F_X12_copy (n : Nat) (a0 : Nat) (a1 : Int32) (a2 : Int32) (a3 : Int32) (a4 : Int32) (a5 : Int32) (σ : Hp) : Option (Int32 × Hp) := b2 (F_X12_isShelf n a1 σ) fun (r5 : Int32) (σ4 : Hp) => if r5 = 0 then (some ((-1), σ4)) else (b2 (F_X12_isShelf n a3 σ4) fun (r7 : Int32) (σ6 : Hp) => if r7 = 0 then (some ((-1), σ6)) else (b1 (hR σ6 a0 7) fun (i8 : Nat) => ck (¬ (a1 < 0 ∨ hL σ6 i8 ≤ a1.toNatClampNeg)) (if (hI σ6 i8 a1.toNatClampNeg) = 0 then (some ((-11), σ6)) else (b1 (hR σ6 a0 7) fun (i9 : Nat) => ck (¬ (a3 < 0 ∨ hL σ6 i9 ≤ a3.toNatClampNeg)) (if (hI σ6 i9 a3.toNatClampNeg) = 0 then (some ((-11), σ6)) else (b1 (hR σ6 a0 7) fun (i10 : Nat) => ck (¬ (a1 < 0 ∨ hL σ6 i10 ≤ a1.toNatClampNeg)) (if (hI σ6 i10 a1.toNatClampNeg) = 2 then (b1 (hR σ6 a0 7) fun (i11 : Nat) => ck (¬ (a3 < 0 ∨ hL σ6 i11 ≤ a3.toNatClampNeg)) (if (hI σ6 i11 a3.toNatClampNeg) = 2 then (b1 (hR σ6 a0 8) fun (i12 : Nat) => ck (¬ (a1 < 0 ∨ hL σ6 i12 ≤ a1.toNatClampNeg)) (b1 (hR σ6 a0 8) fun (i13 : Nat) => ck (¬ (a3 < 0 ∨ hL σ6 i13 ≤ a3.toNatClampNeg)) (if (hI σ6 i12 a1.toNatClampNeg) = (hI σ6 i13 a3.toNatClampNeg) then (if a5 < 0 then (some ((-13), σ6)) else (if a2 < 0 then (some ((-13), σ6)) else (if a4 < 0 then (some ((-13), σ6)) else (b1 (hR σ6 a0 9) fun (i14 : Nat) => ck (¬ (a1 < 0 ∨ hL σ6 i14 ≤ a1.toNatClampNeg)) (if ((hI σ6 i14 a1.toNatClampNeg) - a2) < a5 then (some ((-13), σ6)) else (b1 (hR σ6 a0 9) fun (i15 : Nat) => ck (¬ (a3 < 0 ∨ hL σ6 i15 ≤ a3.toNatClampNeg)) (if a5 ≤ ((hI σ6 i15 a3.toNatClampNeg) - a4) then (F_X12_copy_122 n  n a0 a1 a2 a3 a4 a5 0 σ6) else (some ((-13), σ6))))))))) else (some ((-12), σ6))))) else (some ((-12), σ6)))) else (some ((-12), σ6)))))))))
theorem w_X12_row_58 {σ0 τ : Hp} {r : Int32} (X : SX D cA base p s m args meth c cX12_row 5 (some .int) RX12) (n : Nat)  : ∀ f : Nat, ∀ (v0 : Nat) (v1 : Int32) (v4 : Int32) (σ : Hp) (H : Heap) (locs : List Loc) (ls : Array Slot), hT σ v0 12 → GW D cA base ad σ H → va_S (bA base) s.heap H locs → xT σ0 σ → lv_has ls 5 [(0, .ref (ad v0)), (1, .int v1), (4, .int v4)] → F_X12_row_58 n  f v0 v1 v4 σ = some (r, τ) → W p l e rm_X12_row s m args below meth c H locs 0 0 (ZI below s args D cA base ad σ0 r τ) (F0 m 58 ls []) := by
  intro f
  induction f with
  | zero => intro v0 v1 v4 σ H locs ls h0 hG hS hE hl hF
            rw [F_X12_row_58] at hF; cases hF
  | succ f ih =>
    intro v0 v1 v4 σ H locs ls hT_v0 hG hS hE hl hF
    rw [F_X12_row_58] at hF
    refine lv_iload X.1 X.2.1 dX12_row_58 (lv_at hl 2 rfl) ?_
    refine lv_bipush (v := 100) X.1 X.2.1 dX12_row_60 (by decide) ?_
    refine lv_icmp_ge (tgt := 84) X.1 X.2.1 dX12_row_62 (by decide) (fun hc => ?_) (fun hc => ?_)
    · replace hF := it_t hF hc
      refine lv_iconst (v := 0) X.1 X.2.1 dX12_row_84 (by decide) ?_
      exact gx_iret X hG hS hE hF dX12_row_85
    · replace hF := it_f hF hc
      refine lv_aload_n X.1 X.2.1 dX12_row_65 rfl (lv_at hl 0 rfl) ?_
      obtain ⟨i1, hr, hF⟩ := b1_ex hF
      have hT_i1 : hT σ i1 13 := gw_T hG hT_v0 (by decide) hr
      refine gx_get 10 (v := .ref (ad i1)) X hG hT_v0.1 (hT_v0.eq (by decide)) (by decide) rfl inX12 (by decide) k_970 (fun _ h => h) (gx_rfv hr) dX12_row_66 ?_
      refine lv_bipush (v := 100) X.1 X.2.1 dX12_row_69 (by decide) ?_
      refine lv_iload_n X.1 X.2.1 dX12_row_71 rfl (lv_at hl 1 rfl) ?_
      refine lv_imul X.1 X.2.1 dX12_row_72 ?_
      refine lv_iload X.1 X.2.1 dX12_row_73 (lv_at hl 2 rfl) ?_
      refine lv_iadd X.1 X.2.1 dX12_row_75 ?_
      refine lv_iconst (v := 0) X.1 X.2.1 dX12_row_76 (by decide) ?_
      refine gx_iast X hG hS hT_i1 hF dX12_row_77 (fun σ2 H locs hG hS hX hF => ?_)
      have hT_v0 := hX.T hT_v0
      replace hE := hE.trans hX
      refine lv_iinc (v := v4 + 1) (lv' := [(4, .int (v4 + 1)), (0, .ref (ad v0)), (1, .int v1)]) X.1 X.2.1 dX12_row_78 hl (k := 2) rfl rfl (by decide) rfl (fun ls hl => ?_)
      refine lv_goto (tgt := 58) X.1 X.2.1 dX12_row_81 (by decide) ?_
      exact ih v0 v1 (v4 + 1) σ2 _ _ ls hT_v0 hG hS hE (lv_sub hl [1, 2, 0] rfl) hF
theorem c_X12_row (l : Launch) (D : va_G) (cA : Nat → ClassId) (base : Nat) (ad : Nat → Nat) (σ : Hp) (n : Nat) (a0 : Nat) (a1 : Int32) (a2 : Int32) (a3 : Int32) (hT_a0 : hT σ a0 12) {τ : Hp} {r : Int32} (hF : F_X12_row n a0 a1 a2 a3 σ = some (r, τ)) : MI l yX12_row cX12_row 5 (some .int) rm_X12_row D cA base ad σ [.ref (ad a0), .int a1, .int a2, .int a3] r τ := by
  refine Met.ofW (cc := cX12_row) (maxL := 5) (ret := (some .int)) (by decide) rfl ?_
  intro p e s m args below meth c s₁ B hml hv
  obtain ⟨rfl, hv⟩ := hv
  have X : SX D cA base p s m ([.ref (ad a0), .int a1, .int a2, .int a3] : List Value).toArray meth c cX12_row 5 (some .int) RX12 := sx_of B hml hv
  have hG := hv.1
  have hS : va_S (bA base) s.heap s.heap [] := va_S.rf
  have hE := xT.rf σ
  have hl := lv_entry ([.ref (ad a0), .int a1, .int a2, .int a3]) (n := 5) (Nat.le_of_ble_eq_true rfl)
  rw [lg_entry_eq]
  generalize (lg_sl ([.ref (ad a0), .int a1, .int a2, .int a3]) ++ List.replicate (5 - (lg_sl ([.ref (ad a0), .int a1, .int a2, .int a3])).length) Slot.unset).toArray = ls at hl ⊢
  have hl : lv_has ls 5 [(0, .ref (ad a0)), (1, .int a1), (2, .int a2), (3, .int a3)] := hl
  unfold F_X12_row at hF
  refine lv_iload_n X.1 X.2.1 dX12_row_0 rfl (lv_at hl 1 rfl) ?_
  obtain ⟨r4, σ3, hz, hF⟩ := b2_ex hF
  refine gx_rI (gx_runS (As := [.int a1]) (rest := []) X hG hS (c_X12_isShelf l D cA base ad σ n a1 hz) k_1110 k_1108 k_1109 k_4 (h_X12_isShelf.2) rfl rfl ⟨by decide, by decide⟩ rfl hl.1 rfl (Nat.le_of_ble_eq_true rfl) dX12_row_1 ⟨Nat.zero_le _, Nat.zero_le _⟩) hS (fun H locs hG hS hX => ?_)
  have hT_a0 := hX.T hT_a0
  replace hE := hE.trans hX
  refine lv_if_eq (tgt := 25) X.1 X.2.1 dX12_row_4 (by decide) (fun hc => ?_) (fun hc => ?_)
  · replace hF := it_t hF hc
    refine lv_iconst (v := (-1)) X.1 X.2.1 dX12_row_25 (by decide) ?_
    exact gx_iret X hG hS hE hF dX12_row_26
  · replace hF := it_f hF hc
    refine lv_iload_n X.1 X.2.1 dX12_row_7 rfl (lv_at hl 2 rfl) ?_
    refine lv_i2l X.1 X.2.1 dX12_row_8 rfl ?_
    refine lv_lconst (v := 0) X.1 X.2.1 dX12_row_9 (by decide) ?_
    refine lv_ldc2 (v := 2) X.1 X.2.1 X.2.2.2.2.2.1 (X.w k_1291) dX12_row_10 ?_
    obtain ⟨r6, σ5, hz, hF⟩ := b2_ex hF
    refine gx_rI (gx_runS (As := [.long a2.toInt64, .long 0, .long 2]) (rest := []) X hG hS (c_X12_isIn l D cA base ad σ3 n a2.toInt64 0 2 hz) k_1063 k_1061 k_1062 k_4 (h_X12_isIn.2) rfl rfl ⟨by decide, by decide⟩ rfl hl.1 rfl (Nat.le_of_ble_eq_true rfl) dX12_row_13 ⟨Nat.zero_le _, Nat.zero_le _⟩) hS (fun H locs hG hS hX => ?_)
    have hT_a0 := hX.T hT_a0
    replace hE := hE.trans hX
    refine lv_if_eq (tgt := 25) X.1 X.2.1 dX12_row_16 (by decide) (fun hc => ?_) (fun hc => ?_)
    · replace hF := it_t hF hc
      refine lv_iconst (v := (-1)) X.1 X.2.1 dX12_row_25 (by decide) ?_
      exact gx_iret X hG hS hE hF dX12_row_26
    · replace hF := it_f hF hc
      refine lv_iload_n X.1 X.2.1 dX12_row_19 rfl (lv_at hl 3 rfl) ?_
      refine lv_bipush (v := 100) X.1 X.2.1 dX12_row_20 (by decide) ?_
      refine lv_icmp_le (tgt := 27) X.1 X.2.1 dX12_row_22 (by decide) (fun hc => ?_) (fun hc => ?_)
      · replace hF := it_t hF hc
        refine lv_iload_n X.1 X.2.1 dX12_row_27 rfl (lv_at hl 3 rfl) ?_
        refine lv_if_ge (tgt := 34) X.1 X.2.1 dX12_row_28 (by decide) (fun hc => ?_) (fun hc => ?_)
        · replace hF := it_t hF hc
          refine lv_aload_n X.1 X.2.1 dX12_row_34 rfl (lv_at hl 0 rfl) ?_
          obtain ⟨i7, hr, hF⟩ := b1_ex hF
          have hT_i7 : hT σ5 i7 13 := gw_T hG hT_a0 (by decide) hr
          refine gx_get 7 (v := .ref (ad i7)) X hG hT_a0.1 (hT_a0.eq (by decide)) (by decide) rfl inX12 (by decide) k_967 (fun _ h => h) (gx_rfv hr) dX12_row_35 ?_
          refine lv_iload_n X.1 X.2.1 dX12_row_38 rfl (lv_at hl 1 rfl) ?_
          refine lv_iconst (v := 2) X.1 X.2.1 dX12_row_39 (by decide) ?_
          refine gx_iast X hG hS hT_i7 hF dX12_row_40 (fun σ8 H locs hG hS hX hF => ?_)
          have hT_a0 := hX.T hT_a0
          replace hE := hE.trans hX
          refine lv_aload_n X.1 X.2.1 dX12_row_41 rfl (lv_at hl 0 rfl) ?_
          obtain ⟨i9, hr, hF⟩ := b1_ex hF
          have hT_i9 : hT σ8 i9 13 := gw_T hG hT_a0 (by decide) hr
          refine gx_get 8 (v := .ref (ad i9)) X hG hT_a0.1 (hT_a0.eq (by decide)) (by decide) rfl inX12 (by decide) k_968 (fun _ h => h) (gx_rfv hr) dX12_row_42 ?_
          refine lv_iload_n X.1 X.2.1 dX12_row_45 rfl (lv_at hl 1 rfl) ?_
          refine lv_iload_n X.1 X.2.1 dX12_row_46 rfl (lv_at hl 2 rfl) ?_
          refine gx_iast X hG hS hT_i9 hF dX12_row_47 (fun σ10 H locs hG hS hX hF => ?_)
          have hT_a0 := hX.T hT_a0
          replace hE := hE.trans hX
          refine lv_aload_n X.1 X.2.1 dX12_row_48 rfl (lv_at hl 0 rfl) ?_
          obtain ⟨i11, hr, hF⟩ := b1_ex hF
          have hT_i11 : hT σ10 i11 13 := gw_T hG hT_a0 (by decide) hr
          refine gx_get 9 (v := .ref (ad i11)) X hG hT_a0.1 (hT_a0.eq (by decide)) (by decide) rfl inX12 (by decide) k_969 (fun _ h => h) (gx_rfv hr) dX12_row_49 ?_
          refine lv_iload_n X.1 X.2.1 dX12_row_52 rfl (lv_at hl 1 rfl) ?_
          refine lv_iload_n X.1 X.2.1 dX12_row_53 rfl (lv_at hl 3 rfl) ?_
          refine gx_iast X hG hS hT_i11 hF dX12_row_54 (fun σ12 H locs hG hS hX hF => ?_)
          have hT_a0 := hX.T hT_a0
          replace hE := hE.trans hX
          refine lv_iconst (v := 0) X.1 X.2.1 dX12_row_55 (by decide) ?_
          refine lv_istore (lv' := [(4, .int 0), (0, .ref (ad a0)), (1, .int a1), (2, .int a2), (3, .int a3)]) X.1 X.2.1 dX12_row_56 hl (by decide) rfl (fun ls hl => ?_)
          exact w_X12_row_58 X n  n a0 a1 0 σ12 _ _ ls hT_a0 hG hS hE (lv_sub hl [1, 2, 0] rfl) hF
        · replace hF := it_f hF hc
          refine lv_bipush (v := (-14)) X.1 X.2.1 dX12_row_31 (by decide) ?_
          exact gx_iret X hG hS hE hF dX12_row_33
      · replace hF := it_f hF hc
        refine lv_iconst (v := (-1)) X.1 X.2.1 dX12_row_25 (by decide) ?_
        exact gx_iret X hG hS hE hF dX12_row_26
theorem w_X12_put_77 {σ0 τ : Hp} {r : Int32} (X : SX D cA base p s m args meth c cX12_put 5 (some .int) RX12) (n : Nat)  : ∀ (s0 : Int32) (s1 : Int32) (s2 : Nat) (σ : Hp) (H : Heap) (locs : List Loc) (ls : Array Slot), hT σ s2 13 → GW D cA base ad σ H → va_S (bA base) s.heap H locs → xT σ0 σ → lv_has ls 5 [] → F_X12_put_77 n  s0 s1 s2 σ = some (r, τ) → W p l e rm_X12_put s m args below meth c H locs 0 0 (ZI below s args D cA base ad σ0 r τ) (F0 m 77 ls [.int s0, .int s1, .ref (ad s2)]) := by
  intro s0 s1 s2 σ H locs ls hT_s2 hG hS hE hl hF
  unfold F_X12_put_77 at hF
  refine gx_iast X hG hS hT_s2 hF dX12_put_77 (fun σ1 H locs hG hS hX hF => ?_)
  replace hE := hE.trans hX
  refine lv_iconst (v := 0) X.1 X.2.1 dX12_put_78 (by decide) ?_
  exact gx_iret X hG hS hE hF dX12_put_79
theorem c_X12_put (l : Launch) (D : va_G) (cA : Nat → ClassId) (base : Nat) (ad : Nat → Nat) (σ : Hp) (n : Nat) (a0 : Nat) (a1 : Int32) (a2 : Int32) (a3 : Int32) (hT_a0 : hT σ a0 12) {τ : Hp} {r : Int32} (hF : F_X12_put n a0 a1 a2 a3 σ = some (r, τ)) : MI l yX12_put cX12_put 5 (some .int) rm_X12_put D cA base ad σ [.ref (ad a0), .int a1, .int a2, .int a3] r τ := by
  refine Met.ofW (cc := cX12_put) (maxL := 5) (ret := (some .int)) (by decide) rfl ?_
  intro p e s m args below meth c s₁ B hml hv
  obtain ⟨rfl, hv⟩ := hv
  have X : SX D cA base p s m ([.ref (ad a0), .int a1, .int a2, .int a3] : List Value).toArray meth c cX12_put 5 (some .int) RX12 := sx_of B hml hv
  have hG := hv.1
  have hS : va_S (bA base) s.heap s.heap [] := va_S.rf
  have hE := xT.rf σ
  have hl := lv_entry ([.ref (ad a0), .int a1, .int a2, .int a3]) (n := 5) (Nat.le_of_ble_eq_true rfl)
  rw [lg_entry_eq]
  generalize (lg_sl ([.ref (ad a0), .int a1, .int a2, .int a3]) ++ List.replicate (5 - (lg_sl ([.ref (ad a0), .int a1, .int a2, .int a3])).length) Slot.unset).toArray = ls at hl ⊢
  have hl : lv_has ls 5 [(0, .ref (ad a0)), (1, .int a1), (2, .int a2), (3, .int a3)] := hl
  unfold F_X12_put at hF
  refine lv_aload_n X.1 X.2.1 dX12_put_0 rfl (lv_at hl 0 rfl) ?_
  refine lv_iload_n X.1 X.2.1 dX12_put_1 rfl (lv_at hl 1 rfl) ?_
  refine lv_iconst (v := (-1)) X.1 X.2.1 dX12_put_2 (by decide) ?_
  obtain ⟨r3, σ2, hz, hF⟩ := b2_ex hF
  refine gx_rI (gx_runV (As := [.int a1, .int (-1)]) (rest := []) X hG hS hT_a0.1 (hT_a0.eq (by decide)) (by decide) rfl (c_X12_wrongRow l D cA base ad σ n a0 a1 (-1) hT_a0 hz) k_1115 k_1112 k_1114 ks_21 k_4 (h_X12_wrongRow) rfl rfl ⟨by decide, by decide⟩ rfl hl.1 rfl (Nat.le_of_ble_eq_true rfl) dX12_put_3 ⟨Nat.zero_le _, Nat.zero_le _⟩) hS (fun H locs hG hS hX => ?_)
  have hT_a0 := hX.T hT_a0
  replace hE := hE.trans hX
  refine lv_istore (lv' := [(4, .int r3), (0, .ref (ad a0)), (1, .int a1), (2, .int a2), (3, .int a3)]) X.1 X.2.1 dX12_put_6 hl (by decide) rfl (fun ls hl => ?_)
  refine lv_iload X.1 X.2.1 dX12_put_8 (lv_at hl 0 rfl) ?_
  refine lv_if_eq (tgt := 16) X.1 X.2.1 dX12_put_10 (by decide) (fun hc => ?_) (fun hc => ?_)
  · replace hF := it_t hF hc
    refine lv_iload_n X.1 X.2.1 dX12_put_16 rfl (lv_at hl 3 rfl) ?_
    refine lv_i2l X.1 X.2.1 dX12_put_17 rfl ?_
    refine lv_lconst (v := 0) X.1 X.2.1 dX12_put_18 (by decide) ?_
    refine lv_aload_n X.1 X.2.1 dX12_put_19 rfl (lv_at hl 1 rfl) ?_
    obtain ⟨i4, hr, hF⟩ := b1_ex hF
    have hT_i4 : hT σ2 i4 13 := gw_T hG hT_a0 (by decide) hr
    refine gx_get 9 (v := .ref (ad i4)) X hG hT_a0.1 (hT_a0.eq (by decide)) (by decide) rfl inX12 (by decide) k_969 (fun _ h => h) (gx_rfv hr) dX12_put_20 ?_
    refine lv_iload_n X.1 X.2.1 dX12_put_23 rfl (lv_at hl 2 rfl) ?_
    refine gx_iald X hG hT_i4 hF dX12_put_24 (fun hF => ?_)
    refine lv_iconst (v := 1) X.1 X.2.1 dX12_put_25 (by decide) ?_
    refine lv_isub X.1 X.2.1 dX12_put_26 ?_
    refine lv_i2l X.1 X.2.1 dX12_put_27 rfl ?_
    obtain ⟨r6, σ5, hz, hF⟩ := b2_ex hF
    refine gx_rI (gx_runS (As := [.long a2.toInt64, .long 0, .long (((hI σ2 i4 a1.toNatClampNeg) - 1).toInt64)]) (rest := []) X hG hS (c_X12_isIn l D cA base ad σ2 n a2.toInt64 0 (((hI σ2 i4 a1.toNatClampNeg) - 1).toInt64) hz) k_1063 k_1061 k_1062 k_4 (h_X12_isIn.2) rfl rfl ⟨by decide, by decide⟩ rfl hl.1 rfl (Nat.le_of_ble_eq_true rfl) dX12_put_28 ⟨Nat.zero_le _, Nat.zero_le _⟩) hS (fun H locs hG hS hX => ?_)
    have hT_a0 := hX.T hT_a0
    replace hE := hE.trans hX
    refine lv_if_ne (tgt := 37) X.1 X.2.1 dX12_put_31 (by decide) (fun hc => ?_) (fun hc => ?_)
    · replace hF := it_f hF hc
      refine lv_aload_n X.1 X.2.1 dX12_put_37 rfl (lv_at hl 1 rfl) ?_
      obtain ⟨i7, hr, hF⟩ := b1_ex hF
      have hT_i7 : hT σ5 i7 13 := gw_T hG hT_a0 (by decide) hr
      refine gx_get 10 (v := .ref (ad i7)) X hG hT_a0.1 (hT_a0.eq (by decide)) (by decide) rfl inX12 (by decide) k_970 (fun _ h => h) (gx_rfv hr) dX12_put_38 ?_
      refine lv_bipush (v := 100) X.1 X.2.1 dX12_put_41 (by decide) ?_
      refine lv_iload_n X.1 X.2.1 dX12_put_43 rfl (lv_at hl 2 rfl) ?_
      refine lv_imul X.1 X.2.1 dX12_put_44 ?_
      refine lv_iload_n X.1 X.2.1 dX12_put_45 rfl (lv_at hl 3 rfl) ?_
      refine lv_iadd X.1 X.2.1 dX12_put_46 ?_
      refine lv_aload_n X.1 X.2.1 dX12_put_47 rfl (lv_at hl 1 rfl) ?_
      obtain ⟨i8, hr, hF⟩ := b1_ex hF
      have hT_i8 : hT σ5 i8 13 := gw_T hG hT_a0 (by decide) hr
      refine gx_get 8 (v := .ref (ad i8)) X hG hT_a0.1 (hT_a0.eq (by decide)) (by decide) rfl inX12 (by decide) k_968 (fun _ h => h) (gx_rfv hr) dX12_put_48 ?_
      refine lv_iload_n X.1 X.2.1 dX12_put_51 rfl (lv_at hl 2 rfl) ?_
      refine gx_iald X hG hT_i8 hF dX12_put_52 (fun hF => ?_)
      refine lv_if_ne (tgt := 61) X.1 X.2.1 dX12_put_53 (by decide) (fun hc => ?_) (fun hc => ?_)
      · replace hF := it_f hF hc
        refine lv_aload_n X.1 X.2.1 dX12_put_61 rfl (lv_at hl 1 rfl) ?_
        obtain ⟨i9, hr, hF⟩ := b1_ex hF
        have hT_i9 : hT σ5 i9 13 := gw_T hG hT_a0 (by decide) hr
        refine gx_get 8 (v := .ref (ad i9)) X hG hT_a0.1 (hT_a0.eq (by decide)) (by decide) rfl inX12 (by decide) k_968 (fun _ h => h) (gx_rfv hr) dX12_put_62 ?_
        refine lv_iload_n X.1 X.2.1 dX12_put_65 rfl (lv_at hl 2 rfl) ?_
        refine gx_iald X hG hT_i9 hF dX12_put_66 (fun hF => ?_)
        refine lv_iconst (v := 1) X.1 X.2.1 dX12_put_67 (by decide) ?_
        refine lv_icmp_ne (tgt := 76) X.1 X.2.1 dX12_put_68 (by decide) (fun hc => ?_) (fun hc => ?_)
        · replace hF := it_f hF hc
          refine lv_iload_n X.1 X.2.1 dX12_put_76 rfl (lv_at hl 4 rfl) ?_
          exact w_X12_put_77 X n  a3 ((100 * a1) + a2) i7 σ5 _ _ ls hT_i7 hG hS hE (lv_sub hl [] rfl) hF
        · replace hF := it_t hF hc
          refine lv_iload_n X.1 X.2.1 dX12_put_71 rfl (lv_at hl 4 rfl) ?_
          refine lv_i2s X.1 X.2.1 dX12_put_72 rfl ?_
          refine lv_goto (tgt := 77) X.1 X.2.1 dX12_put_73 (by decide) ?_
          exact w_X12_put_77 X n  a3.toInt16.toInt32 ((100 * a1) + a2) i7 σ5 _ _ ls hT_i7 hG hS hE (lv_sub hl [] rfl) hF
      · replace hF := it_t hF hc
        refine lv_iload_n X.1 X.2.1 dX12_put_56 rfl (lv_at hl 4 rfl) ?_
        refine lv_i2b X.1 X.2.1 dX12_put_57 rfl ?_
        refine lv_goto (tgt := 77) X.1 X.2.1 dX12_put_58 (by decide) ?_
        exact w_X12_put_77 X n  a3.toInt8.toInt32 ((100 * a1) + a2) i7 σ5 _ _ ls hT_i7 hG hS hE (lv_sub hl [] rfl) hF
    · replace hF := it_t hF hc
      refine lv_bipush (v := (-13)) X.1 X.2.1 dX12_put_34 (by decide) ?_
      exact gx_iret X hG hS hE hF dX12_put_36
  · replace hF := it_f hF hc
    refine lv_iload X.1 X.2.1 dX12_put_13 (lv_at hl 0 rfl) ?_
    exact gx_iret X hG hS hE hF dX12_put_15
theorem w_X12_element_45 {σ0 τ : Hp} {r : Int64} (X : SX D cA base p s m args meth c cX12_element 3 (some .long) RX12) (n : Nat)  : ∀ (v0 : Nat) (v1 : Int32) (v2 : Int32) (s0 : Int32) (s1 : Nat) (σ : Hp) (H : Heap) (locs : List Loc) (ls : Array Slot), hT σ v0 12 → hT σ s1 12 → GW D cA base ad σ H → va_S (bA base) s.heap H locs → xT σ0 σ → lv_has ls 3 [(0, .ref (ad v0)), (1, .int v1), (2, .int v2)] → F_X12_element_45 n  v0 v1 v2 s0 s1 σ = some (r, τ) → W p l e rm_X12_element s m args below meth c H locs 0 0 (ZL below s args D cA base ad σ0 r τ) (F0 m 45 ls [.int s0, .ref (ad s1)]) := by
  intro v0 v1 v2 s0 s1 σ H locs ls hT_v0 hT_s1 hG hS hE hl hF
  unfold F_X12_element_45 at hF
  refine gx_putI 14  X hG hS hT_s1.1 (hT_s1.eq (by decide)) (by decide) rfl inX12 tyX12_ok nmX12 (by decide) k_974 (fun _ h => h) rfl rfl rfl rfl (Nat.le_of_ble_eq_true rfl) dX12_element_45 hF (fun σ1 H locs hG hS hX hF => ?_)
  have hT_v0 := hX.T hT_v0
  replace hE := hE.trans hX
  refine lv_aload_n X.1 X.2.1 dX12_element_48 rfl (lv_at hl 0 rfl) ?_
  refine gx_get 14 (v := .int (hI σ1 v0 14)) X hG hT_v0.1 (hT_v0.eq (by decide)) (by decide) rfl inX12 (by decide) k_974 (fun _ h => h) rfl dX12_element_49 ?_
  refine lv_if_ne (tgt := 70) X.1 X.2.1 dX12_element_52 (by decide) (fun hc => ?_) (fun hc => ?_)
  · replace hF := it_f hF hc
    refine lv_lconst (v := 0) X.1 X.2.1 dX12_element_70 (by decide) ?_
    exact gx_lret X hG hS hE hF dX12_element_71
  · replace hF := it_t hF hc
    refine lv_aload_n X.1 X.2.1 dX12_element_55 rfl (lv_at hl 0 rfl) ?_
    obtain ⟨i2, hr, hF⟩ := b1_ex hF
    have hT_i2 : hT σ1 i2 13 := gw_T hG hT_v0 (by decide) hr
    refine gx_get 10 (v := .ref (ad i2)) X hG hT_v0.1 (hT_v0.eq (by decide)) (by decide) rfl inX12 (by decide) k_970 (fun _ h => h) (gx_rfv hr) dX12_element_56 ?_
    refine lv_bipush (v := 100) X.1 X.2.1 dX12_element_59 (by decide) ?_
    refine lv_iload_n X.1 X.2.1 dX12_element_61 rfl (lv_at hl 1 rfl) ?_
    refine lv_imul X.1 X.2.1 dX12_element_62 ?_
    refine lv_iload_n X.1 X.2.1 dX12_element_63 rfl (lv_at hl 2 rfl) ?_
    refine lv_iadd X.1 X.2.1 dX12_element_64 ?_
    refine gx_iald X hG hT_i2 hF dX12_element_65 (fun hF => ?_)
    refine lv_i2l X.1 X.2.1 dX12_element_66 rfl ?_
    refine lv_goto (tgt := 71) X.1 X.2.1 dX12_element_67 (by decide) ?_
    exact gx_lret X hG hS hE hF dX12_element_71
theorem w_X12_element_40 {σ0 τ : Hp} {r : Int64} (X : SX D cA base p s m args meth c cX12_element 3 (some .long) RX12) (n : Nat)  : ∀ (v0 : Nat) (v1 : Int32) (v2 : Int32) (s0 : Nat) (σ : Hp) (H : Heap) (locs : List Loc) (ls : Array Slot), hT σ v0 12 → hT σ s0 12 → GW D cA base ad σ H → va_S (bA base) s.heap H locs → xT σ0 σ → lv_has ls 3 [(0, .ref (ad v0)), (1, .int v1), (2, .int v2)] → F_X12_element_40 n  v0 v1 v2 s0 σ = some (r, τ) → W p l e rm_X12_element s m args below meth c H locs 0 0 (ZL below s args D cA base ad σ0 r τ) (F0 m 40 ls [.ref (ad s0)]) := by
  intro v0 v1 v2 s0 σ H locs ls hT_v0 hT_s0 hG hS hE hl hF
  unfold F_X12_element_40 at hF
  refine lv_iconst (v := 2) X.1 X.2.1 dX12_element_40 (by decide) ?_
  refine lv_goto (tgt := 45) X.1 X.2.1 dX12_element_41 (by decide) ?_
  exact w_X12_element_45 X n  v0 v1 v2 2 s0 σ _ _ ls hT_v0 hT_s0 hG hS hE (lv_sub hl [0, 1, 2] rfl) hF
theorem c_X12_element (l : Launch) (D : va_G) (cA : Nat → ClassId) (base : Nat) (ad : Nat → Nat) (σ : Hp) (n : Nat) (a0 : Nat) (a1 : Int32) (a2 : Int32) (hT_a0 : hT σ a0 12) {τ : Hp} {r : Int64} (hF : F_X12_element n a0 a1 a2 σ = some (r, τ)) : ML l yX12_element cX12_element 3 rm_X12_element D cA base ad σ [.ref (ad a0), .int a1, .int a2] r τ := by
  refine Met.ofW (cc := cX12_element) (maxL := 3) (ret := (some .long)) (by decide) rfl ?_
  intro p e s m args below meth c s₁ B hml hv
  obtain ⟨rfl, hv⟩ := hv
  have X : SX D cA base p s m ([.ref (ad a0), .int a1, .int a2] : List Value).toArray meth c cX12_element 3 (some .long) RX12 := sx_of B hml hv
  have hG := hv.1
  have hS : va_S (bA base) s.heap s.heap [] := va_S.rf
  have hE := xT.rf σ
  have hl := lv_entry ([.ref (ad a0), .int a1, .int a2]) (n := 3) (Nat.le_of_ble_eq_true rfl)
  rw [lg_entry_eq]
  generalize (lg_sl ([.ref (ad a0), .int a1, .int a2]) ++ List.replicate (3 - (lg_sl ([.ref (ad a0), .int a1, .int a2])).length) Slot.unset).toArray = ls at hl ⊢
  have hl : lv_has ls 3 [(0, .ref (ad a0)), (1, .int a1), (2, .int a2)] := hl
  unfold F_X12_element at hF
  refine lv_aload_n X.1 X.2.1 dX12_element_0 rfl (lv_at hl 0 rfl) ?_
  refine lv_iload_n X.1 X.2.1 dX12_element_1 rfl (lv_at hl 1 rfl) ?_
  obtain ⟨r4, σ3, hz, hF⟩ := b2_ex hF
  refine gx_rI (gx_runS (As := [.int a1]) (rest := [.ref (ad a0)]) X hG hS (c_X12_isShelf l D cA base ad σ n a1 hz) k_1110 k_1108 k_1109 k_4 (h_X12_isShelf.2) rfl rfl ⟨by decide, by decide⟩ rfl hl.1 rfl (Nat.le_of_ble_eq_true rfl) dX12_element_2 ⟨Nat.zero_le _, Nat.zero_le _⟩) hS (fun H locs hG hS hX => ?_)
  have hT_a0 := hX.T hT_a0
  replace hE := hE.trans hX
  refine lv_if_ne (tgt := 12) X.1 X.2.1 dX12_element_5 (by decide) (fun hc => ?_) (fun hc => ?_)
  · replace hF := it_f hF hc
    refine lv_aload_n X.1 X.2.1 dX12_element_12 rfl (lv_at hl 0 rfl) ?_
    obtain ⟨i5, hr, hF⟩ := b1_ex hF
    have hT_i5 : hT σ3 i5 13 := gw_T hG hT_a0 (by decide) hr
    refine gx_get 7 (v := .ref (ad i5)) X hG hT_a0.1 (hT_a0.eq (by decide)) (by decide) rfl inX12 (by decide) k_967 (fun _ h => h) (gx_rfv hr) dX12_element_13 ?_
    refine lv_iload_n X.1 X.2.1 dX12_element_16 rfl (lv_at hl 1 rfl) ?_
    refine gx_iald X hG hT_i5 hF dX12_element_17 (fun hF => ?_)
    refine lv_iconst (v := 2) X.1 X.2.1 dX12_element_18 (by decide) ?_
    refine lv_icmp_ne (tgt := 40) X.1 X.2.1 dX12_element_19 (by decide) (fun hc => ?_) (fun hc => ?_)
    · replace hF := it_f hF hc
      exact w_X12_element_40 X n  a0 a1 a2 a0 σ3 _ _ ls hT_a0 hT_a0 hG hS hE (lv_sub hl [0, 1, 2] rfl) hF
    · replace hF := it_t hF hc
      refine lv_iload_n X.1 X.2.1 dX12_element_22 rfl (lv_at hl 2 rfl) ?_
      refine lv_i2l X.1 X.2.1 dX12_element_23 rfl ?_
      refine lv_lconst (v := 0) X.1 X.2.1 dX12_element_24 (by decide) ?_
      refine lv_aload_n X.1 X.2.1 dX12_element_25 rfl (lv_at hl 0 rfl) ?_
      obtain ⟨i6, hr, hF⟩ := b1_ex hF
      have hT_i6 : hT σ3 i6 13 := gw_T hG hT_a0 (by decide) hr
      refine gx_get 9 (v := .ref (ad i6)) X hG hT_a0.1 (hT_a0.eq (by decide)) (by decide) rfl inX12 (by decide) k_969 (fun _ h => h) (gx_rfv hr) dX12_element_26 ?_
      refine lv_iload_n X.1 X.2.1 dX12_element_29 rfl (lv_at hl 1 rfl) ?_
      refine gx_iald X hG hT_i6 hF dX12_element_30 (fun hF => ?_)
      refine lv_iconst (v := 1) X.1 X.2.1 dX12_element_31 (by decide) ?_
      refine lv_isub X.1 X.2.1 dX12_element_32 ?_
      refine lv_i2l X.1 X.2.1 dX12_element_33 rfl ?_
      obtain ⟨r8, σ7, hz, hF⟩ := b2_ex hF
      refine gx_rI (gx_runS (As := [.long a2.toInt64, .long 0, .long (((hI σ3 i6 a1.toNatClampNeg) - 1).toInt64)]) (rest := [.ref (ad a0)]) X hG hS (c_X12_isIn l D cA base ad σ3 n a2.toInt64 0 (((hI σ3 i6 a1.toNatClampNeg) - 1).toInt64) hz) k_1063 k_1061 k_1062 k_4 (h_X12_isIn.2) rfl rfl ⟨by decide, by decide⟩ rfl hl.1 rfl (Nat.le_of_ble_eq_true rfl) dX12_element_34 ⟨Nat.zero_le _, Nat.zero_le _⟩) hS (fun H locs hG hS hX => ?_)
      have hT_a0 := hX.T hT_a0
      replace hE := hE.trans hX
      refine lv_if_ne (tgt := 44) X.1 X.2.1 dX12_element_37 (by decide) (fun hc => ?_) (fun hc => ?_)
      · replace hF := it_f hF hc
        refine lv_iconst (v := 0) X.1 X.2.1 dX12_element_44 (by decide) ?_
        exact w_X12_element_45 X n  a0 a1 a2 0 a0 σ7 _ _ ls hT_a0 hT_a0 hG hS hE (lv_sub hl [0, 1, 2] rfl) hF
      · replace hF := it_t hF hc
        exact w_X12_element_40 X n  a0 a1 a2 a0 σ7 _ _ ls hT_a0 hT_a0 hG hS hE (lv_sub hl [0, 1, 2] rfl) hF
  · replace hF := it_t hF hc
    refine lv_iconst (v := 1) X.1 X.2.1 dX12_element_8 (by decide) ?_
    refine lv_goto (tgt := 45) X.1 X.2.1 dX12_element_9 (by decide) ?_
    exact w_X12_element_45 X n  a0 a1 a2 1 a0 σ3 _ _ ls hT_a0 hT_a0 hG hS hE (lv_sub hl [0, 1, 2] rfl) hF
theorem w_X12_copy_147 {σ0 τ : Hp} {r : Int32} (X : SX D cA base p s m args meth c cX12_copy 8 (some .int) RX12) (n : Nat) (K_122 : Nat → Int32 → Int32 → Int32 → Int32 → Int32 → Int32 → Hp → Option (Int32 × Hp)) (hK_122 : ∀ (v0 : Nat) (v1 : Int32) (v2 : Int32) (v3 : Int32) (v4 : Int32) (v5 : Int32) (v6 : Int32) (σ : Hp) (H : Heap) (locs : List Loc) (ls : Array Slot), hT σ v0 12 → GW D cA base ad σ H → va_S (bA base) s.heap H locs → xT σ0 σ → lv_has ls 8 [(0, .ref (ad v0)), (1, .int v1), (2, .int v2), (3, .int v3), (4, .int v4), (5, .int v5), (6, .int v6)] → K_122 v0 v1 v2 v3 v4 v5 v6 σ = some (r, τ) → W p l e rm_X12_copy s m args below meth c H locs 0 0 (ZI below s args D cA base ad σ0 r τ) (F0 m 122 ls [])) : ∀ (v0 : Nat) (v1 : Int32) (v2 : Int32) (v3 : Int32) (v4 : Int32) (v5 : Int32) (v6 : Int32) (s0 : Int32) (σ : Hp) (H : Heap) (locs : List Loc) (ls : Array Slot), hT σ v0 12 → GW D cA base ad σ H → va_S (bA base) s.heap H locs → xT σ0 σ → lv_has ls 8 [(0, .ref (ad v0)), (1, .int v1), (2, .int v2), (3, .int v3), (4, .int v4), (5, .int v5), (6, .int v6)] → F_X12_copy_147 n K_122 v0 v1 v2 v3 v4 v5 v6 s0 σ = some (r, τ) → W p l e rm_X12_copy s m args below meth c H locs 0 0 (ZI below s args D cA base ad σ0 r τ) (F0 m 147 ls [.int s0]) := by
  intro v0 v1 v2 v3 v4 v5 v6 s0 σ H locs ls hT_v0 hG hS hE hl hF
  unfold F_X12_copy_147 at hF
  refine lv_istore (lv' := [(7, .int s0), (0, .ref (ad v0)), (1, .int v1), (2, .int v2), (3, .int v3), (4, .int v4), (5, .int v5), (6, .int v6)]) X.1 X.2.1 dX12_copy_147 hl (by decide) rfl (fun ls hl => ?_)
  refine lv_aload_n X.1 X.2.1 dX12_copy_149 rfl (lv_at hl 1 rfl) ?_
  obtain ⟨i1, hr, hF⟩ := b1_ex hF
  have hT_i1 : hT σ i1 13 := gw_T hG hT_v0 (by decide) hr
  refine gx_get 10 (v := .ref (ad i1)) X hG hT_v0.1 (hT_v0.eq (by decide)) (by decide) rfl inX12 (by decide) k_970 (fun _ h => h) (gx_rfv hr) dX12_copy_150 ?_
  refine lv_bipush (v := 100) X.1 X.2.1 dX12_copy_153 (by decide) ?_
  refine lv_iload_n X.1 X.2.1 dX12_copy_155 rfl (lv_at hl 4 rfl) ?_
  refine lv_imul X.1 X.2.1 dX12_copy_156 ?_
  refine lv_iload X.1 X.2.1 dX12_copy_157 (lv_at hl 5 rfl) ?_
  refine lv_iadd X.1 X.2.1 dX12_copy_159 ?_
  refine lv_iload X.1 X.2.1 dX12_copy_160 (lv_at hl 0 rfl) ?_
  refine lv_iadd X.1 X.2.1 dX12_copy_162 ?_
  refine lv_aload_n X.1 X.2.1 dX12_copy_163 rfl (lv_at hl 1 rfl) ?_
  obtain ⟨i2, hr, hF⟩ := b1_ex hF
  have hT_i2 : hT σ i2 13 := gw_T hG hT_v0 (by decide) hr
  refine gx_get 10 (v := .ref (ad i2)) X hG hT_v0.1 (hT_v0.eq (by decide)) (by decide) rfl inX12 (by decide) k_970 (fun _ h => h) (gx_rfv hr) dX12_copy_164 ?_
  refine lv_bipush (v := 100) X.1 X.2.1 dX12_copy_167 (by decide) ?_
  refine lv_iload_n X.1 X.2.1 dX12_copy_169 rfl (lv_at hl 2 rfl) ?_
  refine lv_imul X.1 X.2.1 dX12_copy_170 ?_
  refine lv_iload_n X.1 X.2.1 dX12_copy_171 rfl (lv_at hl 3 rfl) ?_
  refine lv_iadd X.1 X.2.1 dX12_copy_172 ?_
  refine lv_iload X.1 X.2.1 dX12_copy_173 (lv_at hl 0 rfl) ?_
  refine lv_iadd X.1 X.2.1 dX12_copy_175 ?_
  refine gx_iald X hG hT_i2 hF dX12_copy_176 (fun hF => ?_)
  refine gx_iast X hG hS hT_i1 hF dX12_copy_177 (fun σ3 H locs hG hS hX hF => ?_)
  have hT_v0 := hX.T hT_v0
  replace hE := hE.trans hX
  refine lv_iinc (v := v6 + 1) (lv' := [(6, .int (v6 + 1)), (7, .int s0), (0, .ref (ad v0)), (1, .int v1), (2, .int v2), (3, .int v3), (4, .int v4), (5, .int v5)]) X.1 X.2.1 dX12_copy_178 hl (k := 7) rfl rfl (by decide) rfl (fun ls hl => ?_)
  refine lv_goto (tgt := 122) X.1 X.2.1 dX12_copy_181 (by decide) ?_
  exact hK_122 v0 v1 v2 v3 v4 v5 (v6 + 1) σ3 _ _ ls hT_v0 hG hS hE (lv_sub hl [2, 3, 4, 5, 6, 7, 0] rfl) hF
theorem w_X12_copy_122 {σ0 τ : Hp} {r : Int32} (X : SX D cA base p s m args meth c cX12_copy 8 (some .int) RX12) (n : Nat)  : ∀ f : Nat, ∀ (v0 : Nat) (v1 : Int32) (v2 : Int32) (v3 : Int32) (v4 : Int32) (v5 : Int32) (v6 : Int32) (σ : Hp) (H : Heap) (locs : List Loc) (ls : Array Slot), hT σ v0 12 → GW D cA base ad σ H → va_S (bA base) s.heap H locs → xT σ0 σ → lv_has ls 8 [(0, .ref (ad v0)), (1, .int v1), (2, .int v2), (3, .int v3), (4, .int v4), (5, .int v5), (6, .int v6)] → F_X12_copy_122 n  f v0 v1 v2 v3 v4 v5 v6 σ = some (r, τ) → W p l e rm_X12_copy s m args below meth c H locs 0 0 (ZI below s args D cA base ad σ0 r τ) (F0 m 122 ls []) := by
  intro f
  induction f with
  | zero => intro v0 v1 v2 v3 v4 v5 v6 σ H locs ls h0 hG hS hE hl hF
            rw [F_X12_copy_122] at hF; cases hF
  | succ f ih =>
    intro v0 v1 v2 v3 v4 v5 v6 σ H locs ls hT_v0 hG hS hE hl hF
    rw [F_X12_copy_122] at hF
    refine lv_iload X.1 X.2.1 dX12_copy_122 (lv_at hl 6 rfl) ?_
    refine lv_iload X.1 X.2.1 dX12_copy_124 (lv_at hl 5 rfl) ?_
    refine lv_icmp_ge (tgt := 184) X.1 X.2.1 dX12_copy_126 (by decide) (fun hc => ?_) (fun hc => ?_)
    · replace hF := it_t hF hc
      refine lv_iload X.1 X.2.1 dX12_copy_184 (lv_at hl 5 rfl) ?_
      exact gx_iret X hG hS hE hF dX12_copy_186
    · replace hF := it_f hF hc
      refine lv_iload_n X.1 X.2.1 dX12_copy_129 rfl (lv_at hl 2 rfl) ?_
      refine lv_iload X.1 X.2.1 dX12_copy_130 (lv_at hl 4 rfl) ?_
      refine lv_icmp_le (tgt := 140) X.1 X.2.1 dX12_copy_132 (by decide) (fun hc => ?_) (fun hc => ?_)
      · replace hF := it_t hF hc
        refine lv_iload X.1 X.2.1 dX12_copy_140 (lv_at hl 5 rfl) ?_
        refine lv_iconst (v := 1) X.1 X.2.1 dX12_copy_142 (by decide) ?_
        refine lv_isub X.1 X.2.1 dX12_copy_143 ?_
        refine lv_iload X.1 X.2.1 dX12_copy_144 (lv_at hl 6 rfl) ?_
        refine lv_isub X.1 X.2.1 dX12_copy_146 ?_
        exact w_X12_copy_147 X n (F_X12_copy_122 n  f) ih v0 v1 v2 v3 v4 v5 v6 ((v5 - 1) - v6) σ _ _ ls hT_v0 hG hS hE (lv_sub hl [0, 1, 2, 3, 4, 5, 6] rfl) hF
      · replace hF := it_f hF hc
        refine lv_iload X.1 X.2.1 dX12_copy_135 (lv_at hl 6 rfl) ?_
        refine lv_goto (tgt := 147) X.1 X.2.1 dX12_copy_137 (by decide) ?_
        exact w_X12_copy_147 X n (F_X12_copy_122 n  f) ih v0 v1 v2 v3 v4 v5 v6 v6 σ _ _ ls hT_v0 hG hS hE (lv_sub hl [0, 1, 2, 3, 4, 5, 6] rfl) hF
theorem c_X12_copy (l : Launch) (D : va_G) (cA : Nat → ClassId) (base : Nat) (ad : Nat → Nat) (σ : Hp) (n : Nat) (a0 : Nat) (a1 : Int32) (a2 : Int32) (a3 : Int32) (a4 : Int32) (a5 : Int32) (hT_a0 : hT σ a0 12) {τ : Hp} {r : Int32} (hF : F_X12_copy n a0 a1 a2 a3 a4 a5 σ = some (r, τ)) : MI l yX12_copy cX12_copy 8 (some .int) rm_X12_copy D cA base ad σ [.ref (ad a0), .int a1, .int a2, .int a3, .int a4, .int a5] r τ := by
  refine Met.ofW (cc := cX12_copy) (maxL := 8) (ret := (some .int)) (by decide) rfl ?_
  intro p e s m args below meth c s₁ B hml hv
  obtain ⟨rfl, hv⟩ := hv
  have X : SX D cA base p s m ([.ref (ad a0), .int a1, .int a2, .int a3, .int a4, .int a5] : List Value).toArray meth c cX12_copy 8 (some .int) RX12 := sx_of B hml hv
  have hG := hv.1
  have hS : va_S (bA base) s.heap s.heap [] := va_S.rf
  have hE := xT.rf σ
  have hl := lv_entry ([.ref (ad a0), .int a1, .int a2, .int a3, .int a4, .int a5]) (n := 8) (Nat.le_of_ble_eq_true rfl)
  rw [lg_entry_eq]
  generalize (lg_sl ([.ref (ad a0), .int a1, .int a2, .int a3, .int a4, .int a5]) ++ List.replicate (8 - (lg_sl ([.ref (ad a0), .int a1, .int a2, .int a3, .int a4, .int a5])).length) Slot.unset).toArray = ls at hl ⊢
  have hl : lv_has ls 8 [(0, .ref (ad a0)), (1, .int a1), (2, .int a2), (3, .int a3), (4, .int a4), (5, .int a5)] := hl
  unfold F_X12_copy at hF
  refine lv_iload_n X.1 X.2.1 dX12_copy_0 rfl (lv_at hl 1 rfl) ?_
  obtain ⟨r5, σ4, hz, hF⟩ := b2_ex hF
  refine gx_rI (gx_runS (As := [.int a1]) (rest := []) X hG hS (c_X12_isShelf l D cA base ad σ n a1 hz) k_1110 k_1108 k_1109 k_4 (h_X12_isShelf.2) rfl rfl ⟨by decide, by decide⟩ rfl hl.1 rfl (Nat.le_of_ble_eq_true rfl) dX12_copy_1 ⟨Nat.zero_le _, Nat.zero_le _⟩) hS (fun H locs hG hS hX => ?_)
  have hT_a0 := hX.T hT_a0
  replace hE := hE.trans hX
  refine lv_if_eq (tgt := 14) X.1 X.2.1 dX12_copy_4 (by decide) (fun hc => ?_) (fun hc => ?_)
  · replace hF := it_t hF hc
    refine lv_iconst (v := (-1)) X.1 X.2.1 dX12_copy_14 (by decide) ?_
    exact gx_iret X hG hS hE hF dX12_copy_15
  · replace hF := it_f hF hc
    refine lv_iload_n X.1 X.2.1 dX12_copy_7 rfl (lv_at hl 3 rfl) ?_
    obtain ⟨r7, σ6, hz, hF⟩ := b2_ex hF
    refine gx_rI (gx_runS (As := [.int a3]) (rest := []) X hG hS (c_X12_isShelf l D cA base ad σ4 n a3 hz) k_1110 k_1108 k_1109 k_4 (h_X12_isShelf.2) rfl rfl ⟨by decide, by decide⟩ rfl hl.1 rfl (Nat.le_of_ble_eq_true rfl) dX12_copy_8 ⟨Nat.zero_le _, Nat.zero_le _⟩) hS (fun H locs hG hS hX => ?_)
    have hT_a0 := hX.T hT_a0
    replace hE := hE.trans hX
    refine lv_if_ne (tgt := 16) X.1 X.2.1 dX12_copy_11 (by decide) (fun hc => ?_) (fun hc => ?_)
    · replace hF := it_f hF hc
      refine lv_aload_n X.1 X.2.1 dX12_copy_16 rfl (lv_at hl 0 rfl) ?_
      obtain ⟨i8, hr, hF⟩ := b1_ex hF
      have hT_i8 : hT σ6 i8 13 := gw_T hG hT_a0 (by decide) hr
      refine gx_get 7 (v := .ref (ad i8)) X hG hT_a0.1 (hT_a0.eq (by decide)) (by decide) rfl inX12 (by decide) k_967 (fun _ h => h) (gx_rfv hr) dX12_copy_17 ?_
      refine lv_iload_n X.1 X.2.1 dX12_copy_20 rfl (lv_at hl 1 rfl) ?_
      refine gx_iald X hG hT_i8 hF dX12_copy_21 (fun hF => ?_)
      refine lv_if_eq (tgt := 34) X.1 X.2.1 dX12_copy_22 (by decide) (fun hc => ?_) (fun hc => ?_)
      · replace hF := it_t hF hc
        refine lv_bipush (v := (-11)) X.1 X.2.1 dX12_copy_34 (by decide) ?_
        exact gx_iret X hG hS hE hF dX12_copy_36
      · replace hF := it_f hF hc
        refine lv_aload_n X.1 X.2.1 dX12_copy_25 rfl (lv_at hl 0 rfl) ?_
        obtain ⟨i9, hr, hF⟩ := b1_ex hF
        have hT_i9 : hT σ6 i9 13 := gw_T hG hT_a0 (by decide) hr
        refine gx_get 7 (v := .ref (ad i9)) X hG hT_a0.1 (hT_a0.eq (by decide)) (by decide) rfl inX12 (by decide) k_967 (fun _ h => h) (gx_rfv hr) dX12_copy_26 ?_
        refine lv_iload_n X.1 X.2.1 dX12_copy_29 rfl (lv_at hl 3 rfl) ?_
        refine gx_iald X hG hT_i9 hF dX12_copy_30 (fun hF => ?_)
        refine lv_if_ne (tgt := 37) X.1 X.2.1 dX12_copy_31 (by decide) (fun hc => ?_) (fun hc => ?_)
        · replace hF := it_f hF hc
          refine lv_aload_n X.1 X.2.1 dX12_copy_37 rfl (lv_at hl 0 rfl) ?_
          obtain ⟨i10, hr, hF⟩ := b1_ex hF
          have hT_i10 : hT σ6 i10 13 := gw_T hG hT_a0 (by decide) hr
          refine gx_get 7 (v := .ref (ad i10)) X hG hT_a0.1 (hT_a0.eq (by decide)) (by decide) rfl inX12 (by decide) k_967 (fun _ h => h) (gx_rfv hr) dX12_copy_38 ?_
          refine lv_iload_n X.1 X.2.1 dX12_copy_41 rfl (lv_at hl 1 rfl) ?_
          refine gx_iald X hG hT_i10 hF dX12_copy_42 (fun hF => ?_)
          refine lv_iconst (v := 2) X.1 X.2.1 dX12_copy_43 (by decide) ?_
          refine lv_icmp_ne (tgt := 72) X.1 X.2.1 dX12_copy_44 (by decide) (fun hc => ?_) (fun hc => ?_)
          · replace hF := it_f hF hc
            refine lv_bipush (v := (-12)) X.1 X.2.1 dX12_copy_72 (by decide) ?_
            exact gx_iret X hG hS hE hF dX12_copy_74
          · replace hF := it_t hF hc
            refine lv_aload_n X.1 X.2.1 dX12_copy_47 rfl (lv_at hl 0 rfl) ?_
            obtain ⟨i11, hr, hF⟩ := b1_ex hF
            have hT_i11 : hT σ6 i11 13 := gw_T hG hT_a0 (by decide) hr
            refine gx_get 7 (v := .ref (ad i11)) X hG hT_a0.1 (hT_a0.eq (by decide)) (by decide) rfl inX12 (by decide) k_967 (fun _ h => h) (gx_rfv hr) dX12_copy_48 ?_
            refine lv_iload_n X.1 X.2.1 dX12_copy_51 rfl (lv_at hl 3 rfl) ?_
            refine gx_iald X hG hT_i11 hF dX12_copy_52 (fun hF => ?_)
            refine lv_iconst (v := 2) X.1 X.2.1 dX12_copy_53 (by decide) ?_
            refine lv_icmp_ne (tgt := 72) X.1 X.2.1 dX12_copy_54 (by decide) (fun hc => ?_) (fun hc => ?_)
            · replace hF := it_f hF hc
              refine lv_bipush (v := (-12)) X.1 X.2.1 dX12_copy_72 (by decide) ?_
              exact gx_iret X hG hS hE hF dX12_copy_74
            · replace hF := it_t hF hc
              refine lv_aload_n X.1 X.2.1 dX12_copy_57 rfl (lv_at hl 0 rfl) ?_
              obtain ⟨i12, hr, hF⟩ := b1_ex hF
              have hT_i12 : hT σ6 i12 13 := gw_T hG hT_a0 (by decide) hr
              refine gx_get 8 (v := .ref (ad i12)) X hG hT_a0.1 (hT_a0.eq (by decide)) (by decide) rfl inX12 (by decide) k_968 (fun _ h => h) (gx_rfv hr) dX12_copy_58 ?_
              refine lv_iload_n X.1 X.2.1 dX12_copy_61 rfl (lv_at hl 1 rfl) ?_
              refine gx_iald X hG hT_i12 hF dX12_copy_62 (fun hF => ?_)
              refine lv_aload_n X.1 X.2.1 dX12_copy_63 rfl (lv_at hl 0 rfl) ?_
              obtain ⟨i13, hr, hF⟩ := b1_ex hF
              have hT_i13 : hT σ6 i13 13 := gw_T hG hT_a0 (by decide) hr
              refine gx_get 8 (v := .ref (ad i13)) X hG hT_a0.1 (hT_a0.eq (by decide)) (by decide) rfl inX12 (by decide) k_968 (fun _ h => h) (gx_rfv hr) dX12_copy_64 ?_
              refine lv_iload_n X.1 X.2.1 dX12_copy_67 rfl (lv_at hl 3 rfl) ?_
              refine gx_iald X hG hT_i13 hF dX12_copy_68 (fun hF => ?_)
              refine lv_icmp_eq (tgt := 75) X.1 X.2.1 dX12_copy_69 (by decide) (fun hc => ?_) (fun hc => ?_)
              · replace hF := it_t hF hc
                refine lv_iload X.1 X.2.1 dX12_copy_75 (lv_at hl 5 rfl) ?_
                refine lv_if_lt (tgt := 116) X.1 X.2.1 dX12_copy_77 (by decide) (fun hc => ?_) (fun hc => ?_)
                · replace hF := it_t hF hc
                  refine lv_bipush (v := (-13)) X.1 X.2.1 dX12_copy_116 (by decide) ?_
                  exact gx_iret X hG hS hE hF dX12_copy_118
                · replace hF := it_f hF hc
                  refine lv_iload_n X.1 X.2.1 dX12_copy_80 rfl (lv_at hl 2 rfl) ?_
                  refine lv_if_lt (tgt := 116) X.1 X.2.1 dX12_copy_81 (by decide) (fun hc => ?_) (fun hc => ?_)
                  · replace hF := it_t hF hc
                    refine lv_bipush (v := (-13)) X.1 X.2.1 dX12_copy_116 (by decide) ?_
                    exact gx_iret X hG hS hE hF dX12_copy_118
                  · replace hF := it_f hF hc
                    refine lv_iload X.1 X.2.1 dX12_copy_84 (lv_at hl 4 rfl) ?_
                    refine lv_if_lt (tgt := 116) X.1 X.2.1 dX12_copy_86 (by decide) (fun hc => ?_) (fun hc => ?_)
                    · replace hF := it_t hF hc
                      refine lv_bipush (v := (-13)) X.1 X.2.1 dX12_copy_116 (by decide) ?_
                      exact gx_iret X hG hS hE hF dX12_copy_118
                    · replace hF := it_f hF hc
                      refine lv_iload X.1 X.2.1 dX12_copy_89 (lv_at hl 5 rfl) ?_
                      refine lv_aload_n X.1 X.2.1 dX12_copy_91 rfl (lv_at hl 0 rfl) ?_
                      obtain ⟨i14, hr, hF⟩ := b1_ex hF
                      have hT_i14 : hT σ6 i14 13 := gw_T hG hT_a0 (by decide) hr
                      refine gx_get 9 (v := .ref (ad i14)) X hG hT_a0.1 (hT_a0.eq (by decide)) (by decide) rfl inX12 (by decide) k_969 (fun _ h => h) (gx_rfv hr) dX12_copy_92 ?_
                      refine lv_iload_n X.1 X.2.1 dX12_copy_95 rfl (lv_at hl 1 rfl) ?_
                      refine gx_iald X hG hT_i14 hF dX12_copy_96 (fun hF => ?_)
                      refine lv_iload_n X.1 X.2.1 dX12_copy_97 rfl (lv_at hl 2 rfl) ?_
                      refine lv_isub X.1 X.2.1 dX12_copy_98 ?_
                      refine lv_icmp_gt (tgt := 116) X.1 X.2.1 dX12_copy_99 (by decide) (fun hc => ?_) (fun hc => ?_)
                      · replace hF := it_t hF hc
                        refine lv_bipush (v := (-13)) X.1 X.2.1 dX12_copy_116 (by decide) ?_
                        exact gx_iret X hG hS hE hF dX12_copy_118
                      · replace hF := it_f hF hc
                        refine lv_iload X.1 X.2.1 dX12_copy_102 (lv_at hl 5 rfl) ?_
                        refine lv_aload_n X.1 X.2.1 dX12_copy_104 rfl (lv_at hl 0 rfl) ?_
                        obtain ⟨i15, hr, hF⟩ := b1_ex hF
                        have hT_i15 : hT σ6 i15 13 := gw_T hG hT_a0 (by decide) hr
                        refine gx_get 9 (v := .ref (ad i15)) X hG hT_a0.1 (hT_a0.eq (by decide)) (by decide) rfl inX12 (by decide) k_969 (fun _ h => h) (gx_rfv hr) dX12_copy_105 ?_
                        refine lv_iload_n X.1 X.2.1 dX12_copy_108 rfl (lv_at hl 3 rfl) ?_
                        refine gx_iald X hG hT_i15 hF dX12_copy_109 (fun hF => ?_)
                        refine lv_iload X.1 X.2.1 dX12_copy_110 (lv_at hl 4 rfl) ?_
                        refine lv_isub X.1 X.2.1 dX12_copy_112 ?_
                        refine lv_icmp_le (tgt := 119) X.1 X.2.1 dX12_copy_113 (by decide) (fun hc => ?_) (fun hc => ?_)
                        · replace hF := it_t hF hc
                          refine lv_iconst (v := 0) X.1 X.2.1 dX12_copy_119 (by decide) ?_
                          refine lv_istore (lv' := [(6, .int 0), (0, .ref (ad a0)), (1, .int a1), (2, .int a2), (3, .int a3), (4, .int a4), (5, .int a5)]) X.1 X.2.1 dX12_copy_120 hl (by decide) rfl (fun ls hl => ?_)
                          exact w_X12_copy_122 X n  n a0 a1 a2 a3 a4 a5 0 σ6 _ _ ls hT_a0 hG hS hE (lv_sub hl [1, 2, 3, 4, 5, 6, 0] rfl) hF
                        · replace hF := it_f hF hc
                          refine lv_bipush (v := (-13)) X.1 X.2.1 dX12_copy_116 (by decide) ?_
                          exact gx_iret X hG hS hE hF dX12_copy_118
              · replace hF := it_f hF hc
                refine lv_bipush (v := (-12)) X.1 X.2.1 dX12_copy_72 (by decide) ?_
                exact gx_iret X hG hS hE hF dX12_copy_74
        · replace hF := it_t hF hc
          refine lv_bipush (v := (-11)) X.1 X.2.1 dX12_copy_34 (by decide) ?_
          exact gx_iret X hG hS hE hF dX12_copy_36
    · replace hF := it_t hF hc
      refine lv_iconst (v := (-1)) X.1 X.2.1 dX12_copy_14 (by decide) ?_
      exact gx_iret X hG hS hE hF dX12_copy_15
end W_model14
