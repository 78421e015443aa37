/-! class0: printed by wip/whole/gen.py -/
section W_class0
variable {p : Program} {l : Launch} {e : Env} {s : State} {m : MethodId} {args : Array Value} {below : List Frame} {meth : Method} {c : Code} {D : va_G} {cA : Nat → ClassId} {base : Nat} {ad : Nat → Nat}
abbrev rm_X11_store : Room := { frames := 0, cells := 0, slots := 0, locals := 0 }
theorem h_X11_store : yX11_store.cls = RX11 ∧ yX11_store.cls ≠ "java/lang/invoke/MethodHandle" ∧ yX11_store.cls ≠ "java/lang/invoke/VarHandle" ∧ (parseMethodDescriptor yX11_store.desc).map (fun d => d.parameters.length) = some 3 := by decide +kernel
def F_X11_store (n : Nat) (a0 : Nat) (a1 : Int32) (a2 : Int32) (σ : Hp) : Option Hp := if a1 < 0 then (some σ) else (if (nI (hL σ a0)) ≤ a1 then (some σ) else (ck (¬ (a1 < 0 ∨ hL σ a0 ≤ a1.toNatClampNeg)) (lt (pI σ a0 a1.toNatClampNeg a2) fun (σ1 : Hp) => some σ1)))
abbrev rm_X11_thing : Room := { frames := 1, cells := 0, slots := 0, locals := 22 }
theorem h_X11_thing : yX11_thing.cls = RX11 ∧ yX11_thing.cls ≠ "java/lang/invoke/MethodHandle" ∧ yX11_thing.cls ≠ "java/lang/invoke/VarHandle" ∧ (parseMethodDescriptor yX11_thing.desc).map (fun d => d.parameters.length) = some 1 := by decide +kernel
def F_X11_thing (n : Nat) (a0 : Nat) (a1 : Int32) (σ : Hp) : Option (Int32 × Hp) := if a1 < (-20) then (some ((-1), σ)) else (if a1 ≤ 20 then (b1 (hR σ a0 0) fun (i1 : Nat) => if (hI σ i1 0) < 12 then (b1 (hR σ a0 0) fun (i2 : Nat) => b1 (hR σ i2 1) fun (i3 : Nat) => b1 (hR σ a0 0) fun (i4 : Nat) => b1 (F_X11_store n i3 (hI σ i4 0) a1 σ) fun (σ5 : Hp) => b1 (hR σ5 a0 0) fun (i6 : Nat) => lt (pI σ5 i6 0 ((hI σ5 i6 0) + 1)) fun (σ7 : Hp) => b1 (hR σ7 a0 0) fun (i8 : Nat) => some ((hI σ7 i8 0) - 1, σ7)) else (some ((-2), σ))) else (some ((-1), σ)))
abbrev rm_X11_isToldRight : Room := { frames := 0, cells := 0, slots := 0, locals := 0 }
theorem h_X11_isToldRight : yX11_isToldRight.cls = RX11 ∧ yX11_isToldRight.cls ≠ "java/lang/invoke/MethodHandle" ∧ yX11_isToldRight.cls ≠ "java/lang/invoke/VarHandle" ∧ (parseMethodDescriptor yX11_isToldRight.desc).map (fun d => d.parameters.length) = some 1 := by decide +kernel
def F_X11_isToldRight (n : Nat) (a0 : Int32) (σ : Hp) : Option (Int32 × Hp) := if a0 < 0 then (some (0, σ)) else (if 8000 ≤ a0 then (some (0, σ)) else (if (a0 - a0 / 100 * 100) < 1 then (some (0, σ)) else (if 30 < (a0 - a0 / 100 * 100) then (some (0, σ)) else (some (1, σ)))))
abbrev rm_X3_lawAt : Room := { frames := 0, cells := 0, slots := 0, locals := 0 }
theorem h_X3_lawAt : yX3_lawAt.cls = RX3 ∧ yX3_lawAt.cls ≠ "java/lang/invoke/MethodHandle" ∧ yX3_lawAt.cls ≠ "java/lang/invoke/VarHandle" ∧ (parseMethodDescriptor yX3_lawAt.desc).map (fun d => d.parameters.length) = some 1 := by decide +kernel
def F_X3_lawAt (n : Nat) (a0 : Nat) (a1 : Int32) (σ : Hp) : Option (Option Nat × Hp) := if a1 < 0 then (some ((none : Option Nat), σ)) else (if (hI σ a0 5) ≤ a1 then (some ((none : Option Nat), σ)) else (b1 (hR σ a0 6) fun (i1 : Nat) => if (nI (hL σ i1)) ≤ a1 then (some ((none : Option Nat), σ)) else (b1 (hR σ a0 6) fun (i2 : Nat) => ck (¬ (a1 < 0 ∨ hL σ i2 ≤ a1.toNatClampNeg)) (lt (hR σ i2 a1.toNatClampNeg) fun (q3 : Option Nat) => some (q3, σ)))))
abbrev rm_X3_sit : Room := { frames := 1, cells := 0, slots := 0, locals := 22 }
theorem h_X3_sit : yX3_sit.cls = RX3 ∧ yX3_sit.cls ≠ "java/lang/invoke/MethodHandle" ∧ yX3_sit.cls ≠ "java/lang/invoke/VarHandle" ∧ (parseMethodDescriptor yX3_sit.desc).map (fun d => d.parameters.length) = some 2 := by decide +kernel
def F_X3_sit (n : Nat) (a0 : Nat) (a1 : Option Nat) (a2 : Int32) (σ : Hp) : Option Hp := b1 (hR σ a0 3) fun (i1 : Nat) => if (nI (hL σ i1)) ≤ (hI σ a0 2) then (some σ) else (b1 (hR σ a0 3) fun (i2 : Nat) => ck (¬ ((hI σ a0 2) < 0 ∨ hL σ i2 ≤ (hI σ a0 2).toNatClampNeg)) (lt (pR σ i2 (hI σ a0 2).toNatClampNeg a1) fun (σ3 : Hp) => b1 (hR σ3 a0 4) fun (i4 : Nat) => b1 (F_X11_store n i4 (hI σ3 a0 2) a2 σ3) fun (σ5 : Hp) => lt (pI σ5 a0 2 ((hI σ5 a0 2) + 1)) fun (σ6 : Hp) => some σ6))
abbrev rm_X11_at : Room := { frames := 0, cells := 0, slots := 0, locals := 0 }
theorem h_X11_at : yX11_at.cls = RX11 ∧ yX11_at.cls ≠ "java/lang/invoke/MethodHandle" ∧ yX11_at.cls ≠ "java/lang/invoke/VarHandle" ∧ (parseMethodDescriptor yX11_at.desc).map (fun d => d.parameters.length) = some 2 := by decide +kernel
def F_X11_at (n : Nat) (a0 : Nat) (a1 : Int32) (σ : Hp) : Option (Int32 × Hp) := if a1 < 0 then (some (0, σ)) else (if (nI (hL σ a0)) ≤ a1 then (some (0, σ)) else (ck (¬ (a1 < 0 ∨ hL σ a0 ≤ a1.toNatClampNeg)) (some (hI σ a0 a1.toNatClampNeg, σ))))
abbrev rm_X3_toldToAll : Room := { frames := 1, cells := 0, slots := 0, locals := 21 }
theorem h_X3_toldToAll : yX3_toldToAll.cls = RX3 ∧ yX3_toldToAll.cls ≠ "java/lang/invoke/MethodHandle" ∧ yX3_toldToAll.cls ≠ "java/lang/invoke/VarHandle" ∧ (parseMethodDescriptor yX3_toldToAll.desc).map (fun d => d.parameters.length) = some 0 := by decide +kernel
def F_X3_toldToAll_11 (n : Nat)  : Nat → Nat → Int32 → Int32 → Hp → Option (Int32 × Hp)
  | 0, _, _, _, _ => none
  | f + 1, v0, v1, v2, σ => if (hI σ v0 2) ≤ v2 then (some (v1, σ)) else (b1 (hR σ v0 4) fun (i1 : Nat) => b2 (F_X11_at n i1 v2 σ) fun (r3 : Int32) (σ2 : Hp) => (F_X3_toldToAll_11 n  f) v0 (v1 &&& r3) (v2 + 1) σ2)
def F_X3_toldToAll (n : Nat) (a0 : Nat) (σ : Hp) : Option (Int32 × Hp) := F_X3_toldToAll_11 n  n a0 ((1 <<< ((hI σ a0 0) &&& 31)) - 1) 0 σ
abbrev rm_X3_weigh : Room := { frames := 1, cells := 0, slots := 0, locals := 21 }
theorem h_X3_weigh : yX3_weigh.cls = RX3 ∧ yX3_weigh.cls ≠ "java/lang/invoke/MethodHandle" ∧ yX3_weigh.cls ≠ "java/lang/invoke/VarHandle" ∧ (parseMethodDescriptor yX3_weigh.desc).map (fun d => d.parameters.length) = some 1 := by decide +kernel
def F_X3_weigh_32 (n : Nat) (K_4 : Nat → Int32 → Int32 → Int32 → Hp → Option (Int32 × Hp)) (v0 : Nat) (v1 : Int32) (v2 : Int32) (v3 : Int32) (σ : Hp) : Option (Int32 × Hp) := K_4 v0 v1 v2 (v3 + 1) σ
def F_X3_weigh_4 (n : Nat)  : Nat → Nat → Int32 → Int32 → Int32 → Hp → Option (Int32 × Hp)
  | 0, _, _, _, _, _ => none
  | f + 1, v0, v1, v2, v3, σ => if (hI σ v0 0) ≤ v3 then (some (v2, σ)) else (if ((v1 >>> (v3 &&& 31)) &&& 1) = 1 then (b1 (hR σ v0 1) fun (i1 : Nat) => b2 (F_X11_at n i1 v3 σ) fun (r3 : Int32) (σ2 : Hp) => F_X3_weigh_32 n (F_X3_weigh_4 n  f) v0 v1 (v2 + r3) v3 σ2) else (F_X3_weigh_32 n (F_X3_weigh_4 n  f) v0 v1 v2 v3 σ))
def F_X3_weigh (n : Nat) (a0 : Nat) (a1 : Int32) (σ : Hp) : Option (Int32 × Hp) := F_X3_weigh_4 n  n a0 a1 0 0 σ
abbrev rm_X3_standAsTold : Room := { frames := 2, cells := 0, slots := 0, locals := 44 }
theorem h_X3_standAsTold : yX3_standAsTold.cls = RX3 ∧ yX3_standAsTold.cls ≠ "java/lang/invoke/MethodHandle" ∧ yX3_standAsTold.cls ≠ "java/lang/invoke/VarHandle" ∧ (parseMethodDescriptor yX3_standAsTold.desc).map (fun d => d.parameters.length) = some 0 := by decide +kernel
def F_X3_standAsTold_30 (n : Nat)  : Nat → Nat → Int32 → Hp → Option Hp
  | 0, _, _, _ => none
  | f + 1, v0, v1, σ => if (hI σ v0 2) ≤ v1 then (some σ) else (b1 (hR σ v0 15) fun (i1 : Nat) => b1 (hR σ v0 4) fun (i2 : Nat) => b2 (F_X11_at n i2 v1 σ) fun (r4 : Int32) (σ3 : Hp) => b1 (F_X11_store n i1 v1 r4 σ3) fun (σ5 : Hp) => b1 (hR σ5 v0 16) fun (i6 : Nat) => b1 (hR σ5 v0 4) fun (i7 : Nat) => b2 (F_X11_at n i7 v1 σ5) fun (r9 : Int32) (σ8 : Hp) => b2 (F_X3_weigh n v0 r9 σ8) fun (r11 : Int32) (σ10 : Hp) => b1 (F_X11_store n i6 v1 r11 σ10) fun (σ12 : Hp) => b1 (hR σ12 v0 17) fun (i13 : Nat) => b1 (F_X11_store n i13 v1 0 σ12) fun (σ14 : Hp) => b1 (hR σ14 v0 18) fun (i15 : Nat) => b1 (F_X11_store n i15 v1 (-1) σ14) fun (σ16 : Hp) => (F_X3_standAsTold_30 n  f) v0 (v1 + 1) σ16)
def F_X3_standAsTold (n : Nat) (a0 : Nat) (σ : Hp) : Option Hp := lt (pI σ a0 10 0) fun (σ17 : Hp) => lt (pI σ17 a0 11 0) fun (σ18 : Hp) => lt (pI σ18 a0 12 0) fun (σ19 : Hp) => lt (pI σ19 a0 13 0) fun (σ20 : Hp) => b2 (F_X3_toldToAll n a0 σ20) fun (r22 : Int32) (σ21 : Hp) => lt (pI σ21 a0 14 r22) fun (σ23 : Hp) => F_X3_standAsTold_30 n  n a0 0 σ23
abbrev rm_X3_isSeat : Room := { frames := 0, cells := 0, slots := 0, locals := 0 }
theorem h_X3_isSeat : yX3_isSeat.cls = RX3 ∧ yX3_isSeat.cls ≠ "java/lang/invoke/MethodHandle" ∧ yX3_isSeat.cls ≠ "java/lang/invoke/VarHandle" ∧ (parseMethodDescriptor yX3_isSeat.desc).map (fun d => d.parameters.length) = some 1 := by decide +kernel
def F_X3_isSeat (n : Nat) (a0 : Nat) (a1 : Int32) (σ : Hp) : Option (Int32 × Hp) := if a1 < 0 then (some (0, σ)) else (if (hI σ a0 2) ≤ a1 then (some (0, σ)) else (some (1, σ)))
theorem c_X11_store (l : Launch) (D : va_G) (cA : Nat → ClassId) (base : Nat) (ad : Nat → Nat) (σ : Hp) (n : Nat) (a0 : Nat) (a1 : Int32) (a2 : Int32) (hT_a0 : hT σ a0 13) {τ : Hp} (hF : F_X11_store n a0 a1 a2 σ = some τ) : MV l yX11_store cX11_store 3 rm_X11_store D cA base ad σ [.ref (ad a0), .int a1, .int a2] τ := by
  refine Met.ofW (cc := cX11_store) (maxL := 3) (ret := none) (by decide) rfl ?_
  intro p e s m args below meth c s₁ B hml hv
  obtain ⟨rfl, hv⟩ := hv
  have X : SX D cA base p s m ([.ref (ad a0), .int a1, .int a2] : List Value).toArray meth c cX11_store 3 none RX11 := sx_of B hml hv
  have hG := hv.1
  have hS : va_S (bA base) s.heap s.heap [] := va_S.rf
  have hE := xT.rf σ
  have hl := lv_entry ([.ref (ad a0), .int a1, .int a2]) (n := 3) (Nat.le_of_ble_eq_true rfl)
  rw [lg_entry_eq]
  generalize (lg_sl ([.ref (ad a0), .int a1, .int a2]) ++ List.replicate (3 - (lg_sl ([.ref (ad a0), .int a1, .int a2])).length) Slot.unset).toArray = ls at hl ⊢
  have hl : lv_has ls 3 [(0, .ref (ad a0)), (1, .int a1), (2, .int a2)] := hl
  unfold F_X11_store at hF
  refine lv_iload_n X.1 X.2.1 dX11_store_0 rfl (lv_at hl 1 rfl) ?_
  refine lv_if_lt (tgt := 14) X.1 X.2.1 dX11_store_1 (by decide) (fun hc => ?_) (fun hc => ?_)
  · replace hF := it_t hF hc
    exact gx_vret X hG hS hE hF dX11_store_14
  · replace hF := it_f hF hc
    refine lv_iload_n X.1 X.2.1 dX11_store_4 rfl (lv_at hl 1 rfl) ?_
    refine lv_aload_n X.1 X.2.1 dX11_store_5 rfl (lv_at hl 0 rfl) ?_
    refine gx_alen (t0 := 0) X hG hT_a0 (by decide) (by decide) rfl dX11_store_6 ?_
    refine lv_icmp_ge (tgt := 14) X.1 X.2.1 dX11_store_7 (by decide) (fun hc => ?_) (fun hc => ?_)
    · replace hF := it_t hF hc
      exact gx_vret X hG hS hE hF dX11_store_14
    · replace hF := it_f hF hc
      refine lv_aload_n X.1 X.2.1 dX11_store_10 rfl (lv_at hl 0 rfl) ?_
      refine lv_iload_n X.1 X.2.1 dX11_store_11 rfl (lv_at hl 1 rfl) ?_
      refine lv_iload_n X.1 X.2.1 dX11_store_12 rfl (lv_at hl 2 rfl) ?_
      refine gx_iast X hG hS hT_a0 hF dX11_store_13 (fun σ1 H locs hG hS hX hF => ?_)
      have hT_a0 := hX.T hT_a0
      replace hE := hE.trans hX
      exact gx_vret X hG hS hE hF dX11_store_14
theorem c_X11_thing (l : Launch) (D : va_G) (cA : Nat → ClassId) (base : Nat) (ad : Nat → Nat) (σ : Hp) (n : Nat) (a0 : Nat) (a1 : Int32) (hT_a0 : hT σ a0 11) {τ : Hp} {r : Int32} (hF : F_X11_thing n a0 a1 σ = some (r, τ)) : MI l yX11_thing cX11_thing 2 (some .int) rm_X11_thing D cA base ad σ [.ref (ad a0), .int a1] r τ := by
  refine Met.ofW (cc := cX11_thing) (maxL := 2) (ret := (some .int)) (by decide) rfl ?_
  intro p e s m args below meth c s₁ B hml hv
  obtain ⟨rfl, hv⟩ := hv
  have X : SX D cA base p s m ([.ref (ad a0), .int a1] : List Value).toArray meth c cX11_thing 2 (some .int) RX11 := sx_of B hml hv
  have hG := hv.1
  have hS : va_S (bA base) s.heap s.heap [] := va_S.rf
  have hE := xT.rf σ
  have hl := lv_entry ([.ref (ad a0), .int a1]) (n := 2) (Nat.le_of_ble_eq_true rfl)
  rw [lg_entry_eq]
  generalize (lg_sl ([.ref (ad a0), .int a1]) ++ List.replicate (2 - (lg_sl ([.ref (ad a0), .int a1])).length) Slot.unset).toArray = ls at hl ⊢
  have hl : lv_has ls 2 [(0, .ref (ad a0)), (1, .int a1)] := hl
  unfold F_X11_thing at hF
  refine lv_iload_n X.1 X.2.1 dX11_thing_0 rfl (lv_at hl 1 rfl) ?_
  refine lv_bipush (v := (-20)) X.1 X.2.1 dX11_thing_1 (by decide) ?_
  refine lv_icmp_lt (tgt := 12) X.1 X.2.1 dX11_thing_3 (by decide) (fun hc => ?_) (fun hc => ?_)
  · replace hF := it_t hF hc
    refine lv_iconst (v := (-1)) X.1 X.2.1 dX11_thing_12 (by decide) ?_
    exact gx_iret X hG hS hE hF dX11_thing_13
  · replace hF := it_f hF hc
    refine lv_iload_n X.1 X.2.1 dX11_thing_6 rfl (lv_at hl 1 rfl) ?_
    refine lv_bipush (v := 20) X.1 X.2.1 dX11_thing_7 (by decide) ?_
    refine lv_icmp_le (tgt := 14) X.1 X.2.1 dX11_thing_9 (by decide) (fun hc => ?_) (fun hc => ?_)
    · replace hF := it_t hF hc
      refine lv_aload_n X.1 X.2.1 dX11_thing_14 rfl (lv_at hl 0 rfl) ?_
      obtain ⟨i1, hr, hF⟩ := b1_ex hF
      have hT_i1 : hT σ i1 3 := gw_T hG hT_a0 (by decide) hr
      refine gx_get 0 (v := .ref (ad i1)) X hG hT_a0.1 (hT_a0.eq (by decide)) (by decide) rfl inX11 (by decide) k_151 (fun _ h => h) (gx_rfv hr) dX11_thing_15 ?_
      refine gx_getN 0 (v := .int (hI σ i1 0)) X hG hT_i1.1 (hT_i1.eq (by decide)) (by decide) rfl inX3 (by decide) q_40 (fun _ h => h) rfl dX11_thing_18 ?_
      refine lv_bipush (v := 12) X.1 X.2.1 dX11_thing_21 (by decide) ?_
      refine lv_icmp_lt (tgt := 29) X.1 X.2.1 dX11_thing_23 (by decide) (fun hc => ?_) (fun hc => ?_)
      · replace hF := it_t hF hc
        refine lv_aload_n X.1 X.2.1 dX11_thing_29 rfl (lv_at hl 0 rfl) ?_
        obtain ⟨i2, hr, hF⟩ := b1_ex hF
        have hT_i2 : hT σ i2 3 := gw_T hG hT_a0 (by decide) hr
        refine gx_get 0 (v := .ref (ad i2)) X hG hT_a0.1 (hT_a0.eq (by decide)) (by decide) rfl inX11 (by decide) k_151 (fun _ h => h) (gx_rfv hr) dX11_thing_30 ?_
        obtain ⟨i3, hr, hF⟩ := b1_ex hF
        have hT_i3 : hT σ i3 13 := gw_T hG hT_i2 (by decide) hr
        refine gx_getN 1 (v := .ref (ad i3)) X hG hT_i2.1 (hT_i2.eq (by decide)) (by decide) rfl inX3 (by decide) q_43 (fun _ h => h) (gx_rfv hr) dX11_thing_33 ?_
        refine lv_aload_n X.1 X.2.1 dX11_thing_36 rfl (lv_at hl 0 rfl) ?_
        obtain ⟨i4, hr, hF⟩ := b1_ex hF
        have hT_i4 : hT σ i4 3 := gw_T hG hT_a0 (by decide) hr
        refine gx_get 0 (v := .ref (ad i4)) X hG hT_a0.1 (hT_a0.eq (by decide)) (by decide) rfl inX11 (by decide) k_151 (fun _ h => h) (gx_rfv hr) dX11_thing_37 ?_
        refine gx_getN 0 (v := .int (hI σ i4 0)) X hG hT_i4.1 (hT_i4.eq (by decide)) (by decide) rfl inX3 (by decide) q_40 (fun _ h => h) rfl dX11_thing_40 ?_
        refine lv_iload_n X.1 X.2.1 dX11_thing_43 rfl (lv_at hl 1 rfl) ?_
        obtain ⟨σ5, hz, hF⟩ := b1_ex hF
        refine gx_rV (gx_runS (As := [.ref (ad i3), .int (hI σ i4 0), .int a1]) (rest := []) X hG hS (c_X11_store l D cA base ad σ n i3 (hI σ i4 0) a1 hT_i3 hz) k_173 k_171 k_172 k_1 (h_X11_store.2) rfl rfl ⟨by decide, by decide⟩ rfl hl.1 rfl (Nat.le_of_ble_eq_true rfl) dX11_thing_44 ⟨Nat.zero_le _, Nat.zero_le _⟩) hS (fun H locs hG hS hX => ?_)
        have hT_a0 := hX.T hT_a0
        replace hE := hE.trans hX
        refine lv_aload_n X.1 X.2.1 dX11_thing_47 rfl (lv_at hl 0 rfl) ?_
        obtain ⟨i6, hr, hF⟩ := b1_ex hF
        have hT_i6 : hT σ5 i6 3 := gw_T hG hT_a0 (by decide) hr
        refine gx_get 0 (v := .ref (ad i6)) X hG hT_a0.1 (hT_a0.eq (by decide)) (by decide) rfl inX11 (by decide) k_151 (fun _ h => h) (gx_rfv hr) dX11_thing_48 ?_
        refine lv_dup X.1 X.2.1 dX11_thing_51 rfl ?_
        refine gx_getN 0 (v := .int (hI σ5 i6 0)) X hG hT_i6.1 (hT_i6.eq (by decide)) (by decide) rfl inX3 (by decide) q_40 (fun _ h => h) rfl dX11_thing_52 ?_
        refine lv_iconst (v := 1) X.1 X.2.1 dX11_thing_55 (by decide) ?_
        refine lv_iadd X.1 X.2.1 dX11_thing_56 ?_
        refine gx_putIN 0  X hG hS hT_i6.1 (hT_i6.eq (by decide)) (by decide) rfl inX3 tyX3_ok nmX3 (by decide) q_40 (fun _ h => h) rfl rfl rfl rfl (Nat.le_of_ble_eq_true rfl) dX11_thing_57 hF (fun σ7 H locs hG hS hX hF => ?_)
        have hT_a0 := hX.T hT_a0
        replace hE := hE.trans hX
        refine lv_aload_n X.1 X.2.1 dX11_thing_60 rfl (lv_at hl 0 rfl) ?_
        obtain ⟨i8, hr, hF⟩ := b1_ex hF
        have hT_i8 : hT σ7 i8 3 := gw_T hG hT_a0 (by decide) hr
        refine gx_get 0 (v := .ref (ad i8)) X hG hT_a0.1 (hT_a0.eq (by decide)) (by decide) rfl inX11 (by decide) k_151 (fun _ h => h) (gx_rfv hr) dX11_thing_61 ?_
        refine gx_getN 0 (v := .int (hI σ7 i8 0)) X hG hT_i8.1 (hT_i8.eq (by decide)) (by decide) rfl inX3 (by decide) q_40 (fun _ h => h) rfl dX11_thing_64 ?_
        refine lv_iconst (v := 1) X.1 X.2.1 dX11_thing_67 (by decide) ?_
        refine lv_isub X.1 X.2.1 dX11_thing_68 ?_
        exact gx_iret X hG hS hE hF dX11_thing_69
      · replace hF := it_f hF hc
        refine lv_bipush (v := (-2)) X.1 X.2.1 dX11_thing_26 (by decide) ?_
        exact gx_iret X hG hS hE hF dX11_thing_28
    · replace hF := it_f hF hc
      refine lv_iconst (v := (-1)) X.1 X.2.1 dX11_thing_12 (by decide) ?_
      exact gx_iret X hG hS hE hF dX11_thing_13
theorem c_X11_isToldRight (l : Launch) (D : va_G) (cA : Nat → ClassId) (base : Nat) (ad : Nat → Nat) (σ : Hp) (n : Nat) (a0 : Int32)  {τ : Hp} {r : Int32} (hF : F_X11_isToldRight n a0 σ = some (r, τ)) : MI l yX11_isToldRight cX11_isToldRight 1 (some .boolean) rm_X11_isToldRight D cA base ad σ [.int a0] r τ := by
  refine Met.ofW (cc := cX11_isToldRight) (maxL := 1) (ret := (some .boolean)) (by decide) rfl ?_
  intro p e s m args below meth c s₁ B hml hv
  obtain ⟨rfl, hv⟩ := hv
  have X : SX D cA base p s m ([.int a0] : List Value).toArray meth c cX11_isToldRight 1 (some .boolean) RX11 := sx_of B hml hv
  have hG := hv.1
  have hS : va_S (bA base) s.heap s.heap [] := va_S.rf
  have hE := xT.rf σ
  have hl := lv_entry ([.int a0]) (n := 1) (Nat.le_of_ble_eq_true rfl)
  rw [lg_entry_eq]
  generalize (lg_sl ([.int a0]) ++ List.replicate (1 - (lg_sl ([.int a0])).length) Slot.unset).toArray = ls at hl ⊢
  have hl : lv_has ls 1 [(0, .int a0)] := hl
  unfold F_X11_isToldRight at hF
  refine lv_iload_n X.1 X.2.1 dX11_isToldRight_0 rfl (lv_at hl 0 rfl) ?_
  refine lv_if_lt (tgt := 32) X.1 X.2.1 dX11_isToldRight_1 (by decide) (fun hc => ?_) (fun hc => ?_)
  · replace hF := it_t hF hc
    refine lv_iconst (v := 0) X.1 X.2.1 dX11_isToldRight_32 (by decide) ?_
    exact gx_zret X hG hS hE hF rfl dX11_isToldRight_33
  · replace hF := it_f hF hc
    refine lv_iload_n X.1 X.2.1 dX11_isToldRight_4 rfl (lv_at hl 0 rfl) ?_
    refine lv_sipush (v := 8000) X.1 X.2.1 dX11_isToldRight_5 (by decide) ?_
    refine lv_icmp_ge (tgt := 32) X.1 X.2.1 dX11_isToldRight_8 (by decide) (fun hc => ?_) (fun hc => ?_)
    · replace hF := it_t hF hc
      refine lv_iconst (v := 0) X.1 X.2.1 dX11_isToldRight_32 (by decide) ?_
      exact gx_zret X hG hS hE hF rfl dX11_isToldRight_33
    · replace hF := it_f hF hc
      refine lv_iload_n X.1 X.2.1 dX11_isToldRight_11 rfl (lv_at hl 0 rfl) ?_
      refine lv_bipush (v := 100) X.1 X.2.1 dX11_isToldRight_12 (by decide) ?_
      refine lv_irem X.1 X.2.1 dX11_isToldRight_14 (by decide) ?_
      refine lv_iconst (v := 1) X.1 X.2.1 dX11_isToldRight_15 (by decide) ?_
      refine lv_icmp_lt (tgt := 32) X.1 X.2.1 dX11_isToldRight_16 (by decide) (fun hc => ?_) (fun hc => ?_)
      · replace hF := it_t hF hc
        refine lv_iconst (v := 0) X.1 X.2.1 dX11_isToldRight_32 (by decide) ?_
        exact gx_zret X hG hS hE hF rfl dX11_isToldRight_33
      · replace hF := it_f hF hc
        refine lv_iload_n X.1 X.2.1 dX11_isToldRight_19 rfl (lv_at hl 0 rfl) ?_
        refine lv_bipush (v := 100) X.1 X.2.1 dX11_isToldRight_20 (by decide) ?_
        refine lv_irem X.1 X.2.1 dX11_isToldRight_22 (by decide) ?_
        refine lv_bipush (v := 30) X.1 X.2.1 dX11_isToldRight_23 (by decide) ?_
        refine lv_icmp_gt (tgt := 32) X.1 X.2.1 dX11_isToldRight_25 (by decide) (fun hc => ?_) (fun hc => ?_)
        · replace hF := it_t hF hc
          refine lv_iconst (v := 0) X.1 X.2.1 dX11_isToldRight_32 (by decide) ?_
          exact gx_zret X hG hS hE hF rfl dX11_isToldRight_33
        · replace hF := it_f hF hc
          refine lv_iconst (v := 1) X.1 X.2.1 dX11_isToldRight_28 (by decide) ?_
          refine lv_goto (tgt := 33) X.1 X.2.1 dX11_isToldRight_29 (by decide) ?_
          exact gx_zret X hG hS hE hF rfl dX11_isToldRight_33
theorem c_X3_lawAt (l : Launch) (D : va_G) (cA : Nat → ClassId) (base : Nat) (ad : Nat → Nat) (σ : Hp) (n : Nat) (a0 : Nat) (a1 : Int32) (hT_a0 : hT σ a0 3) {τ : Hp} {r : Option Nat} (hF : F_X3_lawAt n a0 a1 σ = some (r, τ)) : MQ2 l yX3_lawAt cX3_lawAt 2 (some (.object "ElevenOne$Law")) rm_X3_lawAt D cA base ad σ [.ref (ad a0), .int a1] r τ 1 := by
  refine Met.ofW (cc := cX3_lawAt) (maxL := 2) (ret := (some (.object "ElevenOne$Law"))) (by decide) rfl ?_
  intro p e s m args below meth c s₁ B hml hv
  obtain ⟨rfl, hv⟩ := hv
  have X : SX D cA base p s m ([.ref (ad a0), .int a1] : List Value).toArray meth c cX3_lawAt 2 (some (.object "ElevenOne$Law")) RX3 := sx_of B hml hv
  have hG := hv.1
  have hS : va_S (bA base) s.heap s.heap [] := va_S.rf
  have hE := xT.rf σ
  have hl := lv_entry ([.ref (ad a0), .int a1]) (n := 2) (Nat.le_of_ble_eq_true rfl)
  rw [lg_entry_eq]
  generalize (lg_sl ([.ref (ad a0), .int a1]) ++ List.replicate (2 - (lg_sl ([.ref (ad a0), .int a1])).length) Slot.unset).toArray = ls at hl ⊢
  have hl : lv_has ls 2 [(0, .ref (ad a0)), (1, .int a1)] := hl
  unfold F_X3_lawAt at hF
  refine lv_iload_n X.1 X.2.1 dX3_lawAt_0 rfl (lv_at hl 1 rfl) ?_
  refine lv_if_lt (tgt := 30) X.1 X.2.1 dX3_lawAt_1 (by decide) (fun hc => ?_) (fun hc => ?_)
  · replace hF := it_t hF hc
    refine lv_null X.1 X.2.1 dX3_lawAt_30 ?_
    exact gx_qret (v := none) X hG hS hE oT.none hF dX3_lawAt_31
  · replace hF := it_f hF hc
    refine lv_iload_n X.1 X.2.1 dX3_lawAt_4 rfl (lv_at hl 1 rfl) ?_
    refine lv_aload_n X.1 X.2.1 dX3_lawAt_5 rfl (lv_at hl 0 rfl) ?_
    refine gx_get 5 (v := .int (hI σ a0 5)) X hG hT_a0.1 (hT_a0.eq (by decide)) (by decide) rfl inX3 (by decide) k_54 (fun _ h => h) rfl dX3_lawAt_6 ?_
    refine lv_icmp_ge (tgt := 30) X.1 X.2.1 dX3_lawAt_9 (by decide) (fun hc => ?_) (fun hc => ?_)
    · replace hF := it_t hF hc
      refine lv_null X.1 X.2.1 dX3_lawAt_30 ?_
      exact gx_qret (v := none) X hG hS hE oT.none hF dX3_lawAt_31
    · replace hF := it_f hF hc
      refine lv_iload_n X.1 X.2.1 dX3_lawAt_12 rfl (lv_at hl 1 rfl) ?_
      refine lv_aload_n X.1 X.2.1 dX3_lawAt_13 rfl (lv_at hl 0 rfl) ?_
      obtain ⟨i1, hr, hF⟩ := b1_ex hF
      have hT_i1 : hT σ i1 14 := gw_T hG hT_a0 (by decide) hr
      refine gx_get 6 (v := .ref (ad i1)) X hG hT_a0.1 (hT_a0.eq (by decide)) (by decide) rfl inX3 (by decide) k_55 (fun _ h => h) (gx_rfv hr) dX3_lawAt_14 ?_
      refine gx_alen (t0 := 1) X hG hT_i1 (by decide) (by decide) rfl dX3_lawAt_17 ?_
      refine lv_icmp_ge (tgt := 30) X.1 X.2.1 dX3_lawAt_18 (by decide) (fun hc => ?_) (fun hc => ?_)
      · replace hF := it_t hF hc
        refine lv_null X.1 X.2.1 dX3_lawAt_30 ?_
        exact gx_qret (v := none) X hG hS hE oT.none hF dX3_lawAt_31
      · replace hF := it_f hF hc
        refine lv_aload_n X.1 X.2.1 dX3_lawAt_21 rfl (lv_at hl 0 rfl) ?_
        obtain ⟨i2, hr, hF⟩ := b1_ex hF
        have hT_i2 : hT σ i2 14 := gw_T hG hT_a0 (by decide) hr
        refine gx_get 6 (v := .ref (ad i2)) X hG hT_a0.1 (hT_a0.eq (by decide)) (by decide) rfl inX3 (by decide) k_55 (fun _ h => h) (gx_rfv hr) dX3_lawAt_22 ?_
        refine lv_iload_n X.1 X.2.1 dX3_lawAt_25 rfl (lv_at hl 1 rfl) ?_
        refine gx_qald (t0 := 1) X hG hT_i2 (by decide) (by decide) rfl hF dX3_lawAt_26 (fun q3 hO_q3 hF => ?_)
        replace hO_q3 : oT σ q3 1 := hO_q3
        refine lv_goto (tgt := 31) X.1 X.2.1 dX3_lawAt_27 (by decide) ?_
        exact gx_qret (v := q3) X hG hS hE hO_q3 hF dX3_lawAt_31
theorem c_X3_sit (l : Launch) (D : va_G) (cA : Nat → ClassId) (base : Nat) (ad : Nat → Nat) (σ : Hp) (n : Nat) (a0 : Nat) (a1 : Option Nat) (a2 : Int32) (hT_a0 : hT σ a0 3) (hO_a1 : oT σ a1 100) {τ : Hp} (hF : F_X3_sit n a0 a1 a2 σ = some τ) : MV l yX3_sit cX3_sit 3 rm_X3_sit D cA base ad σ [.ref (ad a0), va_rf (Option.map ad a1), .int a2] τ := by
  refine Met.ofW (cc := cX3_sit) (maxL := 3) (ret := none) (by decide) rfl ?_
  intro p e s m args below meth c s₁ B hml hv
  obtain ⟨rfl, hv⟩ := hv
  have X : SX D cA base p s m ([.ref (ad a0), va_rf (Option.map ad a1), .int a2] : List Value).toArray meth c cX3_sit 3 none RX3 := sx_of B hml hv
  have hG := hv.1
  have hS : va_S (bA base) s.heap s.heap [] := va_S.rf
  have hE := xT.rf σ
  have hl : lv_has ((lg_sl ([.ref (ad a0), va_rf (Option.map ad a1), .int a2]) ++ List.replicate (3 - (lg_sl ([.ref (ad a0), va_rf (Option.map ad a1), .int a2])).length) Slot.unset).toArray) 3 (lv_args 0 ([.ref (ad a0), va_rf (Option.map ad a1), .int a2])) := by cases a1 <;> exact lv_entry _ (Nat.le_of_ble_eq_true rfl)
  rw [lg_entry_eq]
  generalize (lg_sl ([.ref (ad a0), va_rf (Option.map ad a1), .int a2]) ++ List.replicate (3 - (lg_sl ([.ref (ad a0), va_rf (Option.map ad a1), .int a2])).length) Slot.unset).toArray = ls at hl ⊢
  have hl : lv_has ls 3 [(0, .ref (ad a0)), (1, va_rf (Option.map ad a1)), (2, .int a2)] := by cases a1 <;> exact hl
  unfold F_X3_sit at hF
  refine lv_aload_n X.1 X.2.1 dX3_sit_0 rfl (lv_at hl 0 rfl) ?_
  refine gx_get 2 (v := .int (hI σ a0 2)) X hG hT_a0.1 (hT_a0.eq (by decide)) (by decide) rfl inX3 (by decide) k_45 (fun _ h => h) rfl dX3_sit_1 ?_
  refine lv_aload_n X.1 X.2.1 dX3_sit_4 rfl (lv_at hl 0 rfl) ?_
  obtain ⟨i1, hr, hF⟩ := b1_ex hF
  have hT_i1 : hT σ i1 16 := gw_T hG hT_a0 (by decide) hr
  refine gx_get 3 (v := .ref (ad i1)) X hG hT_a0.1 (hT_a0.eq (by decide)) (by decide) rfl inX3 (by decide) k_50 (fun _ h => h) (gx_rfv hr) dX3_sit_5 ?_
  refine gx_alen (t0 := 3) X hG hT_i1 (by decide) (by decide) rfl dX3_sit_8 ?_
  refine lv_icmp_ge (tgt := 44) X.1 X.2.1 dX3_sit_9 (by decide) (fun hc => ?_) (fun hc => ?_)
  · replace hF := it_t hF hc
    exact gx_vret X hG hS hE hF dX3_sit_44
  · replace hF := it_f hF hc
    refine lv_aload_n X.1 X.2.1 dX3_sit_12 rfl (lv_at hl 0 rfl) ?_
    obtain ⟨i2, hr, hF⟩ := b1_ex hF
    have hT_i2 : hT σ i2 16 := gw_T hG hT_a0 (by decide) hr
    refine gx_get 3 (v := .ref (ad i2)) X hG hT_a0.1 (hT_a0.eq (by decide)) (by decide) rfl inX3 (by decide) k_50 (fun _ h => h) (gx_rfv hr) dX3_sit_13 ?_
    refine lv_aload_n X.1 X.2.1 dX3_sit_16 rfl (lv_at hl 0 rfl) ?_
    refine gx_get 2 (v := .int (hI σ a0 2)) X hG hT_a0.1 (hT_a0.eq (by decide)) (by decide) rfl inX3 (by decide) k_45 (fun _ h => h) rfl dX3_sit_17 ?_
    refine gx_aload_n X.1 X.2.1 dX3_sit_20 rfl (lv_at hl 1 rfl) ?_
    refine gx_qastT (v := a1) X hG hS hT_i2 hO_a1 hF dX3_sit_21 (fun σ3 H locs hG hS hX hF => ?_)
    have hT_a0 := hX.T hT_a0
    have hO_a1 := hX.O hO_a1
    replace hE := hE.trans hX
    refine lv_aload_n X.1 X.2.1 dX3_sit_22 rfl (lv_at hl 0 rfl) ?_
    obtain ⟨i4, hr, hF⟩ := b1_ex hF
    have hT_i4 : hT σ3 i4 13 := gw_T hG hT_a0 (by decide) hr
    refine gx_get 4 (v := .ref (ad i4)) X hG hT_a0.1 (hT_a0.eq (by decide)) (by decide) rfl inX3 (by decide) k_51 (fun _ h => h) (gx_rfv hr) dX3_sit_23 ?_
    refine lv_aload_n X.1 X.2.1 dX3_sit_26 rfl (lv_at hl 0 rfl) ?_
    refine gx_get 2 (v := .int (hI σ3 a0 2)) X hG hT_a0.1 (hT_a0.eq (by decide)) (by decide) rfl inX3 (by decide) k_45 (fun _ h => h) rfl dX3_sit_27 ?_
    refine lv_iload_n X.1 X.2.1 dX3_sit_30 rfl (lv_at hl 2 rfl) ?_
    obtain ⟨σ5, hz, hF⟩ := b1_ex hF
    refine gx_rV (gx_runSN (As := [.ref (ad i4), .int (hI σ3 a0 2), .int a2]) (rest := []) X hG hS (c_X11_store l D cA base ad σ3 n i4 (hI σ3 a0 2) a2 hT_i4 hz) k_173 q_351 k_172 k_1 (h_X11_store.2) rfl rfl ⟨by decide, by decide⟩ rfl hl.1 rfl (Nat.le_of_ble_eq_true rfl) dX3_sit_31 ⟨Nat.zero_le _, Nat.zero_le _⟩) hS (fun H locs hG hS hX => ?_)
    have hT_a0 := hX.T hT_a0
    have hO_a1 := hX.O hO_a1
    replace hE := hE.trans hX
    refine lv_aload_n X.1 X.2.1 dX3_sit_34 rfl (lv_at hl 0 rfl) ?_
    refine lv_dup X.1 X.2.1 dX3_sit_35 rfl ?_
    refine gx_get 2 (v := .int (hI σ5 a0 2)) X hG hT_a0.1 (hT_a0.eq (by decide)) (by decide) rfl inX3 (by decide) k_45 (fun _ h => h) rfl dX3_sit_36 ?_
    refine lv_iconst (v := 1) X.1 X.2.1 dX3_sit_39 (by decide) ?_
    refine lv_iadd X.1 X.2.1 dX3_sit_40 ?_
    refine gx_putI 2  X hG hS hT_a0.1 (hT_a0.eq (by decide)) (by decide) rfl inX3 tyX3_ok nmX3 (by decide) k_45 (fun _ h => h) rfl rfl rfl rfl (Nat.le_of_ble_eq_true rfl) dX3_sit_41 hF (fun σ6 H locs hG hS hX hF => ?_)
    have hT_a0 := hX.T hT_a0
    have hO_a1 := hX.O hO_a1
    replace hE := hE.trans hX
    exact gx_vret X hG hS hE hF dX3_sit_44
theorem c_X11_at (l : Launch) (D : va_G) (cA : Nat → ClassId) (base : Nat) (ad : Nat → Nat) (σ : Hp) (n : Nat) (a0 : Nat) (a1 : Int32) (hT_a0 : hT σ a0 13) {τ : Hp} {r : Int32} (hF : F_X11_at n a0 a1 σ = some (r, τ)) : MI l yX11_at cX11_at 2 (some .int) rm_X11_at D cA base ad σ [.ref (ad a0), .int a1] r τ := by
  refine Met.ofW (cc := cX11_at) (maxL := 2) (ret := (some .int)) (by decide) rfl ?_
  intro p e s m args below meth c s₁ B hml hv
  obtain ⟨rfl, hv⟩ := hv
  have X : SX D cA base p s m ([.ref (ad a0), .int a1] : List Value).toArray meth c cX11_at 2 (some .int) RX11 := sx_of B hml hv
  have hG := hv.1
  have hS : va_S (bA base) s.heap s.heap [] := va_S.rf
  have hE := xT.rf σ
  have hl := lv_entry ([.ref (ad a0), .int a1]) (n := 2) (Nat.le_of_ble_eq_true rfl)
  rw [lg_entry_eq]
  generalize (lg_sl ([.ref (ad a0), .int a1]) ++ List.replicate (2 - (lg_sl ([.ref (ad a0), .int a1])).length) Slot.unset).toArray = ls at hl ⊢
  have hl : lv_has ls 2 [(0, .ref (ad a0)), (1, .int a1)] := hl
  unfold F_X11_at at hF
  refine lv_iload_n X.1 X.2.1 dX11_at_0 rfl (lv_at hl 1 rfl) ?_
  refine lv_if_lt (tgt := 16) X.1 X.2.1 dX11_at_1 (by decide) (fun hc => ?_) (fun hc => ?_)
  · replace hF := it_t hF hc
    refine lv_iconst (v := 0) X.1 X.2.1 dX11_at_16 (by decide) ?_
    exact gx_iret X hG hS hE hF dX11_at_17
  · replace hF := it_f hF hc
    refine lv_iload_n X.1 X.2.1 dX11_at_4 rfl (lv_at hl 1 rfl) ?_
    refine lv_aload_n X.1 X.2.1 dX11_at_5 rfl (lv_at hl 0 rfl) ?_
    refine gx_alen (t0 := 0) X hG hT_a0 (by decide) (by decide) rfl dX11_at_6 ?_
    refine lv_icmp_ge (tgt := 16) X.1 X.2.1 dX11_at_7 (by decide) (fun hc => ?_) (fun hc => ?_)
    · replace hF := it_t hF hc
      refine lv_iconst (v := 0) X.1 X.2.1 dX11_at_16 (by decide) ?_
      exact gx_iret X hG hS hE hF dX11_at_17
    · replace hF := it_f hF hc
      refine lv_aload_n X.1 X.2.1 dX11_at_10 rfl (lv_at hl 0 rfl) ?_
      refine lv_iload_n X.1 X.2.1 dX11_at_11 rfl (lv_at hl 1 rfl) ?_
      refine gx_iald X hG hT_a0 hF dX11_at_12 (fun hF => ?_)
      refine lv_goto (tgt := 17) X.1 X.2.1 dX11_at_13 (by decide) ?_
      exact gx_iret X hG hS hE hF dX11_at_17
theorem w_X3_toldToAll_11 {σ0 τ : Hp} {r : Int32} (X : SX D cA base p s m args meth c cX3_toldToAll 3 (some .int) RX3) (n : Nat)  : ∀ f : Nat, ∀ (v0 : Nat) (v1 : Int32) (v2 : Int32) (σ : Hp) (H : Heap) (locs : List Loc) (ls : Array Slot), hT σ v0 3 → GW D cA base ad σ H → va_S (bA base) s.heap H locs → xT σ0 σ → lv_has ls 3 [(0, .ref (ad v0)), (1, .int v1), (2, .int v2)] → F_X3_toldToAll_11 n  f v0 v1 v2 σ = some (r, τ) → W p l e rm_X3_toldToAll s m args below meth c H locs 0 0 (ZI below s args D cA base ad σ0 r τ) (F0 m 11 ls []) := by
  intro f
  induction f with
  | zero => intro v0 v1 v2 σ H locs ls h0 hG hS hE hl hF
            rw [F_X3_toldToAll_11] at hF; cases hF
  | succ f ih =>
    intro v0 v1 v2 σ H locs ls hT_v0 hG hS hE hl hF
    rw [F_X3_toldToAll_11] at hF
    refine lv_iload_n X.1 X.2.1 dX3_toldToAll_11 rfl (lv_at hl 2 rfl) ?_
    refine lv_aload_n X.1 X.2.1 dX3_toldToAll_12 rfl (lv_at hl 0 rfl) ?_
    refine gx_get 2 (v := .int (hI σ v0 2)) X hG hT_v0.1 (hT_v0.eq (by decide)) (by decide) rfl inX3 (by decide) k_45 (fun _ h => h) rfl dX3_toldToAll_13 ?_
    refine lv_icmp_ge (tgt := 36) X.1 X.2.1 dX3_toldToAll_16 (by decide) (fun hc => ?_) (fun hc => ?_)
    · replace hF := it_t hF hc
      refine lv_iload_n X.1 X.2.1 dX3_toldToAll_36 rfl (lv_at hl 1 rfl) ?_
      exact gx_iret X hG hS hE hF dX3_toldToAll_37
    · replace hF := it_f hF hc
      refine lv_iload_n X.1 X.2.1 dX3_toldToAll_19 rfl (lv_at hl 1 rfl) ?_
      refine lv_aload_n X.1 X.2.1 dX3_toldToAll_20 rfl (lv_at hl 0 rfl) ?_
      obtain ⟨i1, hr, hF⟩ := b1_ex hF
      have hT_i1 : hT σ i1 13 := gw_T hG hT_v0 (by decide) hr
      refine gx_get 4 (v := .ref (ad i1)) X hG hT_v0.1 (hT_v0.eq (by decide)) (by decide) rfl inX3 (by decide) k_51 (fun _ h => h) (gx_rfv hr) dX3_toldToAll_21 ?_
      refine lv_iload_n X.1 X.2.1 dX3_toldToAll_24 rfl (lv_at hl 2 rfl) ?_
      obtain ⟨r3, σ2, hz, hF⟩ := b2_ex hF
      refine gx_rI (gx_runSN (As := [.ref (ad i1), .int v2]) (rest := [.int v1]) X hG hS (c_X11_at l D cA base ad σ n i1 v2 hT_i1 hz) k_362 q_360 k_361 k_1 (h_X11_at.2) rfl rfl ⟨by decide, by decide⟩ rfl hl.1 rfl (Nat.le_of_ble_eq_true rfl) dX3_toldToAll_25 ⟨Nat.zero_le _, Nat.zero_le _⟩) hS (fun H locs hG hS hX => ?_)
      have hT_v0 := hX.T hT_v0
      replace hE := hE.trans hX
      refine lv_iand X.1 X.2.1 dX3_toldToAll_28 ?_
      refine lv_istore_n (lv' := [(1, .int (v1 &&& r3)), (0, .ref (ad v0)), (2, .int v2)]) X.1 X.2.1 dX3_toldToAll_29 rfl hl (by decide) rfl (fun ls hl => ?_)
      refine lv_iinc (v := v2 + 1) (lv' := [(2, .int (v2 + 1)), (1, .int (v1 &&& r3)), (0, .ref (ad v0))]) X.1 X.2.1 dX3_toldToAll_30 hl (k := 2) rfl rfl (by decide) rfl (fun ls hl => ?_)
      refine lv_goto (tgt := 11) X.1 X.2.1 dX3_toldToAll_33 (by decide) ?_
      exact ih v0 (v1 &&& r3) (v2 + 1) σ2 _ _ ls hT_v0 hG hS hE (lv_sub hl [2, 1, 0] rfl) hF
theorem c_X3_toldToAll (l : Launch) (D : va_G) (cA : Nat → ClassId) (base : Nat) (ad : Nat → Nat) (σ : Hp) (n : Nat) (a0 : Nat) (hT_a0 : hT σ a0 3) {τ : Hp} {r : Int32} (hF : F_X3_toldToAll n a0 σ = some (r, τ)) : MI l yX3_toldToAll cX3_toldToAll 3 (some .int) rm_X3_toldToAll D cA base ad σ [.ref (ad a0)] r τ := by
  refine Met.ofW (cc := cX3_toldToAll) (maxL := 3) (ret := (some .int)) (by decide) rfl ?_
  intro p e s m args below meth c s₁ B hml hv
  obtain ⟨rfl, hv⟩ := hv
  have X : SX D cA base p s m ([.ref (ad a0)] : List Value).toArray meth c cX3_toldToAll 3 (some .int) RX3 := sx_of B hml hv
  have hG := hv.1
  have hS : va_S (bA base) s.heap s.heap [] := va_S.rf
  have hE := xT.rf σ
  have hl := lv_entry ([.ref (ad a0)]) (n := 3) (Nat.le_of_ble_eq_true rfl)
  rw [lg_entry_eq]
  generalize (lg_sl ([.ref (ad a0)]) ++ List.replicate (3 - (lg_sl ([.ref (ad a0)])).length) Slot.unset).toArray = ls at hl ⊢
  have hl : lv_has ls 3 [(0, .ref (ad a0))] := hl
  unfold F_X3_toldToAll at hF
  refine lv_iconst (v := 1) X.1 X.2.1 dX3_toldToAll_0 (by decide) ?_
  refine lv_aload_n X.1 X.2.1 dX3_toldToAll_1 rfl (lv_at hl 0 rfl) ?_
  refine gx_get 0 (v := .int (hI σ a0 0)) X hG hT_a0.1 (hT_a0.eq (by decide)) (by decide) rfl inX3 (by decide) k_41 (fun _ h => h) rfl dX3_toldToAll_2 ?_
  refine lv_ishl X.1 X.2.1 dX3_toldToAll_5 ?_
  refine lv_iconst (v := 1) X.1 X.2.1 dX3_toldToAll_6 (by decide) ?_
  refine lv_isub X.1 X.2.1 dX3_toldToAll_7 ?_
  refine lv_istore_n (lv' := [(1, .int ((1 <<< ((hI σ a0 0) &&& 31)) - 1)), (0, .ref (ad a0))]) X.1 X.2.1 dX3_toldToAll_8 rfl hl (by decide) rfl (fun ls hl => ?_)
  refine lv_iconst (v := 0) X.1 X.2.1 dX3_toldToAll_9 (by decide) ?_
  refine lv_istore_n (lv' := [(2, .int 0), (1, .int ((1 <<< ((hI σ a0 0) &&& 31)) - 1)), (0, .ref (ad a0))]) X.1 X.2.1 dX3_toldToAll_10 rfl hl (by decide) rfl (fun ls hl => ?_)
  exact w_X3_toldToAll_11 X n  n a0 ((1 <<< ((hI σ a0 0) &&& 31)) - 1) 0 σ _ _ ls hT_a0 hG hS hE (lv_sub hl [2, 1, 0] rfl) hF
theorem w_X3_weigh_32 {σ0 τ : Hp} {r : Int32} (X : SX D cA base p s m args meth c cX3_weigh 4 (some .int) RX3) (n : Nat) (K_4 : Nat → Int32 → Int32 → Int32 → Hp → Option (Int32 × Hp)) (hK_4 : ∀ (v0 : Nat) (v1 : Int32) (v2 : Int32) (v3 : Int32) (σ : Hp) (H : Heap) (locs : List Loc) (ls : Array Slot), hT σ v0 3 → GW D cA base ad σ H → va_S (bA base) s.heap H locs → xT σ0 σ → lv_has ls 4 [(0, .ref (ad v0)), (1, .int v1), (2, .int v2), (3, .int v3)] → K_4 v0 v1 v2 v3 σ = some (r, τ) → W p l e rm_X3_weigh s m args below meth c H locs 0 0 (ZI below s args D cA base ad σ0 r τ) (F0 m 4 ls [])) : ∀ (v0 : Nat) (v1 : Int32) (v2 : Int32) (v3 : Int32) (σ : Hp) (H : Heap) (locs : List Loc) (ls : Array Slot), hT σ v0 3 → GW D cA base ad σ H → va_S (bA base) s.heap H locs → xT σ0 σ → lv_has ls 4 [(0, .ref (ad v0)), (1, .int v1), (2, .int v2), (3, .int v3)] → F_X3_weigh_32 n K_4 v0 v1 v2 v3 σ = some (r, τ) → W p l e rm_X3_weigh s m args below meth c H locs 0 0 (ZI below s args D cA base ad σ0 r τ) (F0 m 32 ls []) := by
  intro v0 v1 v2 v3 σ H locs ls hT_v0 hG hS hE hl hF
  unfold F_X3_weigh_32 at hF
  refine lv_iinc (v := v3 + 1) (lv' := [(3, .int (v3 + 1)), (0, .ref (ad v0)), (1, .int v1), (2, .int v2)]) X.1 X.2.1 dX3_weigh_32 hl (k := 3) rfl rfl (by decide) rfl (fun ls hl => ?_)
  refine lv_goto (tgt := 4) X.1 X.2.1 dX3_weigh_35 (by decide) ?_
  exact hK_4 v0 v1 v2 (v3 + 1) σ _ _ ls hT_v0 hG hS hE (lv_sub hl [1, 2, 3, 0] rfl) hF
theorem w_X3_weigh_4 {σ0 τ : Hp} {r : Int32} (X : SX D cA base p s m args meth c cX3_weigh 4 (some .int) RX3) (n : Nat)  : ∀ f : Nat, ∀ (v0 : Nat) (v1 : Int32) (v2 : Int32) (v3 : Int32) (σ : Hp) (H : Heap) (locs : List Loc) (ls : Array Slot), hT σ v0 3 → GW D cA base ad σ H → va_S (bA base) s.heap H locs → xT σ0 σ → lv_has ls 4 [(0, .ref (ad v0)), (1, .int v1), (2, .int v2), (3, .int v3)] → F_X3_weigh_4 n  f v0 v1 v2 v3 σ = some (r, τ) → W p l e rm_X3_weigh s m args below meth c H locs 0 0 (ZI below s args D cA base ad σ0 r τ) (F0 m 4 ls []) := by
  intro f
  induction f with
  | zero => intro v0 v1 v2 v3 σ H locs ls h0 hG hS hE hl hF
            rw [F_X3_weigh_4] at hF; cases hF
  | succ f ih =>
    intro v0 v1 v2 v3 σ H locs ls hT_v0 hG hS hE hl hF
    rw [F_X3_weigh_4] at hF
    refine lv_iload_n X.1 X.2.1 dX3_weigh_4 rfl (lv_at hl 3 rfl) ?_
    refine lv_aload_n X.1 X.2.1 dX3_weigh_5 rfl (lv_at hl 0 rfl) ?_
    refine gx_get 0 (v := .int (hI σ v0 0)) X hG hT_v0.1 (hT_v0.eq (by decide)) (by decide) rfl inX3 (by decide) k_41 (fun _ h => h) rfl dX3_weigh_6 ?_
    refine lv_icmp_ge (tgt := 38) X.1 X.2.1 dX3_weigh_9 (by decide) (fun hc => ?_) (fun hc => ?_)
    · replace hF := it_t hF hc
      refine lv_iload_n X.1 X.2.1 dX3_weigh_38 rfl (lv_at hl 2 rfl) ?_
      exact gx_iret X hG hS hE hF dX3_weigh_39
    · replace hF := it_f hF hc
      refine lv_iload_n X.1 X.2.1 dX3_weigh_12 rfl (lv_at hl 1 rfl) ?_
      refine lv_iload_n X.1 X.2.1 dX3_weigh_13 rfl (lv_at hl 3 rfl) ?_
      refine lv_ishr X.1 X.2.1 dX3_weigh_14 ?_
      refine lv_iconst (v := 1) X.1 X.2.1 dX3_weigh_15 (by decide) ?_
      refine lv_iand X.1 X.2.1 dX3_weigh_16 ?_
      refine lv_iconst (v := 1) X.1 X.2.1 dX3_weigh_17 (by decide) ?_
      refine lv_icmp_ne (tgt := 32) X.1 X.2.1 dX3_weigh_18 (by decide) (fun hc => ?_) (fun hc => ?_)
      · replace hF := it_f hF hc
        exact w_X3_weigh_32 X n (F_X3_weigh_4 n  f) ih v0 v1 v2 v3 σ _ _ ls hT_v0 hG hS hE (lv_sub hl [0, 1, 2, 3] rfl) hF
      · replace hF := it_t hF hc
        refine lv_iload_n X.1 X.2.1 dX3_weigh_21 rfl (lv_at hl 2 rfl) ?_
        refine lv_aload_n X.1 X.2.1 dX3_weigh_22 rfl (lv_at hl 0 rfl) ?_
        obtain ⟨i1, hr, hF⟩ := b1_ex hF
        have hT_i1 : hT σ i1 13 := gw_T hG hT_v0 (by decide) hr
        refine gx_get 1 (v := .ref (ad i1)) X hG hT_v0.1 (hT_v0.eq (by decide)) (by decide) rfl inX3 (by decide) k_42 (fun _ h => h) (gx_rfv hr) dX3_weigh_23 ?_
        refine lv_iload_n X.1 X.2.1 dX3_weigh_26 rfl (lv_at hl 3 rfl) ?_
        obtain ⟨r3, σ2, hz, hF⟩ := b2_ex hF
        refine gx_rI (gx_runSN (As := [.ref (ad i1), .int v3]) (rest := [.int v2]) X hG hS (c_X11_at l D cA base ad σ n i1 v3 hT_i1 hz) k_362 q_360 k_361 k_1 (h_X11_at.2) rfl rfl ⟨by decide, by decide⟩ rfl hl.1 rfl (Nat.le_of_ble_eq_true rfl) dX3_weigh_27 ⟨Nat.zero_le _, Nat.zero_le _⟩) hS (fun H locs hG hS hX => ?_)
        have hT_v0 := hX.T hT_v0
        replace hE := hE.trans hX
        refine lv_iadd X.1 X.2.1 dX3_weigh_30 ?_
        refine lv_istore_n (lv' := [(2, .int (v2 + r3)), (0, .ref (ad v0)), (1, .int v1), (3, .int v3)]) X.1 X.2.1 dX3_weigh_31 rfl hl (by decide) rfl (fun ls hl => ?_)
        exact w_X3_weigh_32 X n (F_X3_weigh_4 n  f) ih v0 v1 (v2 + r3) v3 σ2 _ _ ls hT_v0 hG hS hE (lv_sub hl [1, 2, 0, 3] rfl) hF
theorem c_X3_weigh (l : Launch) (D : va_G) (cA : Nat → ClassId) (base : Nat) (ad : Nat → Nat) (σ : Hp) (n : Nat) (a0 : Nat) (a1 : Int32) (hT_a0 : hT σ a0 3) {τ : Hp} {r : Int32} (hF : F_X3_weigh n a0 a1 σ = some (r, τ)) : MI l yX3_weigh cX3_weigh 4 (some .int) rm_X3_weigh D cA base ad σ [.ref (ad a0), .int a1] r τ := by
  refine Met.ofW (cc := cX3_weigh) (maxL := 4) (ret := (some .int)) (by decide) rfl ?_
  intro p e s m args below meth c s₁ B hml hv
  obtain ⟨rfl, hv⟩ := hv
  have X : SX D cA base p s m ([.ref (ad a0), .int a1] : List Value).toArray meth c cX3_weigh 4 (some .int) RX3 := sx_of B hml hv
  have hG := hv.1
  have hS : va_S (bA base) s.heap s.heap [] := va_S.rf
  have hE := xT.rf σ
  have hl := lv_entry ([.ref (ad a0), .int a1]) (n := 4) (Nat.le_of_ble_eq_true rfl)
  rw [lg_entry_eq]
  generalize (lg_sl ([.ref (ad a0), .int a1]) ++ List.replicate (4 - (lg_sl ([.ref (ad a0), .int a1])).length) Slot.unset).toArray = ls at hl ⊢
  have hl : lv_has ls 4 [(0, .ref (ad a0)), (1, .int a1)] := hl
  unfold F_X3_weigh at hF
  refine lv_iconst (v := 0) X.1 X.2.1 dX3_weigh_0 (by decide) ?_
  refine lv_istore_n (lv' := [(2, .int 0), (0, .ref (ad a0)), (1, .int a1)]) X.1 X.2.1 dX3_weigh_1 rfl hl (by decide) rfl (fun ls hl => ?_)
  refine lv_iconst (v := 0) X.1 X.2.1 dX3_weigh_2 (by decide) ?_
  refine lv_istore_n (lv' := [(3, .int 0), (2, .int 0), (0, .ref (ad a0)), (1, .int a1)]) X.1 X.2.1 dX3_weigh_3 rfl hl (by decide) rfl (fun ls hl => ?_)
  exact w_X3_weigh_4 X n  n a0 a1 0 0 σ _ _ ls hT_a0 hG hS hE (lv_sub hl [2, 3, 1, 0] rfl) hF
theorem w_X3_standAsTold_30 {σ0 τ : Hp} (X : SX D cA base p s m args meth c cX3_standAsTold 2 none RX3) (n : Nat)  : ∀ f : Nat, ∀ (v0 : Nat) (v1 : Int32) (σ : Hp) (H : Heap) (locs : List Loc) (ls : Array Slot), hT σ v0 3 → GW D cA base ad σ H → va_S (bA base) s.heap H locs → xT σ0 σ → lv_has ls 2 [(0, .ref (ad v0)), (1, .int v1)] → F_X3_standAsTold_30 n  f v0 v1 σ = some τ → W p l e rm_X3_standAsTold s m args below meth c H locs 0 0 (ZV below s args D cA base ad σ0 τ) (F0 m 30 ls []) := by
  intro f
  induction f with
  | zero => intro v0 v1 σ H locs ls h0 hG hS hE hl hF
            rw [F_X3_standAsTold_30] at hF; cases hF
  | succ f ih =>
    intro v0 v1 σ H locs ls hT_v0 hG hS hE hl hF
    rw [F_X3_standAsTold_30] at hF
    refine lv_iload_n X.1 X.2.1 dX3_standAsTold_30 rfl (lv_at hl 1 rfl) ?_
    refine lv_aload_n X.1 X.2.1 dX3_standAsTold_31 rfl (lv_at hl 0 rfl) ?_
    refine gx_get 2 (v := .int (hI σ v0 2)) X hG hT_v0.1 (hT_v0.eq (by decide)) (by decide) rfl inX3 (by decide) k_45 (fun _ h => h) rfl dX3_standAsTold_32 ?_
    refine lv_icmp_ge (tgt := 98) X.1 X.2.1 dX3_standAsTold_35 (by decide) (fun hc => ?_) (fun hc => ?_)
    · replace hF := it_t hF hc
      exact gx_vret X hG hS hE hF dX3_standAsTold_98
    · replace hF := it_f hF hc
      refine lv_aload_n X.1 X.2.1 dX3_standAsTold_38 rfl (lv_at hl 0 rfl) ?_
      obtain ⟨i1, hr, hF⟩ := b1_ex hF
      have hT_i1 : hT σ i1 13 := gw_T hG hT_v0 (by decide) hr
      refine gx_get 15 (v := .ref (ad i1)) X hG hT_v0.1 (hT_v0.eq (by decide)) (by decide) rfl inX3 (by decide) k_74 (fun _ h => h) (gx_rfv hr) dX3_standAsTold_39 ?_
      refine lv_iload_n X.1 X.2.1 dX3_standAsTold_42 rfl (lv_at hl 1 rfl) ?_
      refine lv_aload_n X.1 X.2.1 dX3_standAsTold_43 rfl (lv_at hl 0 rfl) ?_
      obtain ⟨i2, hr, hF⟩ := b1_ex hF
      have hT_i2 : hT σ i2 13 := gw_T hG hT_v0 (by decide) hr
      refine gx_get 4 (v := .ref (ad i2)) X hG hT_v0.1 (hT_v0.eq (by decide)) (by decide) rfl inX3 (by decide) k_51 (fun _ h => h) (gx_rfv hr) dX3_standAsTold_44 ?_
      refine lv_iload_n X.1 X.2.1 dX3_standAsTold_47 rfl (lv_at hl 1 rfl) ?_
      obtain ⟨r4, σ3, hz, hF⟩ := b2_ex hF
      refine gx_rI (gx_runSN (As := [.ref (ad i2), .int v1]) (rest := [.int v1, .ref (ad i1)]) X hG hS (c_X11_at l D cA base ad σ n i2 v1 hT_i2 hz) k_362 q_360 k_361 k_1 (h_X11_at.2) rfl rfl ⟨by decide, by decide⟩ rfl hl.1 rfl (Nat.le_of_ble_eq_true rfl) dX3_standAsTold_48 ⟨Nat.zero_le _, Nat.zero_le _⟩) hS (fun H locs hG hS hX => ?_)
      have hT_v0 := hX.T hT_v0
      have hT_i1 := hX.T hT_i1
      replace hE := hE.trans hX
      obtain ⟨σ5, hz, hF⟩ := b1_ex hF
      refine gx_rV (gx_runSN (As := [.ref (ad i1), .int v1, .int r4]) (rest := []) X hG hS (c_X11_store l D cA base ad σ3 n i1 v1 r4 hT_i1 hz) k_173 q_351 k_172 k_1 (h_X11_store.2) rfl rfl ⟨by decide, by decide⟩ rfl hl.1 rfl (Nat.le_of_ble_eq_true rfl) dX3_standAsTold_51 ⟨Nat.zero_le _, Nat.zero_le _⟩) hS (fun H locs hG hS hX => ?_)
      have hT_v0 := hX.T hT_v0
      replace hE := hE.trans hX
      refine lv_aload_n X.1 X.2.1 dX3_standAsTold_54 rfl (lv_at hl 0 rfl) ?_
      obtain ⟨i6, hr, hF⟩ := b1_ex hF
      have hT_i6 : hT σ5 i6 13 := gw_T hG hT_v0 (by decide) hr
      refine gx_get 16 (v := .ref (ad i6)) X hG hT_v0.1 (hT_v0.eq (by decide)) (by decide) rfl inX3 (by decide) k_76 (fun _ h => h) (gx_rfv hr) dX3_standAsTold_55 ?_
      refine lv_iload_n X.1 X.2.1 dX3_standAsTold_58 rfl (lv_at hl 1 rfl) ?_
      refine lv_aload_n X.1 X.2.1 dX3_standAsTold_59 rfl (lv_at hl 0 rfl) ?_
      refine lv_aload_n X.1 X.2.1 dX3_standAsTold_60 rfl (lv_at hl 0 rfl) ?_
      obtain ⟨i7, hr, hF⟩ := b1_ex hF
      have hT_i7 : hT σ5 i7 13 := gw_T hG hT_v0 (by decide) hr
      refine gx_get 4 (v := .ref (ad i7)) X hG hT_v0.1 (hT_v0.eq (by decide)) (by decide) rfl inX3 (by decide) k_51 (fun _ h => h) (gx_rfv hr) dX3_standAsTold_61 ?_
      refine lv_iload_n X.1 X.2.1 dX3_standAsTold_64 rfl (lv_at hl 1 rfl) ?_
      obtain ⟨r9, σ8, hz, hF⟩ := b2_ex hF
      refine gx_rI (gx_runSN (As := [.ref (ad i7), .int v1]) (rest := [.ref (ad v0), .int v1, .ref (ad i6)]) X hG hS (c_X11_at l D cA base ad σ5 n i7 v1 hT_i7 hz) k_362 q_360 k_361 k_1 (h_X11_at.2) rfl rfl ⟨by decide, by decide⟩ rfl hl.1 rfl (Nat.le_of_ble_eq_true rfl) dX3_standAsTold_65 ⟨Nat.zero_le _, Nat.zero_le _⟩) hS (fun H locs hG hS hX => ?_)
      have hT_v0 := hX.T hT_v0
      have hT_i6 := hX.T hT_i6
      replace hE := hE.trans hX
      obtain ⟨r11, σ10, hz, hF⟩ := b2_ex hF
      refine gx_rI (gx_runV (As := [.int r9]) (rest := [.int v1, .ref (ad i6)]) X hG hS hT_v0.1 (hT_v0.eq (by decide)) (by decide) rfl (c_X3_weigh l D cA base ad σ8 n v0 r9 hT_v0 hz) k_366 k_363 k_364 k_365 k_2 (h_X3_weigh) rfl rfl ⟨by decide, by decide⟩ rfl hl.1 rfl (Nat.le_of_ble_eq_true rfl) dX3_standAsTold_68 ⟨Nat.zero_le _, Nat.zero_le _⟩) hS (fun H locs hG hS hX => ?_)
      have hT_v0 := hX.T hT_v0
      have hT_i6 := hX.T hT_i6
      replace hE := hE.trans hX
      obtain ⟨σ12, hz, hF⟩ := b1_ex hF
      refine gx_rV (gx_runSN (As := [.ref (ad i6), .int v1, .int r11]) (rest := []) X hG hS (c_X11_store l D cA base ad σ10 n i6 v1 r11 hT_i6 hz) k_173 q_351 k_172 k_1 (h_X11_store.2) rfl rfl ⟨by decide, by decide⟩ rfl hl.1 rfl (Nat.le_of_ble_eq_true rfl) dX3_standAsTold_71 ⟨Nat.zero_le _, Nat.zero_le _⟩) hS (fun H locs hG hS hX => ?_)
      have hT_v0 := hX.T hT_v0
      replace hE := hE.trans hX
      refine lv_aload_n X.1 X.2.1 dX3_standAsTold_74 rfl (lv_at hl 0 rfl) ?_
      obtain ⟨i13, hr, hF⟩ := b1_ex hF
      have hT_i13 : hT σ12 i13 13 := gw_T hG hT_v0 (by decide) hr
      refine gx_get 17 (v := .ref (ad i13)) X hG hT_v0.1 (hT_v0.eq (by decide)) (by decide) rfl inX3 (by decide) k_78 (fun _ h => h) (gx_rfv hr) dX3_standAsTold_75 ?_
      refine lv_iload_n X.1 X.2.1 dX3_standAsTold_78 rfl (lv_at hl 1 rfl) ?_
      refine lv_iconst (v := 0) X.1 X.2.1 dX3_standAsTold_79 (by decide) ?_
      obtain ⟨σ14, hz, hF⟩ := b1_ex hF
      refine gx_rV (gx_runSN (As := [.ref (ad i13), .int v1, .int 0]) (rest := []) X hG hS (c_X11_store l D cA base ad σ12 n i13 v1 0 hT_i13 hz) k_173 q_351 k_172 k_1 (h_X11_store.2) rfl rfl ⟨by decide, by decide⟩ rfl hl.1 rfl (Nat.le_of_ble_eq_true rfl) dX3_standAsTold_80 ⟨Nat.zero_le _, Nat.zero_le _⟩) hS (fun H locs hG hS hX => ?_)
      have hT_v0 := hX.T hT_v0
      replace hE := hE.trans hX
      refine lv_aload_n X.1 X.2.1 dX3_standAsTold_83 rfl (lv_at hl 0 rfl) ?_
      obtain ⟨i15, hr, hF⟩ := b1_ex hF
      have hT_i15 : hT σ14 i15 13 := gw_T hG hT_v0 (by decide) hr
      refine gx_get 18 (v := .ref (ad i15)) X hG hT_v0.1 (hT_v0.eq (by decide)) (by decide) rfl inX3 (by decide) k_81 (fun _ h => h) (gx_rfv hr) dX3_standAsTold_84 ?_
      refine lv_iload_n X.1 X.2.1 dX3_standAsTold_87 rfl (lv_at hl 1 rfl) ?_
      refine lv_iconst (v := (-1)) X.1 X.2.1 dX3_standAsTold_88 (by decide) ?_
      obtain ⟨σ16, hz, hF⟩ := b1_ex hF
      refine gx_rV (gx_runSN (As := [.ref (ad i15), .int v1, .int (-1)]) (rest := []) X hG hS (c_X11_store l D cA base ad σ14 n i15 v1 (-1) hT_i15 hz) k_173 q_351 k_172 k_1 (h_X11_store.2) rfl rfl ⟨by decide, by decide⟩ rfl hl.1 rfl (Nat.le_of_ble_eq_true rfl) dX3_standAsTold_89 ⟨Nat.zero_le _, Nat.zero_le _⟩) hS (fun H locs hG hS hX => ?_)
      have hT_v0 := hX.T hT_v0
      replace hE := hE.trans hX
      refine lv_iinc (v := v1 + 1) (lv' := [(1, .int (v1 + 1)), (0, .ref (ad v0))]) X.1 X.2.1 dX3_standAsTold_92 hl (k := 1) rfl rfl (by decide) rfl (fun ls hl => ?_)
      refine lv_goto (tgt := 30) X.1 X.2.1 dX3_standAsTold_95 (by decide) ?_
      exact ih v0 (v1 + 1) σ16 _ _ ls hT_v0 hG hS hE (lv_sub hl [1, 0] rfl) hF
theorem c_X3_standAsTold (l : Launch) (D : va_G) (cA : Nat → ClassId) (base : Nat) (ad : Nat → Nat) (σ : Hp) (n : Nat) (a0 : Nat) (hT_a0 : hT σ a0 3) {τ : Hp} (hF : F_X3_standAsTold n a0 σ = some τ) : MV l yX3_standAsTold cX3_standAsTold 2 rm_X3_standAsTold D cA base ad σ [.ref (ad a0)] τ := by
  refine Met.ofW (cc := cX3_standAsTold) (maxL := 2) (ret := none) (by decide) rfl ?_
  intro p e s m args below meth c s₁ B hml hv
  obtain ⟨rfl, hv⟩ := hv
  have X : SX D cA base p s m ([.ref (ad a0)] : List Value).toArray meth c cX3_standAsTold 2 none RX3 := sx_of B hml hv
  have hG := hv.1
  have hS : va_S (bA base) s.heap s.heap [] := va_S.rf
  have hE := xT.rf σ
  have hl := lv_entry ([.ref (ad a0)]) (n := 2) (Nat.le_of_ble_eq_true rfl)
  rw [lg_entry_eq]
  generalize (lg_sl ([.ref (ad a0)]) ++ List.replicate (2 - (lg_sl ([.ref (ad a0)])).length) Slot.unset).toArray = ls at hl ⊢
  have hl : lv_has ls 2 [(0, .ref (ad a0))] := hl
  unfold F_X3_standAsTold at hF
  refine lv_aload_n X.1 X.2.1 dX3_standAsTold_0 rfl (lv_at hl 0 rfl) ?_
  refine lv_iconst (v := 0) X.1 X.2.1 dX3_standAsTold_1 (by decide) ?_
  refine gx_putI 10  X hG hS hT_a0.1 (hT_a0.eq (by decide)) (by decide) rfl inX3 tyX3_ok nmX3 (by decide) k_63 (fun _ h => h) rfl rfl rfl rfl (Nat.le_of_ble_eq_true rfl) dX3_standAsTold_2 hF (fun σ17 H locs hG hS hX hF => ?_)
  have hT_a0 := hX.T hT_a0
  replace hE := hE.trans hX
  refine lv_aload_n X.1 X.2.1 dX3_standAsTold_5 rfl (lv_at hl 0 rfl) ?_
  refine lv_iconst (v := 0) X.1 X.2.1 dX3_standAsTold_6 (by decide) ?_
  refine gx_putI 11  X hG hS hT_a0.1 (hT_a0.eq (by decide)) (by decide) rfl inX3 tyX3_ok nmX3 (by decide) k_65 (fun _ h => h) rfl rfl rfl rfl (Nat.le_of_ble_eq_true rfl) dX3_standAsTold_7 hF (fun σ18 H locs hG hS hX hF => ?_)
  have hT_a0 := hX.T hT_a0
  replace hE := hE.trans hX
  refine lv_aload_n X.1 X.2.1 dX3_standAsTold_10 rfl (lv_at hl 0 rfl) ?_
  refine lv_iconst (v := 0) X.1 X.2.1 dX3_standAsTold_11 (by decide) ?_
  refine gx_putI 12  X hG hS hT_a0.1 (hT_a0.eq (by decide)) (by decide) rfl inX3 tyX3_ok nmX3 (by decide) k_69 (fun _ h => h) rfl rfl rfl rfl (Nat.le_of_ble_eq_true rfl) dX3_standAsTold_12 hF (fun σ19 H locs hG hS hX hF => ?_)
  have hT_a0 := hX.T hT_a0
  replace hE := hE.trans hX
  refine lv_aload_n X.1 X.2.1 dX3_standAsTold_15 rfl (lv_at hl 0 rfl) ?_
  refine lv_iconst (v := 0) X.1 X.2.1 dX3_standAsTold_16 (by decide) ?_
  refine gx_putI 13  X hG hS hT_a0.1 (hT_a0.eq (by decide)) (by decide) rfl inX3 tyX3_ok nmX3 (by decide) k_71 (fun _ h => h) rfl rfl rfl rfl (Nat.le_of_ble_eq_true rfl) dX3_standAsTold_17 hF (fun σ20 H locs hG hS hX hF => ?_)
  have hT_a0 := hX.T hT_a0
  replace hE := hE.trans hX
  refine lv_aload_n X.1 X.2.1 dX3_standAsTold_20 rfl (lv_at hl 0 rfl) ?_
  refine lv_aload_n X.1 X.2.1 dX3_standAsTold_21 rfl (lv_at hl 0 rfl) ?_
  obtain ⟨r22, σ21, hz, hF⟩ := b2_ex hF
  refine gx_rI (gx_runV (As := []) (rest := [.ref (ad a0)]) X hG hS hT_a0.1 (hT_a0.eq (by decide)) (by decide) rfl (c_X3_toldToAll l D cA base ad σ20 n a0 hT_a0 hz) k_359 k_356 k_357 k_358 k_2 (h_X3_toldToAll) rfl rfl ⟨by decide, by decide⟩ rfl hl.1 rfl (Nat.le_of_ble_eq_true rfl) dX3_standAsTold_22 ⟨Nat.zero_le _, Nat.zero_le _⟩) hS (fun H locs hG hS hX => ?_)
  have hT_a0 := hX.T hT_a0
  replace hE := hE.trans hX
  refine gx_putI 14  X hG hS hT_a0.1 (hT_a0.eq (by decide)) (by decide) rfl inX3 tyX3_ok nmX3 (by decide) k_73 (fun _ h => h) rfl rfl rfl rfl (Nat.le_of_ble_eq_true rfl) dX3_standAsTold_25 hF (fun σ23 H locs hG hS hX hF => ?_)
  have hT_a0 := hX.T hT_a0
  replace hE := hE.trans hX
  refine lv_iconst (v := 0) X.1 X.2.1 dX3_standAsTold_28 (by decide) ?_
  refine lv_istore_n (lv' := [(1, .int 0), (0, .ref (ad a0))]) X.1 X.2.1 dX3_standAsTold_29 rfl hl (by decide) rfl (fun ls hl => ?_)
  exact w_X3_standAsTold_30 X n  n a0 0 σ23 _ _ ls hT_a0 hG hS hE (lv_sub hl [1, 0] rfl) hF
theorem c_X3_isSeat (l : Launch) (D : va_G) (cA : Nat → ClassId) (base : Nat) (ad : Nat → Nat) (σ : Hp) (n : Nat) (a0 : Nat) (a1 : Int32) (hT_a0 : hT σ a0 3) {τ : Hp} {r : Int32} (hF : F_X3_isSeat n a0 a1 σ = some (r, τ)) : MI l yX3_isSeat cX3_isSeat 2 (some .boolean) rm_X3_isSeat D cA base ad σ [.ref (ad a0), .int a1] r τ := by
  refine Met.ofW (cc := cX3_isSeat) (maxL := 2) (ret := (some .boolean)) (by decide) rfl ?_
  intro p e s m args below meth c s₁ B hml hv
  obtain ⟨rfl, hv⟩ := hv
  have X : SX D cA base p s m ([.ref (ad a0), .int a1] : List Value).toArray meth c cX3_isSeat 2 (some .boolean) RX3 := sx_of B hml hv
  have hG := hv.1
  have hS : va_S (bA base) s.heap s.heap [] := va_S.rf
  have hE := xT.rf σ
  have hl := lv_entry ([.ref (ad a0), .int a1]) (n := 2) (Nat.le_of_ble_eq_true rfl)
  rw [lg_entry_eq]
  generalize (lg_sl ([.ref (ad a0), .int a1]) ++ List.replicate (2 - (lg_sl ([.ref (ad a0), .int a1])).length) Slot.unset).toArray = ls at hl ⊢
  have hl : lv_has ls 2 [(0, .ref (ad a0)), (1, .int a1)] := hl
  unfold F_X3_isSeat at hF
  refine lv_iload_n X.1 X.2.1 dX3_isSeat_0 rfl (lv_at hl 1 rfl) ?_
  refine lv_if_lt (tgt := 16) X.1 X.2.1 dX3_isSeat_1 (by decide) (fun hc => ?_) (fun hc => ?_)
  · replace hF := it_t hF hc
    refine lv_iconst (v := 0) X.1 X.2.1 dX3_isSeat_16 (by decide) ?_
    exact gx_zret X hG hS hE hF rfl dX3_isSeat_17
  · replace hF := it_f hF hc
    refine lv_iload_n X.1 X.2.1 dX3_isSeat_4 rfl (lv_at hl 1 rfl) ?_
    refine lv_aload_n X.1 X.2.1 dX3_isSeat_5 rfl (lv_at hl 0 rfl) ?_
    refine gx_get 2 (v := .int (hI σ a0 2)) X hG hT_a0.1 (hT_a0.eq (by decide)) (by decide) rfl inX3 (by decide) k_45 (fun _ h => h) rfl dX3_isSeat_6 ?_
    refine lv_icmp_ge (tgt := 16) X.1 X.2.1 dX3_isSeat_9 (by decide) (fun hc => ?_) (fun hc => ?_)
    · replace hF := it_t hF hc
      refine lv_iconst (v := 0) X.1 X.2.1 dX3_isSeat_16 (by decide) ?_
      exact gx_zret X hG hS hE hF rfl dX3_isSeat_17
    · replace hF := it_f hF hc
      refine lv_iconst (v := 1) X.1 X.2.1 dX3_isSeat_12 (by decide) ?_
      refine lv_goto (tgt := 17) X.1 X.2.1 dX3_isSeat_13 (by decide) ?_
      exact gx_zret X hG hS hE hF rfl dX3_isSeat_17
end W_class0
