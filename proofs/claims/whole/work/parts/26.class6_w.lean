/-! class6: printed by wip/whole/gen.py -/
section W_class6
variable {p : Program} {l : Launch} {e : Env} {s : State} {m : MethodId} {args : Array Value} {below : List Frame} {meth : Method} {c : Code} {D : va_G} {cA : Nat → ClassId} {base : Nat} {ad : Nat → Nat}
abbrev rm_X11_begin : Room := { frames := 4, cells := 0, slots := 0, locals := 104 }
theorem h_X11_begin : yX11_begin.cls = RX11 ∧ yX11_begin.cls ≠ "java/lang/invoke/MethodHandle" ∧ yX11_begin.cls ≠ "java/lang/invoke/VarHandle" ∧ (parseMethodDescriptor yX11_begin.desc).map (fun d => d.parameters.length) = some 0 := by decide +kernel
def F_X11_begin (n : Nat) (a0 : Nat) (σ : Hp) : Option (Int32 × Hp) := b1 (hR σ a0 0) fun (i1 : Nat) => if (hI σ i1 2) = 0 then (some ((-3), σ)) else (b1 (hR σ a0 0) fun (i2 : Nat) => b1 (F_X3_beginTalk n i2 σ) fun (σ3 : Hp) => b1 (hR σ3 a0 0) fun (i4 : Nat) => b2 (F_X3_yes n i4 σ3) fun (r6 : Int32) (σ5 : Hp) => some (r6, σ5))
abbrev rm_X3_needed : Room := { frames := 1, cells := 0, slots := 0, locals := 24 }
theorem h_X3_needed : yX3_needed.cls = RX3 ∧ yX3_needed.cls ≠ "java/lang/invoke/MethodHandle" ∧ yX3_needed.cls ≠ "java/lang/invoke/VarHandle" ∧ (parseMethodDescriptor yX3_needed.desc).map (fun d => d.parameters.length) = some 0 := by decide +kernel
def F_X3_needed (n : Nat) (a0 : Nat) (σ : Hp) : Option (Int32 × Hp) := b1 (hR σ a0 7) fun (i1 : Nat) => b2 (F_X11_at n i1 0 σ) fun (r3 : Int32) (σ2 : Hp) => lt (if (hI σ2 a0 2) < r3 then (hI σ2 a0 2) else r3) fun (x4 : Int32) => some (x4, σ2)
abbrev rm_X3_ends : Room := { frames := 3, cells := 0, slots := 0, locals := 60 }
theorem h_X3_ends : yX3_ends.cls = RX3 ∧ yX3_ends.cls ≠ "java/lang/invoke/MethodHandle" ∧ yX3_ends.cls ≠ "java/lang/invoke/VarHandle" ∧ (parseMethodDescriptor yX3_ends.desc).map (fun d => d.parameters.length) = some 0 := by decide +kernel
def F_X3_ends (n : Nat) (a0 : Nat) (σ : Hp) : Option (Int32 × Hp) := b2 (F_X3_yes n a0 σ) fun (r2 : Int32) (σ1 : Hp) => b2 (F_X3_needed n a0 σ1) fun (r4 : Int32) (σ3 : Hp) => if r2 < r4 then (b2 (F_X3_no n a0 σ3) fun (r6 : Int32) (σ5 : Hp) => b2 (F_X3_needed n a0 σ5) fun (r8 : Int32) (σ7 : Hp) => if r6 < r8 then (b1 (hR σ7 a0 7) fun (i9 : Nat) => b2 (F_X11_at n i9 3 σ7) fun (r11 : Int32) (σ10 : Hp) => if (hI σ7 a0 10) < r11 then (some ((-4), σ10)) else (some (2, σ10))) else (some (0, σ7))) else (some (1, σ3))
abbrev rm_X3_yesLessNo : Room := { frames := 1, cells := 0, slots := 0, locals := 20 }
theorem h_X3_yesLessNo : yX3_yesLessNo.cls = RX3 ∧ yX3_yesLessNo.cls ≠ "java/lang/invoke/MethodHandle" ∧ yX3_yesLessNo.cls ≠ "java/lang/invoke/VarHandle" ∧ (parseMethodDescriptor yX3_yesLessNo.desc).map (fun d => d.parameters.length) = some 0 := by decide +kernel
def F_X3_yesLessNo (n : Nat) (a0 : Nat) (σ : Hp) : Option (Int32 × Hp) := b2 (F_J6_bitCount_0f7a4 n (hI σ a0 12) σ) fun (r2 : Int32) (σ1 : Hp) => some ((2 * r2) - (hI σ1 a0 2), σ1)
abbrev rm_X3_push : Room := { frames := 1, cells := 0, slots := 0, locals := 22 }
theorem h_X3_push : yX3_push.cls = RX3 ∧ yX3_push.cls ≠ "java/lang/invoke/MethodHandle" ∧ yX3_push.cls ≠ "java/lang/invoke/VarHandle" ∧ (parseMethodDescriptor yX3_push.desc).map (fun d => d.parameters.length) = some 2 := by decide +kernel
def F_X3_push (n : Nat) (a0 : Nat) (a1 : Int32) (a2 : Int32) (σ : Hp) : Option Hp := b1 (hR σ a0 17) fun (i1 : Nat) => b1 (hR σ a0 17) fun (i2 : Nat) => b2 (F_X11_at n i2 a1 σ) fun (r4 : Int32) (σ3 : Hp) => b1 (F_X11_store n i1 a1 (r4 + a2) σ3) fun (σ5 : Hp) => some σ5
abbrev rm_X0_act : Room := { frames := 2, cells := 0, slots := 0, locals := 44 }
theorem h_X0_act : yX0_act.cls = RX0 ∧ yX0_act.cls ≠ "java/lang/invoke/MethodHandle" ∧ yX0_act.cls ≠ "java/lang/invoke/VarHandle" ∧ (parseMethodDescriptor yX0_act.desc).map (fun d => d.parameters.length) = some 2 := by decide +kernel
def F_X0_act_45 (n : Nat) (K_8 : Nat → Int32 → Int32 → Hp → Option Hp) (v1 : Nat) (v3 : Int32) (v4 : Int32) (σ : Hp) : Option Hp := K_8 v1 v3 (v4 + 1) σ
def F_X0_act_8 (n : Nat)  : Nat → Nat → Int32 → Int32 → Hp → Option Hp
  | 0, _, _, _, _ => none
  | f + 1, v1, v3, v4, σ => if (hI σ v1 2) ≤ v4 then (some σ) else (b2 (F_X3_turnAt n v1 v4 σ) fun (r2 : Option Nat) (σ1 : Hp) => om r2 (F_X0_act_45 n (F_X0_act_8 n  f) v1 v3 v4 σ1) (fun i3 => b1 (F_X3_push n v1 v4 (((hI σ1 i3 2) * v3) / 4) σ1) fun (σ4 : Hp) => F_X0_act_45 n (F_X0_act_8 n  f) v1 v3 v4 σ4))
def F_X0_act (n : Nat) (a0 : Nat) (a1 : Nat) (a2 : Int32) (σ : Hp) : Option Hp := b2 (F_X3_yesLessNo n a1 σ) fun (r6 : Int32) (σ5 : Hp) => F_X0_act_8 n  n a1 r6 0 σ5
abbrev rm_X2_act : Room := { frames := 3, cells := 0, slots := 0, locals := 69 }
theorem h_X2_act : yX2_act.cls = RX2 ∧ yX2_act.cls ≠ "java/lang/invoke/MethodHandle" ∧ yX2_act.cls ≠ "java/lang/invoke/VarHandle" ∧ (parseMethodDescriptor yX2_act.desc).map (fun d => d.parameters.length) = some 2 := by decide +kernel
def F_X2_act_94 (n : Nat) (K_30 : Nat → Int32 → Int32 → Int32 → Hp → Option Hp) (v1 : Nat) (v3 : Int32) (v4 : Int32) (v5 : Int32) (σ : Hp) : Option Hp := K_30 v1 v3 v4 (v5 + 1) σ
def F_X2_act_91 (n : Nat) (K_30 : Nat → Int32 → Int32 → Int32 → Hp → Option Hp) (v1 : Nat) (v3 : Int32) (v4 : Int32) (v5 : Int32) (s0 : Int32) (s1 : Int32) (s2 : Nat) (σ : Hp) : Option Hp := b1 (F_X3_push n s2 s1 s0 σ) fun (σ1 : Hp) => F_X2_act_94 n K_30 v1 v3 v4 v5 σ1
def F_X2_act_30 (n : Nat)  : Nat → Nat → Int32 → Int32 → Int32 → Hp → Option Hp
  | 0, _, _, _, _, _ => none
  | f + 1, v1, v3, v4, v5, σ => if (hI σ v1 2) ≤ v5 then (some σ) else (b2 (F_X3_turnAt n v1 v5 σ) fun (r3 : Option Nat) (σ2 : Hp) => om r3 (F_X2_act_94 n (F_X2_act_30 n  f) v1 v3 v4 v5 σ2) (fun i4 => if (((hI σ2 v1 12) >>> (v5 &&& 31)) &&& 1) = v4 then (if v3 ≤ 0 then (F_X2_act_91 n (F_X2_act_30 n  f) v1 v3 v4 v5 ((-2) * (hI σ2 i4 2)) v5 v1 σ2) else (F_X2_act_91 n (F_X2_act_30 n  f) v1 v3 v4 v5 (2 * (hI σ2 i4 2)) v5 v1 σ2)) else (F_X2_act_94 n (F_X2_act_30 n  f) v1 v3 v4 v5 σ2)))
def F_X2_act_25 (n : Nat)  (v1 : Nat) (v3 : Int32) (s0 : Int32) (σ : Hp) : Option Hp := F_X2_act_30 n  n v1 v3 s0 0 σ
def F_X2_act (n : Nat) (a0 : Nat) (a1 : Nat) (a2 : Int32) (σ : Hp) : Option Hp := b1 (F_X0_act n a0 a1 a2 σ) fun (σ5 : Hp) => b2 (F_X3_yesLessNo n a1 σ5) fun (r7 : Int32) (σ6 : Hp) => if r7 = 0 then (some σ6) else (if r7 ≤ 0 then (F_X2_act_25 n  a1 r7 1 σ6) else (F_X2_act_25 n  a1 r7 0 σ6))
abbrev rm_X4_act : Room := { frames := 1, cells := 0, slots := 0, locals := 22 }
theorem h_X4_act : yX4_act.cls = RX4 ∧ yX4_act.cls ≠ "java/lang/invoke/MethodHandle" ∧ yX4_act.cls ≠ "java/lang/invoke/VarHandle" ∧ (parseMethodDescriptor yX4_act.desc).map (fun d => d.parameters.length) = some 2 := by decide +kernel
def F_X4_act_2 (n : Nat)  : Nat → Nat → Int32 → Hp → Option Hp
  | 0, _, _, _ => none
  | f + 1, v1, v3, σ => if (hI σ v1 2) ≤ v3 then (some σ) else (b1 (hR σ v1 17) fun (i1 : Nat) => b1 (hR σ v1 17) fun (i2 : Nat) => b2 (F_X11_at n i2 v3 σ) fun (r4 : Int32) (σ3 : Hp) => b1 (F_X11_store n i1 v3 (r4 / 2) σ3) fun (σ5 : Hp) => (F_X4_act_2 n  f) v1 (v3 + 1) σ5)
def F_X4_act (n : Nat) (a0 : Nat) (a1 : Nat) (a2 : Int32) (σ : Hp) : Option Hp := F_X4_act_2 n  n a1 0 σ
abbrev rm_X10_act : Room := { frames := 0, cells := 0, slots := 0, locals := 0 }
theorem h_X10_act : yX10_act.cls = RX10 ∧ yX10_act.cls ≠ "java/lang/invoke/MethodHandle" ∧ yX10_act.cls ≠ "java/lang/invoke/VarHandle" ∧ (parseMethodDescriptor yX10_act.desc).map (fun d => d.parameters.length) = some 2 := by decide +kernel
def F_X10_act (n : Nat) (a0 : Nat) (a1 : Nat) (a2 : Int32) (σ : Hp) : Option Hp := some σ
abbrev rm_X7_act : Room := { frames := 3, cells := 0, slots := 0, locals := 60 }
theorem h_X7_act : yX7_act.cls = RX7 ∧ yX7_act.cls ≠ "java/lang/invoke/MethodHandle" ∧ yX7_act.cls ≠ "java/lang/invoke/VarHandle" ∧ (parseMethodDescriptor yX7_act.desc).map (fun d => d.parameters.length) = some 2 := by decide +kernel
def F_X7_act_40 (n : Nat)  (s0 : Int32) (s1 : Int32) (s2 : Nat) (σ : Hp) : Option Hp := b1 (F_X11_store n s2 s1 s0 σ) fun (σ1 : Hp) => some σ1
def F_X7_act (n : Nat) (a0 : Nat) (a1 : Nat) (a2 : Int32) (σ : Hp) : Option Hp := if (hI σ a1 10) < (hI σ a0 5) then (some σ) else (b2 (F_X3_gaveIn n a1 a2 σ) fun (r3 : Int32) (σ2 : Hp) => if r3 = 0 then (b1 (hR σ2 a1 18) fun (i4 : Nat) => b2 (F_X3_yes n a1 σ2) fun (r6 : Int32) (σ5 : Hp) => b2 (F_X3_no n a1 σ5) fun (r8 : Int32) (σ7 : Hp) => if r6 < r8 then (F_X7_act_40 n  0 a2 i4 σ7) else (F_X7_act_40 n  1 a2 i4 σ7)) else (some σ2))
abbrev rm_X3_loudestNotShared : Room := { frames := 1, cells := 0, slots := 0, locals := 24 }
theorem h_X3_loudestNotShared : yX3_loudestNotShared.cls = RX3 ∧ yX3_loudestNotShared.cls ≠ "java/lang/invoke/MethodHandle" ∧ yX3_loudestNotShared.cls ≠ "java/lang/invoke/VarHandle" ∧ (parseMethodDescriptor yX3_loudestNotShared.desc).map (fun d => d.parameters.length) = some 1 := by decide +kernel
def F_X3_loudestNotShared_72 (n : Nat) (K_25 : Nat → Int32 → Int32 → Int32 → Int32 → Hp → Option (Int32 × Hp)) (v0 : Nat) (v2 : Int32) (v3 : Int32) (v4 : Int32) (v5 : Int32) (σ : Hp) : Option (Int32 × Hp) := K_25 v0 v2 v3 v4 (v5 + 1) σ
def F_X3_loudestNotShared_25 (n : Nat)  : Nat → Nat → Int32 → Int32 → Int32 → Int32 → Hp → Option (Int32 × Hp)
  | 0, _, _, _, _, _, _ => none
  | f + 1, v0, v2, v3, v4, v5, σ => if (hI σ v0 0) ≤ v5 then (some (v3, σ)) else (b1 (hR σ v0 1) fun (i1 : Nat) => b2 (F_X11_at n i1 v5 σ) fun (r3 : Int32) (σ2 : Hp) => lt (if 0 ≤ r3 then r3 else 0 - r3) fun (x4 : Int32) => if ((v2 >>> (v5 &&& 31)) &&& 1) = 1 then (if x4 ≤ v4 then (F_X3_loudestNotShared_72 n (F_X3_loudestNotShared_25 n  f) v0 v2 v3 v4 v5 σ2) else (F_X3_loudestNotShared_72 n (F_X3_loudestNotShared_25 n  f) v0 v2 v5 x4 v5 σ2)) else (F_X3_loudestNotShared_72 n (F_X3_loudestNotShared_25 n  f) v0 v2 v3 v4 v5 σ2))
def F_X3_loudestNotShared (n : Nat) (a0 : Nat) (a1 : Int32) (σ : Hp) : Option (Int32 × Hp) := b1 (hR σ a0 15) fun (i5 : Nat) => b2 (F_X11_at n i5 a1 σ) fun (r7 : Int32) (σ6 : Hp) => F_X3_loudestNotShared_25 n  n a0 (r7 &&& ((hI σ6 a0 14) ^^^ (-1))) (-4) (-1) 0 σ6
theorem c_X11_begin (l : Launch) (D : va_G) (cA : Nat → ClassId) (base : Nat) (ad : Nat → Nat) (σ : Hp) (n : Nat) (a0 : Nat) (hT_a0 : hT σ a0 11) {τ : Hp} {r : Int32} (hF : F_X11_begin n a0 σ = some (r, τ)) : MI l yX11_begin cX11_begin 1 (some .int) rm_X11_begin D cA base ad σ [.ref (ad a0)] r τ := by
  refine Met.ofW (cc := cX11_begin) (maxL := 1) (ret := (some .int)) (by decide) rfl ?_
  intro p e s m args below meth c s₁ B hml hv
  obtain ⟨rfl, hv⟩ := hv
  have X : SX D cA base p s m ([.ref (ad a0)] : List Value).toArray meth c cX11_begin 1 (some .int) RX11 := sx_of B hml hv
  have hG := hv.1
  have hS : va_S (bA base) s.heap s.heap [] := va_S.rf
  have hE := xT.rf σ
  have hl := lv_entry ([.ref (ad a0)]) (n := 1) (Nat.le_of_ble_eq_true rfl)
  rw [lg_entry_eq]
  generalize (lg_sl ([.ref (ad a0)]) ++ List.replicate (1 - (lg_sl ([.ref (ad a0)])).length) Slot.unset).toArray = ls at hl ⊢
  have hl : lv_has ls 1 [(0, .ref (ad a0))] := hl
  unfold F_X11_begin at hF
  refine lv_aload_n X.1 X.2.1 dX11_begin_0 rfl (lv_at hl 0 rfl) ?_
  obtain ⟨i1, hr, hF⟩ := b1_ex hF
  have hT_i1 : hT σ i1 3 := gw_T hG hT_a0 (by decide) hr
  refine gx_get 0 (v := .ref (ad i1)) X hG hT_a0.1 (hT_a0.eq (by decide)) (by decide) rfl inX11 (by decide) k_151 (fun _ h => h) (gx_rfv hr) dX11_begin_1 ?_
  refine gx_getN 2 (v := .int (hI σ i1 2)) X hG hT_i1.1 (hT_i1.eq (by decide)) (by decide) rfl inX3 (by decide) q_49 (fun _ h => h) rfl dX11_begin_4 ?_
  refine lv_if_ne (tgt := 13) X.1 X.2.1 dX11_begin_7 (by decide) (fun hc => ?_) (fun hc => ?_)
  · replace hF := it_f hF hc
    refine lv_aload_n X.1 X.2.1 dX11_begin_13 rfl (lv_at hl 0 rfl) ?_
    obtain ⟨i2, hr, hF⟩ := b1_ex hF
    have hT_i2 : hT σ i2 3 := gw_T hG hT_a0 (by decide) hr
    refine gx_get 0 (v := .ref (ad i2)) X hG hT_a0.1 (hT_a0.eq (by decide)) (by decide) rfl inX11 (by decide) k_151 (fun _ h => h) (gx_rfv hr) dX11_begin_14 ?_
    obtain ⟨σ3, hz, hF⟩ := b1_ex hF
    refine gx_rV (gx_runV (As := []) (rest := []) X hG hS hT_i2.1 (hT_i2.eq (by decide)) (by decide) rfl (c_X3_beginTalk l D cA base ad σ n i2 hT_i2 hz) k_535 k_532 k_533 k_534 k_2 (h_X3_beginTalk) rfl rfl ⟨by decide, by decide⟩ rfl hl.1 rfl (Nat.le_of_ble_eq_true rfl) dX11_begin_17 ⟨Nat.zero_le _, Nat.zero_le _⟩) hS (fun H locs hG hS hX => ?_)
    have hT_a0 := hX.T hT_a0
    replace hE := hE.trans hX
    refine lv_aload_n X.1 X.2.1 dX11_begin_20 rfl (lv_at hl 0 rfl) ?_
    obtain ⟨i4, hr, hF⟩ := b1_ex hF
    have hT_i4 : hT σ3 i4 3 := gw_T hG hT_a0 (by decide) hr
    refine gx_get 0 (v := .ref (ad i4)) X hG hT_a0.1 (hT_a0.eq (by decide)) (by decide) rfl inX11 (by decide) k_151 (fun _ h => h) (gx_rfv hr) dX11_begin_21 ?_
    obtain ⟨r6, σ5, hz, hF⟩ := b2_ex hF
    refine gx_rI (gx_runV (As := []) (rest := []) X hG hS hT_i4.1 (hT_i4.eq (by decide)) (by decide) rfl (c_X3_yes l D cA base ad σ3 n i4 hT_i4 hz) k_397 k_394 k_395 k_396 k_2 (h_X3_yes) rfl rfl ⟨by decide, by decide⟩ rfl hl.1 rfl (Nat.le_of_ble_eq_true rfl) dX11_begin_24 ⟨Nat.zero_le _, Nat.zero_le _⟩) hS (fun H locs hG hS hX => ?_)
    have hT_a0 := hX.T hT_a0
    replace hE := hE.trans hX
    exact gx_iret X hG hS hE hF dX11_begin_27
  · replace hF := it_t hF hc
    refine lv_bipush (v := (-3)) X.1 X.2.1 dX11_begin_10 (by decide) ?_
    exact gx_iret X hG hS hE hF dX11_begin_12
theorem c_X3_needed (l : Launch) (D : va_G) (cA : Nat → ClassId) (base : Nat) (ad : Nat → Nat) (σ : Hp) (n : Nat) (a0 : Nat) (hT_a0 : hT σ a0 3) {τ : Hp} {r : Int32} (hF : F_X3_needed n a0 σ = some (r, τ)) : MI l yX3_needed cX3_needed 1 (some .int) rm_X3_needed D cA base ad σ [.ref (ad a0)] r τ := by
  refine Met.ofW (cc := cX3_needed) (maxL := 1) (ret := (some .int)) (by decide) rfl ?_
  intro p e s m args below meth c s₁ B hml hv
  obtain ⟨rfl, hv⟩ := hv
  have X : SX D cA base p s m ([.ref (ad a0)] : List Value).toArray meth c cX3_needed 1 (some .int) RX3 := sx_of B hml hv
  have hG := hv.1
  have hS : va_S (bA base) s.heap s.heap [] := va_S.rf
  have hE := xT.rf σ
  have hl := lv_entry ([.ref (ad a0)]) (n := 1) (Nat.le_of_ble_eq_true rfl)
  rw [lg_entry_eq]
  generalize (lg_sl ([.ref (ad a0)]) ++ List.replicate (1 - (lg_sl ([.ref (ad a0)])).length) Slot.unset).toArray = ls at hl ⊢
  have hl : lv_has ls 1 [(0, .ref (ad a0))] := hl
  unfold F_X3_needed at hF
  refine lv_aload_n X.1 X.2.1 dX3_needed_0 rfl (lv_at hl 0 rfl) ?_
  obtain ⟨i1, hr, hF⟩ := b1_ex hF
  have hT_i1 : hT σ i1 13 := gw_T hG hT_a0 (by decide) hr
  refine gx_get 7 (v := .ref (ad i1)) X hG hT_a0.1 (hT_a0.eq (by decide)) (by decide) rfl inX3 (by decide) k_56 (fun _ h => h) (gx_rfv hr) dX3_needed_1 ?_
  refine lv_iconst (v := 0) X.1 X.2.1 dX3_needed_4 (by decide) ?_
  obtain ⟨r3, σ2, hz, hF⟩ := b2_ex hF
  refine gx_rI (gx_runSN (As := [.ref (ad i1), .int 0]) (rest := []) X hG hS (c_X11_at l D cA base ad σ n i1 0 hT_i1 hz) k_362 q_360 k_361 k_1 (h_X11_at.2) rfl rfl ⟨by decide, by decide⟩ rfl hl.1 rfl (Nat.le_of_ble_eq_true rfl) dX3_needed_5 ⟨Nat.zero_le _, Nat.zero_le _⟩) hS (fun H locs hG hS hX => ?_)
  have hT_a0 := hX.T hT_a0
  replace hE := hE.trans hX
  refine lv_aload_n X.1 X.2.1 dX3_needed_8 rfl (lv_at hl 0 rfl) ?_
  refine gx_get 2 (v := .int (hI σ2 a0 2)) X hG hT_a0.1 (hT_a0.eq (by decide)) (by decide) rfl inX3 (by decide) k_45 (fun _ h => h) rfl dX3_needed_9 ?_
  refine va_mmin X.1 X.2.1 (by rw [X.2.2.1]; exact hl.1.symm) X.2.2.2.2.2.1 (X.w k_558) (X.w k_451) (X.w k_15) (X.w k_452) (Nat.le_of_ble_eq_true rfl) (Nat.le_of_ble_eq_true rfl) (Nat.zero_le _) (Nat.zero_le _) dX3_needed_12 ?_
  refine lv_topi (fun x4 ex4 => ?_)
  replace hF := lt_nm hF ex4
  exact gx_iret X hG hS hE hF dX3_needed_15
theorem c_X3_ends (l : Launch) (D : va_G) (cA : Nat → ClassId) (base : Nat) (ad : Nat → Nat) (σ : Hp) (n : Nat) (a0 : Nat) (hT_a0 : hT σ a0 3) {τ : Hp} {r : Int32} (hF : F_X3_ends n a0 σ = some (r, τ)) : MI l yX3_ends cX3_ends 1 (some .int) rm_X3_ends D cA base ad σ [.ref (ad a0)] r τ := by
  refine Met.ofW (cc := cX3_ends) (maxL := 1) (ret := (some .int)) (by decide) rfl ?_
  intro p e s m args below meth c s₁ B hml hv
  obtain ⟨rfl, hv⟩ := hv
  have X : SX D cA base p s m ([.ref (ad a0)] : List Value).toArray meth c cX3_ends 1 (some .int) RX3 := sx_of B hml hv
  have hG := hv.1
  have hS : va_S (bA base) s.heap s.heap [] := va_S.rf
  have hE := xT.rf σ
  have hl := lv_entry ([.ref (ad a0)]) (n := 1) (Nat.le_of_ble_eq_true rfl)
  rw [lg_entry_eq]
  generalize (lg_sl ([.ref (ad a0)]) ++ List.replicate (1 - (lg_sl ([.ref (ad a0)])).length) Slot.unset).toArray = ls at hl ⊢
  have hl : lv_has ls 1 [(0, .ref (ad a0))] := hl
  unfold F_X3_ends at hF
  refine lv_aload_n X.1 X.2.1 dX3_ends_0 rfl (lv_at hl 0 rfl) ?_
  obtain ⟨r2, σ1, hz, hF⟩ := b2_ex hF
  refine gx_rI (gx_runV (As := []) (rest := []) X hG hS hT_a0.1 (hT_a0.eq (by decide)) (by decide) rfl (c_X3_yes l D cA base ad σ n a0 hT_a0 hz) k_397 k_408 k_395 k_396 k_2 (h_X3_yes) rfl rfl ⟨by decide, by decide⟩ rfl hl.1 rfl (Nat.le_of_ble_eq_true rfl) dX3_ends_1 ⟨Nat.zero_le _, Nat.zero_le _⟩) hS (fun H locs hG hS hX => ?_)
  have hT_a0 := hX.T hT_a0
  replace hE := hE.trans hX
  refine lv_aload_n X.1 X.2.1 dX3_ends_4 rfl (lv_at hl 0 rfl) ?_
  obtain ⟨r4, σ3, hz, hF⟩ := b2_ex hF
  refine gx_rI (gx_runV (As := []) (rest := [.int r2]) X hG hS hT_a0.1 (hT_a0.eq (by decide)) (by decide) rfl (c_X3_needed l D cA base ad σ1 n a0 hT_a0 hz) k_557 k_554 k_555 k_556 k_2 (h_X3_needed) rfl rfl ⟨by decide, by decide⟩ rfl hl.1 rfl (Nat.le_of_ble_eq_true rfl) dX3_ends_5 ⟨Nat.zero_le _, Nat.zero_le _⟩) hS (fun H locs hG hS hX => ?_)
  have hT_a0 := hX.T hT_a0
  replace hE := hE.trans hX
  refine lv_icmp_lt (tgt := 13) X.1 X.2.1 dX3_ends_8 (by decide) (fun hc => ?_) (fun hc => ?_)
  · replace hF := it_t hF hc
    refine lv_aload_n X.1 X.2.1 dX3_ends_13 rfl (lv_at hl 0 rfl) ?_
    obtain ⟨r6, σ5, hz, hF⟩ := b2_ex hF
    refine gx_rI (gx_runV (As := []) (rest := []) X hG hS hT_a0.1 (hT_a0.eq (by decide)) (by decide) rfl (c_X3_no l D cA base ad σ3 n a0 hT_a0 hz) k_407 k_559 k_405 k_406 k_2 (h_X3_no) rfl rfl ⟨by decide, by decide⟩ rfl hl.1 rfl (Nat.le_of_ble_eq_true rfl) dX3_ends_14 ⟨Nat.zero_le _, Nat.zero_le _⟩) hS (fun H locs hG hS hX => ?_)
    have hT_a0 := hX.T hT_a0
    replace hE := hE.trans hX
    refine lv_aload_n X.1 X.2.1 dX3_ends_17 rfl (lv_at hl 0 rfl) ?_
    obtain ⟨r8, σ7, hz, hF⟩ := b2_ex hF
    refine gx_rI (gx_runV (As := []) (rest := [.int r6]) X hG hS hT_a0.1 (hT_a0.eq (by decide)) (by decide) rfl (c_X3_needed l D cA base ad σ5 n a0 hT_a0 hz) k_557 k_554 k_555 k_556 k_2 (h_X3_needed) rfl rfl ⟨by decide, by decide⟩ rfl hl.1 rfl (Nat.le_of_ble_eq_true rfl) dX3_ends_18 ⟨Nat.zero_le _, Nat.zero_le _⟩) hS (fun H locs hG hS hX => ?_)
    have hT_a0 := hX.T hT_a0
    replace hE := hE.trans hX
    refine lv_icmp_lt (tgt := 26) X.1 X.2.1 dX3_ends_21 (by decide) (fun hc => ?_) (fun hc => ?_)
    · replace hF := it_t hF hc
      refine lv_aload_n X.1 X.2.1 dX3_ends_26 rfl (lv_at hl 0 rfl) ?_
      refine gx_get 10 (v := .int (hI σ7 a0 10)) X hG hT_a0.1 (hT_a0.eq (by decide)) (by decide) rfl inX3 (by decide) k_63 (fun _ h => h) rfl dX3_ends_27 ?_
      refine lv_aload_n X.1 X.2.1 dX3_ends_30 rfl (lv_at hl 0 rfl) ?_
      obtain ⟨i9, hr, hF⟩ := b1_ex hF
      have hT_i9 : hT σ7 i9 13 := gw_T hG hT_a0 (by decide) hr
      refine gx_get 7 (v := .ref (ad i9)) X hG hT_a0.1 (hT_a0.eq (by decide)) (by decide) rfl inX3 (by decide) k_56 (fun _ h => h) (gx_rfv hr) dX3_ends_31 ?_
      refine lv_iconst (v := 3) X.1 X.2.1 dX3_ends_34 (by decide) ?_
      obtain ⟨r11, σ10, hz, hF⟩ := b2_ex hF
      refine gx_rI (gx_runSN (As := [.ref (ad i9), .int 3]) (rest := [.int (hI σ7 a0 10)]) X hG hS (c_X11_at l D cA base ad σ7 n i9 3 hT_i9 hz) k_362 q_360 k_361 k_1 (h_X11_at.2) rfl rfl ⟨by decide, by decide⟩ rfl hl.1 rfl (Nat.le_of_ble_eq_true rfl) dX3_ends_35 ⟨Nat.zero_le _, Nat.zero_le _⟩) hS (fun H locs hG hS hX => ?_)
      have hT_a0 := hX.T hT_a0
      replace hE := hE.trans hX
      refine lv_icmp_lt (tgt := 45) X.1 X.2.1 dX3_ends_38 (by decide) (fun hc => ?_) (fun hc => ?_)
      · replace hF := it_t hF hc
        refine lv_bipush (v := (-4)) X.1 X.2.1 dX3_ends_45 (by decide) ?_
        exact gx_iret X hG hS hE hF dX3_ends_47
      · replace hF := it_f hF hc
        refine lv_iconst (v := 2) X.1 X.2.1 dX3_ends_41 (by decide) ?_
        refine lv_goto (tgt := 47) X.1 X.2.1 dX3_ends_42 (by decide) ?_
        exact gx_iret X hG hS hE hF dX3_ends_47
    · replace hF := it_f hF hc
      refine lv_iconst (v := 0) X.1 X.2.1 dX3_ends_24 (by decide) ?_
      exact gx_iret X hG hS hE hF dX3_ends_25
  · replace hF := it_f hF hc
    refine lv_iconst (v := 1) X.1 X.2.1 dX3_ends_11 (by decide) ?_
    exact gx_iret X hG hS hE hF dX3_ends_12
theorem c_X3_yesLessNo (l : Launch) (D : va_G) (cA : Nat → ClassId) (base : Nat) (ad : Nat → Nat) (σ : Hp) (n : Nat) (a0 : Nat) (hT_a0 : hT σ a0 3) {τ : Hp} {r : Int32} (hF : F_X3_yesLessNo n a0 σ = some (r, τ)) : MI l yX3_yesLessNo cX3_yesLessNo 1 (some .int) rm_X3_yesLessNo D cA base ad σ [.ref (ad a0)] r τ := by
  refine Met.ofW (cc := cX3_yesLessNo) (maxL := 1) (ret := (some .int)) (by decide) rfl ?_
  intro p e s m args below meth c s₁ B hml hv
  obtain ⟨rfl, hv⟩ := hv
  have X : SX D cA base p s m ([.ref (ad a0)] : List Value).toArray meth c cX3_yesLessNo 1 (some .int) RX3 := sx_of B hml hv
  have hG := hv.1
  have hS : va_S (bA base) s.heap s.heap [] := va_S.rf
  have hE := xT.rf σ
  have hl := lv_entry ([.ref (ad a0)]) (n := 1) (Nat.le_of_ble_eq_true rfl)
  rw [lg_entry_eq]
  generalize (lg_sl ([.ref (ad a0)]) ++ List.replicate (1 - (lg_sl ([.ref (ad a0)])).length) Slot.unset).toArray = ls at hl ⊢
  have hl : lv_has ls 1 [(0, .ref (ad a0))] := hl
  unfold F_X3_yesLessNo at hF
  refine lv_iconst (v := 2) X.1 X.2.1 dX3_yesLessNo_0 (by decide) ?_
  refine lv_aload_n X.1 X.2.1 dX3_yesLessNo_1 rfl (lv_at hl 0 rfl) ?_
  refine gx_get 12 (v := .int (hI σ a0 12)) X hG hT_a0.1 (hT_a0.eq (by decide)) (by decide) rfl inX3 (by decide) k_69 (fun _ h => h) rfl dX3_yesLessNo_2 ?_
  obtain ⟨r2, σ1, hz, hF⟩ := b2_ex hF
  refine gx_rI (gx_runS (As := [.int (hI σ a0 12)]) (rest := [.int 2]) X hG hS (c_J6_bitCount_0f7a4 l D cA base ad σ n (hI σ a0 12) hz) k_400 k_398 k_399 k_13 (h_J6_bitCount_0f7a4.2) rfl rfl ⟨by decide, by decide⟩ rfl hl.1 rfl (Nat.le_of_ble_eq_true rfl) dX3_yesLessNo_5 ⟨Nat.zero_le _, Nat.zero_le _⟩) hS (fun H locs hG hS hX => ?_)
  have hT_a0 := hX.T hT_a0
  replace hE := hE.trans hX
  refine lv_imul X.1 X.2.1 dX3_yesLessNo_8 ?_
  refine lv_aload_n X.1 X.2.1 dX3_yesLessNo_9 rfl (lv_at hl 0 rfl) ?_
  refine gx_get 2 (v := .int (hI σ1 a0 2)) X hG hT_a0.1 (hT_a0.eq (by decide)) (by decide) rfl inX3 (by decide) k_45 (fun _ h => h) rfl dX3_yesLessNo_10 ?_
  refine lv_isub X.1 X.2.1 dX3_yesLessNo_13 ?_
  exact gx_iret X hG hS hE hF dX3_yesLessNo_14
theorem c_X3_push (l : Launch) (D : va_G) (cA : Nat → ClassId) (base : Nat) (ad : Nat → Nat) (σ : Hp) (n : Nat) (a0 : Nat) (a1 : Int32) (a2 : Int32) (hT_a0 : hT σ a0 3) {τ : Hp} (hF : F_X3_push n a0 a1 a2 σ = some τ) : MV l yX3_push cX3_push 3 rm_X3_push D cA base ad σ [.ref (ad a0), .int a1, .int a2] τ := by
  refine Met.ofW (cc := cX3_push) (maxL := 3) (ret := none) (by decide) rfl ?_
  intro p e s m args below meth c s₁ B hml hv
  obtain ⟨rfl, hv⟩ := hv
  have X : SX D cA base p s m ([.ref (ad a0), .int a1, .int a2] : List Value).toArray meth c cX3_push 3 none RX3 := sx_of B hml hv
  have hG := hv.1
  have hS : va_S (bA base) s.heap s.heap [] := va_S.rf
  have hE := xT.rf σ
  have hl := lv_entry ([.ref (ad a0), .int a1, .int a2]) (n := 3) (Nat.le_of_ble_eq_true rfl)
  rw [lg_entry_eq]
  generalize (lg_sl ([.ref (ad a0), .int a1, .int a2]) ++ List.replicate (3 - (lg_sl ([.ref (ad a0), .int a1, .int a2])).length) Slot.unset).toArray = ls at hl ⊢
  have hl : lv_has ls 3 [(0, .ref (ad a0)), (1, .int a1), (2, .int a2)] := hl
  unfold F_X3_push at hF
  refine lv_aload_n X.1 X.2.1 dX3_push_0 rfl (lv_at hl 0 rfl) ?_
  obtain ⟨i1, hr, hF⟩ := b1_ex hF
  have hT_i1 : hT σ i1 13 := gw_T hG hT_a0 (by decide) hr
  refine gx_get 17 (v := .ref (ad i1)) X hG hT_a0.1 (hT_a0.eq (by decide)) (by decide) rfl inX3 (by decide) k_78 (fun _ h => h) (gx_rfv hr) dX3_push_1 ?_
  refine lv_iload_n X.1 X.2.1 dX3_push_4 rfl (lv_at hl 1 rfl) ?_
  refine lv_aload_n X.1 X.2.1 dX3_push_5 rfl (lv_at hl 0 rfl) ?_
  obtain ⟨i2, hr, hF⟩ := b1_ex hF
  have hT_i2 : hT σ i2 13 := gw_T hG hT_a0 (by decide) hr
  refine gx_get 17 (v := .ref (ad i2)) X hG hT_a0.1 (hT_a0.eq (by decide)) (by decide) rfl inX3 (by decide) k_78 (fun _ h => h) (gx_rfv hr) dX3_push_6 ?_
  refine lv_iload_n X.1 X.2.1 dX3_push_9 rfl (lv_at hl 1 rfl) ?_
  obtain ⟨r4, σ3, hz, hF⟩ := b2_ex hF
  refine gx_rI (gx_runSN (As := [.ref (ad i2), .int a1]) (rest := [.int a1, .ref (ad i1)]) X hG hS (c_X11_at l D cA base ad σ n i2 a1 hT_i2 hz) k_362 q_360 k_361 k_1 (h_X11_at.2) rfl rfl ⟨by decide, by decide⟩ rfl hl.1 rfl (Nat.le_of_ble_eq_true rfl) dX3_push_10 ⟨Nat.zero_le _, Nat.zero_le _⟩) hS (fun H locs hG hS hX => ?_)
  have hT_a0 := hX.T hT_a0
  have hT_i1 := hX.T hT_i1
  replace hE := hE.trans hX
  refine lv_iload_n X.1 X.2.1 dX3_push_13 rfl (lv_at hl 2 rfl) ?_
  refine lv_iadd X.1 X.2.1 dX3_push_14 ?_
  obtain ⟨σ5, hz, hF⟩ := b1_ex hF
  refine gx_rV (gx_runSN (As := [.ref (ad i1), .int a1, .int (r4 + a2)]) (rest := []) X hG hS (c_X11_store l D cA base ad σ3 n i1 a1 (r4 + a2) hT_i1 hz) k_173 q_351 k_172 k_1 (h_X11_store.2) rfl rfl ⟨by decide, by decide⟩ rfl hl.1 rfl (Nat.le_of_ble_eq_true rfl) dX3_push_15 ⟨Nat.zero_le _, Nat.zero_le _⟩) hS (fun H locs hG hS hX => ?_)
  have hT_a0 := hX.T hT_a0
  replace hE := hE.trans hX
  exact gx_vret X hG hS hE hF dX3_push_18
theorem w_X0_act_45 {σ0 τ : Hp} (X : SX D cA base p s m args meth c cX0_act 6 none RX0) (n : Nat) (K_8 : Nat → Int32 → Int32 → Hp → Option Hp) (hK_8 : ∀ (v1 : Nat) (v3 : Int32) (v4 : Int32) (σ : Hp) (H : Heap) (locs : List Loc) (ls : Array Slot), hT σ v1 3 → GW D cA base ad σ H → va_S (bA base) s.heap H locs → xT σ0 σ → lv_has ls 6 [(1, .ref (ad v1)), (3, .int v3), (4, .int v4)] → K_8 v1 v3 v4 σ = some τ → W p l e rm_X0_act s m args below meth c H locs 0 0 (ZV below s args D cA base ad σ0 τ) (F0 m 8 ls [])) : ∀ (v1 : Nat) (v3 : Int32) (v4 : Int32) (σ : Hp) (H : Heap) (locs : List Loc) (ls : Array Slot), hT σ v1 3 → GW D cA base ad σ H → va_S (bA base) s.heap H locs → xT σ0 σ → lv_has ls 6 [(1, .ref (ad v1)), (3, .int v3), (4, .int v4)] → F_X0_act_45 n K_8 v1 v3 v4 σ = some τ → W p l e rm_X0_act s m args below meth c H locs 0 0 (ZV below s args D cA base ad σ0 τ) (F0 m 45 ls []) := by
  intro v1 v3 v4 σ H locs ls hT_v1 hG hS hE hl hF
  unfold F_X0_act_45 at hF
  refine lv_iinc (v := v4 + 1) (lv' := [(4, .int (v4 + 1)), (1, .ref (ad v1)), (3, .int v3)]) X.1 X.2.1 dX0_act_45 hl (k := 2) rfl rfl (by decide) rfl (fun ls hl => ?_)
  refine lv_goto (tgt := 8) X.1 X.2.1 dX0_act_48 (by decide) ?_
  exact hK_8 v1 v3 (v4 + 1) σ _ _ ls hT_v1 hG hS hE (lv_sub hl [1, 2, 0] rfl) hF
theorem w_X0_act_8 {σ0 τ : Hp} (X : SX D cA base p s m args meth c cX0_act 6 none RX0) (n : Nat)  : ∀ f : Nat, ∀ (v1 : Nat) (v3 : Int32) (v4 : Int32) (σ : Hp) (H : Heap) (locs : List Loc) (ls : Array Slot), hT σ v1 3 → GW D cA base ad σ H → va_S (bA base) s.heap H locs → xT σ0 σ → lv_has ls 6 [(1, .ref (ad v1)), (3, .int v3), (4, .int v4)] → F_X0_act_8 n  f v1 v3 v4 σ = some τ → W p l e rm_X0_act s m args below meth c H locs 0 0 (ZV below s args D cA base ad σ0 τ) (F0 m 8 ls []) := by
  intro f
  induction f with
  | zero => intro v1 v3 v4 σ H locs ls h0 hG hS hE hl hF
            rw [F_X0_act_8] at hF; cases hF
  | succ f ih =>
    intro v1 v3 v4 σ H locs ls hT_v1 hG hS hE hl hF
    rw [F_X0_act_8] at hF
    refine lv_iload X.1 X.2.1 dX0_act_8 (lv_at hl 2 rfl) ?_
    refine lv_aload_n X.1 X.2.1 dX0_act_10 rfl (lv_at hl 0 rfl) ?_
    refine gx_getN 2 (v := .int (hI σ v1 2)) X hG hT_v1.1 (hT_v1.eq (by decide)) (by decide) rfl inX3 (by decide) q_46 (fun _ h => h) rfl dX0_act_11 ?_
    refine lv_icmp_ge (tgt := 51) X.1 X.2.1 dX0_act_14 (by decide) (fun hc => ?_) (fun hc => ?_)
    · replace hF := it_t hF hc
      exact gx_vret X hG hS hE hF dX0_act_51
    · replace hF := it_f hF hc
      refine lv_aload_n X.1 X.2.1 dX0_act_17 rfl (lv_at hl 0 rfl) ?_
      refine lv_iload X.1 X.2.1 dX0_act_18 (lv_at hl 2 rfl) ?_
      obtain ⟨r2, σ1, hz, hF⟩ := b2_ex hF
      refine gx_rQ (gx_runV (As := [.int v4]) (rest := []) X hG hS hT_v1.1 (hT_v1.eq (by decide)) (by decide) rfl (c_X3_turnAt l D cA base ad σ n v1 v4 hT_v1 hz) k_383 k_575 k_381 k_382 k_2 (h_X3_turnAt) rfl rfl ⟨by decide, by decide⟩ rfl hl.1 rfl (Nat.le_of_ble_eq_true rfl) dX0_act_20 ⟨Nat.zero_le _, Nat.zero_le _⟩) hS (fun H locs hG hS hX hO_r2 => ?_)
      have hT_v1 := hX.T hT_v1
      replace hE := hE.trans hX
      refine gx_astore (lv' := [(5, va_rf (Option.map ad r2)), (1, .ref (ad v1)), (3, .int v3), (4, .int v4)]) X.1 X.2.1 dX0_act_23 hl (by decide) (by cases r2 <;> rfl) (fun ls hl => ?_)
      refine gx_aload X.1 X.2.1 dX0_act_25 (lv_at hl 0 rfl) ?_
      refine gx_ifnull (tgt := 45) X.1 X.2.1 dX0_act_27 (by decide) hF (fun hr hF2i3 => ?_) (fun i3 hr hF2i3 => ?_)
      · subst hr
        have hF := hF2i3
        have hl : lv_has ls 6 [(5, .null), (1, .ref (ad v1)), (3, .int v3), (4, .int v4)] := hl
        exact w_X0_act_45 X n (F_X0_act_8 n  f) ih v1 v3 v4 σ1 _ _ ls hT_v1 hG hS hE (lv_sub hl [1, 2, 3] rfl) hF
      · subst hr
        have hF := hF2i3
        have hT_i3 := hO_r2 i3 rfl
        have hl : lv_has ls 6 [(5, .ref (ad i3)), (1, .ref (ad v1)), (3, .int v3), (4, .int v4)] := hl
        refine lv_aload_n X.1 X.2.1 dX0_act_30 rfl (lv_at hl 1 rfl) ?_
        refine lv_iload X.1 X.2.1 dX0_act_31 (lv_at hl 3 rfl) ?_
        refine lv_aload X.1 X.2.1 dX0_act_33 (lv_at hl 0 rfl) ?_
        refine gx_getT 2 (v := .int (hI σ1 i3 2)) X hG hT_i3 (by decide) k_203 (fun _ h => h) rfl dX0_act_35 ?_
        refine lv_iload_n X.1 X.2.1 dX0_act_38 rfl (lv_at hl 2 rfl) ?_
        refine lv_imul X.1 X.2.1 dX0_act_39 ?_
        refine lv_iconst (v := 4) X.1 X.2.1 dX0_act_40 (by decide) ?_
        refine lv_idiv X.1 X.2.1 dX0_act_41 (by decide) ?_
        obtain ⟨σ4, hz, hF⟩ := b1_ex hF
        refine gx_rV (gx_runV (As := [.int v4, .int (((hI σ1 i3 2) * v3) / 4)]) (rest := []) X hG hS hT_v1.1 (hT_v1.eq (by decide)) (by decide) rfl (c_X3_push l D cA base ad σ1 n v1 v4 (((hI σ1 i3 2) * v3) / 4) hT_v1 hz) k_579 k_576 k_577 k_578 k_2 (h_X3_push) rfl rfl ⟨by decide, by decide⟩ rfl hl.1 rfl (Nat.le_of_ble_eq_true rfl) dX0_act_42 ⟨Nat.zero_le _, Nat.zero_le _⟩) hS (fun H locs hG hS hX => ?_)
        have hT_v1 := hX.T hT_v1
        have hT_i3 := hX.T hT_i3
        replace hE := hE.trans hX
        exact w_X0_act_45 X n (F_X0_act_8 n  f) ih v1 v3 v4 σ4 _ _ ls hT_v1 hG hS hE (lv_sub hl [1, 2, 3] rfl) hF
theorem c_X0_act (l : Launch) (D : va_G) (cA : Nat → ClassId) (base : Nat) (ad : Nat → Nat) (σ : Hp) (n : Nat) (a0 : Nat) (a1 : Nat) (a2 : Int32) (hT_a0 : hT σ a0 101) (hT_a1 : hT σ a1 3) {τ : Hp} (hF : F_X0_act n a0 a1 a2 σ = some τ) : MV l yX0_act cX0_act 6 rm_X0_act D cA base ad σ [.ref (ad a0), .ref (ad a1), .int a2] τ := by
  refine Met.ofW (cc := cX0_act) (maxL := 6) (ret := none) (by decide) rfl ?_
  intro p e s m args below meth c s₁ B hml hv
  obtain ⟨rfl, hv⟩ := hv
  have X : SX D cA base p s m ([.ref (ad a0), .ref (ad a1), .int a2] : List Value).toArray meth c cX0_act 6 none RX0 := sx_of B hml hv
  have hG := hv.1
  have hS : va_S (bA base) s.heap s.heap [] := va_S.rf
  have hE := xT.rf σ
  have hl := lv_entry ([.ref (ad a0), .ref (ad a1), .int a2]) (n := 6) (Nat.le_of_ble_eq_true rfl)
  rw [lg_entry_eq]
  generalize (lg_sl ([.ref (ad a0), .ref (ad a1), .int a2]) ++ List.replicate (6 - (lg_sl ([.ref (ad a0), .ref (ad a1), .int a2])).length) Slot.unset).toArray = ls at hl ⊢
  have hl : lv_has ls 6 [(0, .ref (ad a0)), (1, .ref (ad a1)), (2, .int a2)] := hl
  unfold F_X0_act at hF
  refine lv_aload_n X.1 X.2.1 dX0_act_0 rfl (lv_at hl 1 rfl) ?_
  obtain ⟨r6, σ5, hz, hF⟩ := b2_ex hF
  refine gx_rI (gx_runV (As := []) (rest := []) X hG hS hT_a1.1 (hT_a1.eq (by decide)) (by decide) rfl (c_X3_yesLessNo l D cA base ad σ n a1 hT_a1 hz) k_574 k_571 k_572 k_573 k_2 (h_X3_yesLessNo) rfl rfl ⟨by decide, by decide⟩ rfl hl.1 rfl (Nat.le_of_ble_eq_true rfl) dX0_act_1 ⟨Nat.zero_le _, Nat.zero_le _⟩) hS (fun H locs hG hS hX => ?_)
  have hT_a0 := hX.T hT_a0
  have hT_a1 := hX.T hT_a1
  replace hE := hE.trans hX
  refine lv_istore_n (lv' := [(3, .int r6), (0, .ref (ad a0)), (1, .ref (ad a1)), (2, .int a2)]) X.1 X.2.1 dX0_act_4 rfl hl (by decide) rfl (fun ls hl => ?_)
  refine lv_iconst (v := 0) X.1 X.2.1 dX0_act_5 (by decide) ?_
  refine lv_istore (lv' := [(4, .int 0), (3, .int r6), (0, .ref (ad a0)), (1, .ref (ad a1)), (2, .int a2)]) X.1 X.2.1 dX0_act_6 hl (by decide) rfl (fun ls hl => ?_)
  exact w_X0_act_8 X n  n a1 r6 0 σ5 _ _ ls hT_a1 hG hS hE (lv_sub hl [3, 1, 0] rfl) hF
theorem w_X2_act_94 {σ0 τ : Hp} (X : SX D cA base p s m args meth c cX2_act 7 none RX2) (n : Nat) (K_30 : Nat → Int32 → Int32 → Int32 → Hp → Option Hp) (hK_30 : ∀ (v1 : Nat) (v3 : Int32) (v4 : Int32) (v5 : Int32) (σ : Hp) (H : Heap) (locs : List Loc) (ls : Array Slot), hT σ v1 3 → GW D cA base ad σ H → va_S (bA base) s.heap H locs → xT σ0 σ → lv_has ls 7 [(1, .ref (ad v1)), (3, .int v3), (4, .int v4), (5, .int v5)] → K_30 v1 v3 v4 v5 σ = some τ → W p l e rm_X2_act s m args below meth c H locs 0 0 (ZV below s args D cA base ad σ0 τ) (F0 m 30 ls [])) : ∀ (v1 : Nat) (v3 : Int32) (v4 : Int32) (v5 : Int32) (σ : Hp) (H : Heap) (locs : List Loc) (ls : Array Slot), hT σ v1 3 → GW D cA base ad σ H → va_S (bA base) s.heap H locs → xT σ0 σ → lv_has ls 7 [(1, .ref (ad v1)), (3, .int v3), (4, .int v4), (5, .int v5)] → F_X2_act_94 n K_30 v1 v3 v4 v5 σ = some τ → W p l e rm_X2_act s m args below meth c H locs 0 0 (ZV below s args D cA base ad σ0 τ) (F0 m 94 ls []) := by
  intro v1 v3 v4 v5 σ H locs ls hT_v1 hG hS hE hl hF
  unfold F_X2_act_94 at hF
  refine lv_iinc (v := v5 + 1) (lv' := [(5, .int (v5 + 1)), (1, .ref (ad v1)), (3, .int v3), (4, .int v4)]) X.1 X.2.1 dX2_act_94 hl (k := 3) rfl rfl (by decide) rfl (fun ls hl => ?_)
  refine lv_goto (tgt := 30) X.1 X.2.1 dX2_act_97 (by decide) ?_
  exact hK_30 v1 v3 v4 (v5 + 1) σ _ _ ls hT_v1 hG hS hE (lv_sub hl [1, 2, 3, 0] rfl) hF
theorem w_X2_act_91 {σ0 τ : Hp} (X : SX D cA base p s m args meth c cX2_act 7 none RX2) (n : Nat) (K_30 : Nat → Int32 → Int32 → Int32 → Hp → Option Hp) (hK_30 : ∀ (v1 : Nat) (v3 : Int32) (v4 : Int32) (v5 : Int32) (σ : Hp) (H : Heap) (locs : List Loc) (ls : Array Slot), hT σ v1 3 → GW D cA base ad σ H → va_S (bA base) s.heap H locs → xT σ0 σ → lv_has ls 7 [(1, .ref (ad v1)), (3, .int v3), (4, .int v4), (5, .int v5)] → K_30 v1 v3 v4 v5 σ = some τ → W p l e rm_X2_act s m args below meth c H locs 0 0 (ZV below s args D cA base ad σ0 τ) (F0 m 30 ls [])) : ∀ (v1 : Nat) (v3 : Int32) (v4 : Int32) (v5 : Int32) (s0 : Int32) (s1 : Int32) (s2 : Nat) (σ : Hp) (H : Heap) (locs : List Loc) (ls : Array Slot), hT σ v1 3 → hT σ s2 3 → GW D cA base ad σ H → va_S (bA base) s.heap H locs → xT σ0 σ → lv_has ls 7 [(1, .ref (ad v1)), (3, .int v3), (4, .int v4), (5, .int v5)] → F_X2_act_91 n K_30 v1 v3 v4 v5 s0 s1 s2 σ = some τ → W p l e rm_X2_act s m args below meth c H locs 0 0 (ZV below s args D cA base ad σ0 τ) (F0 m 91 ls [.int s0, .int s1, .ref (ad s2)]) := by
  intro v1 v3 v4 v5 s0 s1 s2 σ H locs ls hT_v1 hT_s2 hG hS hE hl hF
  unfold F_X2_act_91 at hF
  obtain ⟨σ1, hz, hF⟩ := b1_ex hF
  refine gx_rV (gx_runV (As := [.int s1, .int s0]) (rest := []) X hG hS hT_s2.1 (hT_s2.eq (by decide)) (by decide) rfl (c_X3_push l D cA base ad σ n s2 s1 s0 hT_s2 hz) k_579 k_586 k_577 k_578 k_2 (h_X3_push) rfl rfl ⟨by decide, by decide⟩ rfl hl.1 rfl (Nat.le_of_ble_eq_true rfl) dX2_act_91 ⟨Nat.zero_le _, Nat.zero_le _⟩) hS (fun H locs hG hS hX => ?_)
  have hT_v1 := hX.T hT_v1
  replace hE := hE.trans hX
  exact w_X2_act_94 X n K_30 hK_30 v1 v3 v4 v5 σ1 _ _ ls hT_v1 hG hS hE (lv_sub hl [0, 1, 2, 3] rfl) hF
theorem w_X2_act_30 {σ0 τ : Hp} (X : SX D cA base p s m args meth c cX2_act 7 none RX2) (n : Nat)  : ∀ f : Nat, ∀ (v1 : Nat) (v3 : Int32) (v4 : Int32) (v5 : Int32) (σ : Hp) (H : Heap) (locs : List Loc) (ls : Array Slot), hT σ v1 3 → GW D cA base ad σ H → va_S (bA base) s.heap H locs → xT σ0 σ → lv_has ls 7 [(1, .ref (ad v1)), (3, .int v3), (4, .int v4), (5, .int v5)] → F_X2_act_30 n  f v1 v3 v4 v5 σ = some τ → W p l e rm_X2_act s m args below meth c H locs 0 0 (ZV below s args D cA base ad σ0 τ) (F0 m 30 ls []) := by
  intro f
  induction f with
  | zero => intro v1 v3 v4 v5 σ H locs ls h0 hG hS hE hl hF
            rw [F_X2_act_30] at hF; cases hF
  | succ f ih =>
    intro v1 v3 v4 v5 σ H locs ls hT_v1 hG hS hE hl hF
    rw [F_X2_act_30] at hF
    refine lv_iload X.1 X.2.1 dX2_act_30 (lv_at hl 3 rfl) ?_
    refine lv_aload_n X.1 X.2.1 dX2_act_32 rfl (lv_at hl 0 rfl) ?_
    refine gx_getN 2 (v := .int (hI σ v1 2)) X hG hT_v1.1 (hT_v1.eq (by decide)) (by decide) rfl inX3 (by decide) q_47 (fun _ h => h) rfl dX2_act_33 ?_
    refine lv_icmp_ge (tgt := 100) X.1 X.2.1 dX2_act_36 (by decide) (fun hc => ?_) (fun hc => ?_)
    · replace hF := it_t hF hc
      exact gx_vret X hG hS hE hF dX2_act_100
    · replace hF := it_f hF hc
      refine lv_aload_n X.1 X.2.1 dX2_act_39 rfl (lv_at hl 0 rfl) ?_
      refine lv_iload X.1 X.2.1 dX2_act_40 (lv_at hl 3 rfl) ?_
      obtain ⟨r3, σ2, hz, hF⟩ := b2_ex hF
      refine gx_rQ (gx_runV (As := [.int v5]) (rest := []) X hG hS hT_v1.1 (hT_v1.eq (by decide)) (by decide) rfl (c_X3_turnAt l D cA base ad σ n v1 v5 hT_v1 hz) k_383 k_585 k_381 k_382 k_2 (h_X3_turnAt) rfl rfl ⟨by decide, by decide⟩ rfl hl.1 rfl (Nat.le_of_ble_eq_true rfl) dX2_act_42 ⟨Nat.zero_le _, Nat.zero_le _⟩) hS (fun H locs hG hS hX hO_r3 => ?_)
      have hT_v1 := hX.T hT_v1
      replace hE := hE.trans hX
      refine gx_astore (lv' := [(6, va_rf (Option.map ad r3)), (1, .ref (ad v1)), (3, .int v3), (4, .int v4), (5, .int v5)]) X.1 X.2.1 dX2_act_45 hl (by decide) (by cases r3 <;> rfl) (fun ls hl => ?_)
      refine gx_aload X.1 X.2.1 dX2_act_47 (lv_at hl 0 rfl) ?_
      refine gx_ifnull (tgt := 94) X.1 X.2.1 dX2_act_49 (by decide) hF (fun hr hF2i4 => ?_) (fun i4 hr hF2i4 => ?_)
      · subst hr
        have hF := hF2i4
        have hl : lv_has ls 7 [(6, .null), (1, .ref (ad v1)), (3, .int v3), (4, .int v4), (5, .int v5)] := hl
        exact w_X2_act_94 X n (F_X2_act_30 n  f) ih v1 v3 v4 v5 σ2 _ _ ls hT_v1 hG hS hE (lv_sub hl [1, 2, 3, 4] rfl) hF
      · subst hr
        have hF := hF2i4
        have hT_i4 := hO_r3 i4 rfl
        have hl : lv_has ls 7 [(6, .ref (ad i4)), (1, .ref (ad v1)), (3, .int v3), (4, .int v4), (5, .int v5)] := hl
        refine lv_aload_n X.1 X.2.1 dX2_act_52 rfl (lv_at hl 1 rfl) ?_
        refine gx_getN 12 (v := .int (hI σ2 v1 12)) X hG hT_v1.1 (hT_v1.eq (by decide)) (by decide) rfl inX3 (by decide) q_67 (fun _ h => h) rfl dX2_act_53 ?_
        refine lv_iload X.1 X.2.1 dX2_act_56 (lv_at hl 4 rfl) ?_
        refine lv_ishr X.1 X.2.1 dX2_act_58 ?_
        refine lv_iconst (v := 1) X.1 X.2.1 dX2_act_59 (by decide) ?_
        refine lv_iand X.1 X.2.1 dX2_act_60 ?_
        refine lv_iload X.1 X.2.1 dX2_act_61 (lv_at hl 3 rfl) ?_
        refine lv_icmp_ne (tgt := 94) X.1 X.2.1 dX2_act_63 (by decide) (fun hc => ?_) (fun hc => ?_)
        · replace hF := it_f hF hc
          exact w_X2_act_94 X n (F_X2_act_30 n  f) ih v1 v3 v4 v5 σ2 _ _ ls hT_v1 hG hS hE (lv_sub hl [1, 2, 3, 4] rfl) hF
        · replace hF := it_t hF hc
          refine lv_aload_n X.1 X.2.1 dX2_act_66 rfl (lv_at hl 1 rfl) ?_
          refine lv_iload X.1 X.2.1 dX2_act_67 (lv_at hl 4 rfl) ?_
          refine lv_iload_n X.1 X.2.1 dX2_act_69 rfl (lv_at hl 2 rfl) ?_
          refine lv_if_le (tgt := 83) X.1 X.2.1 dX2_act_70 (by decide) (fun hc => ?_) (fun hc => ?_)
          · replace hF := it_t hF hc
            refine lv_bipush (v := (-2)) X.1 X.2.1 dX2_act_83 (by decide) ?_
            refine lv_aload X.1 X.2.1 dX2_act_85 (lv_at hl 0 rfl) ?_
            refine gx_getT 2 (v := .int (hI σ2 i4 2)) X hG hT_i4 (by decide) k_204 (fun _ h => h) rfl dX2_act_87 ?_
            refine lv_imul X.1 X.2.1 dX2_act_90 ?_
            exact w_X2_act_91 X n (F_X2_act_30 n  f) ih v1 v3 v4 v5 ((-2) * (hI σ2 i4 2)) v5 v1 σ2 _ _ ls hT_v1 hT_v1 hG hS hE (lv_sub hl [1, 2, 3, 4] rfl) hF
          · replace hF := it_f hF hc
            refine lv_iconst (v := 2) X.1 X.2.1 dX2_act_73 (by decide) ?_
            refine lv_aload X.1 X.2.1 dX2_act_74 (lv_at hl 0 rfl) ?_
            refine gx_getT 2 (v := .int (hI σ2 i4 2)) X hG hT_i4 (by decide) k_204 (fun _ h => h) rfl dX2_act_76 ?_
            refine lv_imul X.1 X.2.1 dX2_act_79 ?_
            refine lv_goto (tgt := 91) X.1 X.2.1 dX2_act_80 (by decide) ?_
            exact w_X2_act_91 X n (F_X2_act_30 n  f) ih v1 v3 v4 v5 (2 * (hI σ2 i4 2)) v5 v1 σ2 _ _ ls hT_v1 hT_v1 hG hS hE (lv_sub hl [1, 2, 3, 4] rfl) hF
theorem w_X2_act_25 {σ0 τ : Hp} (X : SX D cA base p s m args meth c cX2_act 7 none RX2) (n : Nat)  : ∀ (v1 : Nat) (v3 : Int32) (s0 : Int32) (σ : Hp) (H : Heap) (locs : List Loc) (ls : Array Slot), hT σ v1 3 → GW D cA base ad σ H → va_S (bA base) s.heap H locs → xT σ0 σ → lv_has ls 7 [(1, .ref (ad v1)), (3, .int v3)] → F_X2_act_25 n  v1 v3 s0 σ = some τ → W p l e rm_X2_act s m args below meth c H locs 0 0 (ZV below s args D cA base ad σ0 τ) (F0 m 25 ls [.int s0]) := by
  intro v1 v3 s0 σ H locs ls hT_v1 hG hS hE hl hF
  unfold F_X2_act_25 at hF
  refine lv_istore (lv' := [(4, .int s0), (1, .ref (ad v1)), (3, .int v3)]) X.1 X.2.1 dX2_act_25 hl (by decide) rfl (fun ls hl => ?_)
  refine lv_iconst (v := 0) X.1 X.2.1 dX2_act_27 (by decide) ?_
  refine lv_istore (lv' := [(5, .int 0), (4, .int s0), (1, .ref (ad v1)), (3, .int v3)]) X.1 X.2.1 dX2_act_28 hl (by decide) rfl (fun ls hl => ?_)
  exact w_X2_act_30 X n  n v1 v3 s0 0 σ _ _ ls hT_v1 hG hS hE (lv_sub hl [2, 3, 1, 0] rfl) hF
theorem c_X2_act (l : Launch) (D : va_G) (cA : Nat → ClassId) (base : Nat) (ad : Nat → Nat) (σ : Hp) (n : Nat) (a0 : Nat) (a1 : Nat) (a2 : Int32) (hT_a0 : hT σ a0 2) (hT_a1 : hT σ a1 3) {τ : Hp} (hF : F_X2_act n a0 a1 a2 σ = some τ) : MV l yX2_act cX2_act 7 rm_X2_act D cA base ad σ [.ref (ad a0), .ref (ad a1), .int a2] τ := by
  refine Met.ofW (cc := cX2_act) (maxL := 7) (ret := none) (by decide) rfl ?_
  intro p e s m args below meth c s₁ B hml hv
  obtain ⟨rfl, hv⟩ := hv
  have X : SX D cA base p s m ([.ref (ad a0), .ref (ad a1), .int a2] : List Value).toArray meth c cX2_act 7 none RX2 := sx_of B hml hv
  have hG := hv.1
  have hS : va_S (bA base) s.heap s.heap [] := va_S.rf
  have hE := xT.rf σ
  have hl := lv_entry ([.ref (ad a0), .ref (ad a1), .int a2]) (n := 7) (Nat.le_of_ble_eq_true rfl)
  rw [lg_entry_eq]
  generalize (lg_sl ([.ref (ad a0), .ref (ad a1), .int a2]) ++ List.replicate (7 - (lg_sl ([.ref (ad a0), .ref (ad a1), .int a2])).length) Slot.unset).toArray = ls at hl ⊢
  have hl : lv_has ls 7 [(0, .ref (ad a0)), (1, .ref (ad a1)), (2, .int a2)] := hl
  unfold F_X2_act at hF
  refine lv_aload_n X.1 X.2.1 dX2_act_0 rfl (lv_at hl 0 rfl) ?_
  refine lv_aload_n X.1 X.2.1 dX2_act_1 rfl (lv_at hl 1 rfl) ?_
  refine lv_iload_n X.1 X.2.1 dX2_act_2 rfl (lv_at hl 2 rfl) ?_
  obtain ⟨σ5, hz, hF⟩ := b1_ex hF
  refine gx_rV (gx_runPT (As := [.ref (ad a1), .int a2]) (rest := []) X hG hS (hT_a0.to (by decide) rfl) (c_X0_act l D cA base ad σ n a0 a1 a2 (hT_a0.to (by decide) rfl) hT_a1 hz) k_570 k_583 k_1384 k_274 k_569 k_7 ⟨by decide, (h_X0_act).2.2.2⟩ rfl rfl ⟨by decide, by decide⟩ rfl hl.1 rfl (Nat.le_of_ble_eq_true rfl) dX2_act_3 ⟨Nat.zero_le _, Nat.zero_le _⟩) hS (fun H locs hG hS hX => ?_)
  have hT_a0 := hX.T hT_a0
  have hT_a1 := hX.T hT_a1
  replace hE := hE.trans hX
  refine lv_aload_n X.1 X.2.1 dX2_act_6 rfl (lv_at hl 1 rfl) ?_
  obtain ⟨r7, σ6, hz, hF⟩ := b2_ex hF
  refine gx_rI (gx_runV (As := []) (rest := []) X hG hS hT_a1.1 (hT_a1.eq (by decide)) (by decide) rfl (c_X3_yesLessNo l D cA base ad σ5 n a1 hT_a1 hz) k_574 k_584 k_572 k_573 k_2 (h_X3_yesLessNo) rfl rfl ⟨by decide, by decide⟩ rfl hl.1 rfl (Nat.le_of_ble_eq_true rfl) dX2_act_7 ⟨Nat.zero_le _, Nat.zero_le _⟩) hS (fun H locs hG hS hX => ?_)
  have hT_a0 := hX.T hT_a0
  have hT_a1 := hX.T hT_a1
  replace hE := hE.trans hX
  refine lv_istore_n (lv' := [(3, .int r7), (0, .ref (ad a0)), (1, .ref (ad a1)), (2, .int a2)]) X.1 X.2.1 dX2_act_10 rfl hl (by decide) rfl (fun ls hl => ?_)
  refine lv_iload_n X.1 X.2.1 dX2_act_11 rfl (lv_at hl 0 rfl) ?_
  refine lv_if_ne (tgt := 16) X.1 X.2.1 dX2_act_12 (by decide) (fun hc => ?_) (fun hc => ?_)
  · replace hF := it_f hF hc
    refine lv_iload_n X.1 X.2.1 dX2_act_16 rfl (lv_at hl 0 rfl) ?_
    refine lv_if_le (tgt := 24) X.1 X.2.1 dX2_act_17 (by decide) (fun hc => ?_) (fun hc => ?_)
    · replace hF := it_t hF hc
      refine lv_iconst (v := 1) X.1 X.2.1 dX2_act_24 (by decide) ?_
      exact w_X2_act_25 X n  a1 r7 1 σ6 _ _ ls hT_a1 hG hS hE (lv_sub hl [2, 0] rfl) hF
    · replace hF := it_f hF hc
      refine lv_iconst (v := 0) X.1 X.2.1 dX2_act_20 (by decide) ?_
      refine lv_goto (tgt := 25) X.1 X.2.1 dX2_act_21 (by decide) ?_
      exact w_X2_act_25 X n  a1 r7 0 σ6 _ _ ls hT_a1 hG hS hE (lv_sub hl [2, 0] rfl) hF
  · replace hF := it_t hF hc
    exact gx_vret X hG hS hE hF dX2_act_15
theorem w_X4_act_2 {σ0 τ : Hp} (X : SX D cA base p s m args meth c cX4_act 4 none RX4) (n : Nat)  : ∀ f : Nat, ∀ (v1 : Nat) (v3 : Int32) (σ : Hp) (H : Heap) (locs : List Loc) (ls : Array Slot), hT σ v1 3 → GW D cA base ad σ H → va_S (bA base) s.heap H locs → xT σ0 σ → lv_has ls 4 [(1, .ref (ad v1)), (3, .int v3)] → F_X4_act_2 n  f v1 v3 σ = some τ → W p l e rm_X4_act s m args below meth c H locs 0 0 (ZV below s args D cA base ad σ0 τ) (F0 m 2 ls []) := by
  intro f
  induction f with
  | zero => intro v1 v3 σ H locs ls h0 hG hS hE hl hF
            rw [F_X4_act_2] at hF; cases hF
  | succ f ih =>
    intro v1 v3 σ H locs ls hT_v1 hG hS hE hl hF
    rw [F_X4_act_2] at hF
    refine lv_iload_n X.1 X.2.1 dX4_act_2 rfl (lv_at hl 1 rfl) ?_
    refine lv_aload_n X.1 X.2.1 dX4_act_3 rfl (lv_at hl 0 rfl) ?_
    refine gx_getN 2 (v := .int (hI σ v1 2)) X hG hT_v1.1 (hT_v1.eq (by decide)) (by decide) rfl inX3 (by decide) q_44 (fun _ h => h) rfl dX4_act_4 ?_
    refine lv_icmp_ge (tgt := 34) X.1 X.2.1 dX4_act_7 (by decide) (fun hc => ?_) (fun hc => ?_)
    · replace hF := it_t hF hc
      exact gx_vret X hG hS hE hF dX4_act_34
    · replace hF := it_f hF hc
      refine lv_aload_n X.1 X.2.1 dX4_act_10 rfl (lv_at hl 0 rfl) ?_
      obtain ⟨i1, hr, hF⟩ := b1_ex hF
      have hT_i1 : hT σ i1 13 := gw_T hG hT_v1 (by decide) hr
      refine gx_getN 17 (v := .ref (ad i1)) X hG hT_v1.1 (hT_v1.eq (by decide)) (by decide) rfl inX3 (by decide) q_79 (fun _ h => h) (gx_rfv hr) dX4_act_11 ?_
      refine lv_iload_n X.1 X.2.1 dX4_act_14 rfl (lv_at hl 1 rfl) ?_
      refine lv_aload_n X.1 X.2.1 dX4_act_15 rfl (lv_at hl 0 rfl) ?_
      obtain ⟨i2, hr, hF⟩ := b1_ex hF
      have hT_i2 : hT σ i2 13 := gw_T hG hT_v1 (by decide) hr
      refine gx_getN 17 (v := .ref (ad i2)) X hG hT_v1.1 (hT_v1.eq (by decide)) (by decide) rfl inX3 (by decide) q_79 (fun _ h => h) (gx_rfv hr) dX4_act_16 ?_
      refine lv_iload_n X.1 X.2.1 dX4_act_19 rfl (lv_at hl 1 rfl) ?_
      obtain ⟨r4, σ3, hz, hF⟩ := b2_ex hF
      refine gx_rI (gx_runSN (As := [.ref (ad i2), .int v3]) (rest := [.int v3, .ref (ad i1)]) X hG hS (c_X11_at l D cA base ad σ n i2 v3 hT_i2 hz) k_362 q_590 k_361 k_1 (h_X11_at.2) rfl rfl ⟨by decide, by decide⟩ rfl hl.1 rfl (Nat.le_of_ble_eq_true rfl) dX4_act_20 ⟨Nat.zero_le _, Nat.zero_le _⟩) hS (fun H locs hG hS hX => ?_)
      have hT_v1 := hX.T hT_v1
      have hT_i1 := hX.T hT_i1
      replace hE := hE.trans hX
      refine lv_iconst (v := 2) X.1 X.2.1 dX4_act_23 (by decide) ?_
      refine lv_idiv X.1 X.2.1 dX4_act_24 (by decide) ?_
      obtain ⟨σ5, hz, hF⟩ := b1_ex hF
      refine gx_rV (gx_runSN (As := [.ref (ad i1), .int v3, .int (r4 / 2)]) (rest := []) X hG hS (c_X11_store l D cA base ad σ3 n i1 v3 (r4 / 2) hT_i1 hz) k_173 q_591 k_172 k_1 (h_X11_store.2) rfl rfl ⟨by decide, by decide⟩ rfl hl.1 rfl (Nat.le_of_ble_eq_true rfl) dX4_act_25 ⟨Nat.zero_le _, Nat.zero_le _⟩) hS (fun H locs hG hS hX => ?_)
      have hT_v1 := hX.T hT_v1
      replace hE := hE.trans hX
      refine lv_iinc (v := v3 + 1) (lv' := [(3, .int (v3 + 1)), (1, .ref (ad v1))]) X.1 X.2.1 dX4_act_28 hl (k := 1) rfl rfl (by decide) rfl (fun ls hl => ?_)
      refine lv_goto (tgt := 2) X.1 X.2.1 dX4_act_31 (by decide) ?_
      exact ih v1 (v3 + 1) σ5 _ _ ls hT_v1 hG hS hE (lv_sub hl [1, 0] rfl) hF
theorem c_X4_act (l : Launch) (D : va_G) (cA : Nat → ClassId) (base : Nat) (ad : Nat → Nat) (σ : Hp) (n : Nat) (a0 : Nat) (a1 : Nat) (a2 : Int32) (hT_a0 : hT σ a0 4) (hT_a1 : hT σ a1 3) {τ : Hp} (hF : F_X4_act n a0 a1 a2 σ = some τ) : MV l yX4_act cX4_act 4 rm_X4_act D cA base ad σ [.ref (ad a0), .ref (ad a1), .int a2] τ := by
  refine Met.ofW (cc := cX4_act) (maxL := 4) (ret := none) (by decide) rfl ?_
  intro p e s m args below meth c s₁ B hml hv
  obtain ⟨rfl, hv⟩ := hv
  have X : SX D cA base p s m ([.ref (ad a0), .ref (ad a1), .int a2] : List Value).toArray meth c cX4_act 4 none RX4 := sx_of B hml hv
  have hG := hv.1
  have hS : va_S (bA base) s.heap s.heap [] := va_S.rf
  have hE := xT.rf σ
  have hl := lv_entry ([.ref (ad a0), .ref (ad a1), .int a2]) (n := 4) (Nat.le_of_ble_eq_true rfl)
  rw [lg_entry_eq]
  generalize (lg_sl ([.ref (ad a0), .ref (ad a1), .int a2]) ++ List.replicate (4 - (lg_sl ([.ref (ad a0), .ref (ad a1), .int a2])).length) Slot.unset).toArray = ls at hl ⊢
  have hl : lv_has ls 4 [(0, .ref (ad a0)), (1, .ref (ad a1)), (2, .int a2)] := hl
  unfold F_X4_act at hF
  refine lv_iconst (v := 0) X.1 X.2.1 dX4_act_0 (by decide) ?_
  refine lv_istore_n (lv' := [(3, .int 0), (0, .ref (ad a0)), (1, .ref (ad a1)), (2, .int a2)]) X.1 X.2.1 dX4_act_1 rfl hl (by decide) rfl (fun ls hl => ?_)
  exact w_X4_act_2 X n  n a1 0 σ _ _ ls hT_a1 hG hS hE (lv_sub hl [2, 0] rfl) hF
theorem c_X10_act (l : Launch) (D : va_G) (cA : Nat → ClassId) (base : Nat) (ad : Nat → Nat) (σ : Hp) (n : Nat) (a0 : Nat) (a1 : Nat) (a2 : Int32) (hT_a0 : hT σ a0 100) (hT_a1 : hT σ a1 3) {τ : Hp} (hF : F_X10_act n a0 a1 a2 σ = some τ) : MV l yX10_act cX10_act 3 rm_X10_act D cA base ad σ [.ref (ad a0), .ref (ad a1), .int a2] τ := by
  refine Met.ofW (cc := cX10_act) (maxL := 3) (ret := none) (by decide) rfl ?_
  intro p e s m args below meth c s₁ B hml hv
  obtain ⟨rfl, hv⟩ := hv
  have X : SX D cA base p s m ([.ref (ad a0), .ref (ad a1), .int a2] : List Value).toArray meth c cX10_act 3 none RX10 := sx_of B hml hv
  have hG := hv.1
  have hS : va_S (bA base) s.heap s.heap [] := va_S.rf
  have hE := xT.rf σ
  have hl := lv_entry ([.ref (ad a0), .ref (ad a1), .int a2]) (n := 3) (Nat.le_of_ble_eq_true rfl)
  rw [lg_entry_eq]
  generalize (lg_sl ([.ref (ad a0), .ref (ad a1), .int a2]) ++ List.replicate (3 - (lg_sl ([.ref (ad a0), .ref (ad a1), .int a2])).length) Slot.unset).toArray = ls at hl ⊢
  have hl : lv_has ls 3 [(0, .ref (ad a0)), (1, .ref (ad a1)), (2, .int a2)] := hl
  unfold F_X10_act at hF
  exact gx_vret X hG hS hE hF dX10_act_0
theorem w_X7_act_40 {σ0 τ : Hp} (X : SX D cA base p s m args meth c cX7_act 3 none RX7) (n : Nat)  : ∀ (s0 : Int32) (s1 : Int32) (s2 : Nat) (σ : Hp) (H : Heap) (locs : List Loc) (ls : Array Slot), hT σ s2 13 → GW D cA base ad σ H → va_S (bA base) s.heap H locs → xT σ0 σ → lv_has ls 3 [] → F_X7_act_40 n  s0 s1 s2 σ = some τ → W p l e rm_X7_act s m args below meth c H locs 0 0 (ZV below s args D cA base ad σ0 τ) (F0 m 40 ls [.int s0, .int s1, .ref (ad s2)]) := by
  intro s0 s1 s2 σ H locs ls hT_s2 hG hS hE hl hF
  unfold F_X7_act_40 at hF
  obtain ⟨σ1, hz, hF⟩ := b1_ex hF
  refine gx_rV (gx_runSN (As := [.ref (ad s2), .int s1, .int s0]) (rest := []) X hG hS (c_X11_store l D cA base ad σ n s2 s1 s0 hT_s2 hz) k_173 q_599 k_172 k_1 (h_X11_store.2) rfl rfl ⟨by decide, by decide⟩ rfl hl.1 rfl (Nat.le_of_ble_eq_true rfl) dX7_act_40 ⟨Nat.zero_le _, Nat.zero_le _⟩) hS (fun H locs hG hS hX => ?_)
  replace hE := hE.trans hX
  exact gx_vret X hG hS hE hF dX7_act_43
theorem c_X7_act (l : Launch) (D : va_G) (cA : Nat → ClassId) (base : Nat) (ad : Nat → Nat) (σ : Hp) (n : Nat) (a0 : Nat) (a1 : Nat) (a2 : Int32) (hT_a0 : hT σ a0 7) (hT_a1 : hT σ a1 3) {τ : Hp} (hF : F_X7_act n a0 a1 a2 σ = some τ) : MV l yX7_act cX7_act 3 rm_X7_act D cA base ad σ [.ref (ad a0), .ref (ad a1), .int a2] τ := by
  refine Met.ofW (cc := cX7_act) (maxL := 3) (ret := none) (by decide) rfl ?_
  intro p e s m args below meth c s₁ B hml hv
  obtain ⟨rfl, hv⟩ := hv
  have X : SX D cA base p s m ([.ref (ad a0), .ref (ad a1), .int a2] : List Value).toArray meth c cX7_act 3 none RX7 := sx_of B hml hv
  have hG := hv.1
  have hS : va_S (bA base) s.heap s.heap [] := va_S.rf
  have hE := xT.rf σ
  have hl := lv_entry ([.ref (ad a0), .ref (ad a1), .int a2]) (n := 3) (Nat.le_of_ble_eq_true rfl)
  rw [lg_entry_eq]
  generalize (lg_sl ([.ref (ad a0), .ref (ad a1), .int a2]) ++ List.replicate (3 - (lg_sl ([.ref (ad a0), .ref (ad a1), .int a2])).length) Slot.unset).toArray = ls at hl ⊢
  have hl : lv_has ls 3 [(0, .ref (ad a0)), (1, .ref (ad a1)), (2, .int a2)] := hl
  unfold F_X7_act at hF
  refine lv_aload_n X.1 X.2.1 dX7_act_0 rfl (lv_at hl 1 rfl) ?_
  refine gx_getN 10 (v := .int (hI σ a1 10)) X hG hT_a1.1 (hT_a1.eq (by decide)) (by decide) rfl inX3 (by decide) q_61 (fun _ h => h) rfl dX7_act_1 ?_
  refine lv_aload_n X.1 X.2.1 dX7_act_4 rfl (lv_at hl 0 rfl) ?_
  refine gx_getT 5 (v := .int (hI σ a0 5)) X hG (hT_a0.to (by decide) rfl) (by decide) k_221 (fun x9 h9 => u_same (X.w k_222) x9 h9) rfl dX7_act_5 ?_
  refine lv_icmp_lt (tgt := 43) X.1 X.2.1 dX7_act_8 (by decide) (fun hc => ?_) (fun hc => ?_)
  · replace hF := it_t hF hc
    exact gx_vret X hG hS hE hF dX7_act_43
  · replace hF := it_f hF hc
    refine lv_aload_n X.1 X.2.1 dX7_act_11 rfl (lv_at hl 1 rfl) ?_
    refine lv_iload_n X.1 X.2.1 dX7_act_12 rfl (lv_at hl 2 rfl) ?_
    obtain ⟨r3, σ2, hz, hF⟩ := b2_ex hF
    refine gx_rI (gx_runV (As := [.int a2]) (rest := []) X hG hS hT_a1.1 (hT_a1.eq (by decide)) (by decide) rfl (c_X3_gaveIn l D cA base ad σ n a1 a2 hT_a1 hz) k_389 k_596 k_387 k_388 k_2 (h_X3_gaveIn) rfl rfl ⟨by decide, by decide⟩ rfl hl.1 rfl (Nat.le_of_ble_eq_true rfl) dX7_act_13 ⟨Nat.zero_le _, Nat.zero_le _⟩) hS (fun H locs hG hS hX => ?_)
    have hT_a0 := hX.T hT_a0
    have hT_a1 := hX.T hT_a1
    replace hE := hE.trans hX
    refine lv_if_ne (tgt := 43) X.1 X.2.1 dX7_act_16 (by decide) (fun hc => ?_) (fun hc => ?_)
    · replace hF := it_f hF hc
      exact gx_vret X hG hS hE hF dX7_act_43
    · replace hF := it_t hF hc
      refine lv_aload_n X.1 X.2.1 dX7_act_19 rfl (lv_at hl 1 rfl) ?_
      obtain ⟨i4, hr, hF⟩ := b1_ex hF
      have hT_i4 : hT σ2 i4 13 := gw_T hG hT_a1 (by decide) hr
      refine gx_getN 18 (v := .ref (ad i4)) X hG hT_a1.1 (hT_a1.eq (by decide)) (by decide) rfl inX3 (by decide) q_82 (fun _ h => h) (gx_rfv hr) dX7_act_20 ?_
      refine lv_iload_n X.1 X.2.1 dX7_act_23 rfl (lv_at hl 2 rfl) ?_
      refine lv_aload_n X.1 X.2.1 dX7_act_24 rfl (lv_at hl 1 rfl) ?_
      obtain ⟨r6, σ5, hz, hF⟩ := b2_ex hF
      refine gx_rI (gx_runV (As := []) (rest := [.int a2, .ref (ad i4)]) X hG hS hT_a1.1 (hT_a1.eq (by decide)) (by decide) rfl (c_X3_yes l D cA base ad σ2 n a1 hT_a1 hz) k_397 k_597 k_395 k_396 k_2 (h_X3_yes) rfl rfl ⟨by decide, by decide⟩ rfl hl.1 rfl (Nat.le_of_ble_eq_true rfl) dX7_act_25 ⟨Nat.zero_le _, Nat.zero_le _⟩) hS (fun H locs hG hS hX => ?_)
      have hT_a0 := hX.T hT_a0
      have hT_a1 := hX.T hT_a1
      have hT_i4 := hX.T hT_i4
      replace hE := hE.trans hX
      refine lv_aload_n X.1 X.2.1 dX7_act_28 rfl (lv_at hl 1 rfl) ?_
      obtain ⟨r8, σ7, hz, hF⟩ := b2_ex hF
      refine gx_rI (gx_runV (As := []) (rest := [.int r6, .int a2, .ref (ad i4)]) X hG hS hT_a1.1 (hT_a1.eq (by decide)) (by decide) rfl (c_X3_no l D cA base ad σ5 n a1 hT_a1 hz) k_407 k_598 k_405 k_406 k_2 (h_X3_no) rfl rfl ⟨by decide, by decide⟩ rfl hl.1 rfl (Nat.le_of_ble_eq_true rfl) dX7_act_29 ⟨Nat.zero_le _, Nat.zero_le _⟩) hS (fun H locs hG hS hX => ?_)
      have hT_a0 := hX.T hT_a0
      have hT_a1 := hX.T hT_a1
      have hT_i4 := hX.T hT_i4
      replace hE := hE.trans hX
      refine lv_icmp_lt (tgt := 39) X.1 X.2.1 dX7_act_32 (by decide) (fun hc => ?_) (fun hc => ?_)
      · replace hF := it_t hF hc
        refine lv_iconst (v := 0) X.1 X.2.1 dX7_act_39 (by decide) ?_
        exact w_X7_act_40 X n  0 a2 i4 σ7 _ _ ls hT_i4 hG hS hE (lv_sub hl [] rfl) hF
      · replace hF := it_f hF hc
        refine lv_iconst (v := 1) X.1 X.2.1 dX7_act_35 (by decide) ?_
        refine lv_goto (tgt := 40) X.1 X.2.1 dX7_act_36 (by decide) ?_
        exact w_X7_act_40 X n  1 a2 i4 σ7 _ _ ls hT_i4 hG hS hE (lv_sub hl [] rfl) hF
theorem w_X3_loudestNotShared_72 {σ0 τ : Hp} {r : Int32} (X : SX D cA base p s m args meth c cX3_loudestNotShared 7 (some .int) RX3) (n : Nat) (K_25 : Nat → Int32 → Int32 → Int32 → Int32 → Hp → Option (Int32 × Hp)) (hK_25 : ∀ (v0 : Nat) (v2 : Int32) (v3 : Int32) (v4 : Int32) (v5 : Int32) (σ : Hp) (H : Heap) (locs : List Loc) (ls : Array Slot), hT σ v0 3 → GW D cA base ad σ H → va_S (bA base) s.heap H locs → xT σ0 σ → lv_has ls 7 [(0, .ref (ad v0)), (2, .int v2), (3, .int v3), (4, .int v4), (5, .int v5)] → K_25 v0 v2 v3 v4 v5 σ = some (r, τ) → W p l e rm_X3_loudestNotShared s m args below meth c H locs 0 0 (ZI below s args D cA base ad σ0 r τ) (F0 m 25 ls [])) : ∀ (v0 : Nat) (v2 : Int32) (v3 : Int32) (v4 : Int32) (v5 : Int32) (σ : Hp) (H : Heap) (locs : List Loc) (ls : Array Slot), hT σ v0 3 → GW D cA base ad σ H → va_S (bA base) s.heap H locs → xT σ0 σ → lv_has ls 7 [(0, .ref (ad v0)), (2, .int v2), (3, .int v3), (4, .int v4), (5, .int v5)] → F_X3_loudestNotShared_72 n K_25 v0 v2 v3 v4 v5 σ = some (r, τ) → W p l e rm_X3_loudestNotShared s m args below meth c H locs 0 0 (ZI below s args D cA base ad σ0 r τ) (F0 m 72 ls []) := by
  intro v0 v2 v3 v4 v5 σ H locs ls hT_v0 hG hS hE hl hF
  unfold F_X3_loudestNotShared_72 at hF
  refine lv_iinc (v := v5 + 1) (lv' := [(5, .int (v5 + 1)), (0, .ref (ad v0)), (2, .int v2), (3, .int v3), (4, .int v4)]) X.1 X.2.1 dX3_loudestNotShared_72 hl (k := 4) rfl rfl (by decide) rfl (fun ls hl => ?_)
  refine lv_goto (tgt := 25) X.1 X.2.1 dX3_loudestNotShared_75 (by decide) ?_
  exact hK_25 v0 v2 v3 v4 (v5 + 1) σ _ _ ls hT_v0 hG hS hE (lv_sub hl [1, 2, 3, 4, 0] rfl) hF
theorem w_X3_loudestNotShared_25 {σ0 τ : Hp} {r : Int32} (X : SX D cA base p s m args meth c cX3_loudestNotShared 7 (some .int) RX3) (n : Nat)  : ∀ f : Nat, ∀ (v0 : Nat) (v2 : Int32) (v3 : Int32) (v4 : Int32) (v5 : Int32) (σ : Hp) (H : Heap) (locs : List Loc) (ls : Array Slot), hT σ v0 3 → GW D cA base ad σ H → va_S (bA base) s.heap H locs → xT σ0 σ → lv_has ls 7 [(0, .ref (ad v0)), (2, .int v2), (3, .int v3), (4, .int v4), (5, .int v5)] → F_X3_loudestNotShared_25 n  f v0 v2 v3 v4 v5 σ = some (r, τ) → W p l e rm_X3_loudestNotShared s m args below meth c H locs 0 0 (ZI below s args D cA base ad σ0 r τ) (F0 m 25 ls []) := by
  intro f
  induction f with
  | zero => intro v0 v2 v3 v4 v5 σ H locs ls h0 hG hS hE hl hF
            rw [F_X3_loudestNotShared_25] at hF; cases hF
  | succ f ih =>
    intro v0 v2 v3 v4 v5 σ H locs ls hT_v0 hG hS hE hl hF
    rw [F_X3_loudestNotShared_25] at hF
    refine lv_iload X.1 X.2.1 dX3_loudestNotShared_25 (lv_at hl 4 rfl) ?_
    refine lv_aload_n X.1 X.2.1 dX3_loudestNotShared_27 rfl (lv_at hl 0 rfl) ?_
    refine gx_get 0 (v := .int (hI σ v0 0)) X hG hT_v0.1 (hT_v0.eq (by decide)) (by decide) rfl inX3 (by decide) k_41 (fun _ h => h) rfl dX3_loudestNotShared_28 ?_
    refine lv_icmp_ge (tgt := 78) X.1 X.2.1 dX3_loudestNotShared_31 (by decide) (fun hc => ?_) (fun hc => ?_)
    · replace hF := it_t hF hc
      refine lv_iload_n X.1 X.2.1 dX3_loudestNotShared_78 rfl (lv_at hl 2 rfl) ?_
      exact gx_iret X hG hS hE hF dX3_loudestNotShared_79
    · replace hF := it_f hF hc
      refine lv_aload_n X.1 X.2.1 dX3_loudestNotShared_34 rfl (lv_at hl 0 rfl) ?_
      obtain ⟨i1, hr, hF⟩ := b1_ex hF
      have hT_i1 : hT σ i1 13 := gw_T hG hT_v0 (by decide) hr
      refine gx_get 1 (v := .ref (ad i1)) X hG hT_v0.1 (hT_v0.eq (by decide)) (by decide) rfl inX3 (by decide) k_42 (fun _ h => h) (gx_rfv hr) dX3_loudestNotShared_35 ?_
      refine lv_iload X.1 X.2.1 dX3_loudestNotShared_38 (lv_at hl 4 rfl) ?_
      obtain ⟨r3, σ2, hz, hF⟩ := b2_ex hF
      refine gx_rI (gx_runSN (As := [.ref (ad i1), .int v5]) (rest := []) X hG hS (c_X11_at l D cA base ad σ n i1 v5 hT_i1 hz) k_362 q_360 k_361 k_1 (h_X11_at.2) rfl rfl ⟨by decide, by decide⟩ rfl hl.1 rfl (Nat.le_of_ble_eq_true rfl) dX3_loudestNotShared_40 ⟨Nat.zero_le _, Nat.zero_le _⟩) hS (fun H locs hG hS hX => ?_)
      have hT_v0 := hX.T hT_v0
      replace hE := hE.trans hX
      refine va_mabs X.1 X.2.1 (by rw [X.2.2.1]; exact hl.1.symm) X.2.2.2.2.2.1 (X.w k_610) (X.w k_611) (X.w k_15) (X.w k_612) (Nat.le_of_ble_eq_true rfl) (Nat.le_of_ble_eq_true rfl) (Nat.zero_le _) (Nat.zero_le _) dX3_loudestNotShared_43 ?_
      refine lv_topi (fun x4 ex4 => ?_)
      replace hF := lt_nm hF ex4
      refine lv_istore (lv' := [(6, .int x4), (0, .ref (ad v0)), (2, .int v2), (3, .int v3), (4, .int v4), (5, .int v5)]) X.1 X.2.1 dX3_loudestNotShared_46 hl (by decide) rfl (fun ls hl => ?_)
      refine lv_iload_n X.1 X.2.1 dX3_loudestNotShared_48 rfl (lv_at hl 2 rfl) ?_
      refine lv_iload X.1 X.2.1 dX3_loudestNotShared_49 (lv_at hl 5 rfl) ?_
      refine lv_ishr X.1 X.2.1 dX3_loudestNotShared_51 ?_
      refine lv_iconst (v := 1) X.1 X.2.1 dX3_loudestNotShared_52 (by decide) ?_
      refine lv_iand X.1 X.2.1 dX3_loudestNotShared_53 ?_
      refine lv_iconst (v := 1) X.1 X.2.1 dX3_loudestNotShared_54 (by decide) ?_
      refine lv_icmp_ne (tgt := 72) X.1 X.2.1 dX3_loudestNotShared_55 (by decide) (fun hc => ?_) (fun hc => ?_)
      · replace hF := it_f hF hc
        exact w_X3_loudestNotShared_72 X n (F_X3_loudestNotShared_25 n  f) ih v0 v2 v3 v4 v5 σ2 _ _ ls hT_v0 hG hS hE (lv_sub hl [1, 2, 3, 4, 5] rfl) hF
      · replace hF := it_t hF hc
        refine lv_iload X.1 X.2.1 dX3_loudestNotShared_58 (lv_at hl 0 rfl) ?_
        refine lv_iload X.1 X.2.1 dX3_loudestNotShared_60 (lv_at hl 4 rfl) ?_
        refine lv_icmp_le (tgt := 72) X.1 X.2.1 dX3_loudestNotShared_62 (by decide) (fun hc => ?_) (fun hc => ?_)
        · replace hF := it_t hF hc
          exact w_X3_loudestNotShared_72 X n (F_X3_loudestNotShared_25 n  f) ih v0 v2 v3 v4 v5 σ2 _ _ ls hT_v0 hG hS hE (lv_sub hl [1, 2, 3, 4, 5] rfl) hF
        · replace hF := it_f hF hc
          refine lv_iload X.1 X.2.1 dX3_loudestNotShared_65 (lv_at hl 5 rfl) ?_
          refine lv_istore_n (lv' := [(3, .int v5), (6, .int x4), (0, .ref (ad v0)), (2, .int v2), (4, .int v4), (5, .int v5)]) X.1 X.2.1 dX3_loudestNotShared_67 rfl hl (by decide) rfl (fun ls hl => ?_)
          refine lv_iload X.1 X.2.1 dX3_loudestNotShared_68 (lv_at hl 1 rfl) ?_
          refine lv_istore (lv' := [(4, .int x4), (3, .int v5), (6, .int x4), (0, .ref (ad v0)), (2, .int v2), (5, .int v5)]) X.1 X.2.1 dX3_loudestNotShared_70 hl (by decide) rfl (fun ls hl => ?_)
          exact w_X3_loudestNotShared_72 X n (F_X3_loudestNotShared_25 n  f) ih v0 v2 v5 x4 v5 σ2 _ _ ls hT_v0 hG hS hE (lv_sub hl [3, 4, 1, 0, 5] rfl) hF
theorem c_X3_loudestNotShared (l : Launch) (D : va_G) (cA : Nat → ClassId) (base : Nat) (ad : Nat → Nat) (σ : Hp) (n : Nat) (a0 : Nat) (a1 : Int32) (hT_a0 : hT σ a0 3) {τ : Hp} {r : Int32} (hF : F_X3_loudestNotShared n a0 a1 σ = some (r, τ)) : MI l yX3_loudestNotShared cX3_loudestNotShared 7 (some .int) rm_X3_loudestNotShared D cA base ad σ [.ref (ad a0), .int a1] r τ := by
  refine Met.ofW (cc := cX3_loudestNotShared) (maxL := 7) (ret := (some .int)) (by decide) rfl ?_
  intro p e s m args below meth c s₁ B hml hv
  obtain ⟨rfl, hv⟩ := hv
  have X : SX D cA base p s m ([.ref (ad a0), .int a1] : List Value).toArray meth c cX3_loudestNotShared 7 (some .int) RX3 := sx_of B hml hv
  have hG := hv.1
  have hS : va_S (bA base) s.heap s.heap [] := va_S.rf
  have hE := xT.rf σ
  have hl := lv_entry ([.ref (ad a0), .int a1]) (n := 7) (Nat.le_of_ble_eq_true rfl)
  rw [lg_entry_eq]
  generalize (lg_sl ([.ref (ad a0), .int a1]) ++ List.replicate (7 - (lg_sl ([.ref (ad a0), .int a1])).length) Slot.unset).toArray = ls at hl ⊢
  have hl : lv_has ls 7 [(0, .ref (ad a0)), (1, .int a1)] := hl
  unfold F_X3_loudestNotShared at hF
  refine lv_aload_n X.1 X.2.1 dX3_loudestNotShared_0 rfl (lv_at hl 0 rfl) ?_
  obtain ⟨i5, hr, hF⟩ := b1_ex hF
  have hT_i5 : hT σ i5 13 := gw_T hG hT_a0 (by decide) hr
  refine gx_get 15 (v := .ref (ad i5)) X hG hT_a0.1 (hT_a0.eq (by decide)) (by decide) rfl inX3 (by decide) k_74 (fun _ h => h) (gx_rfv hr) dX3_loudestNotShared_1 ?_
  refine lv_iload_n X.1 X.2.1 dX3_loudestNotShared_4 rfl (lv_at hl 1 rfl) ?_
  obtain ⟨r7, σ6, hz, hF⟩ := b2_ex hF
  refine gx_rI (gx_runSN (As := [.ref (ad i5), .int a1]) (rest := []) X hG hS (c_X11_at l D cA base ad σ n i5 a1 hT_i5 hz) k_362 q_360 k_361 k_1 (h_X11_at.2) rfl rfl ⟨by decide, by decide⟩ rfl hl.1 rfl (Nat.le_of_ble_eq_true rfl) dX3_loudestNotShared_5 ⟨Nat.zero_le _, Nat.zero_le _⟩) hS (fun H locs hG hS hX => ?_)
  have hT_a0 := hX.T hT_a0
  replace hE := hE.trans hX
  refine lv_aload_n X.1 X.2.1 dX3_loudestNotShared_8 rfl (lv_at hl 0 rfl) ?_
  refine gx_get 14 (v := .int (hI σ6 a0 14)) X hG hT_a0.1 (hT_a0.eq (by decide)) (by decide) rfl inX3 (by decide) k_73 (fun _ h => h) rfl dX3_loudestNotShared_9 ?_
  refine lv_iconst (v := (-1)) X.1 X.2.1 dX3_loudestNotShared_12 (by decide) ?_
  refine lv_ixor X.1 X.2.1 dX3_loudestNotShared_13 ?_
  refine lv_iand X.1 X.2.1 dX3_loudestNotShared_14 ?_
  refine lv_istore_n (lv' := [(2, .int (r7 &&& ((hI σ6 a0 14) ^^^ (-1)))), (0, .ref (ad a0)), (1, .int a1)]) X.1 X.2.1 dX3_loudestNotShared_15 rfl hl (by decide) rfl (fun ls hl => ?_)
  refine lv_bipush (v := (-4)) X.1 X.2.1 dX3_loudestNotShared_16 (by decide) ?_
  refine lv_istore_n (lv' := [(3, .int (-4)), (2, .int (r7 &&& ((hI σ6 a0 14) ^^^ (-1)))), (0, .ref (ad a0)), (1, .int a1)]) X.1 X.2.1 dX3_loudestNotShared_18 rfl hl (by decide) rfl (fun ls hl => ?_)
  refine lv_iconst (v := (-1)) X.1 X.2.1 dX3_loudestNotShared_19 (by decide) ?_
  refine lv_istore (lv' := [(4, .int (-1)), (3, .int (-4)), (2, .int (r7 &&& ((hI σ6 a0 14) ^^^ (-1)))), (0, .ref (ad a0)), (1, .int a1)]) X.1 X.2.1 dX3_loudestNotShared_20 hl (by decide) rfl (fun ls hl => ?_)
  refine lv_iconst (v := 0) X.1 X.2.1 dX3_loudestNotShared_22 (by decide) ?_
  refine lv_istore (lv' := [(5, .int 0), (4, .int (-1)), (3, .int (-4)), (2, .int (r7 &&& ((hI σ6 a0 14) ^^^ (-1)))), (0, .ref (ad a0)), (1, .int a1)]) X.1 X.2.1 dX3_loudestNotShared_23 hl (by decide) rfl (fun ls hl => ?_)
  exact w_X3_loudestNotShared_25 X n  n a0 (r7 &&& ((hI σ6 a0 14) ^^^ (-1))) (-4) (-1) 0 σ6 _ _ ls hT_a0 hG hS hE (lv_sub hl [4, 3, 2, 1, 0] rfl) hF
end W_class6
