/-! class7: printed by wip/whole/gen.py -/
section W_class7
variable {p : Program} {l : Launch} {e : Env} {s : State} {m : MethodId} {args : Array Value} {below : List Frame} {meth : Method} {c : Code} {D : va_G} {cA : Nat → ClassId} {base : Nat} {ad : Nat → Nat}
abbrev rm_X3_giveToAll : Room := { frames := 1, cells := 0, slots := 0, locals := 22 }
theorem h_X3_giveToAll : yX3_giveToAll.cls = RX3 ∧ yX3_giveToAll.cls ≠ "java/lang/invoke/MethodHandle" ∧ yX3_giveToAll.cls ≠ "java/lang/invoke/VarHandle" ∧ (parseMethodDescriptor yX3_giveToAll.desc).map (fun d => d.parameters.length) = some 1 := by decide +kernel
def F_X3_giveToAll_71 (n : Nat)  (v0 : Nat) (v1 : Int32) (σ : Hp) : Option Hp := lt (pI σ v0 14 ((hI σ v0 14) ||| (1 <<< (v1 &&& 31)))) fun (σ1 : Hp) => some σ1
def F_X3_giveToAll_65 (n : Nat) (K_2 : Nat → Int32 → Int32 → Hp → Option Hp) (v0 : Nat) (v1 : Int32) (v2 : Int32) (σ : Hp) : Option Hp := K_2 v0 v1 (v2 + 1) σ
def F_X3_giveToAll_2 (n : Nat)  : Nat → Nat → Int32 → Int32 → Hp → Option Hp
  | 0, _, _, _, _ => none
  | f + 1, v0, v1, v2, σ => if (hI σ v0 2) ≤ v2 then (F_X3_giveToAll_71 n  v0 v1 σ) else (b1 (hR σ v0 15) fun (i2 : Nat) => b2 (F_X11_at n i2 v2 σ) fun (r4 : Int32) (σ3 : Hp) => if ((r4 >>> (v1 &&& 31)) &&& 1) = 0 then (b1 (hR σ3 v0 15) fun (i5 : Nat) => b1 (F_X11_store n i5 v2 (r4 ||| (1 <<< (v1 &&& 31))) σ3) fun (σ6 : Hp) => b1 (hR σ6 v0 16) fun (i7 : Nat) => b1 (hR σ6 v0 16) fun (i8 : Nat) => b2 (F_X11_at n i8 v2 σ6) fun (r10 : Int32) (σ9 : Hp) => b1 (hR σ9 v0 1) fun (i11 : Nat) => b2 (F_X11_at n i11 v1 σ9) fun (r13 : Int32) (σ12 : Hp) => b1 (F_X11_store n i7 v2 (r10 + r13) σ12) fun (σ14 : Hp) => F_X3_giveToAll_65 n (F_X3_giveToAll_2 n  f) v0 v1 v2 σ14) else (F_X3_giveToAll_65 n (F_X3_giveToAll_2 n  f) v0 v1 v2 σ3))
def F_X3_giveToAll (n : Nat) (a0 : Nat) (a1 : Int32) (σ : Hp) : Option Hp := F_X3_giveToAll_2 n  n a0 a1 0 σ
abbrev rm_X9_act : Room := { frames := 2, cells := 0, slots := 0, locals := 50 }
theorem h_X9_act : yX9_act.cls = RX9 ∧ yX9_act.cls ≠ "java/lang/invoke/MethodHandle" ∧ yX9_act.cls ≠ "java/lang/invoke/VarHandle" ∧ (parseMethodDescriptor yX9_act.desc).map (fun d => d.parameters.length) = some 2 := by decide +kernel
def F_X9_act (n : Nat) (a0 : Nat) (a1 : Nat) (a2 : Int32) (σ : Hp) : Option Hp := b2 (F_X3_loudestNotShared n a1 a2 σ) fun (r2 : Int32) (σ1 : Hp) => if r2 < 0 then (some σ1) else (b1 (F_X3_giveToAll n a1 r2 σ1) fun (σ3 : Hp) => some σ3)
abbrev rm_X8_act : Room := { frames := 3, cells := 0, slots := 0, locals := 79 }
theorem h_X8_act : yX8_act.cls = RX8 ∧ yX8_act.cls ≠ "java/lang/invoke/MethodHandle" ∧ yX8_act.cls ≠ "java/lang/invoke/VarHandle" ∧ (parseMethodDescriptor yX8_act.desc).map (fun d => d.parameters.length) = some 2 := by decide +kernel
def F_X8_act_113 (n : Nat) (K_40 : Nat → Int32 → Int32 → Int32 → Int32 → Hp → Option Hp) (v1 : Nat) (v3 : Int32) (v4 : Int32) (v5 : Int32) (v6 : Int32) (σ : Hp) : Option Hp := K_40 v1 v3 v4 v5 (v6 + 1) σ
def F_X8_act_85 (n : Nat) (K_40 : Nat → Int32 → Int32 → Int32 → Int32 → Hp → Option Hp) (v1 : Nat) (v3 : Int32) (v4 : Int32) (v5 : Int32) (v6 : Int32) (s0 : Int64) (σ : Hp) : Option Hp := if (lg_cmp s0 (-5)) ≤ 0 then (F_X8_act_113 n K_40 v1 v3 v4 v5 v6 σ) else (if 0 ≤ (lg_cmp s0 5) then (F_X8_act_113 n K_40 v1 v3 v4 v5 v6 σ) else (b1 (F_X3_push n v1 v6 v5 σ) fun (σ1 : Hp) => F_X8_act_113 n K_40 v1 v3 v4 v5 v6 σ1))
def F_X8_act_40 (n : Nat)  : Nat → Nat → Int32 → Int32 → Int32 → Int32 → Hp → Option Hp
  | 0, _, _, _, _, _, _ => none
  | f + 1, v1, v3, v4, v5, v6, σ => if (hI σ v1 2) ≤ v6 then (some σ) else (b2 (F_X3_turnAt n v1 v6 σ) fun (r3 : Option Nat) (σ2 : Hp) => om r3 (F_X8_act_85 n (F_X8_act_40 n  f) v1 v3 v4 v5 v6 5 σ2) (fun i4 => b2 (F_X3_leaning n v1 v6 v3 v4 σ2) fun (r6 : Int32) (σ5 : Hp) => F_X8_act_85 n (F_X8_act_40 n  f) v1 v3 v4 v5 v6 (r6.toInt64 - ((hI σ5 i4 4).toInt64)) σ5))
def F_X8_act_35 (n : Nat)  (v1 : Nat) (v3 : Int32) (v4 : Int32) (s0 : Int32) (σ : Hp) : Option Hp := F_X8_act_40 n  n v1 v3 v4 s0 0 σ
def F_X8_act (n : Nat) (a0 : Nat) (a1 : Nat) (a2 : Int32) (σ : Hp) : Option Hp := b1 (F_X9_act n a0 a1 a2 σ) fun (σ7 : Hp) => b2 (F_X3_yes n a1 σ7) fun (r9 : Int32) (σ8 : Hp) => b2 (F_X3_no n a1 σ8) fun (r11 : Int32) (σ10 : Hp) => if (((hI σ10 a1 12) >>> (a2 &&& 31)) &&& 1) = 1 then (F_X8_act_35 n  a1 r9 r11 2 σ10) else (F_X8_act_35 n  a1 r9 r11 (-2) σ10)
def F_D_act (n : Nat) (i a1 : Nat) (a2 : Int32) (σ : Hp) : Option Hp := if hK σ i = 0 then F_X0_act n i a1 a2 σ else if hK σ i = 2 then F_X2_act n i a1 a2 σ else if hK σ i = 4 then F_X4_act n i a1 a2 σ else if hK σ i = 6 then F_X10_act n i a1 a2 σ else if hK σ i = 7 then F_X7_act n i a1 a2 σ else if hK σ i = 8 then F_X8_act n i a1 a2 σ else if hK σ i = 9 then F_X9_act n i a1 a2 σ else F_X10_act n i a1 a2 σ
abbrev rm_X3_takeSlips : Room := { frames := 3, cells := 0, slots := 0, locals := 79 }
theorem h_X3_takeSlips : yX3_takeSlips.cls = RX3 ∧ yX3_takeSlips.cls ≠ "java/lang/invoke/MethodHandle" ∧ yX3_takeSlips.cls ≠ "java/lang/invoke/VarHandle" ∧ (parseMethodDescriptor yX3_takeSlips.desc).map (fun d => d.parameters.length) = some 0 := by decide +kernel
def F_X3_takeSlips_107 (n : Nat)  (v0 : Nat) (v3 : Int32) (σ : Hp) : Option Hp := lt (pI σ v0 12 v3) fun (σ1 : Hp) => some σ1
def F_X3_takeSlips_101 (n : Nat) (K_15 : Nat → Int32 → Int32 → Int32 → Int32 → Hp → Option Hp) (v0 : Nat) (v1 : Int32) (v2 : Int32) (v3 : Int32) (v4 : Int32) (σ : Hp) : Option Hp := K_15 v0 v1 v2 v3 (v4 + 1) σ
def F_X3_takeSlips_89 (n : Nat) (K_15 : Nat → Int32 → Int32 → Int32 → Int32 → Hp → Option Hp) (v0 : Nat) (v1 : Int32) (v2 : Int32) (v3 : Int32) (v4 : Int32) (v6 : Int32) (σ : Hp) : Option Hp := if v6 = 0 then (F_X3_takeSlips_101 n K_15 v0 v1 v2 v3 v4 σ) else (F_X3_takeSlips_101 n K_15 v0 v1 v2 (v3 ||| (1 <<< (v4 &&& 31))) v4 σ)
def F_X3_takeSlips_87 (n : Nat) (K_15 : Nat → Int32 → Int32 → Int32 → Int32 → Hp → Option Hp) (v0 : Nat) (v1 : Int32) (v2 : Int32) (v3 : Int32) (v4 : Int32) (s0 : Int32) (σ : Hp) : Option Hp := F_X3_takeSlips_89 n K_15 v0 v1 v2 v3 v4 s0 σ
def F_X3_takeSlips_58 (n : Nat) (K_15 : Nat → Int32 → Int32 → Int32 → Int32 → Hp → Option Hp) (v0 : Nat) (v1 : Int32) (v2 : Int32) (v3 : Int32) (v4 : Int32) (s0 : Int32) (σ : Hp) : Option Hp := b2 (F_X3_gaveIn n v0 v4 σ) fun (r3 : Int32) (σ2 : Hp) => if r3 = 0 then (F_X3_takeSlips_89 n K_15 v0 v1 v2 v3 v4 s0 σ2) else (b1 (hR σ2 v0 18) fun (i4 : Nat) => b2 (F_X11_at n i4 v4 σ2) fun (r6 : Int32) (σ5 : Hp) => if r6 = 1 then (F_X3_takeSlips_87 n K_15 v0 v1 v2 v3 v4 1 σ5) else (F_X3_takeSlips_87 n K_15 v0 v1 v2 v3 v4 0 σ5))
def F_X3_takeSlips_57 (n : Nat) (K_15 : Nat → Int32 → Int32 → Int32 → Int32 → Hp → Option Hp) (v0 : Nat) (v1 : Int32) (v2 : Int32) (v3 : Int32) (v4 : Int32) (σ : Hp) : Option Hp := F_X3_takeSlips_58 n K_15 v0 v1 v2 v3 v4 0 σ
def F_X3_takeSlips_15 (n : Nat)  : Nat → Nat → Int32 → Int32 → Int32 → Int32 → Hp → Option Hp
  | 0, _, _, _, _, _, _ => none
  | f + 1, v0, v1, v2, v3, v4, σ => if (hI σ v0 2) ≤ v4 then (F_X3_takeSlips_107 n  v0 v3 σ) else (b2 (F_X3_turnAt n v0 v4 σ) fun (r8 : Option Nat) (σ7 : Hp) => om r8 (F_X3_takeSlips_57 n (F_X3_takeSlips_15 n  f) v0 v1 v2 v3 v4 σ7) (fun i9 => b2 (F_X3_leaning n v0 v4 v1 v2 σ7) fun (r11 : Int32) (σ10 : Hp) => if r11 < (hI σ10 i9 4) then (F_X3_takeSlips_57 n (F_X3_takeSlips_15 n  f) v0 v1 v2 v3 v4 σ10) else (F_X3_takeSlips_58 n (F_X3_takeSlips_15 n  f) v0 v1 v2 v3 v4 1 σ10)))
def F_X3_takeSlips (n : Nat) (a0 : Nat) (σ : Hp) : Option Hp := b2 (F_X3_yes n a0 σ) fun (r13 : Int32) (σ12 : Hp) => b2 (F_X3_no n a0 σ12) fun (r15 : Int32) (σ14 : Hp) => F_X3_takeSlips_15 n  n a0 r13 r15 0 0 σ14
abbrev rm_X3_step : Room := { frames := 4, cells := 0, slots := 0, locals := 108 }
theorem h_X3_step : yX3_step.cls = RX3 ∧ yX3_step.cls ≠ "java/lang/invoke/MethodHandle" ∧ yX3_step.cls ≠ "java/lang/invoke/VarHandle" ∧ (parseMethodDescriptor yX3_step.desc).map (fun d => d.parameters.length) = some 0 := by decide +kernel
def F_X3_step_38 (n : Nat)  (v0 : Nat) (σ : Hp) : Option Hp := lt (pI σ v0 11 ((hI σ v0 11) + 1)) fun (σ1 : Hp) => b1 (F_X3_takeSlips n v0 σ1) fun (σ2 : Hp) => some σ2
def F_X3_step (n : Nat) (a0 : Nat) (σ : Hp) : Option Hp := b2 (F_X3_seatFromLeader n a0 (hI σ a0 11) σ) fun (r4 : Int32) (σ3 : Hp) => b2 (F_X3_turnAt n a0 r4 σ3) fun (r6 : Option Nat) (σ5 : Hp) => om r6 (F_X3_step_38 n  a0 σ5) (fun i7 => b1 (F_D_act n i7 a0 r4 σ5) fun (σ8 : Hp) => lt (pI σ8 a0 10 ((hI σ8 a0 10) + (hI σ8 i7 3))) fun (σ9 : Hp) => F_X3_step_38 n  a0 σ9)
theorem w_X3_giveToAll_71 {σ0 τ : Hp} (X : SX D cA base p s m args meth c cX3_giveToAll 4 none RX3) (n : Nat)  : ∀ (v0 : Nat) (v1 : Int32) (σ : Hp) (H : Heap) (locs : List Loc) (ls : Array Slot), hT σ v0 3 → GW D cA base ad σ H → va_S (bA base) s.heap H locs → xT σ0 σ → lv_has ls 4 [(0, .ref (ad v0)), (1, .int v1)] → F_X3_giveToAll_71 n  v0 v1 σ = some τ → W p l e rm_X3_giveToAll s m args below meth c H locs 0 0 (ZV below s args D cA base ad σ0 τ) (F0 m 71 ls []) := by
  intro v0 v1 σ H locs ls hT_v0 hG hS hE hl hF
  unfold F_X3_giveToAll_71 at hF
  refine lv_aload_n X.1 X.2.1 dX3_giveToAll_71 rfl (lv_at hl 0 rfl) ?_
  refine lv_dup X.1 X.2.1 dX3_giveToAll_72 rfl ?_
  refine gx_get 14 (v := .int (hI σ v0 14)) X hG hT_v0.1 (hT_v0.eq (by decide)) (by decide) rfl inX3 (by decide) k_73 (fun _ h => h) rfl dX3_giveToAll_73 ?_
  refine lv_iconst (v := 1) X.1 X.2.1 dX3_giveToAll_76 (by decide) ?_
  refine lv_iload_n X.1 X.2.1 dX3_giveToAll_77 rfl (lv_at hl 1 rfl) ?_
  refine lv_ishl X.1 X.2.1 dX3_giveToAll_78 ?_
  refine lv_ior X.1 X.2.1 dX3_giveToAll_79 ?_
  refine gx_putI 14  X hG hS hT_v0.1 (hT_v0.eq (by decide)) (by decide) rfl inX3 tyX3_ok nmX3 (by decide) k_73 (fun _ h => h) rfl rfl rfl rfl (Nat.le_of_ble_eq_true rfl) dX3_giveToAll_80 hF (fun σ1 H locs hG hS hX hF => ?_)
  have hT_v0 := hX.T hT_v0
  replace hE := hE.trans hX
  exact gx_vret X hG hS hE hF dX3_giveToAll_83
theorem w_X3_giveToAll_65 {σ0 τ : Hp} (X : SX D cA base p s m args meth c cX3_giveToAll 4 none RX3) (n : Nat) (K_2 : Nat → Int32 → Int32 → Hp → Option Hp) (hK_2 : ∀ (v0 : Nat) (v1 : Int32) (v2 : Int32) (σ : Hp) (H : Heap) (locs : List Loc) (ls : Array Slot), hT σ v0 3 → GW D cA base ad σ H → va_S (bA base) s.heap H locs → xT σ0 σ → lv_has ls 4 [(0, .ref (ad v0)), (1, .int v1), (2, .int v2)] → K_2 v0 v1 v2 σ = some τ → W p l e rm_X3_giveToAll s m args below meth c H locs 0 0 (ZV below s args D cA base ad σ0 τ) (F0 m 2 ls [])) : ∀ (v0 : Nat) (v1 : Int32) (v2 : Int32) (σ : Hp) (H : Heap) (locs : List Loc) (ls : Array Slot), hT σ v0 3 → GW D cA base ad σ H → va_S (bA base) s.heap H locs → xT σ0 σ → lv_has ls 4 [(0, .ref (ad v0)), (1, .int v1), (2, .int v2)] → F_X3_giveToAll_65 n K_2 v0 v1 v2 σ = some τ → W p l e rm_X3_giveToAll s m args below meth c H locs 0 0 (ZV below s args D cA base ad σ0 τ) (F0 m 65 ls []) := by
  intro v0 v1 v2 σ H locs ls hT_v0 hG hS hE hl hF
  unfold F_X3_giveToAll_65 at hF
  refine lv_iinc (v := v2 + 1) (lv' := [(2, .int (v2 + 1)), (0, .ref (ad v0)), (1, .int v1)]) X.1 X.2.1 dX3_giveToAll_65 hl (k := 2) rfl rfl (by decide) rfl (fun ls hl => ?_)
  refine lv_goto (tgt := 2) X.1 X.2.1 dX3_giveToAll_68 (by decide) ?_
  exact hK_2 v0 v1 (v2 + 1) σ _ _ ls hT_v0 hG hS hE (lv_sub hl [1, 2, 0] rfl) hF
theorem w_X3_giveToAll_2 {σ0 τ : Hp} (X : SX D cA base p s m args meth c cX3_giveToAll 4 none RX3) (n : Nat)  : ∀ f : Nat, ∀ (v0 : Nat) (v1 : Int32) (v2 : Int32) (σ : Hp) (H : Heap) (locs : List Loc) (ls : Array Slot), hT σ v0 3 → GW D cA base ad σ H → va_S (bA base) s.heap H locs → xT σ0 σ → lv_has ls 4 [(0, .ref (ad v0)), (1, .int v1), (2, .int v2)] → F_X3_giveToAll_2 n  f v0 v1 v2 σ = some τ → W p l e rm_X3_giveToAll s m args below meth c H locs 0 0 (ZV below s args D cA base ad σ0 τ) (F0 m 2 ls []) := by
  intro f
  induction f with
  | zero => intro v0 v1 v2 σ H locs ls h0 hG hS hE hl hF
            rw [F_X3_giveToAll_2] at hF; cases hF
  | succ f ih =>
    intro v0 v1 v2 σ H locs ls hT_v0 hG hS hE hl hF
    rw [F_X3_giveToAll_2] at hF
    refine lv_iload_n X.1 X.2.1 dX3_giveToAll_2 rfl (lv_at hl 2 rfl) ?_
    refine lv_aload_n X.1 X.2.1 dX3_giveToAll_3 rfl (lv_at hl 0 rfl) ?_
    refine gx_get 2 (v := .int (hI σ v0 2)) X hG hT_v0.1 (hT_v0.eq (by decide)) (by decide) rfl inX3 (by decide) k_45 (fun _ h => h) rfl dX3_giveToAll_4 ?_
    refine lv_icmp_ge (tgt := 71) X.1 X.2.1 dX3_giveToAll_7 (by decide) (fun hc => ?_) (fun hc => ?_)
    · replace hF := it_t hF hc
      exact w_X3_giveToAll_71 X n  v0 v1 σ _ _ ls hT_v0 hG hS hE (lv_sub hl [0, 1] rfl) hF
    · replace hF := it_f hF hc
      refine lv_aload_n X.1 X.2.1 dX3_giveToAll_10 rfl (lv_at hl 0 rfl) ?_
      obtain ⟨i2, hr, hF⟩ := b1_ex hF
      have hT_i2 : hT σ i2 13 := gw_T hG hT_v0 (by decide) hr
      refine gx_get 15 (v := .ref (ad i2)) X hG hT_v0.1 (hT_v0.eq (by decide)) (by decide) rfl inX3 (by decide) k_74 (fun _ h => h) (gx_rfv hr) dX3_giveToAll_11 ?_
      refine lv_iload_n X.1 X.2.1 dX3_giveToAll_14 rfl (lv_at hl 2 rfl) ?_
      obtain ⟨r4, σ3, hz, hF⟩ := b2_ex hF
      refine gx_rI (gx_runSN (As := [.ref (ad i2), .int v2]) (rest := []) X hG hS (c_X11_at l D cA base ad σ n i2 v2 hT_i2 hz) k_362 q_360 k_361 k_1 (h_X11_at.2) rfl rfl ⟨by decide, by decide⟩ rfl hl.1 rfl (Nat.le_of_ble_eq_true rfl) dX3_giveToAll_15 ⟨Nat.zero_le _, Nat.zero_le _⟩) hS (fun H locs hG hS hX => ?_)
      have hT_v0 := hX.T hT_v0
      replace hE := hE.trans hX
      refine lv_istore_n (lv' := [(3, .int r4), (0, .ref (ad v0)), (1, .int v1), (2, .int v2)]) X.1 X.2.1 dX3_giveToAll_18 rfl hl (by decide) rfl (fun ls hl => ?_)
      refine lv_iload_n X.1 X.2.1 dX3_giveToAll_19 rfl (lv_at hl 0 rfl) ?_
      refine lv_iload_n X.1 X.2.1 dX3_giveToAll_20 rfl (lv_at hl 2 rfl) ?_
      refine lv_ishr X.1 X.2.1 dX3_giveToAll_21 ?_
      refine lv_iconst (v := 1) X.1 X.2.1 dX3_giveToAll_22 (by decide) ?_
      refine lv_iand X.1 X.2.1 dX3_giveToAll_23 ?_
      refine lv_if_ne (tgt := 65) X.1 X.2.1 dX3_giveToAll_24 (by decide) (fun hc => ?_) (fun hc => ?_)
      · replace hF := it_f hF hc
        exact w_X3_giveToAll_65 X n (F_X3_giveToAll_2 n  f) ih v0 v1 v2 σ3 _ _ ls hT_v0 hG hS hE (lv_sub hl [1, 2, 3] rfl) hF
      · replace hF := it_t hF hc
        refine lv_aload_n X.1 X.2.1 dX3_giveToAll_27 rfl (lv_at hl 1 rfl) ?_
        obtain ⟨i5, hr, hF⟩ := b1_ex hF
        have hT_i5 : hT σ3 i5 13 := gw_T hG hT_v0 (by decide) hr
        refine gx_get 15 (v := .ref (ad i5)) X hG hT_v0.1 (hT_v0.eq (by decide)) (by decide) rfl inX3 (by decide) k_74 (fun _ h => h) (gx_rfv hr) dX3_giveToAll_28 ?_
        refine lv_iload_n X.1 X.2.1 dX3_giveToAll_31 rfl (lv_at hl 3 rfl) ?_
        refine lv_iload_n X.1 X.2.1 dX3_giveToAll_32 rfl (lv_at hl 0 rfl) ?_
        refine lv_iconst (v := 1) X.1 X.2.1 dX3_giveToAll_33 (by decide) ?_
        refine lv_iload_n X.1 X.2.1 dX3_giveToAll_34 rfl (lv_at hl 2 rfl) ?_
        refine lv_ishl X.1 X.2.1 dX3_giveToAll_35 ?_
        refine lv_ior X.1 X.2.1 dX3_giveToAll_36 ?_
        obtain ⟨σ6, hz, hF⟩ := b1_ex hF
        refine gx_rV (gx_runSN (As := [.ref (ad i5), .int v2, .int (r4 ||| (1 <<< (v1 &&& 31)))]) (rest := []) X hG hS (c_X11_store l D cA base ad σ3 n i5 v2 (r4 ||| (1 <<< (v1 &&& 31))) hT_i5 hz) k_173 q_351 k_172 k_1 (h_X11_store.2) rfl rfl ⟨by decide, by decide⟩ rfl hl.1 rfl (Nat.le_of_ble_eq_true rfl) dX3_giveToAll_37 ⟨Nat.zero_le _, Nat.zero_le _⟩) hS (fun H locs hG hS hX => ?_)
        have hT_v0 := hX.T hT_v0
        replace hE := hE.trans hX
        refine lv_aload_n X.1 X.2.1 dX3_giveToAll_40 rfl (lv_at hl 1 rfl) ?_
        obtain ⟨i7, hr, hF⟩ := b1_ex hF
        have hT_i7 : hT σ6 i7 13 := gw_T hG hT_v0 (by decide) hr
        refine gx_get 16 (v := .ref (ad i7)) X hG hT_v0.1 (hT_v0.eq (by decide)) (by decide) rfl inX3 (by decide) k_76 (fun _ h => h) (gx_rfv hr) dX3_giveToAll_41 ?_
        refine lv_iload_n X.1 X.2.1 dX3_giveToAll_44 rfl (lv_at hl 3 rfl) ?_
        refine lv_aload_n X.1 X.2.1 dX3_giveToAll_45 rfl (lv_at hl 1 rfl) ?_
        obtain ⟨i8, hr, hF⟩ := b1_ex hF
        have hT_i8 : hT σ6 i8 13 := gw_T hG hT_v0 (by decide) hr
        refine gx_get 16 (v := .ref (ad i8)) X hG hT_v0.1 (hT_v0.eq (by decide)) (by decide) rfl inX3 (by decide) k_76 (fun _ h => h) (gx_rfv hr) dX3_giveToAll_46 ?_
        refine lv_iload_n X.1 X.2.1 dX3_giveToAll_49 rfl (lv_at hl 3 rfl) ?_
        obtain ⟨r10, σ9, hz, hF⟩ := b2_ex hF
        refine gx_rI (gx_runSN (As := [.ref (ad i8), .int v2]) (rest := [.int v2, .ref (ad i7)]) X hG hS (c_X11_at l D cA base ad σ6 n i8 v2 hT_i8 hz) k_362 q_360 k_361 k_1 (h_X11_at.2) rfl rfl ⟨by decide, by decide⟩ rfl hl.1 rfl (Nat.le_of_ble_eq_true rfl) dX3_giveToAll_50 ⟨Nat.zero_le _, Nat.zero_le _⟩) hS (fun H locs hG hS hX => ?_)
        have hT_v0 := hX.T hT_v0
        have hT_i7 := hX.T hT_i7
        replace hE := hE.trans hX
        refine lv_aload_n X.1 X.2.1 dX3_giveToAll_53 rfl (lv_at hl 1 rfl) ?_
        obtain ⟨i11, hr, hF⟩ := b1_ex hF
        have hT_i11 : hT σ9 i11 13 := gw_T hG hT_v0 (by decide) hr
        refine gx_get 1 (v := .ref (ad i11)) X hG hT_v0.1 (hT_v0.eq (by decide)) (by decide) rfl inX3 (by decide) k_42 (fun _ h => h) (gx_rfv hr) dX3_giveToAll_54 ?_
        refine lv_iload_n X.1 X.2.1 dX3_giveToAll_57 rfl (lv_at hl 2 rfl) ?_
        obtain ⟨r13, σ12, hz, hF⟩ := b2_ex hF
        refine gx_rI (gx_runSN (As := [.ref (ad i11), .int v1]) (rest := [.int r10, .int v2, .ref (ad i7)]) X hG hS (c_X11_at l D cA base ad σ9 n i11 v1 hT_i11 hz) k_362 q_360 k_361 k_1 (h_X11_at.2) rfl rfl ⟨by decide, by decide⟩ rfl hl.1 rfl (Nat.le_of_ble_eq_true rfl) dX3_giveToAll_58 ⟨Nat.zero_le _, Nat.zero_le _⟩) hS (fun H locs hG hS hX => ?_)
        have hT_v0 := hX.T hT_v0
        have hT_i7 := hX.T hT_i7
        replace hE := hE.trans hX
        refine lv_iadd X.1 X.2.1 dX3_giveToAll_61 ?_
        obtain ⟨σ14, hz, hF⟩ := b1_ex hF
        refine gx_rV (gx_runSN (As := [.ref (ad i7), .int v2, .int (r10 + r13)]) (rest := []) X hG hS (c_X11_store l D cA base ad σ12 n i7 v2 (r10 + r13) hT_i7 hz) k_173 q_351 k_172 k_1 (h_X11_store.2) rfl rfl ⟨by decide, by decide⟩ rfl hl.1 rfl (Nat.le_of_ble_eq_true rfl) dX3_giveToAll_62 ⟨Nat.zero_le _, Nat.zero_le _⟩) hS (fun H locs hG hS hX => ?_)
        have hT_v0 := hX.T hT_v0
        replace hE := hE.trans hX
        exact w_X3_giveToAll_65 X n (F_X3_giveToAll_2 n  f) ih v0 v1 v2 σ14 _ _ ls hT_v0 hG hS hE (lv_sub hl [1, 2, 3] rfl) hF
theorem c_X3_giveToAll (l : Launch) (D : va_G) (cA : Nat → ClassId) (base : Nat) (ad : Nat → Nat) (σ : Hp) (n : Nat) (a0 : Nat) (a1 : Int32) (hT_a0 : hT σ a0 3) {τ : Hp} (hF : F_X3_giveToAll n a0 a1 σ = some τ) : MV l yX3_giveToAll cX3_giveToAll 4 rm_X3_giveToAll D cA base ad σ [.ref (ad a0), .int a1] τ := by
  refine Met.ofW (cc := cX3_giveToAll) (maxL := 4) (ret := none) (by decide) rfl ?_
  intro p e s m args below meth c s₁ B hml hv
  obtain ⟨rfl, hv⟩ := hv
  have X : SX D cA base p s m ([.ref (ad a0), .int a1] : List Value).toArray meth c cX3_giveToAll 4 none RX3 := sx_of B hml hv
  have hG := hv.1
  have hS : va_S (bA base) s.heap s.heap [] := va_S.rf
  have hE := xT.rf σ
  have hl := lv_entry ([.ref (ad a0), .int a1]) (n := 4) (Nat.le_of_ble_eq_true rfl)
  rw [lg_entry_eq]
  generalize (lg_sl ([.ref (ad a0), .int a1]) ++ List.replicate (4 - (lg_sl ([.ref (ad a0), .int a1])).length) Slot.unset).toArray = ls at hl ⊢
  have hl : lv_has ls 4 [(0, .ref (ad a0)), (1, .int a1)] := hl
  unfold F_X3_giveToAll at hF
  refine lv_iconst (v := 0) X.1 X.2.1 dX3_giveToAll_0 (by decide) ?_
  refine lv_istore_n (lv' := [(2, .int 0), (0, .ref (ad a0)), (1, .int a1)]) X.1 X.2.1 dX3_giveToAll_1 rfl hl (by decide) rfl (fun ls hl => ?_)
  exact w_X3_giveToAll_2 X n  n a0 a1 0 σ _ _ ls hT_a0 hG hS hE (lv_sub hl [1, 2, 0] rfl) hF
theorem c_X9_act (l : Launch) (D : va_G) (cA : Nat → ClassId) (base : Nat) (ad : Nat → Nat) (σ : Hp) (n : Nat) (a0 : Nat) (a1 : Nat) (a2 : Int32) (hT_a0 : hT σ a0 102) (hT_a1 : hT σ a1 3) {τ : Hp} (hF : F_X9_act n a0 a1 a2 σ = some τ) : MV l yX9_act cX9_act 4 rm_X9_act D cA base ad σ [.ref (ad a0), .ref (ad a1), .int a2] τ := by
  refine Met.ofW (cc := cX9_act) (maxL := 4) (ret := none) (by decide) rfl ?_
  intro p e s m args below meth c s₁ B hml hv
  obtain ⟨rfl, hv⟩ := hv
  have X : SX D cA base p s m ([.ref (ad a0), .ref (ad a1), .int a2] : List Value).toArray meth c cX9_act 4 none RX9 := sx_of B hml hv
  have hG := hv.1
  have hS : va_S (bA base) s.heap s.heap [] := va_S.rf
  have hE := xT.rf σ
  have hl := lv_entry ([.ref (ad a0), .ref (ad a1), .int a2]) (n := 4) (Nat.le_of_ble_eq_true rfl)
  rw [lg_entry_eq]
  generalize (lg_sl ([.ref (ad a0), .ref (ad a1), .int a2]) ++ List.replicate (4 - (lg_sl ([.ref (ad a0), .ref (ad a1), .int a2])).length) Slot.unset).toArray = ls at hl ⊢
  have hl : lv_has ls 4 [(0, .ref (ad a0)), (1, .ref (ad a1)), (2, .int a2)] := hl
  unfold F_X9_act at hF
  refine lv_aload_n X.1 X.2.1 dX9_act_0 rfl (lv_at hl 1 rfl) ?_
  refine lv_iload_n X.1 X.2.1 dX9_act_1 rfl (lv_at hl 2 rfl) ?_
  obtain ⟨r2, σ1, hz, hF⟩ := b2_ex hF
  refine gx_rI (gx_runV (As := [.int a2]) (rest := []) X hG hS hT_a1.1 (hT_a1.eq (by decide)) (by decide) rfl (c_X3_loudestNotShared l D cA base ad σ n a1 a2 hT_a1 hz) k_609 k_606 k_607 k_608 k_2 (h_X3_loudestNotShared) rfl rfl ⟨by decide, by decide⟩ rfl hl.1 rfl (Nat.le_of_ble_eq_true rfl) dX9_act_2 ⟨Nat.zero_le _, Nat.zero_le _⟩) hS (fun H locs hG hS hX => ?_)
  have hT_a0 := hX.T hT_a0
  have hT_a1 := hX.T hT_a1
  replace hE := hE.trans hX
  refine lv_istore_n (lv' := [(3, .int r2), (0, .ref (ad a0)), (1, .ref (ad a1)), (2, .int a2)]) X.1 X.2.1 dX9_act_5 rfl hl (by decide) rfl (fun ls hl => ?_)
  refine lv_iload_n X.1 X.2.1 dX9_act_6 rfl (lv_at hl 0 rfl) ?_
  refine lv_if_lt (tgt := 15) X.1 X.2.1 dX9_act_7 (by decide) (fun hc => ?_) (fun hc => ?_)
  · replace hF := it_t hF hc
    exact gx_vret X hG hS hE hF dX9_act_15
  · replace hF := it_f hF hc
    refine lv_aload_n X.1 X.2.1 dX9_act_10 rfl (lv_at hl 2 rfl) ?_
    refine lv_iload_n X.1 X.2.1 dX9_act_11 rfl (lv_at hl 0 rfl) ?_
    obtain ⟨σ3, hz, hF⟩ := b1_ex hF
    refine gx_rV (gx_runV (As := [.int r2]) (rest := []) X hG hS hT_a1.1 (hT_a1.eq (by decide)) (by decide) rfl (c_X3_giveToAll l D cA base ad σ1 n a1 r2 hT_a1 hz) k_616 k_613 k_614 k_615 k_2 (h_X3_giveToAll) rfl rfl ⟨by decide, by decide⟩ rfl hl.1 rfl (Nat.le_of_ble_eq_true rfl) dX9_act_12 ⟨Nat.zero_le _, Nat.zero_le _⟩) hS (fun H locs hG hS hX => ?_)
    have hT_a0 := hX.T hT_a0
    have hT_a1 := hX.T hT_a1
    replace hE := hE.trans hX
    exact gx_vret X hG hS hE hF dX9_act_15
theorem w_X8_act_113 {σ0 τ : Hp} (X : SX D cA base p s m args meth c cX8_act 10 none RX8) (n : Nat) (K_40 : Nat → Int32 → Int32 → Int32 → Int32 → Hp → Option Hp) (hK_40 : ∀ (v1 : Nat) (v3 : Int32) (v4 : Int32) (v5 : Int32) (v6 : Int32) (σ : Hp) (H : Heap) (locs : List Loc) (ls : Array Slot), hT σ v1 3 → GW D cA base ad σ H → va_S (bA base) s.heap H locs → xT σ0 σ → lv_has ls 10 [(1, .ref (ad v1)), (3, .int v3), (4, .int v4), (5, .int v5), (6, .int v6)] → K_40 v1 v3 v4 v5 v6 σ = some τ → W p l e rm_X8_act s m args below meth c H locs 0 0 (ZV below s args D cA base ad σ0 τ) (F0 m 40 ls [])) : ∀ (v1 : Nat) (v3 : Int32) (v4 : Int32) (v5 : Int32) (v6 : Int32) (σ : Hp) (H : Heap) (locs : List Loc) (ls : Array Slot), hT σ v1 3 → GW D cA base ad σ H → va_S (bA base) s.heap H locs → xT σ0 σ → lv_has ls 10 [(1, .ref (ad v1)), (3, .int v3), (4, .int v4), (5, .int v5), (6, .int v6)] → F_X8_act_113 n K_40 v1 v3 v4 v5 v6 σ = some τ → W p l e rm_X8_act s m args below meth c H locs 0 0 (ZV below s args D cA base ad σ0 τ) (F0 m 113 ls []) := by
  intro v1 v3 v4 v5 v6 σ H locs ls hT_v1 hG hS hE hl hF
  unfold F_X8_act_113 at hF
  refine lv_iinc (v := v6 + 1) (lv' := [(6, .int (v6 + 1)), (1, .ref (ad v1)), (3, .int v3), (4, .int v4), (5, .int v5)]) X.1 X.2.1 dX8_act_113 hl (k := 4) rfl rfl (by decide) rfl (fun ls hl => ?_)
  refine lv_goto (tgt := 40) X.1 X.2.1 dX8_act_116 (by decide) ?_
  exact hK_40 v1 v3 v4 v5 (v6 + 1) σ _ _ ls hT_v1 hG hS hE (lv_sub hl [1, 2, 3, 4, 0] rfl) hF
theorem w_X8_act_85 {σ0 τ : Hp} (X : SX D cA base p s m args meth c cX8_act 10 none RX8) (n : Nat) (K_40 : Nat → Int32 → Int32 → Int32 → Int32 → Hp → Option Hp) (hK_40 : ∀ (v1 : Nat) (v3 : Int32) (v4 : Int32) (v5 : Int32) (v6 : Int32) (σ : Hp) (H : Heap) (locs : List Loc) (ls : Array Slot), hT σ v1 3 → GW D cA base ad σ H → va_S (bA base) s.heap H locs → xT σ0 σ → lv_has ls 10 [(1, .ref (ad v1)), (3, .int v3), (4, .int v4), (5, .int v5), (6, .int v6)] → K_40 v1 v3 v4 v5 v6 σ = some τ → W p l e rm_X8_act s m args below meth c H locs 0 0 (ZV below s args D cA base ad σ0 τ) (F0 m 40 ls [])) : ∀ (v1 : Nat) (v3 : Int32) (v4 : Int32) (v5 : Int32) (v6 : Int32) (s0 : Int64) (σ : Hp) (H : Heap) (locs : List Loc) (ls : Array Slot), hT σ v1 3 → GW D cA base ad σ H → va_S (bA base) s.heap H locs → xT σ0 σ → lv_has ls 10 [(1, .ref (ad v1)), (3, .int v3), (4, .int v4), (5, .int v5), (6, .int v6)] → F_X8_act_85 n K_40 v1 v3 v4 v5 v6 s0 σ = some τ → W p l e rm_X8_act s m args below meth c H locs 0 0 (ZV below s args D cA base ad σ0 τ) (F0 m 85 ls [.long s0]) := by
  intro v1 v3 v4 v5 v6 s0 σ H locs ls hT_v1 hG hS hE hl hF
  unfold F_X8_act_85 at hF
  refine lv_lstore (lv' := [(8, .long s0), (1, .ref (ad v1)), (3, .int v3), (4, .int v4), (5, .int v5), (6, .int v6)]) X.1 X.2.1 dX8_act_85 hl (by decide) rfl (fun ls hl => ?_)
  refine lv_lload X.1 X.2.1 dX8_act_87 (lv_at hl 0 rfl) ?_
  refine lv_ldc2 (v := (-5)) X.1 X.2.1 X.2.2.2.2.2.1 (X.w k_622) dX8_act_89 ?_
  refine W.lcmp X.1 X.2.1 dX8_act_92 ?_
  refine lv_if_le (tgt := 113) X.1 X.2.1 dX8_act_93 (by decide) (fun hc => ?_) (fun hc => ?_)
  · replace hF := it_t hF hc
    exact w_X8_act_113 X n K_40 hK_40 v1 v3 v4 v5 v6 σ _ _ ls hT_v1 hG hS hE (lv_sub hl [1, 2, 3, 4, 5] rfl) hF
  · replace hF := it_f hF hc
    refine lv_lload X.1 X.2.1 dX8_act_96 (lv_at hl 0 rfl) ?_
    refine lv_ldc2 (v := 5) X.1 X.2.1 X.2.2.2.2.2.1 (X.w k_620) dX8_act_98 ?_
    refine W.lcmp X.1 X.2.1 dX8_act_101 ?_
    refine lv_if_ge (tgt := 113) X.1 X.2.1 dX8_act_102 (by decide) (fun hc => ?_) (fun hc => ?_)
    · replace hF := it_t hF hc
      exact w_X8_act_113 X n K_40 hK_40 v1 v3 v4 v5 v6 σ _ _ ls hT_v1 hG hS hE (lv_sub hl [1, 2, 3, 4, 5] rfl) hF
    · replace hF := it_f hF hc
      refine lv_aload_n X.1 X.2.1 dX8_act_105 rfl (lv_at hl 1 rfl) ?_
      refine lv_iload X.1 X.2.1 dX8_act_106 (lv_at hl 5 rfl) ?_
      refine lv_iload X.1 X.2.1 dX8_act_108 (lv_at hl 4 rfl) ?_
      obtain ⟨σ1, hz, hF⟩ := b1_ex hF
      refine gx_rV (gx_runV (As := [.int v6, .int v5]) (rest := []) X hG hS hT_v1.1 (hT_v1.eq (by decide)) (by decide) rfl (c_X3_push l D cA base ad σ n v1 v6 v5 hT_v1 hz) k_579 k_623 k_577 k_578 k_2 (h_X3_push) rfl rfl ⟨by decide, by decide⟩ rfl hl.1 rfl (Nat.le_of_ble_eq_true rfl) dX8_act_110 ⟨Nat.zero_le _, Nat.zero_le _⟩) hS (fun H locs hG hS hX => ?_)
      have hT_v1 := hX.T hT_v1
      replace hE := hE.trans hX
      exact w_X8_act_113 X n K_40 hK_40 v1 v3 v4 v5 v6 σ1 _ _ ls hT_v1 hG hS hE (lv_sub hl [1, 2, 3, 4, 5] rfl) hF
theorem w_X8_act_40 {σ0 τ : Hp} (X : SX D cA base p s m args meth c cX8_act 10 none RX8) (n : Nat)  : ∀ f : Nat, ∀ (v1 : Nat) (v3 : Int32) (v4 : Int32) (v5 : Int32) (v6 : Int32) (σ : Hp) (H : Heap) (locs : List Loc) (ls : Array Slot), hT σ v1 3 → GW D cA base ad σ H → va_S (bA base) s.heap H locs → xT σ0 σ → lv_has ls 10 [(1, .ref (ad v1)), (3, .int v3), (4, .int v4), (5, .int v5), (6, .int v6)] → F_X8_act_40 n  f v1 v3 v4 v5 v6 σ = some τ → W p l e rm_X8_act s m args below meth c H locs 0 0 (ZV below s args D cA base ad σ0 τ) (F0 m 40 ls []) := by
  intro f
  induction f with
  | zero => intro v1 v3 v4 v5 v6 σ H locs ls h0 hG hS hE hl hF
            rw [F_X8_act_40] at hF; cases hF
  | succ f ih =>
    intro v1 v3 v4 v5 v6 σ H locs ls hT_v1 hG hS hE hl hF
    rw [F_X8_act_40] at hF
    refine lv_iload X.1 X.2.1 dX8_act_40 (lv_at hl 4 rfl) ?_
    refine lv_aload_n X.1 X.2.1 dX8_act_42 rfl (lv_at hl 0 rfl) ?_
    refine gx_getN 2 (v := .int (hI σ v1 2)) X hG hT_v1.1 (hT_v1.eq (by decide)) (by decide) rfl inX3 (by decide) q_48 (fun _ h => h) rfl dX8_act_43 ?_
    refine lv_icmp_ge (tgt := 119) X.1 X.2.1 dX8_act_46 (by decide) (fun hc => ?_) (fun hc => ?_)
    · replace hF := it_t hF hc
      exact gx_vret X hG hS hE hF dX8_act_119
    · replace hF := it_f hF hc
      refine lv_aload_n X.1 X.2.1 dX8_act_49 rfl (lv_at hl 0 rfl) ?_
      refine lv_iload X.1 X.2.1 dX8_act_50 (lv_at hl 4 rfl) ?_
      obtain ⟨r3, σ2, hz, hF⟩ := b2_ex hF
      refine gx_rQ (gx_runV (As := [.int v6]) (rest := []) X hG hS hT_v1.1 (hT_v1.eq (by decide)) (by decide) rfl (c_X3_turnAt l D cA base ad σ n v1 v6 hT_v1 hz) k_383 k_619 k_381 k_382 k_2 (h_X3_turnAt) rfl rfl ⟨by decide, by decide⟩ rfl hl.1 rfl (Nat.le_of_ble_eq_true rfl) dX8_act_52 ⟨Nat.zero_le _, Nat.zero_le _⟩) hS (fun H locs hG hS hX hO_r3 => ?_)
      have hT_v1 := hX.T hT_v1
      replace hE := hE.trans hX
      refine gx_astore (lv' := [(7, va_rf (Option.map ad r3)), (1, .ref (ad v1)), (3, .int v3), (4, .int v4), (5, .int v5), (6, .int v6)]) X.1 X.2.1 dX8_act_55 hl (by decide) (by cases r3 <;> rfl) (fun ls hl => ?_)
      refine gx_aload X.1 X.2.1 dX8_act_57 (lv_at hl 0 rfl) ?_
      refine gx_ifnonnull (tgt := 68) X.1 X.2.1 dX8_act_59 (by decide) hF (fun hr hF2i4 => ?_) (fun i4 hr hF2i4 => ?_)
      · subst hr
        have hF := hF2i4
        have hl : lv_has ls 10 [(7, .null), (1, .ref (ad v1)), (3, .int v3), (4, .int v4), (5, .int v5), (6, .int v6)] := hl
        refine lv_ldc2 (v := 5) X.1 X.2.1 X.2.2.2.2.2.1 (X.w k_620) dX8_act_62 ?_
        refine lv_goto (tgt := 85) X.1 X.2.1 dX8_act_65 (by decide) ?_
        exact w_X8_act_85 X n (F_X8_act_40 n  f) ih v1 v3 v4 v5 v6 5 σ2 _ _ ls hT_v1 hG hS hE (lv_sub hl [1, 2, 3, 4, 5] rfl) hF
      · subst hr
        have hF := hF2i4
        have hT_i4 := hO_r3 i4 rfl
        have hl : lv_has ls 10 [(7, .ref (ad i4)), (1, .ref (ad v1)), (3, .int v3), (4, .int v4), (5, .int v5), (6, .int v6)] := hl
        refine lv_aload_n X.1 X.2.1 dX8_act_68 rfl (lv_at hl 1 rfl) ?_
        refine lv_iload X.1 X.2.1 dX8_act_69 (lv_at hl 5 rfl) ?_
        refine lv_iload_n X.1 X.2.1 dX8_act_71 rfl (lv_at hl 2 rfl) ?_
        refine lv_iload X.1 X.2.1 dX8_act_72 (lv_at hl 3 rfl) ?_
        obtain ⟨r6, σ5, hz, hF⟩ := b2_ex hF
        refine gx_rI (gx_runV (As := [.int v6, .int v3, .int v4]) (rest := []) X hG hS hT_v1.1 (hT_v1.eq (by decide)) (by decide) rfl (c_X3_leaning l D cA base ad σ2 n v1 v6 v3 v4 hT_v1 hz) k_412 k_621 k_410 k_411 k_2 (h_X3_leaning) rfl rfl ⟨by decide, by decide⟩ rfl hl.1 rfl (Nat.le_of_ble_eq_true rfl) dX8_act_74 ⟨Nat.zero_le _, Nat.zero_le _⟩) hS (fun H locs hG hS hX => ?_)
        have hT_v1 := hX.T hT_v1
        have hT_i4 := hX.T hT_i4
        replace hE := hE.trans hX
        refine lv_i2l X.1 X.2.1 dX8_act_77 rfl ?_
        refine lv_aload X.1 X.2.1 dX8_act_78 (lv_at hl 0 rfl) ?_
        refine gx_getT 4 (v := .int (hI σ5 i4 4)) X hG hT_i4 (by decide) k_217 (fun _ h => h) rfl dX8_act_80 ?_
        refine lv_i2l X.1 X.2.1 dX8_act_83 rfl ?_
        refine lv_lsub X.1 X.2.1 dX8_act_84 ?_
        exact w_X8_act_85 X n (F_X8_act_40 n  f) ih v1 v3 v4 v5 v6 (r6.toInt64 - ((hI σ5 i4 4).toInt64)) σ5 _ _ ls hT_v1 hG hS hE (lv_sub hl [1, 2, 3, 4, 5] rfl) hF
theorem w_X8_act_35 {σ0 τ : Hp} (X : SX D cA base p s m args meth c cX8_act 10 none RX8) (n : Nat)  : ∀ (v1 : Nat) (v3 : Int32) (v4 : Int32) (s0 : Int32) (σ : Hp) (H : Heap) (locs : List Loc) (ls : Array Slot), hT σ v1 3 → GW D cA base ad σ H → va_S (bA base) s.heap H locs → xT σ0 σ → lv_has ls 10 [(1, .ref (ad v1)), (3, .int v3), (4, .int v4)] → F_X8_act_35 n  v1 v3 v4 s0 σ = some τ → W p l e rm_X8_act s m args below meth c H locs 0 0 (ZV below s args D cA base ad σ0 τ) (F0 m 35 ls [.int s0]) := by
  intro v1 v3 v4 s0 σ H locs ls hT_v1 hG hS hE hl hF
  unfold F_X8_act_35 at hF
  refine lv_istore (lv' := [(5, .int s0), (1, .ref (ad v1)), (3, .int v3), (4, .int v4)]) X.1 X.2.1 dX8_act_35 hl (by decide) rfl (fun ls hl => ?_)
  refine lv_iconst (v := 0) X.1 X.2.1 dX8_act_37 (by decide) ?_
  refine lv_istore (lv' := [(6, .int 0), (5, .int s0), (1, .ref (ad v1)), (3, .int v3), (4, .int v4)]) X.1 X.2.1 dX8_act_38 hl (by decide) rfl (fun ls hl => ?_)
  exact w_X8_act_40 X n  n v1 v3 v4 s0 0 σ _ _ ls hT_v1 hG hS hE (lv_sub hl [2, 3, 4, 1, 0] rfl) hF
theorem c_X8_act (l : Launch) (D : va_G) (cA : Nat → ClassId) (base : Nat) (ad : Nat → Nat) (σ : Hp) (n : Nat) (a0 : Nat) (a1 : Nat) (a2 : Int32) (hT_a0 : hT σ a0 8) (hT_a1 : hT σ a1 3) {τ : Hp} (hF : F_X8_act n a0 a1 a2 σ = some τ) : MV l yX8_act cX8_act 10 rm_X8_act D cA base ad σ [.ref (ad a0), .ref (ad a1), .int a2] τ := by
  refine Met.ofW (cc := cX8_act) (maxL := 10) (ret := none) (by decide) rfl ?_
  intro p e s m args below meth c s₁ B hml hv
  obtain ⟨rfl, hv⟩ := hv
  have X : SX D cA base p s m ([.ref (ad a0), .ref (ad a1), .int a2] : List Value).toArray meth c cX8_act 10 none RX8 := sx_of B hml hv
  have hG := hv.1
  have hS : va_S (bA base) s.heap s.heap [] := va_S.rf
  have hE := xT.rf σ
  have hl := lv_entry ([.ref (ad a0), .ref (ad a1), .int a2]) (n := 10) (Nat.le_of_ble_eq_true rfl)
  rw [lg_entry_eq]
  generalize (lg_sl ([.ref (ad a0), .ref (ad a1), .int a2]) ++ List.replicate (10 - (lg_sl ([.ref (ad a0), .ref (ad a1), .int a2])).length) Slot.unset).toArray = ls at hl ⊢
  have hl : lv_has ls 10 [(0, .ref (ad a0)), (1, .ref (ad a1)), (2, .int a2)] := hl
  unfold F_X8_act at hF
  refine lv_aload_n X.1 X.2.1 dX8_act_0 rfl (lv_at hl 0 rfl) ?_
  refine lv_aload_n X.1 X.2.1 dX8_act_1 rfl (lv_at hl 1 rfl) ?_
  refine lv_iload_n X.1 X.2.1 dX8_act_2 rfl (lv_at hl 2 rfl) ?_
  obtain ⟨σ7, hz, hF⟩ := b1_ex hF
  refine gx_rV (gx_runPT (As := [.ref (ad a1), .int a2]) (rest := []) X hG hS (hT_a0.to (by decide) rfl) (c_X9_act l D cA base ad σ n a0 a1 a2 (hT_a0.to (by decide) rfl) hT_a1 hz) k_605 k_603 k_1385 k_289 k_604 k_6 ⟨by decide, (h_X9_act).2.2.2⟩ rfl rfl ⟨by decide, by decide⟩ rfl hl.1 rfl (Nat.le_of_ble_eq_true rfl) dX8_act_3 ⟨Nat.zero_le _, Nat.zero_le _⟩) hS (fun H locs hG hS hX => ?_)
  have hT_a0 := hX.T hT_a0
  have hT_a1 := hX.T hT_a1
  replace hE := hE.trans hX
  refine lv_aload_n X.1 X.2.1 dX8_act_6 rfl (lv_at hl 1 rfl) ?_
  obtain ⟨r9, σ8, hz, hF⟩ := b2_ex hF
  refine gx_rI (gx_runV (As := []) (rest := []) X hG hS hT_a1.1 (hT_a1.eq (by decide)) (by decide) rfl (c_X3_yes l D cA base ad σ7 n a1 hT_a1 hz) k_397 k_617 k_395 k_396 k_2 (h_X3_yes) rfl rfl ⟨by decide, by decide⟩ rfl hl.1 rfl (Nat.le_of_ble_eq_true rfl) dX8_act_7 ⟨Nat.zero_le _, Nat.zero_le _⟩) hS (fun H locs hG hS hX => ?_)
  have hT_a0 := hX.T hT_a0
  have hT_a1 := hX.T hT_a1
  replace hE := hE.trans hX
  refine lv_istore_n (lv' := [(3, .int r9), (0, .ref (ad a0)), (1, .ref (ad a1)), (2, .int a2)]) X.1 X.2.1 dX8_act_10 rfl hl (by decide) rfl (fun ls hl => ?_)
  refine lv_aload_n X.1 X.2.1 dX8_act_11 rfl (lv_at hl 2 rfl) ?_
  obtain ⟨r11, σ10, hz, hF⟩ := b2_ex hF
  refine gx_rI (gx_runV (As := []) (rest := []) X hG hS hT_a1.1 (hT_a1.eq (by decide)) (by decide) rfl (c_X3_no l D cA base ad σ8 n a1 hT_a1 hz) k_407 k_618 k_405 k_406 k_2 (h_X3_no) rfl rfl ⟨by decide, by decide⟩ rfl hl.1 rfl (Nat.le_of_ble_eq_true rfl) dX8_act_12 ⟨Nat.zero_le _, Nat.zero_le _⟩) hS (fun H locs hG hS hX => ?_)
  have hT_a0 := hX.T hT_a0
  have hT_a1 := hX.T hT_a1
  replace hE := hE.trans hX
  refine lv_istore (lv' := [(4, .int r11), (3, .int r9), (0, .ref (ad a0)), (1, .ref (ad a1)), (2, .int a2)]) X.1 X.2.1 dX8_act_15 hl (by decide) rfl (fun ls hl => ?_)
  refine lv_aload_n X.1 X.2.1 dX8_act_17 rfl (lv_at hl 3 rfl) ?_
  refine gx_getN 12 (v := .int (hI σ10 a1 12)) X hG hT_a1.1 (hT_a1.eq (by decide)) (by decide) rfl inX3 (by decide) q_66 (fun _ h => h) rfl dX8_act_18 ?_
  refine lv_iload_n X.1 X.2.1 dX8_act_21 rfl (lv_at hl 4 rfl) ?_
  refine lv_ishr X.1 X.2.1 dX8_act_22 ?_
  refine lv_iconst (v := 1) X.1 X.2.1 dX8_act_23 (by decide) ?_
  refine lv_iand X.1 X.2.1 dX8_act_24 ?_
  refine lv_iconst (v := 1) X.1 X.2.1 dX8_act_25 (by decide) ?_
  refine lv_icmp_ne (tgt := 33) X.1 X.2.1 dX8_act_26 (by decide) (fun hc => ?_) (fun hc => ?_)
  · replace hF := it_f hF hc
    refine lv_bipush (v := (-2)) X.1 X.2.1 dX8_act_33 (by decide) ?_
    exact w_X8_act_35 X n  a1 r9 r11 (-2) σ10 _ _ ls hT_a1 hG hS hE (lv_sub hl [3, 1, 0] rfl) hF
  · replace hF := it_t hF hc
    refine lv_iconst (v := 2) X.1 X.2.1 dX8_act_29 (by decide) ?_
    refine lv_goto (tgt := 35) X.1 X.2.1 dX8_act_30 (by decide) ?_
    exact w_X8_act_35 X n  a1 r9 r11 2 σ10 _ _ ls hT_a1 hG hS hE (lv_sub hl [3, 1, 0] rfl) hF
theorem run_act {R : Room} {H : Heap} {locs : List Loc} {nL : Nat} {ret : Option FieldType} {cc : ByteArray} {pc : Nat} {ls : Array Slot} {st0 rest : List Value} {σ τ : Hp} {n : Nat} {i a1 : Nat} {a2 : Int32} (X : SX D cA base p s m args meth c cc nL ret RX3) (hG : GW D cA base ad σ H) (hS : va_S (bA base) s.heap H locs) (h : hT σ i 100) (h1 : hT σ a1 3) (hF : F_D_act n i a1 a2 σ = some τ) (hl : Cond.methodLink RX3 148 yX10_act ∈ TB) (hR : 4 ≤ R.frames ∧ 108 ≤ R.locals) (hsize : ls.size = nL) (hstack : st0 = ([.ref (ad a1), .int a2] : List Value).reverse ++ .ref (ad i) :: rest) (hW : (rest.map fun v => v.category).sum ≤ 8) (hdg : decode cc pc = .ok (.invokevirtual 148, 3)) : va_Run p l e R s m args below meth c H locs 0 0 0 0 (F0 m pc ls st0) rest (va_Qv (fun (_ : Unit) => xT σ τ) (fun _ t => GS D cA base ad τ t) (bA base) (Value.ref (ad i) :: [.ref (ad a1), .int a2]).toArray) (bA base) := by
  unfold F_D_act at hF
  have hk := isT_100 h.2 (Or.inl rfl)
  generalize hke : hK σ i = k at hk hF
  rcases hk with rfl | rfl | rfl | rfl | rfl | rfl | rfl | rfl
  · replace hF : F_X0_act n i a1 a2 σ = some τ := hF
    exact gx_runO (owner := "ElevenOne$Turn") (x := yX10_act) (As := [.ref (ad a1), .int a2]) X hG hS h.1 hke (by decide) rfl (c_X0_act l D cA base ad σ n i a1 a2 ((h.of hke rfl).to (by decide) rfl) h1 hF) k_570 hl k_567 k_565 k_568 k_569 k_7 k_625 ⟨by decide, by decide, h_X10_act.2.2.2⟩ rfl rfl ⟨Nat.le_trans (by decide) hR.1, Nat.le_trans (by decide) hR.2⟩ rfl hsize hstack hW hdg ⟨Nat.zero_le _, Nat.zero_le _⟩
  · replace hF : F_X2_act n i a1 a2 σ = some τ := hF
    exact gx_runO (owner := "ElevenOne$Turn") (x := yX10_act) (As := [.ref (ad a1), .int a2]) X hG hS h.1 hke (by decide) rfl (c_X2_act l D cA base ad σ n i a1 a2 (h.of hke rfl) h1 hF) k_582 hl k_567 k_565 k_580 k_581 k_8 k_625 ⟨by decide, by decide, h_X10_act.2.2.2⟩ rfl rfl ⟨Nat.le_trans (by decide) hR.1, Nat.le_trans (by decide) hR.2⟩ rfl hsize hstack hW hdg ⟨Nat.zero_le _, Nat.zero_le _⟩
  · replace hF : F_X4_act n i a1 a2 σ = some τ := hF
    exact gx_runO (owner := "ElevenOne$Turn") (x := yX10_act) (As := [.ref (ad a1), .int a2]) X hG hS h.1 hke (by decide) rfl (c_X4_act l D cA base ad σ n i a1 a2 (h.of hke rfl) h1 hF) k_589 hl k_567 k_565 k_587 k_588 k_10 k_625 ⟨by decide, by decide, h_X10_act.2.2.2⟩ rfl rfl ⟨Nat.le_trans (by decide) hR.1, Nat.le_trans (by decide) hR.2⟩ rfl hsize hstack hW hdg ⟨Nat.zero_le _, Nat.zero_le _⟩
  · replace hF : F_X10_act n i a1 a2 σ = some τ := hF
    exact gx_runU (owner := "ElevenOne$Turn") (As := [.ref (ad a1), .int a2]) X hG hS h.1 hke (by decide) rfl (c_X10_act l D cA base ad σ n i a1 a2 h h1 hF) k_625 hl k_567 k_592 k_565 k_5 rfl ⟨by decide, by decide, h_X10_act.2.2.2⟩ rfl rfl ⟨Nat.le_trans (by decide) hR.1, Nat.le_trans (by decide) hR.2⟩ rfl hsize hstack hW hdg ⟨Nat.zero_le _, Nat.zero_le _⟩
  · replace hF : F_X7_act n i a1 a2 σ = some τ := hF
    exact gx_runO (owner := "ElevenOne$Turn") (x := yX10_act) (As := [.ref (ad a1), .int a2]) X hG hS h.1 hke (by decide) rfl (c_X7_act l D cA base ad σ n i a1 a2 (h.of hke rfl) h1 hF) k_595 hl k_567 k_565 k_593 k_594 k_12 k_625 ⟨by decide, by decide, h_X10_act.2.2.2⟩ rfl rfl ⟨Nat.le_trans (by decide) hR.1, Nat.le_trans (by decide) hR.2⟩ rfl hsize hstack hW hdg ⟨Nat.zero_le _, Nat.zero_le _⟩
  · replace hF : F_X8_act n i a1 a2 σ = some τ := hF
    exact gx_runO (owner := "ElevenOne$Turn") (x := yX10_act) (As := [.ref (ad a1), .int a2]) X hG hS h.1 hke (by decide) rfl (c_X8_act l D cA base ad σ n i a1 a2 (h.of hke rfl) h1 hF) k_602 hl k_567 k_565 k_600 k_601 k_9 k_625 ⟨by decide, by decide, h_X10_act.2.2.2⟩ rfl rfl ⟨Nat.le_trans (by decide) hR.1, Nat.le_trans (by decide) hR.2⟩ rfl hsize hstack hW hdg ⟨Nat.zero_le _, Nat.zero_le _⟩
  · replace hF : F_X9_act n i a1 a2 σ = some τ := hF
    exact gx_runO (owner := "ElevenOne$Turn") (x := yX10_act) (As := [.ref (ad a1), .int a2]) X hG hS h.1 hke (by decide) rfl (c_X9_act l D cA base ad σ n i a1 a2 ((h.of hke rfl).to (by decide) rfl) h1 hF) k_605 hl k_567 k_565 k_624 k_604 k_6 k_625 ⟨by decide, by decide, h_X10_act.2.2.2⟩ rfl rfl ⟨Nat.le_trans (by decide) hR.1, Nat.le_trans (by decide) hR.2⟩ rfl hsize hstack hW hdg ⟨Nat.zero_le _, Nat.zero_le _⟩
  · replace hF : F_X10_act n i a1 a2 σ = some τ := hF
    exact gx_runV (As := [.ref (ad a1), .int a2]) X hG hS h.1 hke (by decide) rfl (c_X10_act l D cA base ad σ n i a1 a2 h h1 hF) k_625 hl k_565 k_566 k_5 h_X10_act rfl rfl ⟨Nat.le_trans (by decide) hR.1, Nat.le_trans (by decide) hR.2⟩ rfl hsize hstack hW hdg ⟨Nat.zero_le _, Nat.zero_le _⟩
theorem w_X3_takeSlips_107 {σ0 τ : Hp} (X : SX D cA base p s m args meth c cX3_takeSlips 7 none RX3) (n : Nat)  : ∀ (v0 : Nat) (v3 : Int32) (σ : Hp) (H : Heap) (locs : List Loc) (ls : Array Slot), hT σ v0 3 → GW D cA base ad σ H → va_S (bA base) s.heap H locs → xT σ0 σ → lv_has ls 7 [(0, .ref (ad v0)), (3, .int v3)] → F_X3_takeSlips_107 n  v0 v3 σ = some τ → W p l e rm_X3_takeSlips s m args below meth c H locs 0 0 (ZV below s args D cA base ad σ0 τ) (F0 m 107 ls []) := by
  intro v0 v3 σ H locs ls hT_v0 hG hS hE hl hF
  unfold F_X3_takeSlips_107 at hF
  refine lv_aload_n X.1 X.2.1 dX3_takeSlips_107 rfl (lv_at hl 0 rfl) ?_
  refine lv_iload_n X.1 X.2.1 dX3_takeSlips_108 rfl (lv_at hl 1 rfl) ?_
  refine gx_putI 12  X hG hS hT_v0.1 (hT_v0.eq (by decide)) (by decide) rfl inX3 tyX3_ok nmX3 (by decide) k_69 (fun _ h => h) rfl rfl rfl rfl (Nat.le_of_ble_eq_true rfl) dX3_takeSlips_109 hF (fun σ1 H locs hG hS hX hF => ?_)
  have hT_v0 := hX.T hT_v0
  replace hE := hE.trans hX
  exact gx_vret X hG hS hE hF dX3_takeSlips_112
theorem w_X3_takeSlips_101 {σ0 τ : Hp} (X : SX D cA base p s m args meth c cX3_takeSlips 7 none RX3) (n : Nat) (K_15 : Nat → Int32 → Int32 → Int32 → Int32 → Hp → Option Hp) (hK_15 : ∀ (v0 : Nat) (v1 : Int32) (v2 : Int32) (v3 : Int32) (v4 : Int32) (σ : Hp) (H : Heap) (locs : List Loc) (ls : Array Slot), hT σ v0 3 → GW D cA base ad σ H → va_S (bA base) s.heap H locs → xT σ0 σ → lv_has ls 7 [(0, .ref (ad v0)), (1, .int v1), (2, .int v2), (3, .int v3), (4, .int v4)] → K_15 v0 v1 v2 v3 v4 σ = some τ → W p l e rm_X3_takeSlips s m args below meth c H locs 0 0 (ZV below s args D cA base ad σ0 τ) (F0 m 15 ls [])) : ∀ (v0 : Nat) (v1 : Int32) (v2 : Int32) (v3 : Int32) (v4 : Int32) (σ : Hp) (H : Heap) (locs : List Loc) (ls : Array Slot), hT σ v0 3 → GW D cA base ad σ H → va_S (bA base) s.heap H locs → xT σ0 σ → lv_has ls 7 [(0, .ref (ad v0)), (1, .int v1), (2, .int v2), (3, .int v3), (4, .int v4)] → F_X3_takeSlips_101 n K_15 v0 v1 v2 v3 v4 σ = some τ → W p l e rm_X3_takeSlips s m args below meth c H locs 0 0 (ZV below s args D cA base ad σ0 τ) (F0 m 101 ls []) := by
  intro v0 v1 v2 v3 v4 σ H locs ls hT_v0 hG hS hE hl hF
  unfold F_X3_takeSlips_101 at hF
  refine lv_iinc (v := v4 + 1) (lv' := [(4, .int (v4 + 1)), (0, .ref (ad v0)), (1, .int v1), (2, .int v2), (3, .int v3)]) X.1 X.2.1 dX3_takeSlips_101 hl (k := 4) rfl rfl (by decide) rfl (fun ls hl => ?_)
  refine lv_goto (tgt := 15) X.1 X.2.1 dX3_takeSlips_104 (by decide) ?_
  exact hK_15 v0 v1 v2 v3 (v4 + 1) σ _ _ ls hT_v0 hG hS hE (lv_sub hl [1, 2, 3, 4, 0] rfl) hF
theorem w_X3_takeSlips_89 {σ0 τ : Hp} (X : SX D cA base p s m args meth c cX3_takeSlips 7 none RX3) (n : Nat) (K_15 : Nat → Int32 → Int32 → Int32 → Int32 → Hp → Option Hp) (hK_15 : ∀ (v0 : Nat) (v1 : Int32) (v2 : Int32) (v3 : Int32) (v4 : Int32) (σ : Hp) (H : Heap) (locs : List Loc) (ls : Array Slot), hT σ v0 3 → GW D cA base ad σ H → va_S (bA base) s.heap H locs → xT σ0 σ → lv_has ls 7 [(0, .ref (ad v0)), (1, .int v1), (2, .int v2), (3, .int v3), (4, .int v4)] → K_15 v0 v1 v2 v3 v4 σ = some τ → W p l e rm_X3_takeSlips s m args below meth c H locs 0 0 (ZV below s args D cA base ad σ0 τ) (F0 m 15 ls [])) : ∀ (v0 : Nat) (v1 : Int32) (v2 : Int32) (v3 : Int32) (v4 : Int32) (v6 : Int32) (σ : Hp) (H : Heap) (locs : List Loc) (ls : Array Slot), hT σ v0 3 → GW D cA base ad σ H → va_S (bA base) s.heap H locs → xT σ0 σ → lv_has ls 7 [(0, .ref (ad v0)), (1, .int v1), (2, .int v2), (3, .int v3), (4, .int v4), (6, .int v6)] → F_X3_takeSlips_89 n K_15 v0 v1 v2 v3 v4 v6 σ = some τ → W p l e rm_X3_takeSlips s m args below meth c H locs 0 0 (ZV below s args D cA base ad σ0 τ) (F0 m 89 ls []) := by
  intro v0 v1 v2 v3 v4 v6 σ H locs ls hT_v0 hG hS hE hl hF
  unfold F_X3_takeSlips_89 at hF
  refine lv_iload X.1 X.2.1 dX3_takeSlips_89 (lv_at hl 5 rfl) ?_
  refine lv_if_eq (tgt := 101) X.1 X.2.1 dX3_takeSlips_91 (by decide) (fun hc => ?_) (fun hc => ?_)
  · replace hF := it_t hF hc
    exact w_X3_takeSlips_101 X n K_15 hK_15 v0 v1 v2 v3 v4 σ _ _ ls hT_v0 hG hS hE (lv_sub hl [0, 1, 2, 3, 4] rfl) hF
  · replace hF := it_f hF hc
    refine lv_iload_n X.1 X.2.1 dX3_takeSlips_94 rfl (lv_at hl 3 rfl) ?_
    refine lv_iconst (v := 1) X.1 X.2.1 dX3_takeSlips_95 (by decide) ?_
    refine lv_iload X.1 X.2.1 dX3_takeSlips_96 (lv_at hl 4 rfl) ?_
    refine lv_ishl X.1 X.2.1 dX3_takeSlips_98 ?_
    refine lv_ior X.1 X.2.1 dX3_takeSlips_99 ?_
    refine lv_istore_n (lv' := [(3, .int (v3 ||| (1 <<< (v4 &&& 31)))), (0, .ref (ad v0)), (1, .int v1), (2, .int v2), (4, .int v4), (6, .int v6)]) X.1 X.2.1 dX3_takeSlips_100 rfl hl (by decide) rfl (fun ls hl => ?_)
    exact w_X3_takeSlips_101 X n K_15 hK_15 v0 v1 v2 (v3 ||| (1 <<< (v4 &&& 31))) v4 σ _ _ ls hT_v0 hG hS hE (lv_sub hl [1, 2, 3, 0, 4] rfl) hF
theorem w_X3_takeSlips_87 {σ0 τ : Hp} (X : SX D cA base p s m args meth c cX3_takeSlips 7 none RX3) (n : Nat) (K_15 : Nat → Int32 → Int32 → Int32 → Int32 → Hp → Option Hp) (hK_15 : ∀ (v0 : Nat) (v1 : Int32) (v2 : Int32) (v3 : Int32) (v4 : Int32) (σ : Hp) (H : Heap) (locs : List Loc) (ls : Array Slot), hT σ v0 3 → GW D cA base ad σ H → va_S (bA base) s.heap H locs → xT σ0 σ → lv_has ls 7 [(0, .ref (ad v0)), (1, .int v1), (2, .int v2), (3, .int v3), (4, .int v4)] → K_15 v0 v1 v2 v3 v4 σ = some τ → W p l e rm_X3_takeSlips s m args below meth c H locs 0 0 (ZV below s args D cA base ad σ0 τ) (F0 m 15 ls [])) : ∀ (v0 : Nat) (v1 : Int32) (v2 : Int32) (v3 : Int32) (v4 : Int32) (s0 : Int32) (σ : Hp) (H : Heap) (locs : List Loc) (ls : Array Slot), hT σ v0 3 → GW D cA base ad σ H → va_S (bA base) s.heap H locs → xT σ0 σ → lv_has ls 7 [(0, .ref (ad v0)), (1, .int v1), (2, .int v2), (3, .int v3), (4, .int v4)] → F_X3_takeSlips_87 n K_15 v0 v1 v2 v3 v4 s0 σ = some τ → W p l e rm_X3_takeSlips s m args below meth c H locs 0 0 (ZV below s args D cA base ad σ0 τ) (F0 m 87 ls [.int s0]) := by
  intro v0 v1 v2 v3 v4 s0 σ H locs ls hT_v0 hG hS hE hl hF
  unfold F_X3_takeSlips_87 at hF
  refine lv_istore (lv' := [(6, .int s0), (0, .ref (ad v0)), (1, .int v1), (2, .int v2), (3, .int v3), (4, .int v4)]) X.1 X.2.1 dX3_takeSlips_87 hl (by decide) rfl (fun ls hl => ?_)
  exact w_X3_takeSlips_89 X n K_15 hK_15 v0 v1 v2 v3 v4 s0 σ _ _ ls hT_v0 hG hS hE (lv_sub hl [1, 2, 3, 4, 5, 0] rfl) hF
theorem w_X3_takeSlips_58 {σ0 τ : Hp} (X : SX D cA base p s m args meth c cX3_takeSlips 7 none RX3) (n : Nat) (K_15 : Nat → Int32 → Int32 → Int32 → Int32 → Hp → Option Hp) (hK_15 : ∀ (v0 : Nat) (v1 : Int32) (v2 : Int32) (v3 : Int32) (v4 : Int32) (σ : Hp) (H : Heap) (locs : List Loc) (ls : Array Slot), hT σ v0 3 → GW D cA base ad σ H → va_S (bA base) s.heap H locs → xT σ0 σ → lv_has ls 7 [(0, .ref (ad v0)), (1, .int v1), (2, .int v2), (3, .int v3), (4, .int v4)] → K_15 v0 v1 v2 v3 v4 σ = some τ → W p l e rm_X3_takeSlips s m args below meth c H locs 0 0 (ZV below s args D cA base ad σ0 τ) (F0 m 15 ls [])) : ∀ (v0 : Nat) (v1 : Int32) (v2 : Int32) (v3 : Int32) (v4 : Int32) (s0 : Int32) (σ : Hp) (H : Heap) (locs : List Loc) (ls : Array Slot), hT σ v0 3 → GW D cA base ad σ H → va_S (bA base) s.heap H locs → xT σ0 σ → lv_has ls 7 [(0, .ref (ad v0)), (1, .int v1), (2, .int v2), (3, .int v3), (4, .int v4)] → F_X3_takeSlips_58 n K_15 v0 v1 v2 v3 v4 s0 σ = some τ → W p l e rm_X3_takeSlips s m args below meth c H locs 0 0 (ZV below s args D cA base ad σ0 τ) (F0 m 58 ls [.int s0]) := by
  intro v0 v1 v2 v3 v4 s0 σ H locs ls hT_v0 hG hS hE hl hF
  unfold F_X3_takeSlips_58 at hF
  refine lv_istore (lv' := [(6, .int s0), (0, .ref (ad v0)), (1, .int v1), (2, .int v2), (3, .int v3), (4, .int v4)]) X.1 X.2.1 dX3_takeSlips_58 hl (by decide) rfl (fun ls hl => ?_)
  refine lv_aload_n X.1 X.2.1 dX3_takeSlips_60 rfl (lv_at hl 1 rfl) ?_
  refine lv_iload X.1 X.2.1 dX3_takeSlips_61 (lv_at hl 5 rfl) ?_
  obtain ⟨r3, σ2, hz, hF⟩ := b2_ex hF
  refine gx_rI (gx_runV (As := [.int v4]) (rest := []) X hG hS hT_v0.1 (hT_v0.eq (by decide)) (by decide) rfl (c_X3_gaveIn l D cA base ad σ n v0 v4 hT_v0 hz) k_389 k_630 k_387 k_388 k_2 (h_X3_gaveIn) rfl rfl ⟨by decide, by decide⟩ rfl hl.1 rfl (Nat.le_of_ble_eq_true rfl) dX3_takeSlips_63 ⟨Nat.zero_le _, Nat.zero_le _⟩) hS (fun H locs hG hS hX => ?_)
  have hT_v0 := hX.T hT_v0
  replace hE := hE.trans hX
  refine lv_if_eq (tgt := 89) X.1 X.2.1 dX3_takeSlips_66 (by decide) (fun hc => ?_) (fun hc => ?_)
  · replace hF := it_t hF hc
    exact w_X3_takeSlips_89 X n K_15 hK_15 v0 v1 v2 v3 v4 s0 σ2 _ _ ls hT_v0 hG hS hE (lv_sub hl [1, 2, 3, 4, 5, 0] rfl) hF
  · replace hF := it_f hF hc
    refine lv_aload_n X.1 X.2.1 dX3_takeSlips_69 rfl (lv_at hl 1 rfl) ?_
    obtain ⟨i4, hr, hF⟩ := b1_ex hF
    have hT_i4 : hT σ2 i4 13 := gw_T hG hT_v0 (by decide) hr
    refine gx_get 18 (v := .ref (ad i4)) X hG hT_v0.1 (hT_v0.eq (by decide)) (by decide) rfl inX3 (by decide) k_81 (fun _ h => h) (gx_rfv hr) dX3_takeSlips_70 ?_
    refine lv_iload X.1 X.2.1 dX3_takeSlips_73 (lv_at hl 5 rfl) ?_
    obtain ⟨r6, σ5, hz, hF⟩ := b2_ex hF
    refine gx_rI (gx_runSN (As := [.ref (ad i4), .int v4]) (rest := []) X hG hS (c_X11_at l D cA base ad σ2 n i4 v4 hT_i4 hz) k_362 q_360 k_361 k_1 (h_X11_at.2) rfl rfl ⟨by decide, by decide⟩ rfl hl.1 rfl (Nat.le_of_ble_eq_true rfl) dX3_takeSlips_75 ⟨Nat.zero_le _, Nat.zero_le _⟩) hS (fun H locs hG hS hX => ?_)
    have hT_v0 := hX.T hT_v0
    replace hE := hE.trans hX
    refine lv_iconst (v := 1) X.1 X.2.1 dX3_takeSlips_78 (by decide) ?_
    refine lv_icmp_ne (tgt := 86) X.1 X.2.1 dX3_takeSlips_79 (by decide) (fun hc => ?_) (fun hc => ?_)
    · replace hF := it_f hF hc
      refine lv_iconst (v := 0) X.1 X.2.1 dX3_takeSlips_86 (by decide) ?_
      exact w_X3_takeSlips_87 X n K_15 hK_15 v0 v1 v2 v3 v4 0 σ5 _ _ ls hT_v0 hG hS hE (lv_sub hl [1, 2, 3, 4, 5] rfl) hF
    · replace hF := it_t hF hc
      refine lv_iconst (v := 1) X.1 X.2.1 dX3_takeSlips_82 (by decide) ?_
      refine lv_goto (tgt := 87) X.1 X.2.1 dX3_takeSlips_83 (by decide) ?_
      exact w_X3_takeSlips_87 X n K_15 hK_15 v0 v1 v2 v3 v4 1 σ5 _ _ ls hT_v0 hG hS hE (lv_sub hl [1, 2, 3, 4, 5] rfl) hF
theorem w_X3_takeSlips_57 {σ0 τ : Hp} (X : SX D cA base p s m args meth c cX3_takeSlips 7 none RX3) (n : Nat) (K_15 : Nat → Int32 → Int32 → Int32 → Int32 → Hp → Option Hp) (hK_15 : ∀ (v0 : Nat) (v1 : Int32) (v2 : Int32) (v3 : Int32) (v4 : Int32) (σ : Hp) (H : Heap) (locs : List Loc) (ls : Array Slot), hT σ v0 3 → GW D cA base ad σ H → va_S (bA base) s.heap H locs → xT σ0 σ → lv_has ls 7 [(0, .ref (ad v0)), (1, .int v1), (2, .int v2), (3, .int v3), (4, .int v4)] → K_15 v0 v1 v2 v3 v4 σ = some τ → W p l e rm_X3_takeSlips s m args below meth c H locs 0 0 (ZV below s args D cA base ad σ0 τ) (F0 m 15 ls [])) : ∀ (v0 : Nat) (v1 : Int32) (v2 : Int32) (v3 : Int32) (v4 : Int32) (σ : Hp) (H : Heap) (locs : List Loc) (ls : Array Slot), hT σ v0 3 → GW D cA base ad σ H → va_S (bA base) s.heap H locs → xT σ0 σ → lv_has ls 7 [(0, .ref (ad v0)), (1, .int v1), (2, .int v2), (3, .int v3), (4, .int v4)] → F_X3_takeSlips_57 n K_15 v0 v1 v2 v3 v4 σ = some τ → W p l e rm_X3_takeSlips s m args below meth c H locs 0 0 (ZV below s args D cA base ad σ0 τ) (F0 m 57 ls []) := by
  intro v0 v1 v2 v3 v4 σ H locs ls hT_v0 hG hS hE hl hF
  unfold F_X3_takeSlips_57 at hF
  refine lv_iconst (v := 0) X.1 X.2.1 dX3_takeSlips_57 (by decide) ?_
  exact w_X3_takeSlips_58 X n K_15 hK_15 v0 v1 v2 v3 v4 0 σ _ _ ls hT_v0 hG hS hE (lv_sub hl [0, 1, 2, 3, 4] rfl) hF
theorem w_X3_takeSlips_15 {σ0 τ : Hp} (X : SX D cA base p s m args meth c cX3_takeSlips 7 none RX3) (n : Nat)  : ∀ f : Nat, ∀ (v0 : Nat) (v1 : Int32) (v2 : Int32) (v3 : Int32) (v4 : Int32) (σ : Hp) (H : Heap) (locs : List Loc) (ls : Array Slot), hT σ v0 3 → GW D cA base ad σ H → va_S (bA base) s.heap H locs → xT σ0 σ → lv_has ls 7 [(0, .ref (ad v0)), (1, .int v1), (2, .int v2), (3, .int v3), (4, .int v4)] → F_X3_takeSlips_15 n  f v0 v1 v2 v3 v4 σ = some τ → W p l e rm_X3_takeSlips s m args below meth c H locs 0 0 (ZV below s args D cA base ad σ0 τ) (F0 m 15 ls []) := by
  intro f
  induction f with
  | zero => intro v0 v1 v2 v3 v4 σ H locs ls h0 hG hS hE hl hF
            rw [F_X3_takeSlips_15] at hF; cases hF
  | succ f ih =>
    intro v0 v1 v2 v3 v4 σ H locs ls hT_v0 hG hS hE hl hF
    rw [F_X3_takeSlips_15] at hF
    refine lv_iload X.1 X.2.1 dX3_takeSlips_15 (lv_at hl 4 rfl) ?_
    refine lv_aload_n X.1 X.2.1 dX3_takeSlips_17 rfl (lv_at hl 0 rfl) ?_
    refine gx_get 2 (v := .int (hI σ v0 2)) X hG hT_v0.1 (hT_v0.eq (by decide)) (by decide) rfl inX3 (by decide) k_45 (fun _ h => h) rfl dX3_takeSlips_18 ?_
    refine lv_icmp_ge (tgt := 107) X.1 X.2.1 dX3_takeSlips_21 (by decide) (fun hc => ?_) (fun hc => ?_)
    · replace hF := it_t hF hc
      exact w_X3_takeSlips_107 X n  v0 v3 σ _ _ ls hT_v0 hG hS hE (lv_sub hl [0, 3] rfl) hF
    · replace hF := it_f hF hc
      refine lv_aload_n X.1 X.2.1 dX3_takeSlips_24 rfl (lv_at hl 0 rfl) ?_
      refine lv_iload X.1 X.2.1 dX3_takeSlips_25 (lv_at hl 4 rfl) ?_
      obtain ⟨r8, σ7, hz, hF⟩ := b2_ex hF
      refine gx_rQ (gx_runV (As := [.int v4]) (rest := []) X hG hS hT_v0.1 (hT_v0.eq (by decide)) (by decide) rfl (c_X3_turnAt l D cA base ad σ n v0 v4 hT_v0 hz) k_383 k_413 k_381 k_382 k_2 (h_X3_turnAt) rfl rfl ⟨by decide, by decide⟩ rfl hl.1 rfl (Nat.le_of_ble_eq_true rfl) dX3_takeSlips_27 ⟨Nat.zero_le _, Nat.zero_le _⟩) hS (fun H locs hG hS hX hO_r8 => ?_)
      have hT_v0 := hX.T hT_v0
      replace hE := hE.trans hX
      refine gx_astore (lv' := [(5, va_rf (Option.map ad r8)), (0, .ref (ad v0)), (1, .int v1), (2, .int v2), (3, .int v3), (4, .int v4)]) X.1 X.2.1 dX3_takeSlips_30 hl (by decide) (by cases r8 <;> rfl) (fun ls hl => ?_)
      refine gx_aload X.1 X.2.1 dX3_takeSlips_32 (lv_at hl 0 rfl) ?_
      refine gx_ifnull (tgt := 57) X.1 X.2.1 dX3_takeSlips_34 (by decide) hF (fun hr hF2i9 => ?_) (fun i9 hr hF2i9 => ?_)
      · subst hr
        have hF := hF2i9
        have hl : lv_has ls 7 [(5, .null), (0, .ref (ad v0)), (1, .int v1), (2, .int v2), (3, .int v3), (4, .int v4)] := hl
        exact w_X3_takeSlips_57 X n (F_X3_takeSlips_15 n  f) ih v0 v1 v2 v3 v4 σ7 _ _ ls hT_v0 hG hS hE (lv_sub hl [1, 2, 3, 4, 5] rfl) hF
      · subst hr
        have hF := hF2i9
        have hT_i9 := hO_r8 i9 rfl
        have hl : lv_has ls 7 [(5, .ref (ad i9)), (0, .ref (ad v0)), (1, .int v1), (2, .int v2), (3, .int v3), (4, .int v4)] := hl
        refine lv_aload_n X.1 X.2.1 dX3_takeSlips_37 rfl (lv_at hl 1 rfl) ?_
        refine lv_iload X.1 X.2.1 dX3_takeSlips_38 (lv_at hl 5 rfl) ?_
        refine lv_iload_n X.1 X.2.1 dX3_takeSlips_40 rfl (lv_at hl 2 rfl) ?_
        refine lv_iload_n X.1 X.2.1 dX3_takeSlips_41 rfl (lv_at hl 3 rfl) ?_
        obtain ⟨r11, σ10, hz, hF⟩ := b2_ex hF
        refine gx_rI (gx_runV (As := [.int v4, .int v1, .int v2]) (rest := []) X hG hS hT_v0.1 (hT_v0.eq (by decide)) (by decide) rfl (c_X3_leaning l D cA base ad σ7 n v0 v4 v1 v2 hT_v0 hz) k_412 k_545 k_410 k_411 k_2 (h_X3_leaning) rfl rfl ⟨by decide, by decide⟩ rfl hl.1 rfl (Nat.le_of_ble_eq_true rfl) dX3_takeSlips_42 ⟨Nat.zero_le _, Nat.zero_le _⟩) hS (fun H locs hG hS hX => ?_)
        have hT_v0 := hX.T hT_v0
        have hT_i9 := hX.T hT_i9
        replace hE := hE.trans hX
        refine lv_aload X.1 X.2.1 dX3_takeSlips_45 (lv_at hl 0 rfl) ?_
        refine gx_getT 4 (v := .int (hI σ10 i9 4)) X hG hT_i9 (by decide) k_219 (fun _ h => h) rfl dX3_takeSlips_47 ?_
        refine lv_icmp_lt (tgt := 57) X.1 X.2.1 dX3_takeSlips_50 (by decide) (fun hc => ?_) (fun hc => ?_)
        · replace hF := it_t hF hc
          exact w_X3_takeSlips_57 X n (F_X3_takeSlips_15 n  f) ih v0 v1 v2 v3 v4 σ10 _ _ ls hT_v0 hG hS hE (lv_sub hl [1, 2, 3, 4, 5] rfl) hF
        · replace hF := it_f hF hc
          refine lv_iconst (v := 1) X.1 X.2.1 dX3_takeSlips_53 (by decide) ?_
          refine lv_goto (tgt := 58) X.1 X.2.1 dX3_takeSlips_54 (by decide) ?_
          exact w_X3_takeSlips_58 X n (F_X3_takeSlips_15 n  f) ih v0 v1 v2 v3 v4 1 σ10 _ _ ls hT_v0 hG hS hE (lv_sub hl [1, 2, 3, 4, 5] rfl) hF
theorem c_X3_takeSlips (l : Launch) (D : va_G) (cA : Nat → ClassId) (base : Nat) (ad : Nat → Nat) (σ : Hp) (n : Nat) (a0 : Nat) (hT_a0 : hT σ a0 3) {τ : Hp} (hF : F_X3_takeSlips n a0 σ = some τ) : MV l yX3_takeSlips cX3_takeSlips 7 rm_X3_takeSlips D cA base ad σ [.ref (ad a0)] τ := by
  refine Met.ofW (cc := cX3_takeSlips) (maxL := 7) (ret := none) (by decide) rfl ?_
  intro p e s m args below meth c s₁ B hml hv
  obtain ⟨rfl, hv⟩ := hv
  have X : SX D cA base p s m ([.ref (ad a0)] : List Value).toArray meth c cX3_takeSlips 7 none RX3 := sx_of B hml hv
  have hG := hv.1
  have hS : va_S (bA base) s.heap s.heap [] := va_S.rf
  have hE := xT.rf σ
  have hl := lv_entry ([.ref (ad a0)]) (n := 7) (Nat.le_of_ble_eq_true rfl)
  rw [lg_entry_eq]
  generalize (lg_sl ([.ref (ad a0)]) ++ List.replicate (7 - (lg_sl ([.ref (ad a0)])).length) Slot.unset).toArray = ls at hl ⊢
  have hl : lv_has ls 7 [(0, .ref (ad a0))] := hl
  unfold F_X3_takeSlips at hF
  refine lv_aload_n X.1 X.2.1 dX3_takeSlips_0 rfl (lv_at hl 0 rfl) ?_
  obtain ⟨r13, σ12, hz, hF⟩ := b2_ex hF
  refine gx_rI (gx_runV (As := []) (rest := []) X hG hS hT_a0.1 (hT_a0.eq (by decide)) (by decide) rfl (c_X3_yes l D cA base ad σ n a0 hT_a0 hz) k_397 k_408 k_395 k_396 k_2 (h_X3_yes) rfl rfl ⟨by decide, by decide⟩ rfl hl.1 rfl (Nat.le_of_ble_eq_true rfl) dX3_takeSlips_1 ⟨Nat.zero_le _, Nat.zero_le _⟩) hS (fun H locs hG hS hX => ?_)
  have hT_a0 := hX.T hT_a0
  replace hE := hE.trans hX
  refine lv_istore_n (lv' := [(1, .int r13), (0, .ref (ad a0))]) X.1 X.2.1 dX3_takeSlips_4 rfl hl (by decide) rfl (fun ls hl => ?_)
  refine lv_aload_n X.1 X.2.1 dX3_takeSlips_5 rfl (lv_at hl 1 rfl) ?_
  obtain ⟨r15, σ14, hz, hF⟩ := b2_ex hF
  refine gx_rI (gx_runV (As := []) (rest := []) X hG hS hT_a0.1 (hT_a0.eq (by decide)) (by decide) rfl (c_X3_no l D cA base ad σ12 n a0 hT_a0 hz) k_407 k_559 k_405 k_406 k_2 (h_X3_no) rfl rfl ⟨by decide, by decide⟩ rfl hl.1 rfl (Nat.le_of_ble_eq_true rfl) dX3_takeSlips_6 ⟨Nat.zero_le _, Nat.zero_le _⟩) hS (fun H locs hG hS hX => ?_)
  have hT_a0 := hX.T hT_a0
  replace hE := hE.trans hX
  refine lv_istore_n (lv' := [(2, .int r15), (1, .int r13), (0, .ref (ad a0))]) X.1 X.2.1 dX3_takeSlips_9 rfl hl (by decide) rfl (fun ls hl => ?_)
  refine lv_iconst (v := 0) X.1 X.2.1 dX3_takeSlips_10 (by decide) ?_
  refine lv_istore_n (lv' := [(3, .int 0), (2, .int r15), (1, .int r13), (0, .ref (ad a0))]) X.1 X.2.1 dX3_takeSlips_11 rfl hl (by decide) rfl (fun ls hl => ?_)
  refine lv_iconst (v := 0) X.1 X.2.1 dX3_takeSlips_12 (by decide) ?_
  refine lv_istore (lv' := [(4, .int 0), (3, .int 0), (2, .int r15), (1, .int r13), (0, .ref (ad a0))]) X.1 X.2.1 dX3_takeSlips_13 hl (by decide) rfl (fun ls hl => ?_)
  exact w_X3_takeSlips_15 X n  n a0 r13 r15 0 0 σ14 _ _ ls hT_a0 hG hS hE (lv_sub hl [4, 3, 2, 1, 0] rfl) hF
theorem w_X3_step_38 {σ0 τ : Hp} (X : SX D cA base p s m args meth c cX3_step 3 none RX3) (n : Nat)  : ∀ (v0 : Nat) (σ : Hp) (H : Heap) (locs : List Loc) (ls : Array Slot), hT σ v0 3 → GW D cA base ad σ H → va_S (bA base) s.heap H locs → xT σ0 σ → lv_has ls 3 [(0, .ref (ad v0))] → F_X3_step_38 n  v0 σ = some τ → W p l e rm_X3_step s m args below meth c H locs 0 0 (ZV below s args D cA base ad σ0 τ) (F0 m 38 ls []) := by
  intro v0 σ H locs ls hT_v0 hG hS hE hl hF
  unfold F_X3_step_38 at hF
  refine lv_aload_n X.1 X.2.1 dX3_step_38 rfl (lv_at hl 0 rfl) ?_
  refine lv_dup X.1 X.2.1 dX3_step_39 rfl ?_
  refine gx_get 11 (v := .int (hI σ v0 11)) X hG hT_v0.1 (hT_v0.eq (by decide)) (by decide) rfl inX3 (by decide) k_65 (fun _ h => h) rfl dX3_step_40 ?_
  refine lv_iconst (v := 1) X.1 X.2.1 dX3_step_43 (by decide) ?_
  refine lv_iadd X.1 X.2.1 dX3_step_44 ?_
  refine gx_putI 11  X hG hS hT_v0.1 (hT_v0.eq (by decide)) (by decide) rfl inX3 tyX3_ok nmX3 (by decide) k_65 (fun _ h => h) rfl rfl rfl rfl (Nat.le_of_ble_eq_true rfl) dX3_step_45 hF (fun σ1 H locs hG hS hX hF => ?_)
  have hT_v0 := hX.T hT_v0
  replace hE := hE.trans hX
  refine lv_aload_n X.1 X.2.1 dX3_step_48 rfl (lv_at hl 0 rfl) ?_
  obtain ⟨σ2, hz, hF⟩ := b1_ex hF
  refine gx_rV (gx_runV (As := []) (rest := []) X hG hS hT_v0.1 (hT_v0.eq (by decide)) (by decide) rfl (c_X3_takeSlips l D cA base ad σ1 n v0 hT_v0 hz) k_629 k_626 k_628 ks_11 k_2 (h_X3_takeSlips) rfl rfl ⟨by decide, by decide⟩ rfl hl.1 rfl (Nat.le_of_ble_eq_true rfl) dX3_step_49 ⟨Nat.zero_le _, Nat.zero_le _⟩) hS (fun H locs hG hS hX => ?_)
  have hT_v0 := hX.T hT_v0
  replace hE := hE.trans hX
  exact gx_vret X hG hS hE hF dX3_step_52
theorem c_X3_step (l : Launch) (D : va_G) (cA : Nat → ClassId) (base : Nat) (ad : Nat → Nat) (σ : Hp) (n : Nat) (a0 : Nat) (hT_a0 : hT σ a0 3) {τ : Hp} (hF : F_X3_step n a0 σ = some τ) : MV l yX3_step cX3_step 3 rm_X3_step D cA base ad σ [.ref (ad a0)] τ := by
  refine Met.ofW (cc := cX3_step) (maxL := 3) (ret := none) (by decide) rfl ?_
  intro p e s m args below meth c s₁ B hml hv
  obtain ⟨rfl, hv⟩ := hv
  have X : SX D cA base p s m ([.ref (ad a0)] : List Value).toArray meth c cX3_step 3 none RX3 := sx_of B hml hv
  have hG := hv.1
  have hS : va_S (bA base) s.heap s.heap [] := va_S.rf
  have hE := xT.rf σ
  have hl := lv_entry ([.ref (ad a0)]) (n := 3) (Nat.le_of_ble_eq_true rfl)
  rw [lg_entry_eq]
  generalize (lg_sl ([.ref (ad a0)]) ++ List.replicate (3 - (lg_sl ([.ref (ad a0)])).length) Slot.unset).toArray = ls at hl ⊢
  have hl : lv_has ls 3 [(0, .ref (ad a0))] := hl
  unfold F_X3_step at hF
  refine lv_aload_n X.1 X.2.1 dX3_step_0 rfl (lv_at hl 0 rfl) ?_
  refine lv_aload_n X.1 X.2.1 dX3_step_1 rfl (lv_at hl 0 rfl) ?_
  refine gx_get 11 (v := .int (hI σ a0 11)) X hG hT_a0.1 (hT_a0.eq (by decide)) (by decide) rfl inX3 (by decide) k_65 (fun _ h => h) rfl dX3_step_2 ?_
  obtain ⟨r4, σ3, hz, hF⟩ := b2_ex hF
  refine gx_rI (gx_runV (As := [.int (hI σ a0 11)]) (rest := []) X hG hS hT_a0.1 (hT_a0.eq (by decide)) (by decide) rfl (c_X3_seatFromLeader l D cA base ad σ n a0 (hI σ a0 11) hT_a0 hz) k_544 k_541 k_542 k_543 k_2 (h_X3_seatFromLeader) rfl rfl ⟨by decide, by decide⟩ rfl hl.1 rfl (Nat.le_of_ble_eq_true rfl) dX3_step_5 ⟨Nat.zero_le _, Nat.zero_le _⟩) hS (fun H locs hG hS hX => ?_)
  have hT_a0 := hX.T hT_a0
  replace hE := hE.trans hX
  refine lv_istore_n (lv' := [(1, .int r4), (0, .ref (ad a0))]) X.1 X.2.1 dX3_step_8 rfl hl (by decide) rfl (fun ls hl => ?_)
  refine lv_aload_n X.1 X.2.1 dX3_step_9 rfl (lv_at hl 1 rfl) ?_
  refine lv_iload_n X.1 X.2.1 dX3_step_10 rfl (lv_at hl 0 rfl) ?_
  obtain ⟨r6, σ5, hz, hF⟩ := b2_ex hF
  refine gx_rQ (gx_runV (As := [.int r4]) (rest := []) X hG hS hT_a0.1 (hT_a0.eq (by decide)) (by decide) rfl (c_X3_turnAt l D cA base ad σ3 n a0 r4 hT_a0 hz) k_383 k_413 k_381 k_382 k_2 (h_X3_turnAt) rfl rfl ⟨by decide, by decide⟩ rfl hl.1 rfl (Nat.le_of_ble_eq_true rfl) dX3_step_11 ⟨Nat.zero_le _, Nat.zero_le _⟩) hS (fun H locs hG hS hX hO_r6 => ?_)
  have hT_a0 := hX.T hT_a0
  replace hE := hE.trans hX
  refine gx_astore_n (lv' := [(2, va_rf (Option.map ad r6)), (1, .int r4), (0, .ref (ad a0))]) X.1 X.2.1 dX3_step_14 rfl hl (by decide) (by cases r6 <;> rfl) (fun ls hl => ?_)
  refine gx_aload_n X.1 X.2.1 dX3_step_15 rfl (lv_at hl 0 rfl) ?_
  refine gx_ifnull (tgt := 38) X.1 X.2.1 dX3_step_16 (by decide) hF (fun hr hF2i7 => ?_) (fun i7 hr hF2i7 => ?_)
  · subst hr
    have hF := hF2i7
    have hl : lv_has ls 3 [(2, .null), (1, .int r4), (0, .ref (ad a0))] := hl
    exact w_X3_step_38 X n  a0 σ5 _ _ ls hT_a0 hG hS hE (lv_sub hl [2] rfl) hF
  · subst hr
    have hF := hF2i7
    have hT_i7 := hO_r6 i7 rfl
    have hl : lv_has ls 3 [(2, .ref (ad i7)), (1, .int r4), (0, .ref (ad a0))] := hl
    refine lv_aload_n X.1 X.2.1 dX3_step_19 rfl (lv_at hl 0 rfl) ?_
    refine lv_aload_n X.1 X.2.1 dX3_step_20 rfl (lv_at hl 2 rfl) ?_
    refine lv_iload_n X.1 X.2.1 dX3_step_21 rfl (lv_at hl 1 rfl) ?_
    obtain ⟨σ8, hz, hF⟩ := b1_ex hF
    refine gx_rV (run_act (rest := []) X hG hS hT_i7 hT_a0 hz k_564 ⟨by decide, by decide⟩ hl.1 rfl (Nat.le_of_ble_eq_true rfl) dX3_step_22) hS (fun H locs hG hS hX => ?_)
    have hT_a0 := hX.T hT_a0
    have hT_i7 := hX.T hT_i7
    replace hE := hE.trans hX
    refine lv_aload_n X.1 X.2.1 dX3_step_25 rfl (lv_at hl 2 rfl) ?_
    refine lv_dup X.1 X.2.1 dX3_step_26 rfl ?_
    refine gx_get 10 (v := .int (hI σ8 a0 10)) X hG hT_a0.1 (hT_a0.eq (by decide)) (by decide) rfl inX3 (by decide) k_63 (fun _ h => h) rfl dX3_step_27 ?_
    refine lv_aload_n X.1 X.2.1 dX3_step_30 rfl (lv_at hl 0 rfl) ?_
    refine gx_getT 3 (v := .int (hI σ8 i7 3)) X hG hT_i7 (by decide) k_215 (fun _ h => h) rfl dX3_step_31 ?_
    refine lv_iadd X.1 X.2.1 dX3_step_34 ?_
    refine gx_putI 10  X hG hS hT_a0.1 (hT_a0.eq (by decide)) (by decide) rfl inX3 tyX3_ok nmX3 (by decide) k_63 (fun _ h => h) rfl rfl rfl rfl (Nat.le_of_ble_eq_true rfl) dX3_step_35 hF (fun σ9 H locs hG hS hX hF => ?_)
    have hT_a0 := hX.T hT_a0
    have hT_i7 := hX.T hT_i7
    replace hE := hE.trans hX
    exact w_X3_step_38 X n  a0 σ9 _ _ ls hT_a0 hG hS hE (lv_sub hl [2] rfl) hF
end W_class7
