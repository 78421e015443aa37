/-! class3: printed by wip/whole/gen.py -/
section W_class3
variable {p : Program} {l : Launch} {e : Env} {s : State} {m : MethodId} {args : Array Value} {below : List Frame} {meth : Method} {c : Code} {D : va_G} {cA : Nat → ClassId} {base : Nat} {ad : Nat → Nat}
abbrev rm_X1_readNumber : Room := { frames := 2, cells := 0, slots := 0, locals := 43 }
theorem h_X1_readNumber : yX1_readNumber.cls = RX1 ∧ yX1_readNumber.cls ≠ "java/lang/invoke/MethodHandle" ∧ yX1_readNumber.cls ≠ "java/lang/invoke/VarHandle" ∧ (parseMethodDescriptor yX1_readNumber.desc).map (fun d => d.parameters.length) = some 0 := by decide +kernel
def F_X1_readNumber_63 (n : Nat)  (v0 : Nat) (v1 : Int32) (σ : Hp) : Option Hp := b1 (F_X1_write n v0 ((-1) - v1) σ) fun (σ1 : Hp) => some σ1
def F_X1_readNumber_54 (n : Nat)  (v0 : Nat) (v1 : Int32) (σ : Hp) : Option Hp := F_X1_readNumber_63 n  v0 v1 σ
def F_X1_readNumber_4 (n : Nat)  : Nat → Nat → Int32 → Int32 → Hp → Option Hp
  | 0, _, _, _, _ => none
  | f + 1, v0, v1, v2, σ => if 3 ≤ v2 then (F_X1_readNumber_63 n  v0 v1 σ) else (b2 (F_X1_next n v0 σ) fun (r3 : Int32) (σ2 : Hp) => if r3 < 48 then (F_X1_readNumber_63 n  v0 v1 σ2) else (b2 (F_X1_next n v0 σ2) fun (r5 : Int32) (σ4 : Hp) => if 57 < r5 then (F_X1_readNumber_63 n  v0 v1 σ4) else (b2 (F_X1_next n v0 σ4) fun (r7 : Int32) (σ6 : Hp) => lt (pI σ6 v0 1 ((hI σ6 v0 1) + 1)) fun (σ8 : Hp) => if (((10 * v1) + r7) - 48) = 0 then (F_X1_readNumber_54 n  v0 (((10 * v1) + r7) - 48) σ8) else ((F_X1_readNumber_4 n  f) v0 (((10 * v1) + r7) - 48) (v2 + 1) σ8))))
def F_X1_readNumber (n : Nat) (a0 : Nat) (σ : Hp) : Option Hp := F_X1_readNumber_4 n  n a0 0 0 σ
abbrev rm_X3_addLaw : Room := { frames := 0, cells := 0, slots := 0, locals := 0 }
theorem h_X3_addLaw : yX3_addLaw.cls = RX3 ∧ yX3_addLaw.cls ≠ "java/lang/invoke/MethodHandle" ∧ yX3_addLaw.cls ≠ "java/lang/invoke/VarHandle" ∧ (parseMethodDescriptor yX3_addLaw.desc).map (fun d => d.parameters.length) = some 1 := by decide +kernel
def F_X3_addLaw (n : Nat) (a0 : Nat) (a1 : Nat) (σ : Hp) : Option (Int32 × Hp) := b1 (hR σ a0 6) fun (i1 : Nat) => if (hI σ a0 5) < (nI (hL σ i1)) then (b1 (hR σ a0 6) fun (i2 : Nat) => ck (¬ ((hI σ a0 5) < 0 ∨ hL σ i2 ≤ (hI σ a0 5).toNatClampNeg)) (lt (pR σ i2 (hI σ a0 5).toNatClampNeg (some a1)) fun (σ3 : Hp) => lt (pI σ3 a0 5 ((hI σ3 a0 5) + 1)) fun (σ4 : Hp) => some ((hI σ4 a0 5) - 1, σ4))) else (some ((-2), σ))
abbrev rm_X3_leaderSeat : Room := { frames := 1, cells := 0, slots := 0, locals := 21 }
theorem h_X3_leaderSeat : yX3_leaderSeat.cls = RX3 ∧ yX3_leaderSeat.cls ≠ "java/lang/invoke/MethodHandle" ∧ yX3_leaderSeat.cls ≠ "java/lang/invoke/VarHandle" ∧ (parseMethodDescriptor yX3_leaderSeat.desc).map (fun d => d.parameters.length) = some 0 := by decide +kernel
def F_X3_leaderSeat (n : Nat) (a0 : Nat) (σ : Hp) : Option (Int32 × Hp) := b1 (hR σ a0 7) fun (i1 : Nat) => b2 (F_X11_at n i1 1 σ) fun (r3 : Int32) (σ2 : Hp) => b2 (F_X3_isSeat n a0 r3 σ2) fun (r5 : Int32) (σ4 : Hp) => if r5 = 0 then (some (0, σ4)) else (some (r3, σ4))
abbrev rm_X3_seatFromLeader : Room := { frames := 0, cells := 0, slots := 0, locals := 0 }
theorem h_X3_seatFromLeader : yX3_seatFromLeader.cls = RX3 ∧ yX3_seatFromLeader.cls ≠ "java/lang/invoke/MethodHandle" ∧ yX3_seatFromLeader.cls ≠ "java/lang/invoke/VarHandle" ∧ (parseMethodDescriptor yX3_seatFromLeader.desc).map (fun d => d.parameters.length) = some 1 := by decide +kernel
def F_X3_seatFromLeader (n : Nat) (a0 : Nat) (a1 : Int32) (σ : Hp) : Option (Int32 × Hp) := if (hI σ a0 2) ≤ 0 then (some (0, σ)) else (ck (¬ (hI σ a0 2) = 0) (some (((hI σ a0 9) + a1) - ((hI σ a0 9) + a1) / (hI σ a0 2) * (hI σ a0 2), σ)))
abbrev rm_X3_beginTalk : Room := { frames := 3, cells := 0, slots := 0, locals := 79 }
theorem h_X3_beginTalk : yX3_beginTalk.cls = RX3 ∧ yX3_beginTalk.cls ≠ "java/lang/invoke/MethodHandle" ∧ yX3_beginTalk.cls ≠ "java/lang/invoke/VarHandle" ∧ (parseMethodDescriptor yX3_beginTalk.desc).map (fun d => d.parameters.length) = some 0 := by decide +kernel
def F_X3_beginTalk_123 (n : Nat)  (v0 : Nat) (σ : Hp) : Option Hp := lt (pI σ v0 13 (hI σ v0 12)) fun (σ1 : Hp) => some σ1
def F_X3_beginTalk_117 (n : Nat) (K_21 : Nat → Int32 → Int32 → Hp → Option Hp) (v0 : Nat) (v1 : Int32) (v2 : Int32) (σ : Hp) : Option Hp := K_21 v0 v1 (v2 + 1) σ
def F_X3_beginTalk_82 (n : Nat) (K_21 : Nat → Int32 → Int32 → Hp → Option Hp) (v0 : Nat) (v1 : Int32) (v2 : Int32) (v3 : Int32) (v4 : Option Nat) (σ : Hp) : Option Hp := om v4 (F_X3_beginTalk_117 n K_21 v0 v1 v2 σ) (fun i2 => b2 (F_X3_leaning n v0 v3 0 0 σ) fun (r4 : Int32) (σ3 : Hp) => if r4 < (hI σ3 i2 4) then (F_X3_beginTalk_117 n K_21 v0 v1 v2 σ3) else (lt (pI σ3 v0 12 ((hI σ3 v0 12) ||| (1 <<< (v3 &&& 31)))) fun (σ5 : Hp) => F_X3_beginTalk_117 n K_21 v0 (v1 + 1) v2 σ5))
def F_X3_beginTalk_21 (n : Nat)  : Nat → Nat → Int32 → Int32 → Hp → Option Hp
  | 0, _, _, _, _ => none
  | f + 1, v0, v1, v2, σ => if (hI σ v0 2) ≤ v2 then (F_X3_beginTalk_123 n  v0 σ) else (b2 (F_X3_seatFromLeader n v0 v2 σ) fun (r7 : Int32) (σ6 : Hp) => b2 (F_X3_turnAt n v0 r7 σ6) fun (r9 : Option Nat) (σ8 : Hp) => om r9 (F_X3_beginTalk_82 n (F_X3_beginTalk_21 n  f) v0 v1 v2 r7 none σ8) (fun i10 => b1 (hR σ8 v0 7) fun (i11 : Nat) => b2 (F_X11_at n i11 2 σ8) fun (r13 : Int32) (σ12 : Hp) => if r13 = 1 then (b1 (hR σ12 v0 17) fun (i14 : Nat) => b1 (F_X11_store n i14 r7 ((hI σ12 i10 2) * (v1 - (v2 - v1))) σ12) fun (σ15 : Hp) => F_X3_beginTalk_82 n (F_X3_beginTalk_21 n  f) v0 v1 v2 r7 (some i10) σ15) else (F_X3_beginTalk_82 n (F_X3_beginTalk_21 n  f) v0 v1 v2 r7 (some i10) σ12)))
def F_X3_beginTalk (n : Nat) (a0 : Nat) (σ : Hp) : Option Hp := b1 (F_X3_standAsTold n a0 σ) fun (σ16 : Hp) => lt (pI σ16 a0 8 1) fun (σ17 : Hp) => b2 (F_X3_leaderSeat n a0 σ17) fun (r19 : Int32) (σ18 : Hp) => lt (pI σ18 a0 9 r19) fun (σ20 : Hp) => F_X3_beginTalk_21 n  n a0 0 0 σ20
abbrev rm_X11_begin : Room := { frames := 4, cells := 0, slots := 0, locals := 104 }
theorem h_X11_begin : yX11_begin.cls = RX11 ∧ yX11_begin.cls ≠ "java/lang/invoke/MethodHandle" ∧ yX11_begin.cls ≠ "java/lang/invoke/VarHandle" ∧ (parseMethodDescriptor yX11_begin.desc).map (fun d => d.parameters.length) = some 0 := by decide +kernel
def F_X11_begin (n : Nat) (a0 : Nat) (σ : Hp) : Option (Int32 × Hp) := b1 (hR σ a0 0) fun (i1 : Nat) => if (hI σ i1 2) = 0 then (some ((-3), σ)) else (b1 (hR σ a0 0) fun (i2 : Nat) => b1 (F_X3_beginTalk n i2 σ) fun (σ3 : Hp) => b1 (hR σ3 a0 0) fun (i4 : Nat) => b2 (F_X3_yes n i4 σ3) fun (r6 : Int32) (σ5 : Hp) => some (r6, σ5))
abbrev rm_X3_needed : Room := { frames := 1, cells := 0, slots := 0, locals := 24 }
theorem h_X3_needed : yX3_needed.cls = RX3 ∧ yX3_needed.cls ≠ "java/lang/invoke/MethodHandle" ∧ yX3_needed.cls ≠ "java/lang/invoke/VarHandle" ∧ (parseMethodDescriptor yX3_needed.desc).map (fun d => d.parameters.length) = some 0 := by decide +kernel
def F_X3_needed (n : Nat) (a0 : Nat) (σ : Hp) : Option (Int32 × Hp) := b1 (hR σ a0 7) fun (i1 : Nat) => b2 (F_X11_at n i1 0 σ) fun (r3 : Int32) (σ2 : Hp) => lt (if (hI σ2 a0 2) < r3 then (hI σ2 a0 2) else r3) fun (x4 : Int32) => some (x4, σ2)
abbrev rm_X3_ends : Room := { frames := 3, cells := 0, slots := 0, locals := 60 }
theorem h_X3_ends : yX3_ends.cls = RX3 ∧ yX3_ends.cls ≠ "java/lang/invoke/MethodHandle" ∧ yX3_ends.cls ≠ "java/lang/invoke/VarHandle" ∧ (parseMethodDescriptor yX3_ends.desc).map (fun d => d.parameters.length) = some 0 := by decide +kernel
def F_X3_ends (n : Nat) (a0 : Nat) (σ : Hp) : Option (Int32 × Hp) := b2 (F_X3_yes n a0 σ) fun (r2 : Int32) (σ1 : Hp) => b2 (F_X3_needed n a0 σ1) fun (r4 : Int32) (σ3 : Hp) => if r2 < r4 then (b2 (F_X3_no n a0 σ3) fun (r6 : Int32) (σ5 : Hp) => b2 (F_X3_needed n a0 σ5) fun (r8 : Int32) (σ7 : Hp) => if r6 < r8 then (b1 (hR σ7 a0 7) fun (i9 : Nat) => b2 (F_X11_at n i9 3 σ7) fun (r11 : Int32) (σ10 : Hp) => if (hI σ7 a0 10) < r11 then (some ((-4), σ10)) else (some (2, σ10))) else (some (0, σ7))) else (some (1, σ3))
abbrev rm_X3_yesLessNo : Room := { frames := 1, cells := 0, slots := 0, locals := 20 }
theorem h_X3_yesLessNo : yX3_yesLessNo.cls = RX3 ∧ yX3_yesLessNo.cls ≠ "java/lang/invoke/MethodHandle" ∧ yX3_yesLessNo.cls ≠ "java/lang/invoke/VarHandle" ∧ (parseMethodDescriptor yX3_yesLessNo.desc).map (fun d => d.parameters.length) = some 0 := by decide +kernel
def F_X3_yesLessNo (n : Nat) (a0 : Nat) (σ : Hp) : Option (Int32 × Hp) := b2 (F_J6_bitCount_0f7a4 n (hI σ a0 12) σ) fun (r2 : Int32) (σ1 : Hp) => some ((2 * r2) - (hI σ1 a0 2), σ1)
abbrev rm_X3_push : Room := { frames := 1, cells := 0, slots := 0, locals := 22 }
theorem h_X3_push : yX3_push.cls = RX3 ∧ yX3_push.cls ≠ "java/lang/invoke/MethodHandle" ∧ yX3_push.cls ≠ "java/lang/invoke/VarHandle" ∧ (parseMethodDescriptor yX3_push.desc).map (fun d => d.parameters.length) = some 2 := by decide +kernel
def F_X3_push (n : Nat) (a0 : Nat) (a1 : Int32) (a2 : Int32) (σ : Hp) : Option Hp := b1 (hR σ a0 17) fun (i1 : Nat) => b1 (hR σ a0 17) fun (i2 : Nat) => b2 (F_X11_at n i2 a1 σ) fun (r4 : Int32) (σ3 : Hp) => b1 (F_X11_store n i1 a1 (r4 + a2) σ3) fun (σ5 : Hp) => some σ5
abbrev rm_X0_act : Room := { frames := 2, cells := 0, slots := 0, locals := 44 }
theorem h_X0_act : yX0_act.cls = RX0 ∧ yX0_act.cls ≠ "java/lang/invoke/MethodHandle" ∧ yX0_act.cls ≠ "java/lang/invoke/VarHandle" ∧ (parseMethodDescriptor yX0_act.desc).map (fun d => d.parameters.length) = some 2 := by decide +kernel
def F_X0_act_45 (n : Nat) (K_8 : Nat → Int32 → Int32 → Hp → Option Hp) (v1 : Nat) (v3 : Int32) (v4 : Int32) (σ : Hp) : Option Hp := K_8 v1 v3 (v4 + 1) σ
def F_X0_act_8 (n : Nat)  : Nat → Nat → Int32 → Int32 → Hp → Option Hp
  | 0, _, _, _, _ => none
  | f + 1, v1, v3, v4, σ => if (hI σ v1 2) ≤ v4 then (some σ) else (b2 (F_X3_turnAt n v1 v4 σ) fun (r2 : Option Nat) (σ1 : Hp) => om r2 (F_X0_act_45 n (F_X0_act_8 n  f) v1 v3 v4 σ1) (fun i3 => b1 (F_X3_push n v1 v4 (((hI σ1 i3 2) * v3) / 4) σ1) fun (σ4 : Hp) => F_X0_act_45 n (F_X0_act_8 n  f) v1 v3 v4 σ4))
def F_X0_act (n : Nat) (a0 : Nat) (a1 : Nat) (a2 : Int32) (σ : Hp) : Option Hp := b2 (F_X3_yesLessNo n a1 σ) fun (r6 : Int32) (σ5 : Hp) => F_X0_act_8 n  n a1 r6 0 σ5
theorem w_X1_readNumber_63 {σ0 τ : Hp} (X : SX D cA base p s m args meth c cX1_readNumber 3 none RX1) (n : Nat)  : ∀ (v0 : Nat) (v1 : Int32) (σ : Hp) (H : Heap) (locs : List Loc) (ls : Array Slot), hT σ v0 1 → GW D cA base ad σ H → va_S (bA base) s.heap H locs → xT σ0 σ → lv_has ls 3 [(0, .ref (ad v0)), (1, .int v1)] → F_X1_readNumber_63 n  v0 v1 σ = some τ → W p l e rm_X1_readNumber s m args below meth c H locs 0 0 (ZV below s args D cA base ad σ0 τ) (F0 m 63 ls []) := by
  intro v0 v1 σ H locs ls hT_v0 hG hS hE hl hF
  unfold F_X1_readNumber_63 at hF
  refine lv_aload_n X.1 X.2.1 dX1_readNumber_63 rfl (lv_at hl 0 rfl) ?_
  refine lv_iconst (v := (-1)) X.1 X.2.1 dX1_readNumber_64 (by decide) ?_
  refine lv_iload_n X.1 X.2.1 dX1_readNumber_65 rfl (lv_at hl 1 rfl) ?_
  refine lv_isub X.1 X.2.1 dX1_readNumber_66 ?_
  obtain ⟨σ1, hz, hF⟩ := b1_ex hF
  refine gx_rV (gx_runV (As := [.int ((-1) - v1)]) (rest := []) X hG hS hT_v0.1 (hT_v0.eq (by decide)) (by decide) rfl (c_X1_write l D cA base ad σ n v0 ((-1) - v1) hT_v0 hz) k_490 k_487 k_489 ks_9 k_14 (h_X1_write) rfl rfl ⟨by decide, by decide⟩ rfl hl.1 rfl (Nat.le_of_ble_eq_true rfl) dX1_readNumber_67 ⟨Nat.zero_le _, Nat.zero_le _⟩) hS (fun H locs hG hS hX => ?_)
  have hT_v0 := hX.T hT_v0
  replace hE := hE.trans hX
  exact gx_vret X hG hS hE hF dX1_readNumber_70
theorem w_X1_readNumber_54 {σ0 τ : Hp} (X : SX D cA base p s m args meth c cX1_readNumber 3 none RX1) (n : Nat)  : ∀ (v0 : Nat) (v1 : Int32) (σ : Hp) (H : Heap) (locs : List Loc) (ls : Array Slot), hT σ v0 1 → GW D cA base ad σ H → va_S (bA base) s.heap H locs → xT σ0 σ → lv_has ls 3 [(0, .ref (ad v0)), (1, .int v1)] → F_X1_readNumber_54 n  v0 v1 σ = some τ → W p l e rm_X1_readNumber s m args below meth c H locs 0 0 (ZV below s args D cA base ad σ0 τ) (F0 m 54 ls []) := by
  intro v0 v1 σ H locs ls hT_v0 hG hS hE hl hF
  unfold F_X1_readNumber_54 at hF
  refine lv_goto (tgt := 63) X.1 X.2.1 dX1_readNumber_54 (by decide) ?_
  exact w_X1_readNumber_63 X n  v0 v1 σ _ _ ls hT_v0 hG hS hE (lv_sub hl [0, 1] rfl) hF
theorem w_X1_readNumber_4 {σ0 τ : Hp} (X : SX D cA base p s m args meth c cX1_readNumber 3 none RX1) (n : Nat)  : ∀ f : Nat, ∀ (v0 : Nat) (v1 : Int32) (v2 : Int32) (σ : Hp) (H : Heap) (locs : List Loc) (ls : Array Slot), hT σ v0 1 → GW D cA base ad σ H → va_S (bA base) s.heap H locs → xT σ0 σ → lv_has ls 3 [(0, .ref (ad v0)), (1, .int v1), (2, .int v2)] → F_X1_readNumber_4 n  f v0 v1 v2 σ = some τ → W p l e rm_X1_readNumber s m args below meth c H locs 0 0 (ZV below s args D cA base ad σ0 τ) (F0 m 4 ls []) := by
  intro f
  induction f with
  | zero => intro v0 v1 v2 σ H locs ls h0 hG hS hE hl hF
            rw [F_X1_readNumber_4] at hF; cases hF
  | succ f ih =>
    intro v0 v1 v2 σ H locs ls hT_v0 hG hS hE hl hF
    rw [F_X1_readNumber_4] at hF
    refine lv_iload_n X.1 X.2.1 dX1_readNumber_4 rfl (lv_at hl 2 rfl) ?_
    refine lv_iconst (v := 3) X.1 X.2.1 dX1_readNumber_5 (by decide) ?_
    refine lv_icmp_ge (tgt := 63) X.1 X.2.1 dX1_readNumber_6 (by decide) (fun hc => ?_) (fun hc => ?_)
    · replace hF := it_t hF hc
      exact w_X1_readNumber_63 X n  v0 v1 σ _ _ ls hT_v0 hG hS hE (lv_sub hl [0, 1] rfl) hF
    · replace hF := it_f hF hc
      refine lv_aload_n X.1 X.2.1 dX1_readNumber_9 rfl (lv_at hl 0 rfl) ?_
      obtain ⟨r3, σ2, hz, hF⟩ := b2_ex hF
      refine gx_rI (gx_runV (As := []) (rest := []) X hG hS hT_v0.1 (hT_v0.eq (by decide)) (by decide) rfl (c_X1_next l D cA base ad σ n v0 hT_v0 hz) k_474 k_471 k_473 ks_5 k_14 (h_X1_next) rfl rfl ⟨by decide, by decide⟩ rfl hl.1 rfl (Nat.le_of_ble_eq_true rfl) dX1_readNumber_10 ⟨Nat.zero_le _, Nat.zero_le _⟩) hS (fun H locs hG hS hX => ?_)
      have hT_v0 := hX.T hT_v0
      replace hE := hE.trans hX
      refine lv_bipush (v := 48) X.1 X.2.1 dX1_readNumber_13 (by decide) ?_
      refine lv_icmp_lt (tgt := 63) X.1 X.2.1 dX1_readNumber_15 (by decide) (fun hc => ?_) (fun hc => ?_)
      · replace hF := it_t hF hc
        exact w_X1_readNumber_63 X n  v0 v1 σ2 _ _ ls hT_v0 hG hS hE (lv_sub hl [0, 1] rfl) hF
      · replace hF := it_f hF hc
        refine lv_aload_n X.1 X.2.1 dX1_readNumber_18 rfl (lv_at hl 0 rfl) ?_
        obtain ⟨r5, σ4, hz, hF⟩ := b2_ex hF
        refine gx_rI (gx_runV (As := []) (rest := []) X hG hS hT_v0.1 (hT_v0.eq (by decide)) (by decide) rfl (c_X1_next l D cA base ad σ2 n v0 hT_v0 hz) k_474 k_471 k_473 ks_5 k_14 (h_X1_next) rfl rfl ⟨by decide, by decide⟩ rfl hl.1 rfl (Nat.le_of_ble_eq_true rfl) dX1_readNumber_19 ⟨Nat.zero_le _, Nat.zero_le _⟩) hS (fun H locs hG hS hX => ?_)
        have hT_v0 := hX.T hT_v0
        replace hE := hE.trans hX
        refine lv_bipush (v := 57) X.1 X.2.1 dX1_readNumber_22 (by decide) ?_
        refine lv_icmp_gt (tgt := 63) X.1 X.2.1 dX1_readNumber_24 (by decide) (fun hc => ?_) (fun hc => ?_)
        · replace hF := it_t hF hc
          exact w_X1_readNumber_63 X n  v0 v1 σ4 _ _ ls hT_v0 hG hS hE (lv_sub hl [0, 1] rfl) hF
        · replace hF := it_f hF hc
          refine lv_bipush (v := 10) X.1 X.2.1 dX1_readNumber_27 (by decide) ?_
          refine lv_iload_n X.1 X.2.1 dX1_readNumber_29 rfl (lv_at hl 1 rfl) ?_
          refine lv_imul X.1 X.2.1 dX1_readNumber_30 ?_
          refine lv_aload_n X.1 X.2.1 dX1_readNumber_31 rfl (lv_at hl 0 rfl) ?_
          obtain ⟨r7, σ6, hz, hF⟩ := b2_ex hF
          refine gx_rI (gx_runV (As := []) (rest := [.int (10 * v1)]) X hG hS hT_v0.1 (hT_v0.eq (by decide)) (by decide) rfl (c_X1_next l D cA base ad σ4 n v0 hT_v0 hz) k_474 k_471 k_473 ks_5 k_14 (h_X1_next) rfl rfl ⟨by decide, by decide⟩ rfl hl.1 rfl (Nat.le_of_ble_eq_true rfl) dX1_readNumber_32 ⟨Nat.zero_le _, Nat.zero_le _⟩) hS (fun H locs hG hS hX => ?_)
          have hT_v0 := hX.T hT_v0
          replace hE := hE.trans hX
          refine lv_iadd X.1 X.2.1 dX1_readNumber_35 ?_
          refine lv_bipush (v := 48) X.1 X.2.1 dX1_readNumber_36 (by decide) ?_
          refine lv_isub X.1 X.2.1 dX1_readNumber_38 ?_
          refine lv_istore_n (lv' := [(1, .int (((10 * v1) + r7) - 48)), (0, .ref (ad v0)), (2, .int v2)]) X.1 X.2.1 dX1_readNumber_39 rfl hl (by decide) rfl (fun ls hl => ?_)
          refine lv_aload_n X.1 X.2.1 dX1_readNumber_40 rfl (lv_at hl 1 rfl) ?_
          refine lv_dup X.1 X.2.1 dX1_readNumber_41 rfl ?_
          refine gx_get 1 (v := .int (hI σ6 v0 1)) X hG hT_v0.1 (hT_v0.eq (by decide)) (by decide) rfl inX1 (by decide) k_497 (fun _ h => h) rfl dX1_readNumber_42 ?_
          refine lv_iconst (v := 1) X.1 X.2.1 dX1_readNumber_45 (by decide) ?_
          refine lv_iadd X.1 X.2.1 dX1_readNumber_46 ?_
          refine gx_putI 1  X hG hS hT_v0.1 (hT_v0.eq (by decide)) (by decide) rfl inX1 tyX1_ok nmX1 (by decide) k_497 (fun _ h => h) rfl rfl rfl rfl (Nat.le_of_ble_eq_true rfl) dX1_readNumber_47 hF (fun σ8 H locs hG hS hX hF => ?_)
          have hT_v0 := hX.T hT_v0
          replace hE := hE.trans hX
          refine lv_iload_n X.1 X.2.1 dX1_readNumber_50 rfl (lv_at hl 0 rfl) ?_
          refine lv_if_ne (tgt := 57) X.1 X.2.1 dX1_readNumber_51 (by decide) (fun hc => ?_) (fun hc => ?_)
          · replace hF := it_f hF hc
            refine lv_iinc (v := v2 + 1) (lv' := [(2, .int (v2 + 1)), (1, .int (((10 * v1) + r7) - 48)), (0, .ref (ad v0))]) X.1 X.2.1 dX1_readNumber_57 hl (k := 2) rfl rfl (by decide) rfl (fun ls hl => ?_)
            refine lv_goto (tgt := 4) X.1 X.2.1 dX1_readNumber_60 (by decide) ?_
            exact ih v0 (((10 * v1) + r7) - 48) (v2 + 1) σ8 _ _ ls hT_v0 hG hS hE (lv_sub hl [2, 1, 0] rfl) hF
          · replace hF := it_t hF hc
            exact w_X1_readNumber_54 X n  v0 (((10 * v1) + r7) - 48) σ8 _ _ ls hT_v0 hG hS hE (lv_sub hl [1, 0] rfl) hF
theorem c_X1_readNumber (l : Launch) (D : va_G) (cA : Nat → ClassId) (base : Nat) (ad : Nat → Nat) (σ : Hp) (n : Nat) (a0 : Nat) (hT_a0 : hT σ a0 1) {τ : Hp} (hF : F_X1_readNumber n a0 σ = some τ) : MV l yX1_readNumber cX1_readNumber 3 rm_X1_readNumber D cA base ad σ [.ref (ad a0)] τ := by
  refine Met.ofW (cc := cX1_readNumber) (maxL := 3) (ret := none) (by decide) rfl ?_
  intro p e s m args below meth c s₁ B hml hv
  obtain ⟨rfl, hv⟩ := hv
  have X : SX D cA base p s m ([.ref (ad a0)] : List Value).toArray meth c cX1_readNumber 3 none RX1 := sx_of B hml hv
  have hG := hv.1
  have hS : va_S (bA base) s.heap s.heap [] := va_S.rf
  have hE := xT.rf σ
  have hl := lv_entry ([.ref (ad a0)]) (n := 3) (Nat.le_of_ble_eq_true rfl)
  rw [lg_entry_eq]
  generalize (lg_sl ([.ref (ad a0)]) ++ List.replicate (3 - (lg_sl ([.ref (ad a0)])).length) Slot.unset).toArray = ls at hl ⊢
  have hl : lv_has ls 3 [(0, .ref (ad a0))] := hl
  unfold F_X1_readNumber at hF
  refine lv_iconst (v := 0) X.1 X.2.1 dX1_readNumber_0 (by decide) ?_
  refine lv_istore_n (lv' := [(1, .int 0), (0, .ref (ad a0))]) X.1 X.2.1 dX1_readNumber_1 rfl hl (by decide) rfl (fun ls hl => ?_)
  refine lv_iconst (v := 0) X.1 X.2.1 dX1_readNumber_2 (by decide) ?_
  refine lv_istore_n (lv' := [(2, .int 0), (1, .int 0), (0, .ref (ad a0))]) X.1 X.2.1 dX1_readNumber_3 rfl hl (by decide) rfl (fun ls hl => ?_)
  exact w_X1_readNumber_4 X n  n a0 0 0 σ _ _ ls hT_a0 hG hS hE (lv_sub hl [2, 1, 0] rfl) hF
theorem c_X3_addLaw (l : Launch) (D : va_G) (cA : Nat → ClassId) (base : Nat) (ad : Nat → Nat) (σ : Hp) (n : Nat) (a0 : Nat) (a1 : Nat) (hT_a0 : hT σ a0 3) (hT_a1 : hT σ a1 1) {τ : Hp} {r : Int32} (hF : F_X3_addLaw n a0 a1 σ = some (r, τ)) : MI l yX3_addLaw cX3_addLaw 2 (some .int) rm_X3_addLaw D cA base ad σ [.ref (ad a0), .ref (ad a1)] r τ := by
  refine Met.ofW (cc := cX3_addLaw) (maxL := 2) (ret := (some .int)) (by decide) rfl ?_
  intro p e s m args below meth c s₁ B hml hv
  obtain ⟨rfl, hv⟩ := hv
  have X : SX D cA base p s m ([.ref (ad a0), .ref (ad a1)] : List Value).toArray meth c cX3_addLaw 2 (some .int) RX3 := sx_of B hml hv
  have hG := hv.1
  have hS : va_S (bA base) s.heap s.heap [] := va_S.rf
  have hE := xT.rf σ
  have hl := lv_entry ([.ref (ad a0), .ref (ad a1)]) (n := 2) (Nat.le_of_ble_eq_true rfl)
  rw [lg_entry_eq]
  generalize (lg_sl ([.ref (ad a0), .ref (ad a1)]) ++ List.replicate (2 - (lg_sl ([.ref (ad a0), .ref (ad a1)])).length) Slot.unset).toArray = ls at hl ⊢
  have hl : lv_has ls 2 [(0, .ref (ad a0)), (1, .ref (ad a1))] := hl
  unfold F_X3_addLaw at hF
  refine lv_aload_n X.1 X.2.1 dX3_addLaw_0 rfl (lv_at hl 0 rfl) ?_
  refine gx_get 5 (v := .int (hI σ a0 5)) X hG hT_a0.1 (hT_a0.eq (by decide)) (by decide) rfl inX3 (by decide) k_54 (fun _ h => h) rfl dX3_addLaw_1 ?_
  refine lv_aload_n X.1 X.2.1 dX3_addLaw_4 rfl (lv_at hl 0 rfl) ?_
  obtain ⟨i1, hr, hF⟩ := b1_ex hF
  have hT_i1 : hT σ i1 14 := gw_T hG hT_a0 (by decide) hr
  refine gx_get 6 (v := .ref (ad i1)) X hG hT_a0.1 (hT_a0.eq (by decide)) (by decide) rfl inX3 (by decide) k_55 (fun _ h => h) (gx_rfv hr) dX3_addLaw_5 ?_
  refine gx_alen (t0 := 1) X hG hT_i1 (by decide) (by decide) rfl dX3_addLaw_8 ?_
  refine lv_icmp_lt (tgt := 15) X.1 X.2.1 dX3_addLaw_9 (by decide) (fun hc => ?_) (fun hc => ?_)
  · replace hF := it_t hF hc
    refine lv_aload_n X.1 X.2.1 dX3_addLaw_15 rfl (lv_at hl 0 rfl) ?_
    obtain ⟨i2, hr, hF⟩ := b1_ex hF
    have hT_i2 : hT σ i2 14 := gw_T hG hT_a0 (by decide) hr
    refine gx_get 6 (v := .ref (ad i2)) X hG hT_a0.1 (hT_a0.eq (by decide)) (by decide) rfl inX3 (by decide) k_55 (fun _ h => h) (gx_rfv hr) dX3_addLaw_16 ?_
    refine lv_aload_n X.1 X.2.1 dX3_addLaw_19 rfl (lv_at hl 0 rfl) ?_
    refine gx_get 5 (v := .int (hI σ a0 5)) X hG hT_a0.1 (hT_a0.eq (by decide)) (by decide) rfl inX3 (by decide) k_54 (fun _ h => h) rfl dX3_addLaw_20 ?_
    refine lv_aload_n X.1 X.2.1 dX3_addLaw_23 rfl (lv_at hl 1 rfl) ?_
    refine gx_qast (t0 := 1) (ci := 1) (r := (RX1, TX1, 6)) (v := (some a1)) X hG hS hT_i2 (by decide) (by decide) rfl rfl (by decide) (oT.some hT_a1) rfl hF dX3_addLaw_24 (fun σ3 H locs hG hS hX hF => ?_)
    have hT_a0 := hX.T hT_a0
    have hT_a1 := hX.T hT_a1
    replace hE := hE.trans hX
    refine lv_aload_n X.1 X.2.1 dX3_addLaw_25 rfl (lv_at hl 0 rfl) ?_
    refine lv_dup X.1 X.2.1 dX3_addLaw_26 rfl ?_
    refine gx_get 5 (v := .int (hI σ3 a0 5)) X hG hT_a0.1 (hT_a0.eq (by decide)) (by decide) rfl inX3 (by decide) k_54 (fun _ h => h) rfl dX3_addLaw_27 ?_
    refine lv_iconst (v := 1) X.1 X.2.1 dX3_addLaw_30 (by decide) ?_
    refine lv_iadd X.1 X.2.1 dX3_addLaw_31 ?_
    refine gx_putI 5  X hG hS hT_a0.1 (hT_a0.eq (by decide)) (by decide) rfl inX3 tyX3_ok nmX3 (by decide) k_54 (fun _ h => h) rfl rfl rfl rfl (Nat.le_of_ble_eq_true rfl) dX3_addLaw_32 hF (fun σ4 H locs hG hS hX hF => ?_)
    have hT_a0 := hX.T hT_a0
    have hT_a1 := hX.T hT_a1
    replace hE := hE.trans hX
    refine lv_aload_n X.1 X.2.1 dX3_addLaw_35 rfl (lv_at hl 0 rfl) ?_
    refine gx_get 5 (v := .int (hI σ4 a0 5)) X hG hT_a0.1 (hT_a0.eq (by decide)) (by decide) rfl inX3 (by decide) k_54 (fun _ h => h) rfl dX3_addLaw_36 ?_
    refine lv_iconst (v := 1) X.1 X.2.1 dX3_addLaw_39 (by decide) ?_
    refine lv_isub X.1 X.2.1 dX3_addLaw_40 ?_
    exact gx_iret X hG hS hE hF dX3_addLaw_41
  · replace hF := it_f hF hc
    refine lv_bipush (v := (-2)) X.1 X.2.1 dX3_addLaw_12 (by decide) ?_
    exact gx_iret X hG hS hE hF dX3_addLaw_14
theorem c_X3_leaderSeat (l : Launch) (D : va_G) (cA : Nat → ClassId) (base : Nat) (ad : Nat → Nat) (σ : Hp) (n : Nat) (a0 : Nat) (hT_a0 : hT σ a0 3) {τ : Hp} {r : Int32} (hF : F_X3_leaderSeat n a0 σ = some (r, τ)) : MI l yX3_leaderSeat cX3_leaderSeat 2 (some .int) rm_X3_leaderSeat D cA base ad σ [.ref (ad a0)] r τ := by
  refine Met.ofW (cc := cX3_leaderSeat) (maxL := 2) (ret := (some .int)) (by decide) rfl ?_
  intro p e s m args below meth c s₁ B hml hv
  obtain ⟨rfl, hv⟩ := hv
  have X : SX D cA base p s m ([.ref (ad a0)] : List Value).toArray meth c cX3_leaderSeat 2 (some .int) RX3 := sx_of B hml hv
  have hG := hv.1
  have hS : va_S (bA base) s.heap s.heap [] := va_S.rf
  have hE := xT.rf σ
  have hl := lv_entry ([.ref (ad a0)]) (n := 2) (Nat.le_of_ble_eq_true rfl)
  rw [lg_entry_eq]
  generalize (lg_sl ([.ref (ad a0)]) ++ List.replicate (2 - (lg_sl ([.ref (ad a0)])).length) Slot.unset).toArray = ls at hl ⊢
  have hl : lv_has ls 2 [(0, .ref (ad a0))] := hl
  unfold F_X3_leaderSeat at hF
  refine lv_aload_n X.1 X.2.1 dX3_leaderSeat_0 rfl (lv_at hl 0 rfl) ?_
  obtain ⟨i1, hr, hF⟩ := b1_ex hF
  have hT_i1 : hT σ i1 13 := gw_T hG hT_a0 (by decide) hr
  refine gx_get 7 (v := .ref (ad i1)) X hG hT_a0.1 (hT_a0.eq (by decide)) (by decide) rfl inX3 (by decide) k_56 (fun _ h => h) (gx_rfv hr) dX3_leaderSeat_1 ?_
  refine lv_iconst (v := 1) X.1 X.2.1 dX3_leaderSeat_4 (by decide) ?_
  obtain ⟨r3, σ2, hz, hF⟩ := b2_ex hF
  refine gx_rI (gx_runSN (As := [.ref (ad i1), .int 1]) (rest := []) X hG hS (c_X11_at l D cA base ad σ n i1 1 hT_i1 hz) k_362 q_360 k_361 k_1 (h_X11_at.2) rfl rfl ⟨by decide, by decide⟩ rfl hl.1 rfl (Nat.le_of_ble_eq_true rfl) dX3_leaderSeat_5 ⟨Nat.zero_le _, Nat.zero_le _⟩) hS (fun H locs hG hS hX => ?_)
  have hT_a0 := hX.T hT_a0
  replace hE := hE.trans hX
  refine lv_istore_n (lv' := [(1, .int r3), (0, .ref (ad a0))]) X.1 X.2.1 dX3_leaderSeat_8 rfl hl (by decide) rfl (fun ls hl => ?_)
  refine lv_aload_n X.1 X.2.1 dX3_leaderSeat_9 rfl (lv_at hl 1 rfl) ?_
  refine lv_iload_n X.1 X.2.1 dX3_leaderSeat_10 rfl (lv_at hl 0 rfl) ?_
  obtain ⟨r5, σ4, hz, hF⟩ := b2_ex hF
  refine gx_rI (gx_runV (As := [.int r3]) (rest := []) X hG hS hT_a0.1 (hT_a0.eq (by decide)) (by decide) rfl (c_X3_isSeat l D cA base ad σ2 n a0 r3 hT_a0 hz) k_374 k_384 k_372 k_373 k_2 (h_X3_isSeat) rfl rfl ⟨by decide, by decide⟩ rfl hl.1 rfl (Nat.le_of_ble_eq_true rfl) dX3_leaderSeat_11 ⟨Nat.zero_le _, Nat.zero_le _⟩) hS (fun H locs hG hS hX => ?_)
  have hT_a0 := hX.T hT_a0
  replace hE := hE.trans hX
  refine lv_if_eq (tgt := 21) X.1 X.2.1 dX3_leaderSeat_14 (by decide) (fun hc => ?_) (fun hc => ?_)
  · replace hF := it_t hF hc
    refine lv_iconst (v := 0) X.1 X.2.1 dX3_leaderSeat_21 (by decide) ?_
    exact gx_iret X hG hS hE hF dX3_leaderSeat_22
  · replace hF := it_f hF hc
    refine lv_iload_n X.1 X.2.1 dX3_leaderSeat_17 rfl (lv_at hl 0 rfl) ?_
    refine lv_goto (tgt := 22) X.1 X.2.1 dX3_leaderSeat_18 (by decide) ?_
    exact gx_iret X hG hS hE hF dX3_leaderSeat_22
theorem c_X3_seatFromLeader (l : Launch) (D : va_G) (cA : Nat → ClassId) (base : Nat) (ad : Nat → Nat) (σ : Hp) (n : Nat) (a0 : Nat) (a1 : Int32) (hT_a0 : hT σ a0 3) {τ : Hp} {r : Int32} (hF : F_X3_seatFromLeader n a0 a1 σ = some (r, τ)) : MI l yX3_seatFromLeader cX3_seatFromLeader 2 (some .int) rm_X3_seatFromLeader D cA base ad σ [.ref (ad a0), .int a1] r τ := by
  refine Met.ofW (cc := cX3_seatFromLeader) (maxL := 2) (ret := (some .int)) (by decide) rfl ?_
  intro p e s m args below meth c s₁ B hml hv
  obtain ⟨rfl, hv⟩ := hv
  have X : SX D cA base p s m ([.ref (ad a0), .int a1] : List Value).toArray meth c cX3_seatFromLeader 2 (some .int) RX3 := sx_of B hml hv
  have hG := hv.1
  have hS : va_S (bA base) s.heap s.heap [] := va_S.rf
  have hE := xT.rf σ
  have hl := lv_entry ([.ref (ad a0), .int a1]) (n := 2) (Nat.le_of_ble_eq_true rfl)
  rw [lg_entry_eq]
  generalize (lg_sl ([.ref (ad a0), .int a1]) ++ List.replicate (2 - (lg_sl ([.ref (ad a0), .int a1])).length) Slot.unset).toArray = ls at hl ⊢
  have hl : lv_has ls 2 [(0, .ref (ad a0)), (1, .int a1)] := hl
  unfold F_X3_seatFromLeader at hF
  refine lv_aload_n X.1 X.2.1 dX3_seatFromLeader_0 rfl (lv_at hl 0 rfl) ?_
  refine gx_get 2 (v := .int (hI σ a0 2)) X hG hT_a0.1 (hT_a0.eq (by decide)) (by decide) rfl inX3 (by decide) k_45 (fun _ h => h) rfl dX3_seatFromLeader_1 ?_
  refine lv_if_le (tgt := 21) X.1 X.2.1 dX3_seatFromLeader_4 (by decide) (fun hc => ?_) (fun hc => ?_)
  · replace hF := it_t hF hc
    refine lv_iconst (v := 0) X.1 X.2.1 dX3_seatFromLeader_21 (by decide) ?_
    exact gx_iret X hG hS hE hF dX3_seatFromLeader_22
  · replace hF := it_f hF hc
    refine lv_aload_n X.1 X.2.1 dX3_seatFromLeader_7 rfl (lv_at hl 0 rfl) ?_
    refine gx_get 9 (v := .int (hI σ a0 9)) X hG hT_a0.1 (hT_a0.eq (by decide)) (by decide) rfl inX3 (by decide) k_60 (fun _ h => h) rfl dX3_seatFromLeader_8 ?_
    refine lv_iload_n X.1 X.2.1 dX3_seatFromLeader_11 rfl (lv_at hl 1 rfl) ?_
    refine lv_iadd X.1 X.2.1 dX3_seatFromLeader_12 ?_
    refine lv_aload_n X.1 X.2.1 dX3_seatFromLeader_13 rfl (lv_at hl 0 rfl) ?_
    refine gx_get 2 (v := .int (hI σ a0 2)) X hG hT_a0.1 (hT_a0.eq (by decide)) (by decide) rfl inX3 (by decide) k_45 (fun _ h => h) rfl dX3_seatFromLeader_14 ?_
    obtain ⟨hne, hF⟩ := ck_ex hF
    refine lv_irem X.1 X.2.1 dX3_seatFromLeader_17 hne ?_
    refine lv_goto (tgt := 22) X.1 X.2.1 dX3_seatFromLeader_18 (by decide) ?_
    exact gx_iret X hG hS hE hF dX3_seatFromLeader_22
theorem w_X3_beginTalk_123 {σ0 τ : Hp} (X : SX D cA base p s m args meth c cX3_beginTalk 6 none RX3) (n : Nat)  : ∀ (v0 : Nat) (σ : Hp) (H : Heap) (locs : List Loc) (ls : Array Slot), hT σ v0 3 → GW D cA base ad σ H → va_S (bA base) s.heap H locs → xT σ0 σ → lv_has ls 6 [(0, .ref (ad v0))] → F_X3_beginTalk_123 n  v0 σ = some τ → W p l e rm_X3_beginTalk s m args below meth c H locs 0 0 (ZV below s args D cA base ad σ0 τ) (F0 m 123 ls []) := by
  intro v0 σ H locs ls hT_v0 hG hS hE hl hF
  unfold F_X3_beginTalk_123 at hF
  refine lv_aload_n X.1 X.2.1 dX3_beginTalk_123 rfl (lv_at hl 0 rfl) ?_
  refine lv_aload_n X.1 X.2.1 dX3_beginTalk_124 rfl (lv_at hl 0 rfl) ?_
  refine gx_get 12 (v := .int (hI σ v0 12)) X hG hT_v0.1 (hT_v0.eq (by decide)) (by decide) rfl inX3 (by decide) k_69 (fun _ h => h) rfl dX3_beginTalk_125 ?_
  refine gx_putI 13  X hG hS hT_v0.1 (hT_v0.eq (by decide)) (by decide) rfl inX3 tyX3_ok nmX3 (by decide) k_71 (fun _ h => h) rfl rfl rfl rfl (Nat.le_of_ble_eq_true rfl) dX3_beginTalk_128 hF (fun σ1 H locs hG hS hX hF => ?_)
  have hT_v0 := hX.T hT_v0
  replace hE := hE.trans hX
  exact gx_vret X hG hS hE hF dX3_beginTalk_131
theorem w_X3_beginTalk_117 {σ0 τ : Hp} (X : SX D cA base p s m args meth c cX3_beginTalk 6 none RX3) (n : Nat) (K_21 : Nat → Int32 → Int32 → Hp → Option Hp) (hK_21 : ∀ (v0 : Nat) (v1 : Int32) (v2 : Int32) (σ : Hp) (H : Heap) (locs : List Loc) (ls : Array Slot), hT σ v0 3 → GW D cA base ad σ H → va_S (bA base) s.heap H locs → xT σ0 σ → lv_has ls 6 [(0, .ref (ad v0)), (1, .int v1), (2, .int v2)] → K_21 v0 v1 v2 σ = some τ → W p l e rm_X3_beginTalk s m args below meth c H locs 0 0 (ZV below s args D cA base ad σ0 τ) (F0 m 21 ls [])) : ∀ (v0 : Nat) (v1 : Int32) (v2 : Int32) (σ : Hp) (H : Heap) (locs : List Loc) (ls : Array Slot), hT σ v0 3 → GW D cA base ad σ H → va_S (bA base) s.heap H locs → xT σ0 σ → lv_has ls 6 [(0, .ref (ad v0)), (1, .int v1), (2, .int v2)] → F_X3_beginTalk_117 n K_21 v0 v1 v2 σ = some τ → W p l e rm_X3_beginTalk s m args below meth c H locs 0 0 (ZV below s args D cA base ad σ0 τ) (F0 m 117 ls []) := by
  intro v0 v1 v2 σ H locs ls hT_v0 hG hS hE hl hF
  unfold F_X3_beginTalk_117 at hF
  refine lv_iinc (v := v2 + 1) (lv' := [(2, .int (v2 + 1)), (0, .ref (ad v0)), (1, .int v1)]) X.1 X.2.1 dX3_beginTalk_117 hl (k := 2) rfl rfl (by decide) rfl (fun ls hl => ?_)
  refine lv_goto (tgt := 21) X.1 X.2.1 dX3_beginTalk_120 (by decide) ?_
  exact hK_21 v0 v1 (v2 + 1) σ _ _ ls hT_v0 hG hS hE (lv_sub hl [1, 2, 0] rfl) hF
theorem w_X3_beginTalk_82 {σ0 τ : Hp} (X : SX D cA base p s m args meth c cX3_beginTalk 6 none RX3) (n : Nat) (K_21 : Nat → Int32 → Int32 → Hp → Option Hp) (hK_21 : ∀ (v0 : Nat) (v1 : Int32) (v2 : Int32) (σ : Hp) (H : Heap) (locs : List Loc) (ls : Array Slot), hT σ v0 3 → GW D cA base ad σ H → va_S (bA base) s.heap H locs → xT σ0 σ → lv_has ls 6 [(0, .ref (ad v0)), (1, .int v1), (2, .int v2)] → K_21 v0 v1 v2 σ = some τ → W p l e rm_X3_beginTalk s m args below meth c H locs 0 0 (ZV below s args D cA base ad σ0 τ) (F0 m 21 ls [])) : ∀ (v0 : Nat) (v1 : Int32) (v2 : Int32) (v3 : Int32) (v4 : Option Nat) (σ : Hp) (H : Heap) (locs : List Loc) (ls : Array Slot), hT σ v0 3 → oT σ v4 100 → GW D cA base ad σ H → va_S (bA base) s.heap H locs → xT σ0 σ → lv_has ls 6 [(0, .ref (ad v0)), (1, .int v1), (2, .int v2), (3, .int v3), (4, va_rf (Option.map ad v4))] → F_X3_beginTalk_82 n K_21 v0 v1 v2 v3 v4 σ = some τ → W p l e rm_X3_beginTalk s m args below meth c H locs 0 0 (ZV below s args D cA base ad σ0 τ) (F0 m 82 ls []) := by
  intro v0 v1 v2 v3 v4 σ H locs ls hT_v0 hO_v4 hG hS hE hl hF
  unfold F_X3_beginTalk_82 at hF
  refine gx_aload X.1 X.2.1 dX3_beginTalk_82 (lv_at hl 4 rfl) ?_
  refine gx_ifnull (tgt := 117) X.1 X.2.1 dX3_beginTalk_84 (by decide) hF (fun hr hF2i2 => ?_) (fun i2 hr hF2i2 => ?_)
  · subst hr
    have hF := hF2i2
    have hl : lv_has ls 6 [(0, .ref (ad v0)), (1, .int v1), (2, .int v2), (3, .int v3), (4, .null)] := hl
    exact w_X3_beginTalk_117 X n K_21 hK_21 v0 v1 v2 σ _ _ ls hT_v0 hG hS hE (lv_sub hl [0, 1, 2] rfl) hF
  · subst hr
    have hF := hF2i2
    have hT_i2 := hO_v4 i2 rfl
    have hl : lv_has ls 6 [(0, .ref (ad v0)), (1, .int v1), (2, .int v2), (3, .int v3), (4, .ref (ad i2))] := hl
    refine lv_aload_n X.1 X.2.1 dX3_beginTalk_87 rfl (lv_at hl 0 rfl) ?_
    refine lv_iload_n X.1 X.2.1 dX3_beginTalk_88 rfl (lv_at hl 3 rfl) ?_
    refine lv_iconst (v := 0) X.1 X.2.1 dX3_beginTalk_89 (by decide) ?_
    refine lv_iconst (v := 0) X.1 X.2.1 dX3_beginTalk_90 (by decide) ?_
    obtain ⟨r4, σ3, hz, hF⟩ := b2_ex hF
    refine gx_rI (gx_runV (As := [.int v3, .int 0, .int 0]) (rest := []) X hG hS hT_v0.1 (hT_v0.eq (by decide)) (by decide) rfl (c_X3_leaning l D cA base ad σ n v0 v3 0 0 hT_v0 hz) k_412 k_545 k_410 k_411 k_2 (h_X3_leaning) rfl rfl ⟨by decide, by decide⟩ rfl hl.1 rfl (Nat.le_of_ble_eq_true rfl) dX3_beginTalk_91 ⟨Nat.zero_le _, Nat.zero_le _⟩) hS (fun H locs hG hS hX => ?_)
    have hT_v0 := hX.T hT_v0
    have hT_i2 := hX.T hT_i2
    replace hE := hE.trans hX
    refine lv_aload X.1 X.2.1 dX3_beginTalk_94 (lv_at hl 4 rfl) ?_
    refine gx_getT 4 (v := .int (hI σ3 i2 4)) X hG hT_i2 (by decide) k_219 (fun _ h => h) rfl dX3_beginTalk_96 ?_
    refine lv_icmp_lt (tgt := 117) X.1 X.2.1 dX3_beginTalk_99 (by decide) (fun hc => ?_) (fun hc => ?_)
    · replace hF := it_t hF hc
      exact w_X3_beginTalk_117 X n K_21 hK_21 v0 v1 v2 σ3 _ _ ls hT_v0 hG hS hE (lv_sub hl [0, 1, 2] rfl) hF
    · replace hF := it_f hF hc
      refine lv_aload_n X.1 X.2.1 dX3_beginTalk_102 rfl (lv_at hl 0 rfl) ?_
      refine lv_dup X.1 X.2.1 dX3_beginTalk_103 rfl ?_
      refine gx_get 12 (v := .int (hI σ3 v0 12)) X hG hT_v0.1 (hT_v0.eq (by decide)) (by decide) rfl inX3 (by decide) k_69 (fun _ h => h) rfl dX3_beginTalk_104 ?_
      refine lv_iconst (v := 1) X.1 X.2.1 dX3_beginTalk_107 (by decide) ?_
      refine lv_iload_n X.1 X.2.1 dX3_beginTalk_108 rfl (lv_at hl 3 rfl) ?_
      refine lv_ishl X.1 X.2.1 dX3_beginTalk_109 ?_
      refine lv_ior X.1 X.2.1 dX3_beginTalk_110 ?_
      refine gx_putI 12  X hG hS hT_v0.1 (hT_v0.eq (by decide)) (by decide) rfl inX3 tyX3_ok nmX3 (by decide) k_69 (fun _ h => h) rfl rfl rfl rfl (Nat.le_of_ble_eq_true rfl) dX3_beginTalk_111 hF (fun σ5 H locs hG hS hX hF => ?_)
      have hT_v0 := hX.T hT_v0
      have hT_i2 := hX.T hT_i2
      replace hE := hE.trans hX
      refine lv_iinc (v := v1 + 1) (lv' := [(1, .int (v1 + 1)), (0, .ref (ad v0)), (2, .int v2), (3, .int v3), (4, .ref (ad i2))]) X.1 X.2.1 dX3_beginTalk_114 hl (k := 1) rfl rfl (by decide) rfl (fun ls hl => ?_)
      exact w_X3_beginTalk_117 X n K_21 hK_21 v0 (v1 + 1) v2 σ5 _ _ ls hT_v0 hG hS hE (lv_sub hl [1, 0, 2] rfl) hF
theorem w_X3_beginTalk_21 {σ0 τ : Hp} (X : SX D cA base p s m args meth c cX3_beginTalk 6 none RX3) (n : Nat)  : ∀ f : Nat, ∀ (v0 : Nat) (v1 : Int32) (v2 : Int32) (σ : Hp) (H : Heap) (locs : List Loc) (ls : Array Slot), hT σ v0 3 → GW D cA base ad σ H → va_S (bA base) s.heap H locs → xT σ0 σ → lv_has ls 6 [(0, .ref (ad v0)), (1, .int v1), (2, .int v2)] → F_X3_beginTalk_21 n  f v0 v1 v2 σ = some τ → W p l e rm_X3_beginTalk s m args below meth c H locs 0 0 (ZV below s args D cA base ad σ0 τ) (F0 m 21 ls []) := by
  intro f
  induction f with
  | zero => intro v0 v1 v2 σ H locs ls h0 hG hS hE hl hF
            rw [F_X3_beginTalk_21] at hF; cases hF
  | succ f ih =>
    intro v0 v1 v2 σ H locs ls hT_v0 hG hS hE hl hF
    rw [F_X3_beginTalk_21] at hF
    refine lv_iload_n X.1 X.2.1 dX3_beginTalk_21 rfl (lv_at hl 2 rfl) ?_
    refine lv_aload_n X.1 X.2.1 dX3_beginTalk_22 rfl (lv_at hl 0 rfl) ?_
    refine gx_get 2 (v := .int (hI σ v0 2)) X hG hT_v0.1 (hT_v0.eq (by decide)) (by decide) rfl inX3 (by decide) k_45 (fun _ h => h) rfl dX3_beginTalk_23 ?_
    refine lv_icmp_ge (tgt := 123) X.1 X.2.1 dX3_beginTalk_26 (by decide) (fun hc => ?_) (fun hc => ?_)
    · replace hF := it_t hF hc
      exact w_X3_beginTalk_123 X n  v0 σ _ _ ls hT_v0 hG hS hE (lv_sub hl [0] rfl) hF
    · replace hF := it_f hF hc
      refine lv_aload_n X.1 X.2.1 dX3_beginTalk_29 rfl (lv_at hl 0 rfl) ?_
      refine lv_iload_n X.1 X.2.1 dX3_beginTalk_30 rfl (lv_at hl 2 rfl) ?_
      obtain ⟨r7, σ6, hz, hF⟩ := b2_ex hF
      refine gx_rI (gx_runV (As := [.int v2]) (rest := []) X hG hS hT_v0.1 (hT_v0.eq (by decide)) (by decide) rfl (c_X3_seatFromLeader l D cA base ad σ n v0 v2 hT_v0 hz) k_544 k_541 k_542 k_543 k_2 (h_X3_seatFromLeader) rfl rfl ⟨by decide, by decide⟩ rfl hl.1 rfl (Nat.le_of_ble_eq_true rfl) dX3_beginTalk_31 ⟨Nat.zero_le _, Nat.zero_le _⟩) hS (fun H locs hG hS hX => ?_)
      have hT_v0 := hX.T hT_v0
      replace hE := hE.trans hX
      refine lv_istore_n (lv' := [(3, .int r7), (0, .ref (ad v0)), (1, .int v1), (2, .int v2)]) X.1 X.2.1 dX3_beginTalk_34 rfl hl (by decide) rfl (fun ls hl => ?_)
      refine lv_aload_n X.1 X.2.1 dX3_beginTalk_35 rfl (lv_at hl 1 rfl) ?_
      refine lv_iload_n X.1 X.2.1 dX3_beginTalk_36 rfl (lv_at hl 0 rfl) ?_
      obtain ⟨r9, σ8, hz, hF⟩ := b2_ex hF
      refine gx_rQ (gx_runV (As := [.int r7]) (rest := []) X hG hS hT_v0.1 (hT_v0.eq (by decide)) (by decide) rfl (c_X3_turnAt l D cA base ad σ6 n v0 r7 hT_v0 hz) k_383 k_413 k_381 k_382 k_2 (h_X3_turnAt) rfl rfl ⟨by decide, by decide⟩ rfl hl.1 rfl (Nat.le_of_ble_eq_true rfl) dX3_beginTalk_37 ⟨Nat.zero_le _, Nat.zero_le _⟩) hS (fun H locs hG hS hX hO_r9 => ?_)
      have hT_v0 := hX.T hT_v0
      replace hE := hE.trans hX
      refine gx_astore (lv' := [(4, va_rf (Option.map ad r9)), (3, .int r7), (0, .ref (ad v0)), (1, .int v1), (2, .int v2)]) X.1 X.2.1 dX3_beginTalk_40 hl (by decide) (by cases r9 <;> rfl) (fun ls hl => ?_)
      refine gx_aload X.1 X.2.1 dX3_beginTalk_42 (lv_at hl 0 rfl) ?_
      refine gx_ifnull (tgt := 82) X.1 X.2.1 dX3_beginTalk_44 (by decide) hF (fun hr hF2i10 => ?_) (fun i10 hr hF2i10 => ?_)
      · subst hr
        have hF := hF2i10
        have hl : lv_has ls 6 [(4, .null), (3, .int r7), (0, .ref (ad v0)), (1, .int v1), (2, .int v2)] := hl
        exact w_X3_beginTalk_82 X n (F_X3_beginTalk_21 n  f) ih v0 v1 v2 r7 none σ8 _ _ ls hT_v0 oT.none hG hS hE (lv_sub hl [2, 3, 4, 1, 0] rfl) hF
      · subst hr
        have hF := hF2i10
        have hT_i10 := hO_r9 i10 rfl
        have hl : lv_has ls 6 [(4, .ref (ad i10)), (3, .int r7), (0, .ref (ad v0)), (1, .int v1), (2, .int v2)] := hl
        refine lv_aload_n X.1 X.2.1 dX3_beginTalk_47 rfl (lv_at hl 2 rfl) ?_
        obtain ⟨i11, hr, hF⟩ := b1_ex hF
        have hT_i11 : hT σ8 i11 13 := gw_T hG hT_v0 (by decide) hr
        refine gx_get 7 (v := .ref (ad i11)) X hG hT_v0.1 (hT_v0.eq (by decide)) (by decide) rfl inX3 (by decide) k_56 (fun _ h => h) (gx_rfv hr) dX3_beginTalk_48 ?_
        refine lv_iconst (v := 2) X.1 X.2.1 dX3_beginTalk_51 (by decide) ?_
        obtain ⟨r13, σ12, hz, hF⟩ := b2_ex hF
        refine gx_rI (gx_runSN (As := [.ref (ad i11), .int 2]) (rest := []) X hG hS (c_X11_at l D cA base ad σ8 n i11 2 hT_i11 hz) k_362 q_360 k_361 k_1 (h_X11_at.2) rfl rfl ⟨by decide, by decide⟩ rfl hl.1 rfl (Nat.le_of_ble_eq_true rfl) dX3_beginTalk_52 ⟨Nat.zero_le _, Nat.zero_le _⟩) hS (fun H locs hG hS hX => ?_)
        have hT_v0 := hX.T hT_v0
        have hT_i10 := hX.T hT_i10
        replace hE := hE.trans hX
        refine lv_iconst (v := 1) X.1 X.2.1 dX3_beginTalk_55 (by decide) ?_
        refine lv_icmp_ne (tgt := 82) X.1 X.2.1 dX3_beginTalk_56 (by decide) (fun hc => ?_) (fun hc => ?_)
        · replace hF := it_f hF hc
          exact w_X3_beginTalk_82 X n (F_X3_beginTalk_21 n  f) ih v0 v1 v2 r7 (some i10) σ12 _ _ ls hT_v0 (oT.some hT_i10) hG hS hE (lv_sub hl [2, 3, 4, 1, 0] rfl) hF
        · replace hF := it_t hF hc
          refine lv_iload_n X.1 X.2.1 dX3_beginTalk_59 rfl (lv_at hl 4 rfl) ?_
          refine lv_iload_n X.1 X.2.1 dX3_beginTalk_60 rfl (lv_at hl 3 rfl) ?_
          refine lv_isub X.1 X.2.1 dX3_beginTalk_61 ?_
          refine lv_istore (lv' := [(5, .int (v2 - v1)), (4, .ref (ad i10)), (3, .int r7), (0, .ref (ad v0)), (1, .int v1), (2, .int v2)]) X.1 X.2.1 dX3_beginTalk_62 hl (by decide) rfl (fun ls hl => ?_)
          refine lv_aload_n X.1 X.2.1 dX3_beginTalk_64 rfl (lv_at hl 3 rfl) ?_
          obtain ⟨i14, hr, hF⟩ := b1_ex hF
          have hT_i14 : hT σ12 i14 13 := gw_T hG hT_v0 (by decide) hr
          refine gx_get 17 (v := .ref (ad i14)) X hG hT_v0.1 (hT_v0.eq (by decide)) (by decide) rfl inX3 (by decide) k_78 (fun _ h => h) (gx_rfv hr) dX3_beginTalk_65 ?_
          refine lv_iload_n X.1 X.2.1 dX3_beginTalk_68 rfl (lv_at hl 2 rfl) ?_
          refine lv_aload X.1 X.2.1 dX3_beginTalk_69 (lv_at hl 1 rfl) ?_
          refine gx_getT 2 (v := .int (hI σ12 i10 2)) X hG hT_i10 (by decide) k_212 (fun _ h => h) rfl dX3_beginTalk_71 ?_
          refine lv_iload_n X.1 X.2.1 dX3_beginTalk_74 rfl (lv_at hl 4 rfl) ?_
          refine lv_iload X.1 X.2.1 dX3_beginTalk_75 (lv_at hl 0 rfl) ?_
          refine lv_isub X.1 X.2.1 dX3_beginTalk_77 ?_
          refine lv_imul X.1 X.2.1 dX3_beginTalk_78 ?_
          obtain ⟨σ15, hz, hF⟩ := b1_ex hF
          refine gx_rV (gx_runSN (As := [.ref (ad i14), .int r7, .int ((hI σ12 i10 2) * (v1 - (v2 - v1)))]) (rest := []) X hG hS (c_X11_store l D cA base ad σ12 n i14 r7 ((hI σ12 i10 2) * (v1 - (v2 - v1))) hT_i14 hz) k_173 q_351 k_172 k_1 (h_X11_store.2) rfl rfl ⟨by decide, by decide⟩ rfl hl.1 rfl (Nat.le_of_ble_eq_true rfl) dX3_beginTalk_79 ⟨Nat.zero_le _, Nat.zero_le _⟩) hS (fun H locs hG hS hX => ?_)
          have hT_v0 := hX.T hT_v0
          have hT_i10 := hX.T hT_i10
          replace hE := hE.trans hX
          exact w_X3_beginTalk_82 X n (F_X3_beginTalk_21 n  f) ih v0 v1 v2 r7 (some i10) σ15 _ _ ls hT_v0 (oT.some hT_i10) hG hS hE (lv_sub hl [3, 4, 5, 2, 1] rfl) hF
theorem c_X3_beginTalk (l : Launch) (D : va_G) (cA : Nat → ClassId) (base : Nat) (ad : Nat → Nat) (σ : Hp) (n : Nat) (a0 : Nat) (hT_a0 : hT σ a0 3) {τ : Hp} (hF : F_X3_beginTalk n a0 σ = some τ) : MV l yX3_beginTalk cX3_beginTalk 6 rm_X3_beginTalk D cA base ad σ [.ref (ad a0)] τ := by
  refine Met.ofW (cc := cX3_beginTalk) (maxL := 6) (ret := none) (by decide) rfl ?_
  intro p e s m args below meth c s₁ B hml hv
  obtain ⟨rfl, hv⟩ := hv
  have X : SX D cA base p s m ([.ref (ad a0)] : List Value).toArray meth c cX3_beginTalk 6 none RX3 := sx_of B hml hv
  have hG := hv.1
  have hS : va_S (bA base) s.heap s.heap [] := va_S.rf
  have hE := xT.rf σ
  have hl := lv_entry ([.ref (ad a0)]) (n := 6) (Nat.le_of_ble_eq_true rfl)
  rw [lg_entry_eq]
  generalize (lg_sl ([.ref (ad a0)]) ++ List.replicate (6 - (lg_sl ([.ref (ad a0)])).length) Slot.unset).toArray = ls at hl ⊢
  have hl : lv_has ls 6 [(0, .ref (ad a0))] := hl
  unfold F_X3_beginTalk at hF
  refine lv_aload_n X.1 X.2.1 dX3_beginTalk_0 rfl (lv_at hl 0 rfl) ?_
  obtain ⟨σ16, hz, hF⟩ := b1_ex hF
  refine gx_rV (gx_runV (As := []) (rest := []) X hG hS hT_a0.1 (hT_a0.eq (by decide)) (by decide) rfl (c_X3_standAsTold l D cA base ad σ n a0 hT_a0 hz) k_355 k_536 k_353 k_354 k_2 (h_X3_standAsTold) rfl rfl ⟨by decide, by decide⟩ rfl hl.1 rfl (Nat.le_of_ble_eq_true rfl) dX3_beginTalk_1 ⟨Nat.zero_le _, Nat.zero_le _⟩) hS (fun H locs hG hS hX => ?_)
  have hT_a0 := hX.T hT_a0
  replace hE := hE.trans hX
  refine lv_aload_n X.1 X.2.1 dX3_beginTalk_4 rfl (lv_at hl 0 rfl) ?_
  refine lv_iconst (v := 1) X.1 X.2.1 dX3_beginTalk_5 (by decide) ?_
  refine gx_putI 8  X hG hS hT_a0.1 (hT_a0.eq (by decide)) (by decide) rfl inX3 tyX3_ok nmX3 (by decide) k_59 (fun _ h => h) rfl rfl rfl rfl (Nat.le_of_ble_eq_true rfl) dX3_beginTalk_6 hF (fun σ17 H locs hG hS hX hF => ?_)
  have hT_a0 := hX.T hT_a0
  replace hE := hE.trans hX
  refine lv_aload_n X.1 X.2.1 dX3_beginTalk_9 rfl (lv_at hl 0 rfl) ?_
  refine lv_aload_n X.1 X.2.1 dX3_beginTalk_10 rfl (lv_at hl 0 rfl) ?_
  obtain ⟨r19, σ18, hz, hF⟩ := b2_ex hF
  refine gx_rI (gx_runV (As := []) (rest := [.ref (ad a0)]) X hG hS hT_a0.1 (hT_a0.eq (by decide)) (by decide) rfl (c_X3_leaderSeat l D cA base ad σ17 n a0 hT_a0 hz) k_540 k_537 k_538 k_539 k_2 (h_X3_leaderSeat) rfl rfl ⟨by decide, by decide⟩ rfl hl.1 rfl (Nat.le_of_ble_eq_true rfl) dX3_beginTalk_11 ⟨Nat.zero_le _, Nat.zero_le _⟩) hS (fun H locs hG hS hX => ?_)
  have hT_a0 := hX.T hT_a0
  replace hE := hE.trans hX
  refine gx_putI 9  X hG hS hT_a0.1 (hT_a0.eq (by decide)) (by decide) rfl inX3 tyX3_ok nmX3 (by decide) k_60 (fun _ h => h) rfl rfl rfl rfl (Nat.le_of_ble_eq_true rfl) dX3_beginTalk_14 hF (fun σ20 H locs hG hS hX hF => ?_)
  have hT_a0 := hX.T hT_a0
  replace hE := hE.trans hX
  refine lv_iconst (v := 0) X.1 X.2.1 dX3_beginTalk_17 (by decide) ?_
  refine lv_istore_n (lv' := [(1, .int 0), (0, .ref (ad a0))]) X.1 X.2.1 dX3_beginTalk_18 rfl hl (by decide) rfl (fun ls hl => ?_)
  refine lv_iconst (v := 0) X.1 X.2.1 dX3_beginTalk_19 (by decide) ?_
  refine lv_istore_n (lv' := [(2, .int 0), (1, .int 0), (0, .ref (ad a0))]) X.1 X.2.1 dX3_beginTalk_20 rfl hl (by decide) rfl (fun ls hl => ?_)
  exact w_X3_beginTalk_21 X n  n a0 0 0 σ20 _ _ ls hT_a0 hG hS hE (lv_sub hl [2, 1, 0] rfl) hF
theorem c_X11_begin (l : Launch) (D : va_G) (cA : Nat → ClassId) (base : Nat) (ad : Nat → Nat) (σ : Hp) (n : Nat) (a0 : Nat) (hT_a0 : hT σ a0 11) {τ : Hp} {r : Int32} (hF : F_X11_begin n a0 σ = some (r, τ)) : MI l yX11_begin cX11_begin 1 (some .int) rm_X11_begin D cA base ad σ [.ref (ad a0)] r τ := by
  refine Met.ofW (cc := cX11_begin) (maxL := 1) (ret := (some .int)) (by decide) rfl ?_
  intro p e s m args below meth c s₁ B hml hv
  obtain ⟨rfl, hv⟩ := hv
  have X : SX D cA base p s m ([.ref (ad a0)] : List Value).toArray meth c cX11_begin 1 (some .int) RX11 := sx_of B hml hv
  have hG := hv.1
  have hS : va_S (bA base) s.heap s.heap [] := va_S.rf
  have hE := xT.rf σ
  have hl := lv_entry ([.ref (ad a0)]) (n := 1) (Nat.le_of_ble_eq_true rfl)
  rw [lg_entry_eq]
  generalize (lg_sl ([.ref (ad a0)]) ++ List.replicate (1 - (lg_sl ([.ref (ad a0)])).length) Slot.unset).toArray = ls at hl ⊢
  have hl : lv_has ls 1 [(0, .ref (ad a0))] := hl
  unfold F_X11_begin at hF
  refine lv_aload_n X.1 X.2.1 dX11_begin_0 rfl (lv_at hl 0 rfl) ?_
  obtain ⟨i1, hr, hF⟩ := b1_ex hF
  have hT_i1 : hT σ i1 3 := gw_T hG hT_a0 (by decide) hr
  refine gx_get 0 (v := .ref (ad i1)) X hG hT_a0.1 (hT_a0.eq (by decide)) (by decide) rfl inX11 (by decide) k_151 (fun _ h => h) (gx_rfv hr) dX11_begin_1 ?_
  refine gx_getN 2 (v := .int (hI σ i1 2)) X hG hT_i1.1 (hT_i1.eq (by decide)) (by decide) rfl inX3 (by decide) q_49 (fun _ h => h) rfl dX11_begin_4 ?_
  refine lv_if_ne (tgt := 13) X.1 X.2.1 dX11_begin_7 (by decide) (fun hc => ?_) (fun hc => ?_)
  · replace hF := it_f hF hc
    refine lv_aload_n X.1 X.2.1 dX11_begin_13 rfl (lv_at hl 0 rfl) ?_
    obtain ⟨i2, hr, hF⟩ := b1_ex hF
    have hT_i2 : hT σ i2 3 := gw_T hG hT_a0 (by decide) hr
    refine gx_get 0 (v := .ref (ad i2)) X hG hT_a0.1 (hT_a0.eq (by decide)) (by decide) rfl inX11 (by decide) k_151 (fun _ h => h) (gx_rfv hr) dX11_begin_14 ?_
    obtain ⟨σ3, hz, hF⟩ := b1_ex hF
    refine gx_rV (gx_runV (As := []) (rest := []) X hG hS hT_i2.1 (hT_i2.eq (by decide)) (by decide) rfl (c_X3_beginTalk l D cA base ad σ n i2 hT_i2 hz) k_535 k_532 k_533 k_534 k_2 (h_X3_beginTalk) rfl rfl ⟨by decide, by decide⟩ rfl hl.1 rfl (Nat.le_of_ble_eq_true rfl) dX11_begin_17 ⟨Nat.zero_le _, Nat.zero_le _⟩) hS (fun H locs hG hS hX => ?_)
    have hT_a0 := hX.T hT_a0
    replace hE := hE.trans hX
    refine lv_aload_n X.1 X.2.1 dX11_begin_20 rfl (lv_at hl 0 rfl) ?_
    obtain ⟨i4, hr, hF⟩ := b1_ex hF
    have hT_i4 : hT σ3 i4 3 := gw_T hG hT_a0 (by decide) hr
    refine gx_get 0 (v := .ref (ad i4)) X hG hT_a0.1 (hT_a0.eq (by decide)) (by decide) rfl inX11 (by decide) k_151 (fun _ h => h) (gx_rfv hr) dX11_begin_21 ?_
    obtain ⟨r6, σ5, hz, hF⟩ := b2_ex hF
    refine gx_rI (gx_runV (As := []) (rest := []) X hG hS hT_i4.1 (hT_i4.eq (by decide)) (by decide) rfl (c_X3_yes l D cA base ad σ3 n i4 hT_i4 hz) k_397 k_394 k_395 k_396 k_2 (h_X3_yes) rfl rfl ⟨by decide, by decide⟩ rfl hl.1 rfl (Nat.le_of_ble_eq_true rfl) dX11_begin_24 ⟨Nat.zero_le _, Nat.zero_le _⟩) hS (fun H locs hG hS hX => ?_)
    have hT_a0 := hX.T hT_a0
    replace hE := hE.trans hX
    exact gx_iret X hG hS hE hF dX11_begin_27
  · replace hF := it_t hF hc
    refine lv_bipush (v := (-3)) X.1 X.2.1 dX11_begin_10 (by decide) ?_
    exact gx_iret X hG hS hE hF dX11_begin_12
theorem c_X3_needed (l : Launch) (D : va_G) (cA : Nat → ClassId) (base : Nat) (ad : Nat → Nat) (σ : Hp) (n : Nat) (a0 : Nat) (hT_a0 : hT σ a0 3) {τ : Hp} {r : Int32} (hF : F_X3_needed n a0 σ = some (r, τ)) : MI l yX3_needed cX3_needed 1 (some .int) rm_X3_needed D cA base ad σ [.ref (ad a0)] r τ := by
  refine Met.ofW (cc := cX3_needed) (maxL := 1) (ret := (some .int)) (by decide) rfl ?_
  intro p e s m args below meth c s₁ B hml hv
  obtain ⟨rfl, hv⟩ := hv
  have X : SX D cA base p s m ([.ref (ad a0)] : List Value).toArray meth c cX3_needed 1 (some .int) RX3 := sx_of B hml hv
  have hG := hv.1
  have hS : va_S (bA base) s.heap s.heap [] := va_S.rf
  have hE := xT.rf σ
  have hl := lv_entry ([.ref (ad a0)]) (n := 1) (Nat.le_of_ble_eq_true rfl)
  rw [lg_entry_eq]
  generalize (lg_sl ([.ref (ad a0)]) ++ List.replicate (1 - (lg_sl ([.ref (ad a0)])).length) Slot.unset).toArray = ls at hl ⊢
  have hl : lv_has ls 1 [(0, .ref (ad a0))] := hl
  unfold F_X3_needed at hF
  refine lv_aload_n X.1 X.2.1 dX3_needed_0 rfl (lv_at hl 0 rfl) ?_
  obtain ⟨i1, hr, hF⟩ := b1_ex hF
  have hT_i1 : hT σ i1 13 := gw_T hG hT_a0 (by decide) hr
  refine gx_get 7 (v := .ref (ad i1)) X hG hT_a0.1 (hT_a0.eq (by decide)) (by decide) rfl inX3 (by decide) k_56 (fun _ h => h) (gx_rfv hr) dX3_needed_1 ?_
  refine lv_iconst (v := 0) X.1 X.2.1 dX3_needed_4 (by decide) ?_
  obtain ⟨r3, σ2, hz, hF⟩ := b2_ex hF
  refine gx_rI (gx_runSN (As := [.ref (ad i1), .int 0]) (rest := []) X hG hS (c_X11_at l D cA base ad σ n i1 0 hT_i1 hz) k_362 q_360 k_361 k_1 (h_X11_at.2) rfl rfl ⟨by decide, by decide⟩ rfl hl.1 rfl (Nat.le_of_ble_eq_true rfl) dX3_needed_5 ⟨Nat.zero_le _, Nat.zero_le _⟩) hS (fun H locs hG hS hX => ?_)
  have hT_a0 := hX.T hT_a0
  replace hE := hE.trans hX
  refine lv_aload_n X.1 X.2.1 dX3_needed_8 rfl (lv_at hl 0 rfl) ?_
  refine gx_get 2 (v := .int (hI σ2 a0 2)) X hG hT_a0.1 (hT_a0.eq (by decide)) (by decide) rfl inX3 (by decide) k_45 (fun _ h => h) rfl dX3_needed_9 ?_
  refine va_mmin X.1 X.2.1 (by rw [X.2.2.1]; exact hl.1.symm) X.2.2.2.2.2.1 (X.w k_558) (X.w k_451) (X.w k_15) (X.w k_452) (Nat.le_of_ble_eq_true rfl) (Nat.le_of_ble_eq_true rfl) (Nat.zero_le _) (Nat.zero_le _) dX3_needed_12 ?_
  refine lv_topi (fun x4 ex4 => ?_)
  replace hF := lt_nm hF ex4
  exact gx_iret X hG hS hE hF dX3_needed_15
theorem c_X3_ends (l : Launch) (D : va_G) (cA : Nat → ClassId) (base : Nat) (ad : Nat → Nat) (σ : Hp) (n : Nat) (a0 : Nat) (hT_a0 : hT σ a0 3) {τ : Hp} {r : Int32} (hF : F_X3_ends n a0 σ = some (r, τ)) : MI l yX3_ends cX3_ends 1 (some .int) rm_X3_ends D cA base ad σ [.ref (ad a0)] r τ := by
  refine Met.ofW (cc := cX3_ends) (maxL := 1) (ret := (some .int)) (by decide) rfl ?_
  intro p e s m args below meth c s₁ B hml hv
  obtain ⟨rfl, hv⟩ := hv
  have X : SX D cA base p s m ([.ref (ad a0)] : List Value).toArray meth c cX3_ends 1 (some .int) RX3 := sx_of B hml hv
  have hG := hv.1
  have hS : va_S (bA base) s.heap s.heap [] := va_S.rf
  have hE := xT.rf σ
  have hl := lv_entry ([.ref (ad a0)]) (n := 1) (Nat.le_of_ble_eq_true rfl)
  rw [lg_entry_eq]
  generalize (lg_sl ([.ref (ad a0)]) ++ List.replicate (1 - (lg_sl ([.ref (ad a0)])).length) Slot.unset).toArray = ls at hl ⊢
  have hl : lv_has ls 1 [(0, .ref (ad a0))] := hl
  unfold F_X3_ends at hF
  refine lv_aload_n X.1 X.2.1 dX3_ends_0 rfl (lv_at hl 0 rfl) ?_
  obtain ⟨r2, σ1, hz, hF⟩ := b2_ex hF
  refine gx_rI (gx_runV (As := []) (rest := []) X hG hS hT_a0.1 (hT_a0.eq (by decide)) (by decide) rfl (c_X3_yes l D cA base ad σ n a0 hT_a0 hz) k_397 k_408 k_395 k_396 k_2 (h_X3_yes) rfl rfl ⟨by decide, by decide⟩ rfl hl.1 rfl (Nat.le_of_ble_eq_true rfl) dX3_ends_1 ⟨Nat.zero_le _, Nat.zero_le _⟩) hS (fun H locs hG hS hX => ?_)
  have hT_a0 := hX.T hT_a0
  replace hE := hE.trans hX
  refine lv_aload_n X.1 X.2.1 dX3_ends_4 rfl (lv_at hl 0 rfl) ?_
  obtain ⟨r4, σ3, hz, hF⟩ := b2_ex hF
  refine gx_rI (gx_runV (As := []) (rest := [.int r2]) X hG hS hT_a0.1 (hT_a0.eq (by decide)) (by decide) rfl (c_X3_needed l D cA base ad σ1 n a0 hT_a0 hz) k_557 k_554 k_555 k_556 k_2 (h_X3_needed) rfl rfl ⟨by decide, by decide⟩ rfl hl.1 rfl (Nat.le_of_ble_eq_true rfl) dX3_ends_5 ⟨Nat.zero_le _, Nat.zero_le _⟩) hS (fun H locs hG hS hX => ?_)
  have hT_a0 := hX.T hT_a0
  replace hE := hE.trans hX
  refine lv_icmp_lt (tgt := 13) X.1 X.2.1 dX3_ends_8 (by decide) (fun hc => ?_) (fun hc => ?_)
  · replace hF := it_t hF hc
    refine lv_aload_n X.1 X.2.1 dX3_ends_13 rfl (lv_at hl 0 rfl) ?_
    obtain ⟨r6, σ5, hz, hF⟩ := b2_ex hF
    refine gx_rI (gx_runV (As := []) (rest := []) X hG hS hT_a0.1 (hT_a0.eq (by decide)) (by decide) rfl (c_X3_no l D cA base ad σ3 n a0 hT_a0 hz) k_407 k_559 k_405 k_406 k_2 (h_X3_no) rfl rfl ⟨by decide, by decide⟩ rfl hl.1 rfl (Nat.le_of_ble_eq_true rfl) dX3_ends_14 ⟨Nat.zero_le _, Nat.zero_le _⟩) hS (fun H locs hG hS hX => ?_)
    have hT_a0 := hX.T hT_a0
    replace hE := hE.trans hX
    refine lv_aload_n X.1 X.2.1 dX3_ends_17 rfl (lv_at hl 0 rfl) ?_
    obtain ⟨r8, σ7, hz, hF⟩ := b2_ex hF
    refine gx_rI (gx_runV (As := []) (rest := [.int r6]) X hG hS hT_a0.1 (hT_a0.eq (by decide)) (by decide) rfl (c_X3_needed l D cA base ad σ5 n a0 hT_a0 hz) k_557 k_554 k_555 k_556 k_2 (h_X3_needed) rfl rfl ⟨by decide, by decide⟩ rfl hl.1 rfl (Nat.le_of_ble_eq_true rfl) dX3_ends_18 ⟨Nat.zero_le _, Nat.zero_le _⟩) hS (fun H locs hG hS hX => ?_)
    have hT_a0 := hX.T hT_a0
    replace hE := hE.trans hX
    refine lv_icmp_lt (tgt := 26) X.1 X.2.1 dX3_ends_21 (by decide) (fun hc => ?_) (fun hc => ?_)
    · replace hF := it_t hF hc
      refine lv_aload_n X.1 X.2.1 dX3_ends_26 rfl (lv_at hl 0 rfl) ?_
      refine gx_get 10 (v := .int (hI σ7 a0 10)) X hG hT_a0.1 (hT_a0.eq (by decide)) (by decide) rfl inX3 (by decide) k_63 (fun _ h => h) rfl dX3_ends_27 ?_
      refine lv_aload_n X.1 X.2.1 dX3_ends_30 rfl (lv_at hl 0 rfl) ?_
      obtain ⟨i9, hr, hF⟩ := b1_ex hF
      have hT_i9 : hT σ7 i9 13 := gw_T hG hT_a0 (by decide) hr
      refine gx_get 7 (v := .ref (ad i9)) X hG hT_a0.1 (hT_a0.eq (by decide)) (by decide) rfl inX3 (by decide) k_56 (fun _ h => h) (gx_rfv hr) dX3_ends_31 ?_
      refine lv_iconst (v := 3) X.1 X.2.1 dX3_ends_34 (by decide) ?_
      obtain ⟨r11, σ10, hz, hF⟩ := b2_ex hF
      refine gx_rI (gx_runSN (As := [.ref (ad i9), .int 3]) (rest := [.int (hI σ7 a0 10)]) X hG hS (c_X11_at l D cA base ad σ7 n i9 3 hT_i9 hz) k_362 q_360 k_361 k_1 (h_X11_at.2) rfl rfl ⟨by decide, by decide⟩ rfl hl.1 rfl (Nat.le_of_ble_eq_true rfl) dX3_ends_35 ⟨Nat.zero_le _, Nat.zero_le _⟩) hS (fun H locs hG hS hX => ?_)
      have hT_a0 := hX.T hT_a0
      replace hE := hE.trans hX
      refine lv_icmp_lt (tgt := 45) X.1 X.2.1 dX3_ends_38 (by decide) (fun hc => ?_) (fun hc => ?_)
      · replace hF := it_t hF hc
        refine lv_bipush (v := (-4)) X.1 X.2.1 dX3_ends_45 (by decide) ?_
        exact gx_iret X hG hS hE hF dX3_ends_47
      · replace hF := it_f hF hc
        refine lv_iconst (v := 2) X.1 X.2.1 dX3_ends_41 (by decide) ?_
        refine lv_goto (tgt := 47) X.1 X.2.1 dX3_ends_42 (by decide) ?_
        exact gx_iret X hG hS hE hF dX3_ends_47
    · replace hF := it_f hF hc
      refine lv_iconst (v := 0) X.1 X.2.1 dX3_ends_24 (by decide) ?_
      exact gx_iret X hG hS hE hF dX3_ends_25
  · replace hF := it_f hF hc
    refine lv_iconst (v := 1) X.1 X.2.1 dX3_ends_11 (by decide) ?_
    exact gx_iret X hG hS hE hF dX3_ends_12
theorem c_X3_yesLessNo (l : Launch) (D : va_G) (cA : Nat → ClassId) (base : Nat) (ad : Nat → Nat) (σ : Hp) (n : Nat) (a0 : Nat) (hT_a0 : hT σ a0 3) {τ : Hp} {r : Int32} (hF : F_X3_yesLessNo n a0 σ = some (r, τ)) : MI l yX3_yesLessNo cX3_yesLessNo 1 (some .int) rm_X3_yesLessNo D cA base ad σ [.ref (ad a0)] r τ := by
  refine Met.ofW (cc := cX3_yesLessNo) (maxL := 1) (ret := (some .int)) (by decide) rfl ?_
  intro p e s m args below meth c s₁ B hml hv
  obtain ⟨rfl, hv⟩ := hv
  have X : SX D cA base p s m ([.ref (ad a0)] : List Value).toArray meth c cX3_yesLessNo 1 (some .int) RX3 := sx_of B hml hv
  have hG := hv.1
  have hS : va_S (bA base) s.heap s.heap [] := va_S.rf
  have hE := xT.rf σ
  have hl := lv_entry ([.ref (ad a0)]) (n := 1) (Nat.le_of_ble_eq_true rfl)
  rw [lg_entry_eq]
  generalize (lg_sl ([.ref (ad a0)]) ++ List.replicate (1 - (lg_sl ([.ref (ad a0)])).length) Slot.unset).toArray = ls at hl ⊢
  have hl : lv_has ls 1 [(0, .ref (ad a0))] := hl
  unfold F_X3_yesLessNo at hF
  refine lv_iconst (v := 2) X.1 X.2.1 dX3_yesLessNo_0 (by decide) ?_
  refine lv_aload_n X.1 X.2.1 dX3_yesLessNo_1 rfl (lv_at hl 0 rfl) ?_
  refine gx_get 12 (v := .int (hI σ a0 12)) X hG hT_a0.1 (hT_a0.eq (by decide)) (by decide) rfl inX3 (by decide) k_69 (fun _ h => h) rfl dX3_yesLessNo_2 ?_
  obtain ⟨r2, σ1, hz, hF⟩ := b2_ex hF
  refine gx_rI (gx_runS (As := [.int (hI σ a0 12)]) (rest := [.int 2]) X hG hS (c_J6_bitCount_0f7a4 l D cA base ad σ n (hI σ a0 12)  hz) k_400 k_398 k_399 k_13 (h_J6_bitCount_0f7a4.2) rfl rfl ⟨by decide, by decide⟩ rfl hl.1 rfl (Nat.le_of_ble_eq_true rfl) dX3_yesLessNo_5 ⟨Nat.zero_le _, Nat.zero_le _⟩) hS (fun H locs hG hS hX => ?_)
  have hT_a0 := hX.T hT_a0
  replace hE := hE.trans hX
  refine lv_imul X.1 X.2.1 dX3_yesLessNo_8 ?_
  refine lv_aload_n X.1 X.2.1 dX3_yesLessNo_9 rfl (lv_at hl 0 rfl) ?_
  refine gx_get 2 (v := .int (hI σ1 a0 2)) X hG hT_a0.1 (hT_a0.eq (by decide)) (by decide) rfl inX3 (by decide) k_45 (fun _ h => h) rfl dX3_yesLessNo_10 ?_
  refine lv_isub X.1 X.2.1 dX3_yesLessNo_13 ?_
  exact gx_iret X hG hS hE hF dX3_yesLessNo_14
theorem c_X3_push (l : Launch) (D : va_G) (cA : Nat → ClassId) (base : Nat) (ad : Nat → Nat) (σ : Hp) (n : Nat) (a0 : Nat) (a1 : Int32) (a2 : Int32) (hT_a0 : hT σ a0 3) {τ : Hp} (hF : F_X3_push n a0 a1 a2 σ = some τ) : MV l yX3_push cX3_push 3 rm_X3_push D cA base ad σ [.ref (ad a0), .int a1, .int a2] τ := by
  refine Met.ofW (cc := cX3_push) (maxL := 3) (ret := none) (by decide) rfl ?_
  intro p e s m args below meth c s₁ B hml hv
  obtain ⟨rfl, hv⟩ := hv
  have X : SX D cA base p s m ([.ref (ad a0), .int a1, .int a2] : List Value).toArray meth c cX3_push 3 none RX3 := sx_of B hml hv
  have hG := hv.1
  have hS : va_S (bA base) s.heap s.heap [] := va_S.rf
  have hE := xT.rf σ
  have hl := lv_entry ([.ref (ad a0), .int a1, .int a2]) (n := 3) (Nat.le_of_ble_eq_true rfl)
  rw [lg_entry_eq]
  generalize (lg_sl ([.ref (ad a0), .int a1, .int a2]) ++ List.replicate (3 - (lg_sl ([.ref (ad a0), .int a1, .int a2])).length) Slot.unset).toArray = ls at hl ⊢
  have hl : lv_has ls 3 [(0, .ref (ad a0)), (1, .int a1), (2, .int a2)] := hl
  unfold F_X3_push at hF
  refine lv_aload_n X.1 X.2.1 dX3_push_0 rfl (lv_at hl 0 rfl) ?_
  obtain ⟨i1, hr, hF⟩ := b1_ex hF
  have hT_i1 : hT σ i1 13 := gw_T hG hT_a0 (by decide) hr
  refine gx_get 17 (v := .ref (ad i1)) X hG hT_a0.1 (hT_a0.eq (by decide)) (by decide) rfl inX3 (by decide) k_78 (fun _ h => h) (gx_rfv hr) dX3_push_1 ?_
  refine lv_iload_n X.1 X.2.1 dX3_push_4 rfl (lv_at hl 1 rfl) ?_
  refine lv_aload_n X.1 X.2.1 dX3_push_5 rfl (lv_at hl 0 rfl) ?_
  obtain ⟨i2, hr, hF⟩ := b1_ex hF
  have hT_i2 : hT σ i2 13 := gw_T hG hT_a0 (by decide) hr
  refine gx_get 17 (v := .ref (ad i2)) X hG hT_a0.1 (hT_a0.eq (by decide)) (by decide) rfl inX3 (by decide) k_78 (fun _ h => h) (gx_rfv hr) dX3_push_6 ?_
  refine lv_iload_n X.1 X.2.1 dX3_push_9 rfl (lv_at hl 1 rfl) ?_
  obtain ⟨r4, σ3, hz, hF⟩ := b2_ex hF
  refine gx_rI (gx_runSN (As := [.ref (ad i2), .int a1]) (rest := [.int a1, .ref (ad i1)]) X hG hS (c_X11_at l D cA base ad σ n i2 a1 hT_i2 hz) k_362 q_360 k_361 k_1 (h_X11_at.2) rfl rfl ⟨by decide, by decide⟩ rfl hl.1 rfl (Nat.le_of_ble_eq_true rfl) dX3_push_10 ⟨Nat.zero_le _, Nat.zero_le _⟩) hS (fun H locs hG hS hX => ?_)
  have hT_a0 := hX.T hT_a0
  have hT_i1 := hX.T hT_i1
  replace hE := hE.trans hX
  refine lv_iload_n X.1 X.2.1 dX3_push_13 rfl (lv_at hl 2 rfl) ?_
  refine lv_iadd X.1 X.2.1 dX3_push_14 ?_
  obtain ⟨σ5, hz, hF⟩ := b1_ex hF
  refine gx_rV (gx_runSN (As := [.ref (ad i1), .int a1, .int (r4 + a2)]) (rest := []) X hG hS (c_X11_store l D cA base ad σ3 n i1 a1 (r4 + a2) hT_i1 hz) k_173 q_351 k_172 k_1 (h_X11_store.2) rfl rfl ⟨by decide, by decide⟩ rfl hl.1 rfl (Nat.le_of_ble_eq_true rfl) dX3_push_15 ⟨Nat.zero_le _, Nat.zero_le _⟩) hS (fun H locs hG hS hX => ?_)
  have hT_a0 := hX.T hT_a0
  replace hE := hE.trans hX
  exact gx_vret X hG hS hE hF dX3_push_18
theorem w_X0_act_45 {σ0 τ : Hp} (X : SX D cA base p s m args meth c cX0_act 6 none RX0) (n : Nat) (K_8 : Nat → Int32 → Int32 → Hp → Option Hp) (hK_8 : ∀ (v1 : Nat) (v3 : Int32) (v4 : Int32) (σ : Hp) (H : Heap) (locs : List Loc) (ls : Array Slot), hT σ v1 3 → GW D cA base ad σ H → va_S (bA base) s.heap H locs → xT σ0 σ → lv_has ls 6 [(1, .ref (ad v1)), (3, .int v3), (4, .int v4)] → K_8 v1 v3 v4 σ = some τ → W p l e rm_X0_act s m args below meth c H locs 0 0 (ZV below s args D cA base ad σ0 τ) (F0 m 8 ls [])) : ∀ (v1 : Nat) (v3 : Int32) (v4 : Int32) (σ : Hp) (H : Heap) (locs : List Loc) (ls : Array Slot), hT σ v1 3 → GW D cA base ad σ H → va_S (bA base) s.heap H locs → xT σ0 σ → lv_has ls 6 [(1, .ref (ad v1)), (3, .int v3), (4, .int v4)] → F_X0_act_45 n K_8 v1 v3 v4 σ = some τ → W p l e rm_X0_act s m args below meth c H locs 0 0 (ZV below s args D cA base ad σ0 τ) (F0 m 45 ls []) := by
  intro v1 v3 v4 σ H locs ls hT_v1 hG hS hE hl hF
  unfold F_X0_act_45 at hF
  refine lv_iinc (v := v4 + 1) (lv' := [(4, .int (v4 + 1)), (1, .ref (ad v1)), (3, .int v3)]) X.1 X.2.1 dX0_act_45 hl (k := 2) rfl rfl (by decide) rfl (fun ls hl => ?_)
  refine lv_goto (tgt := 8) X.1 X.2.1 dX0_act_48 (by decide) ?_
  exact hK_8 v1 v3 (v4 + 1) σ _ _ ls hT_v1 hG hS hE (lv_sub hl [1, 2, 0] rfl) hF
theorem w_X0_act_8 {σ0 τ : Hp} (X : SX D cA base p s m args meth c cX0_act 6 none RX0) (n : Nat)  : ∀ f : Nat, ∀ (v1 : Nat) (v3 : Int32) (v4 : Int32) (σ : Hp) (H : Heap) (locs : List Loc) (ls : Array Slot), hT σ v1 3 → GW D cA base ad σ H → va_S (bA base) s.heap H locs → xT σ0 σ → lv_has ls 6 [(1, .ref (ad v1)), (3, .int v3), (4, .int v4)] → F_X0_act_8 n  f v1 v3 v4 σ = some τ → W p l e rm_X0_act s m args below meth c H locs 0 0 (ZV below s args D cA base ad σ0 τ) (F0 m 8 ls []) := by
  intro f
  induction f with
  | zero => intro v1 v3 v4 σ H locs ls h0 hG hS hE hl hF
            rw [F_X0_act_8] at hF; cases hF
  | succ f ih =>
    intro v1 v3 v4 σ H locs ls hT_v1 hG hS hE hl hF
    rw [F_X0_act_8] at hF
    refine lv_iload X.1 X.2.1 dX0_act_8 (lv_at hl 2 rfl) ?_
    refine lv_aload_n X.1 X.2.1 dX0_act_10 rfl (lv_at hl 0 rfl) ?_
    refine gx_getN 2 (v := .int (hI σ v1 2)) X hG hT_v1.1 (hT_v1.eq (by decide)) (by decide) rfl inX3 (by decide) q_46 (fun _ h => h) rfl dX0_act_11 ?_
    refine lv_icmp_ge (tgt := 51) X.1 X.2.1 dX0_act_14 (by decide) (fun hc => ?_) (fun hc => ?_)
    · replace hF := it_t hF hc
      exact gx_vret X hG hS hE hF dX0_act_51
    · replace hF := it_f hF hc
      refine lv_aload_n X.1 X.2.1 dX0_act_17 rfl (lv_at hl 0 rfl) ?_
      refine lv_iload X.1 X.2.1 dX0_act_18 (lv_at hl 2 rfl) ?_
      obtain ⟨r2, σ1, hz, hF⟩ := b2_ex hF
      refine gx_rQ (gx_runV (As := [.int v4]) (rest := []) X hG hS hT_v1.1 (hT_v1.eq (by decide)) (by decide) rfl (c_X3_turnAt l D cA base ad σ n v1 v4 hT_v1 hz) k_383 k_575 k_381 k_382 k_2 (h_X3_turnAt) rfl rfl ⟨by decide, by decide⟩ rfl hl.1 rfl (Nat.le_of_ble_eq_true rfl) dX0_act_20 ⟨Nat.zero_le _, Nat.zero_le _⟩) hS (fun H locs hG hS hX hO_r2 => ?_)
      have hT_v1 := hX.T hT_v1
      replace hE := hE.trans hX
      refine gx_astore (lv' := [(5, va_rf (Option.map ad r2)), (1, .ref (ad v1)), (3, .int v3), (4, .int v4)]) X.1 X.2.1 dX0_act_23 hl (by decide) (by cases r2 <;> rfl) (fun ls hl => ?_)
      refine gx_aload X.1 X.2.1 dX0_act_25 (lv_at hl 0 rfl) ?_
      refine gx_ifnull (tgt := 45) X.1 X.2.1 dX0_act_27 (by decide) hF (fun hr hF2i3 => ?_) (fun i3 hr hF2i3 => ?_)
      · subst hr
        have hF := hF2i3
        have hl : lv_has ls 6 [(5, .null), (1, .ref (ad v1)), (3, .int v3), (4, .int v4)] := hl
        exact w_X0_act_45 X n (F_X0_act_8 n  f) ih v1 v3 v4 σ1 _ _ ls hT_v1 hG hS hE (lv_sub hl [1, 2, 3] rfl) hF
      · subst hr
        have hF := hF2i3
        have hT_i3 := hO_r2 i3 rfl
        have hl : lv_has ls 6 [(5, .ref (ad i3)), (1, .ref (ad v1)), (3, .int v3), (4, .int v4)] := hl
        refine lv_aload_n X.1 X.2.1 dX0_act_30 rfl (lv_at hl 1 rfl) ?_
        refine lv_iload X.1 X.2.1 dX0_act_31 (lv_at hl 3 rfl) ?_
        refine lv_aload X.1 X.2.1 dX0_act_33 (lv_at hl 0 rfl) ?_
        refine gx_getT 2 (v := .int (hI σ1 i3 2)) X hG hT_i3 (by decide) k_203 (fun _ h => h) rfl dX0_act_35 ?_
        refine lv_iload_n X.1 X.2.1 dX0_act_38 rfl (lv_at hl 2 rfl) ?_
        refine lv_imul X.1 X.2.1 dX0_act_39 ?_
        refine lv_iconst (v := 4) X.1 X.2.1 dX0_act_40 (by decide) ?_
        refine lv_idiv X.1 X.2.1 dX0_act_41 (by decide) ?_
        obtain ⟨σ4, hz, hF⟩ := b1_ex hF
        refine gx_rV (gx_runV (As := [.int v4, .int (((hI σ1 i3 2) * v3) / 4)]) (rest := []) X hG hS hT_v1.1 (hT_v1.eq (by decide)) (by decide) rfl (c_X3_push l D cA base ad σ1 n v1 v4 (((hI σ1 i3 2) * v3) / 4) hT_v1 hz) k_579 k_576 k_577 k_578 k_2 (h_X3_push) rfl rfl ⟨by decide, by decide⟩ rfl hl.1 rfl (Nat.le_of_ble_eq_true rfl) dX0_act_42 ⟨Nat.zero_le _, Nat.zero_le _⟩) hS (fun H locs hG hS hX => ?_)
        have hT_v1 := hX.T hT_v1
        have hT_i3 := hX.T hT_i3
        replace hE := hE.trans hX
        exact w_X0_act_45 X n (F_X0_act_8 n  f) ih v1 v3 v4 σ4 _ _ ls hT_v1 hG hS hE (lv_sub hl [1, 2, 3] rfl) hF
theorem c_X0_act (l : Launch) (D : va_G) (cA : Nat → ClassId) (base : Nat) (ad : Nat → Nat) (σ : Hp) (n : Nat) (a0 : Nat) (a1 : Nat) (a2 : Int32) (hT_a0 : hT σ a0 101) (hT_a1 : hT σ a1 3) {τ : Hp} (hF : F_X0_act n a0 a1 a2 σ = some τ) : MV l yX0_act cX0_act 6 rm_X0_act D cA base ad σ [.ref (ad a0), .ref (ad a1), .int a2] τ := by
  refine Met.ofW (cc := cX0_act) (maxL := 6) (ret := none) (by decide) rfl ?_
  intro p e s m args below meth c s₁ B hml hv
  obtain ⟨rfl, hv⟩ := hv
  have X : SX D cA base p s m ([.ref (ad a0), .ref (ad a1), .int a2] : List Value).toArray meth c cX0_act 6 none RX0 := sx_of B hml hv
  have hG := hv.1
  have hS : va_S (bA base) s.heap s.heap [] := va_S.rf
  have hE := xT.rf σ
  have hl := lv_entry ([.ref (ad a0), .ref (ad a1), .int a2]) (n := 6) (Nat.le_of_ble_eq_true rfl)
  rw [lg_entry_eq]
  generalize (lg_sl ([.ref (ad a0), .ref (ad a1), .int a2]) ++ List.replicate (6 - (lg_sl ([.ref (ad a0), .ref (ad a1), .int a2])).length) Slot.unset).toArray = ls at hl ⊢
  have hl : lv_has ls 6 [(0, .ref (ad a0)), (1, .ref (ad a1)), (2, .int a2)] := hl
  unfold F_X0_act at hF
  refine lv_aload_n X.1 X.2.1 dX0_act_0 rfl (lv_at hl 1 rfl) ?_
  obtain ⟨r6, σ5, hz, hF⟩ := b2_ex hF
  refine gx_rI (gx_runV (As := []) (rest := []) X hG hS hT_a1.1 (hT_a1.eq (by decide)) (by decide) rfl (c_X3_yesLessNo l D cA base ad σ n a1 hT_a1 hz) k_574 k_571 k_572 k_573 k_2 (h_X3_yesLessNo) rfl rfl ⟨by decide, by decide⟩ rfl hl.1 rfl (Nat.le_of_ble_eq_true rfl) dX0_act_1 ⟨Nat.zero_le _, Nat.zero_le _⟩) hS (fun H locs hG hS hX => ?_)
  have hT_a0 := hX.T hT_a0
  have hT_a1 := hX.T hT_a1
  replace hE := hE.trans hX
  refine lv_istore_n (lv' := [(3, .int r6), (0, .ref (ad a0)), (1, .ref (ad a1)), (2, .int a2)]) X.1 X.2.1 dX0_act_4 rfl hl (by decide) rfl (fun ls hl => ?_)
  refine lv_iconst (v := 0) X.1 X.2.1 dX0_act_5 (by decide) ?_
  refine lv_istore (lv' := [(4, .int 0), (3, .int r6), (0, .ref (ad a0)), (1, .ref (ad a1)), (2, .int a2)]) X.1 X.2.1 dX0_act_6 hl (by decide) rfl (fun ls hl => ?_)
  exact w_X0_act_8 X n  n a1 r6 0 σ5 _ _ ls hT_a1 hG hS hE (lv_sub hl [3, 1, 0] rfl) hF
end W_class3
