/-! class5: printed by wip/whole/gen.py -/
section W_class5
variable {p : Program} {l : Launch} {e : Env} {s : State} {m : MethodId} {args : Array Value} {below : List Frame} {meth : Method} {c : Code} {D : va_G} {cA : Nat → ClassId} {base : Nat} {ad : Nat → Nat}
def F_X1_readSum_41 (KS : Nat → Int32 → Hp → Option Hp) (n : Nat) (K_7 : Nat → Int32 → Int32 → Hp → Option Hp) (v0 : Nat) (v1 : Int32) (v2 : Int32) (σ : Hp) : Option Hp := b2 (F_X1_next n v0 σ) fun (r2 : Int32) (σ1 : Hp) => lt (pI σ1 v0 1 ((hI σ1 v0 1) + 1)) fun (σ3 : Hp) => b1 (F_X1_readProduct KS n v0 v1 σ3) fun (σ4 : Hp) => b1 (F_X1_write n v0 r2 σ4) fun (σ5 : Hp) => K_7 v0 v1 (v2 + 1) σ5
def F_X1_readSum_7 (KS : Nat → Int32 → Hp → Option Hp) (n : Nat)  : Nat → Nat → Int32 → Int32 → Hp → Option Hp
  | 0, _, _, _, _ => none
  | f + 1, v0, v1, v2, σ => b1 (hR σ v0 0) fun (i6 : Nat) => if (nI (hL σ i6)) ≤ v2 then (some σ) else (if 0 ≤ (hI σ v0 5) then (some σ) else (b2 (F_X1_next n v0 σ) fun (r8 : Int32) (σ7 : Hp) => if r8 = 43 then (F_X1_readSum_41 KS n (F_X1_readSum_7 KS n  f) v0 v1 v2 σ7) else (b2 (F_X1_next n v0 σ7) fun (r10 : Int32) (σ9 : Hp) => if r10 = 45 then (F_X1_readSum_41 KS n (F_X1_readSum_7 KS n  f) v0 v1 v2 σ9) else (some σ9))))
def F_X1_readSumB (KS : Nat → Int32 → Hp → Option Hp) (n : Nat) (a0 : Nat) (a1 : Int32) (σ : Hp) : Option Hp := b1 (F_X1_readProduct KS n a0 a1 σ) fun (σ11 : Hp) => F_X1_readSum_7 KS n  n a0 a1 0 σ11
def F_X1_readSum (n : Nat) : Nat → Nat → Int32 → Hp → Option Hp
  | 0, _, _, _ => none
  | d + 1, a0, a1, σ => F_X1_readSumB (F_X1_readSum n d) n a0 a1 σ
abbrev rm_X1_init : Room := { frames := 39, cells := 3, slots := 300, locals := 903 }
theorem h_X1_init : yX1_init.cls = RX1 ∧ yX1_init.cls ≠ "java/lang/invoke/MethodHandle" ∧ yX1_init.cls ≠ "java/lang/invoke/VarHandle" ∧ (parseMethodDescriptor yX1_init.desc).map (fun d => d.parameters.length) = some 2 := by decide +kernel
def F_X1_init (n : Nat) (a0 : Nat) (a1 : Nat) (a2 : Int32) (σ : Hp) : Option Hp := lt (pI σ a0 5 (-1)) fun (σ1 : Hp) => lt (if (nI (hL σ1 a1)) < a2 then (nI (hL σ1 a1)) else a2) fun (x2 : Int32) => lt (if 0 < x2 then x2 else 0) fun (x3 : Int32) => ck (¬ x3 < 0 ∧ x3.toNatClampNeg ≤ 100) (nb σ1 13 x3.toNatClampNeg fun (i4 : Nat) (σ5 : Hp) => lt (pR σ5 a0 0 (some i4)) fun (σ7 : Hp) => ck (¬ x3 < 0 ∧ x3.toNatClampNeg ≤ 100) (nb σ7 13 x3.toNatClampNeg fun (i8 : Nat) (σ9 : Hp) => lt (pR σ9 a0 2 (some i8)) fun (σ11 : Hp) => ck (¬ x3 < 0 ∧ x3.toNatClampNeg ≤ 100) (nb σ11 13 x3.toNatClampNeg fun (i12 : Nat) (σ13 : Hp) => lt (pR σ13 a0 4 (some i12)) fun (σ15 : Hp) => b1 (hR σ15 a0 0) fun (i16 : Nat) => b1 (F_X11_copyAll n a1 i16 σ15) fun (σ17 : Hp) => b1 (F_X1_readSum n 8 a0 0 σ17) fun (σ18 : Hp) => if x3 ≤ (hI σ18 a0 1) then (some σ18) else (b1 (F_X1_findFault n a0 σ18) fun (σ19 : Hp) => some σ19))))
abbrev rm_X3_addLaw : Room := { frames := 0, cells := 0, slots := 0, locals := 0 }
theorem h_X3_addLaw : yX3_addLaw.cls = RX3 ∧ yX3_addLaw.cls ≠ "java/lang/invoke/MethodHandle" ∧ yX3_addLaw.cls ≠ "java/lang/invoke/VarHandle" ∧ (parseMethodDescriptor yX3_addLaw.desc).map (fun d => d.parameters.length) = some 1 := by decide +kernel
def F_X3_addLaw (n : Nat) (a0 : Nat) (a1 : Nat) (σ : Hp) : Option (Int32 × Hp) := if (hI σ a0 5) < 0 then (some ((-2), σ)) else (b1 (hR σ a0 6) fun (i1 : Nat) => if (hI σ a0 5) < (nI (hL σ i1)) then (b1 (hR σ a0 6) fun (i2 : Nat) => ck (¬ ((hI σ a0 5) < 0 ∨ hL σ i2 ≤ (hI σ a0 5).toNatClampNeg)) (lt (pR σ i2 (hI σ a0 5).toNatClampNeg (some a1)) fun (σ3 : Hp) => lt (pI σ3 a0 5 ((hI σ3 a0 5) + 1)) fun (σ4 : Hp) => some ((hI σ4 a0 5) - 1, σ4))) else (some ((-2), σ)))
abbrev rm_X11_law : Room := { frames := 40, cells := 4, slots := 306, locals := 926 }
theorem h_X11_law : yX11_law.cls = RX11 ∧ yX11_law.cls ≠ "java/lang/invoke/MethodHandle" ∧ yX11_law.cls ≠ "java/lang/invoke/VarHandle" ∧ (parseMethodDescriptor yX11_law.desc).map (fun d => d.parameters.length) = some 1 := by decide +kernel
def F_X11_law (n : Nat) (a0 : Nat) (a1 : Int32) (σ : Hp) : Option (Int32 × Hp) := b2 (F_X11_shelfAt n a0 a1 σ) fun (r2 : Option Nat) (σ1 : Hp) => om r2 (some ((-1), σ1)) (fun i3 => b1 (hR σ1 a0 0) fun (i4 : Nat) => if (hI σ1 i4 5) < 6 then (b2 (F_X5_isEmpty n i3 σ1) fun (r6 : Int32) (σ5 : Hp) => if r6 = 0 then (if (hI σ5 i3 2) = 0 then (nb σ5 1 0 fun (i7 : Nat) (σ8 : Hp) => b1 (hR σ8 i3 4) fun (i10 : Nat) => b1 (F_X1_init n i7 i10 (hI σ8 i3 3) σ8) fun (σ11 : Hp) => if (hI σ11 i7 5) < 0 then (b1 (hR σ11 a0 0) fun (i13 : Nat) => b2 (F_X3_addLaw n i13 i7 σ11) fun (r15 : Int32) (σ14 : Hp) => some (r15, σ14)) else (some ((-100) - (hI σ11 i7 5), σ11))) else (some ((-12), σ5))) else (some ((-11), σ5))) else (some ((-2), σ1)))
abbrev rm_X3_leaderSeat : Room := { frames := 1, cells := 0, slots := 0, locals := 21 }
theorem h_X3_leaderSeat : yX3_leaderSeat.cls = RX3 ∧ yX3_leaderSeat.cls ≠ "java/lang/invoke/MethodHandle" ∧ yX3_leaderSeat.cls ≠ "java/lang/invoke/VarHandle" ∧ (parseMethodDescriptor yX3_leaderSeat.desc).map (fun d => d.parameters.length) = some 0 := by decide +kernel
def F_X3_leaderSeat (n : Nat) (a0 : Nat) (σ : Hp) : Option (Int32 × Hp) := b1 (hR σ a0 7) fun (i1 : Nat) => b2 (F_X11_at n i1 1 σ) fun (r3 : Int32) (σ2 : Hp) => b2 (F_X3_isSeat n a0 r3 σ2) fun (r5 : Int32) (σ4 : Hp) => if r5 = 0 then (some (0, σ4)) else (some (r3, σ4))
abbrev rm_X3_seatFromLeader : Room := { frames := 0, cells := 0, slots := 0, locals := 0 }
theorem h_X3_seatFromLeader : yX3_seatFromLeader.cls = RX3 ∧ yX3_seatFromLeader.cls ≠ "java/lang/invoke/MethodHandle" ∧ yX3_seatFromLeader.cls ≠ "java/lang/invoke/VarHandle" ∧ (parseMethodDescriptor yX3_seatFromLeader.desc).map (fun d => d.parameters.length) = some 1 := by decide +kernel
def F_X3_seatFromLeader (n : Nat) (a0 : Nat) (a1 : Int32) (σ : Hp) : Option (Int32 × Hp) := if (hI σ a0 2) ≤ 0 then (some (0, σ)) else (ck (¬ (hI σ a0 2) = 0) (some (((hI σ a0 9) + a1) - ((hI σ a0 9) + a1) / (hI σ a0 2) * (hI σ a0 2), σ)))
abbrev rm_X3_beginTalk : Room := { frames := 3, cells := 0, slots := 0, locals := 79 }
theorem h_X3_beginTalk : yX3_beginTalk.cls = RX3 ∧ yX3_beginTalk.cls ≠ "java/lang/invoke/MethodHandle" ∧ yX3_beginTalk.cls ≠ "java/lang/invoke/VarHandle" ∧ (parseMethodDescriptor yX3_beginTalk.desc).map (fun d => d.parameters.length) = some 0 := by decide +kernel
def F_X3_beginTalk_123 (n : Nat)  (v0 : Nat) (σ : Hp) : Option Hp := lt (pI σ v0 13 (hI σ v0 12)) fun (σ1 : Hp) => some σ1
def F_X3_beginTalk_117 (n : Nat) (K_21 : Nat → Int32 → Int32 → Hp → Option Hp) (v0 : Nat) (v1 : Int32) (v2 : Int32) (σ : Hp) : Option Hp := K_21 v0 v1 (v2 + 1) σ
def F_X3_beginTalk_82 (n : Nat) (K_21 : Nat → Int32 → Int32 → Hp → Option Hp) (v0 : Nat) (v1 : Int32) (v2 : Int32) (v3 : Int32) (v4 : Option Nat) (σ : Hp) : Option Hp := om v4 (F_X3_beginTalk_117 n K_21 v0 v1 v2 σ) (fun i2 => b2 (F_X3_leaning n v0 v3 0 0 σ) fun (r4 : Int32) (σ3 : Hp) => if r4 < (hI σ3 i2 4) then (F_X3_beginTalk_117 n K_21 v0 v1 v2 σ3) else (lt (pI σ3 v0 12 ((hI σ3 v0 12) ||| (1 <<< (v3 &&& 31)))) fun (σ5 : Hp) => F_X3_beginTalk_117 n K_21 v0 (v1 + 1) v2 σ5))
def F_X3_beginTalk_21 (n : Nat)  : Nat → Nat → Int32 → Int32 → Hp → Option Hp
  | 0, _, _, _, _ => none
  | f + 1, v0, v1, v2, σ => if (hI σ v0 2) ≤ v2 then (F_X3_beginTalk_123 n  v0 σ) else (b2 (F_X3_seatFromLeader n v0 v2 σ) fun (r7 : Int32) (σ6 : Hp) => b2 (F_X3_turnAt n v0 r7 σ6) fun (r9 : Option Nat) (σ8 : Hp) => om r9 (F_X3_beginTalk_82 n (F_X3_beginTalk_21 n  f) v0 v1 v2 r7 none σ8) (fun i10 => b1 (hR σ8 v0 7) fun (i11 : Nat) => b2 (F_X11_at n i11 2 σ8) fun (r13 : Int32) (σ12 : Hp) => if r13 = 1 then (b1 (hR σ12 v0 17) fun (i14 : Nat) => b1 (F_X11_store n i14 r7 ((hI σ12 i10 2) * (v1 - (v2 - v1))) σ12) fun (σ15 : Hp) => F_X3_beginTalk_82 n (F_X3_beginTalk_21 n  f) v0 v1 v2 r7 (some i10) σ15) else (F_X3_beginTalk_82 n (F_X3_beginTalk_21 n  f) v0 v1 v2 r7 (some i10) σ12)))
def F_X3_beginTalk (n : Nat) (a0 : Nat) (σ : Hp) : Option Hp := b1 (F_X3_standAsTold n a0 σ) fun (σ16 : Hp) => lt (pI σ16 a0 8 1) fun (σ17 : Hp) => b2 (F_X3_leaderSeat n a0 σ17) fun (r19 : Int32) (σ18 : Hp) => lt (pI σ18 a0 9 r19) fun (σ20 : Hp) => F_X3_beginTalk_21 n  n a0 0 0 σ20
theorem w_X1_readSum_41 {σ0 τ : Hp} (X : SX D cA base p s m args meth c cX1_readSum 4 none RX1) (n : Nat) (d : Nat) (KS : Nat → Int32 → Hp → Option Hp) (hKS : ∀ (σ : Hp) (a0 : Nat) (a1 : Int32) {τ : Hp} , hT σ a0 1 → KS a0 a1 σ = some τ → MV l yX1_readSum cX1_readSum 4 (rmr_X1_readSum d) D cA base ad σ [.ref (ad a0), .int a1] τ) (K_7 : Nat → Int32 → Int32 → Hp → Option Hp) (hK_7 : ∀ (v0 : Nat) (v1 : Int32) (v2 : Int32) (σ : Hp) (H : Heap) (locs : List Loc) (ls : Array Slot), hT σ v0 1 → GW D cA base ad σ H → va_S (bA base) s.heap H locs → xT σ0 σ → lv_has ls 4 [(0, .ref (ad v0)), (1, .int v1), (2, .int v2)] → K_7 v0 v1 v2 σ = some τ → W p l e (rmr_X1_readSum (d + 1)) s m args below meth c H locs 0 0 (ZV below s args D cA base ad σ0 τ) (F0 m 7 ls [])) : ∀ (v0 : Nat) (v1 : Int32) (v2 : Int32) (σ : Hp) (H : Heap) (locs : List Loc) (ls : Array Slot), hT σ v0 1 → GW D cA base ad σ H → va_S (bA base) s.heap H locs → xT σ0 σ → lv_has ls 4 [(0, .ref (ad v0)), (1, .int v1), (2, .int v2)] → F_X1_readSum_41 KS n K_7 v0 v1 v2 σ = some τ → W p l e (rmr_X1_readSum (d + 1)) s m args below meth c H locs 0 0 (ZV below s args D cA base ad σ0 τ) (F0 m 41 ls []) := by
  intro v0 v1 v2 σ H locs ls hT_v0 hG hS hE hl hF
  unfold F_X1_readSum_41 at hF
  refine lv_aload_n X.1 X.2.1 dX1_readSum_41 rfl (lv_at hl 0 rfl) ?_
  obtain ⟨r2, σ1, hz, hF⟩ := b2_ex hF
  refine gx_rI (gx_runV (As := []) (rest := []) X hG hS hT_v0.1 (hT_v0.eq (by decide)) (by decide) rfl (c_X1_next l D cA base ad σ n v0 hT_v0 hz) k_474 k_471 k_473 ks_5 k_14 (h_X1_next) rfl rfl ⟨by show 0 + 1 ≤ 4 * d + 10; omega, by show 8 + (1 + 11) + 0 ≤ 90 * d + 250; omega⟩ rfl hl.1 rfl (Nat.le_of_ble_eq_true rfl) dX1_readSum_42 ⟨Nat.zero_le _, Nat.zero_le _⟩) hS (fun H locs hG hS hX => ?_)
  have hT_v0 := hX.T hT_v0
  replace hE := hE.trans hX
  refine lv_istore_n (lv' := [(3, .int r2), (0, .ref (ad v0)), (1, .int v1), (2, .int v2)]) X.1 X.2.1 dX1_readSum_45 rfl hl (by decide) rfl (fun ls hl => ?_)
  refine lv_aload_n X.1 X.2.1 dX1_readSum_46 rfl (lv_at hl 1 rfl) ?_
  refine lv_dup X.1 X.2.1 dX1_readSum_47 rfl ?_
  refine gx_get 1 (v := .int (hI σ1 v0 1)) X hG hT_v0.1 (hT_v0.eq (by decide)) (by decide) rfl inX1 (by decide) k_497 (fun _ h => h) rfl dX1_readSum_48 ?_
  refine lv_iconst (v := 1) X.1 X.2.1 dX1_readSum_51 (by decide) ?_
  refine lv_iadd X.1 X.2.1 dX1_readSum_52 ?_
  refine gx_putI 1  X hG hS hT_v0.1 (hT_v0.eq (by decide)) (by decide) rfl inX1 tyX1_ok nmX1 (by decide) k_497 (fun _ h => h) rfl rfl rfl rfl (Nat.le_of_ble_eq_true rfl) dX1_readSum_53 hF (fun σ3 H locs hG hS hX hF => ?_)
  have hT_v0 := hX.T hT_v0
  replace hE := hE.trans hX
  refine lv_aload_n X.1 X.2.1 dX1_readSum_56 rfl (lv_at hl 1 rfl) ?_
  refine lv_iload_n X.1 X.2.1 dX1_readSum_57 rfl (lv_at hl 2 rfl) ?_
  obtain ⟨σ4, hz, hF⟩ := b1_ex hF
  refine gx_rV (gx_runV (As := [.int v1]) (rest := []) X hG hS hT_v0.1 (hT_v0.eq (by decide)) (by decide) rfl (c_X1_readProduct l D cA base ad σ3 n d KS hKS v0 v1 hT_v0 hz) k_466 k_463 k_465 ks_3 k_14 (h_X1_readProduct) rfl rfl ⟨by show 4 * d + 9 + 1 ≤ 4 * d + 10; omega, by show 8 + (4 + 11) + (90 * d + 227) ≤ 90 * d + 250; omega⟩ rfl hl.1 rfl (Nat.le_of_ble_eq_true rfl) dX1_readSum_58 ⟨Nat.zero_le _, Nat.zero_le _⟩) hS (fun H locs hG hS hX => ?_)
  have hT_v0 := hX.T hT_v0
  replace hE := hE.trans hX
  refine lv_aload_n X.1 X.2.1 dX1_readSum_61 rfl (lv_at hl 1 rfl) ?_
  refine lv_iload_n X.1 X.2.1 dX1_readSum_62 rfl (lv_at hl 0 rfl) ?_
  obtain ⟨σ5, hz, hF⟩ := b1_ex hF
  refine gx_rV (gx_runV (As := [.int r2]) (rest := []) X hG hS hT_v0.1 (hT_v0.eq (by decide)) (by decide) rfl (c_X1_write l D cA base ad σ4 n v0 r2 hT_v0 hz) k_490 k_487 k_489 ks_9 k_14 (h_X1_write) rfl rfl ⟨by show 1 + 1 ≤ 4 * d + 10; omega, by show 8 + (2 + 11) + 22 ≤ 90 * d + 250; omega⟩ rfl hl.1 rfl (Nat.le_of_ble_eq_true rfl) dX1_readSum_63 ⟨Nat.zero_le _, Nat.zero_le _⟩) hS (fun H locs hG hS hX => ?_)
  have hT_v0 := hX.T hT_v0
  replace hE := hE.trans hX
  refine lv_iinc (v := v2 + 1) (lv' := [(2, .int (v2 + 1)), (3, .int r2), (0, .ref (ad v0)), (1, .int v1)]) X.1 X.2.1 dX1_readSum_66 hl (k := 3) rfl rfl (by decide) rfl (fun ls hl => ?_)
  refine lv_goto (tgt := 7) X.1 X.2.1 dX1_readSum_69 (by decide) ?_
  exact hK_7 v0 v1 (v2 + 1) σ5 _ _ ls hT_v0 hG hS hE (lv_sub hl [2, 3, 0] rfl) hF
theorem w_X1_readSum_7 {σ0 τ : Hp} (X : SX D cA base p s m args meth c cX1_readSum 4 none RX1) (n : Nat) (d : Nat) (KS : Nat → Int32 → Hp → Option Hp) (hKS : ∀ (σ : Hp) (a0 : Nat) (a1 : Int32) {τ : Hp} , hT σ a0 1 → KS a0 a1 σ = some τ → MV l yX1_readSum cX1_readSum 4 (rmr_X1_readSum d) D cA base ad σ [.ref (ad a0), .int a1] τ)  : ∀ f : Nat, ∀ (v0 : Nat) (v1 : Int32) (v2 : Int32) (σ : Hp) (H : Heap) (locs : List Loc) (ls : Array Slot), hT σ v0 1 → GW D cA base ad σ H → va_S (bA base) s.heap H locs → xT σ0 σ → lv_has ls 4 [(0, .ref (ad v0)), (1, .int v1), (2, .int v2)] → F_X1_readSum_7 KS n  f v0 v1 v2 σ = some τ → W p l e (rmr_X1_readSum (d + 1)) s m args below meth c H locs 0 0 (ZV below s args D cA base ad σ0 τ) (F0 m 7 ls []) := by
  intro f
  induction f with
  | zero => intro v0 v1 v2 σ H locs ls h0 hG hS hE hl hF
            rw [F_X1_readSum_7] at hF; cases hF
  | succ f ih =>
    intro v0 v1 v2 σ H locs ls hT_v0 hG hS hE hl hF
    rw [F_X1_readSum_7] at hF
    refine lv_iload_n X.1 X.2.1 dX1_readSum_7 rfl (lv_at hl 2 rfl) ?_
    refine lv_aload_n X.1 X.2.1 dX1_readSum_8 rfl (lv_at hl 0 rfl) ?_
    obtain ⟨i6, hr, hF⟩ := b1_ex hF
    have hT_i6 : hT σ i6 13 := gw_T hG hT_v0 (by decide) hr
    refine gx_get 0 (v := .ref (ad i6)) X hG hT_v0.1 (hT_v0.eq (by decide)) (by decide) rfl inX1 (by decide) k_496 (fun _ h => h) (gx_rfv hr) dX1_readSum_9 ?_
    refine gx_alen (t0 := 0) X hG hT_i6 (by decide) (by decide) rfl dX1_readSum_12 ?_
    refine lv_icmp_ge (tgt := 72) X.1 X.2.1 dX1_readSum_13 (by decide) (fun hc => ?_) (fun hc => ?_)
    · replace hF := it_t hF hc
      exact gx_vret X hG hS hE hF dX1_readSum_72
    · replace hF := it_f hF hc
      refine lv_aload_n X.1 X.2.1 dX1_readSum_16 rfl (lv_at hl 0 rfl) ?_
      refine gx_get 5 (v := .int (hI σ v0 5)) X hG hT_v0.1 (hT_v0.eq (by decide)) (by decide) rfl inX1 (by decide) k_501 (fun _ h => h) rfl dX1_readSum_17 ?_
      refine lv_if_ge (tgt := 72) X.1 X.2.1 dX1_readSum_20 (by decide) (fun hc => ?_) (fun hc => ?_)
      · replace hF := it_t hF hc
        exact gx_vret X hG hS hE hF dX1_readSum_72
      · replace hF := it_f hF hc
        refine lv_aload_n X.1 X.2.1 dX1_readSum_23 rfl (lv_at hl 0 rfl) ?_
        obtain ⟨r8, σ7, hz, hF⟩ := b2_ex hF
        refine gx_rI (gx_runV (As := []) (rest := []) X hG hS hT_v0.1 (hT_v0.eq (by decide)) (by decide) rfl (c_X1_next l D cA base ad σ n v0 hT_v0 hz) k_474 k_471 k_473 ks_5 k_14 (h_X1_next) rfl rfl ⟨by show 0 + 1 ≤ 4 * d + 10; omega, by show 8 + (1 + 11) + 0 ≤ 90 * d + 250; omega⟩ rfl hl.1 rfl (Nat.le_of_ble_eq_true rfl) dX1_readSum_24 ⟨Nat.zero_le _, Nat.zero_le _⟩) hS (fun H locs hG hS hX => ?_)
        have hT_v0 := hX.T hT_v0
        replace hE := hE.trans hX
        refine lv_bipush (v := 43) X.1 X.2.1 dX1_readSum_27 (by decide) ?_
        refine lv_icmp_eq (tgt := 41) X.1 X.2.1 dX1_readSum_29 (by decide) (fun hc => ?_) (fun hc => ?_)
        · replace hF := it_t hF hc
          exact w_X1_readSum_41 X n d KS hKS (F_X1_readSum_7 KS n  f) ih v0 v1 v2 σ7 _ _ ls hT_v0 hG hS hE (lv_sub hl [0, 1, 2] rfl) hF
        · replace hF := it_f hF hc
          refine lv_aload_n X.1 X.2.1 dX1_readSum_32 rfl (lv_at hl 0 rfl) ?_
          obtain ⟨r10, σ9, hz, hF⟩ := b2_ex hF
          refine gx_rI (gx_runV (As := []) (rest := []) X hG hS hT_v0.1 (hT_v0.eq (by decide)) (by decide) rfl (c_X1_next l D cA base ad σ7 n v0 hT_v0 hz) k_474 k_471 k_473 ks_5 k_14 (h_X1_next) rfl rfl ⟨by show 0 + 1 ≤ 4 * d + 10; omega, by show 8 + (1 + 11) + 0 ≤ 90 * d + 250; omega⟩ rfl hl.1 rfl (Nat.le_of_ble_eq_true rfl) dX1_readSum_33 ⟨Nat.zero_le _, Nat.zero_le _⟩) hS (fun H locs hG hS hX => ?_)
          have hT_v0 := hX.T hT_v0
          replace hE := hE.trans hX
          refine lv_bipush (v := 45) X.1 X.2.1 dX1_readSum_36 (by decide) ?_
          refine lv_icmp_ne (tgt := 72) X.1 X.2.1 dX1_readSum_38 (by decide) (fun hc => ?_) (fun hc => ?_)
          · replace hF := it_f hF hc
            exact gx_vret X hG hS hE hF dX1_readSum_72
          · replace hF := it_t hF hc
            exact w_X1_readSum_41 X n d KS hKS (F_X1_readSum_7 KS n  f) ih v0 v1 v2 σ9 _ _ ls hT_v0 hG hS hE (lv_sub hl [0, 1, 2] rfl) hF
theorem c_X1_readSumB (l : Launch) (D : va_G) (cA : Nat → ClassId) (base : Nat) (ad : Nat → Nat) (σ : Hp) (n : Nat) (d : Nat) (KS : Nat → Int32 → Hp → Option Hp) (hKS : ∀ (σ : Hp) (a0 : Nat) (a1 : Int32) {τ : Hp} , hT σ a0 1 → KS a0 a1 σ = some τ → MV l yX1_readSum cX1_readSum 4 (rmr_X1_readSum d) D cA base ad σ [.ref (ad a0), .int a1] τ) (a0 : Nat) (a1 : Int32) (hT_a0 : hT σ a0 1) {τ : Hp} (hF : F_X1_readSumB KS n a0 a1 σ = some τ) : MV l yX1_readSum cX1_readSum 4 (rmr_X1_readSum (d + 1)) D cA base ad σ [.ref (ad a0), .int a1] τ := by
  refine Met.ofW (cc := cX1_readSum) (maxL := 4) (ret := none) (by decide) rfl ?_
  intro p e s m args below meth c s₁ B hml hv
  obtain ⟨rfl, hv⟩ := hv
  have X : SX D cA base p s m ([.ref (ad a0), .int a1] : List Value).toArray meth c cX1_readSum 4 none RX1 := sx_of B hml hv
  have hG := hv.1
  have hS : va_S (bA base) s.heap s.heap [] := va_S.rf
  have hE := xT.rf σ
  have hl := lv_entry ([.ref (ad a0), .int a1]) (n := 4) (Nat.le_of_ble_eq_true rfl)
  rw [lg_entry_eq]
  generalize (lg_sl ([.ref (ad a0), .int a1]) ++ List.replicate (4 - (lg_sl ([.ref (ad a0), .int a1])).length) Slot.unset).toArray = ls at hl ⊢
  have hl : lv_has ls 4 [(0, .ref (ad a0)), (1, .int a1)] := hl
  unfold F_X1_readSumB at hF
  refine lv_aload_n X.1 X.2.1 dX1_readSum_0 rfl (lv_at hl 0 rfl) ?_
  refine lv_iload_n X.1 X.2.1 dX1_readSum_1 rfl (lv_at hl 1 rfl) ?_
  obtain ⟨σ11, hz, hF⟩ := b1_ex hF
  refine gx_rV (gx_runV (As := [.int a1]) (rest := []) X hG hS hT_a0.1 (hT_a0.eq (by decide)) (by decide) rfl (c_X1_readProduct l D cA base ad σ n d KS hKS a0 a1 hT_a0 hz) k_466 k_463 k_465 ks_3 k_14 (h_X1_readProduct) rfl rfl ⟨by show 4 * d + 9 + 1 ≤ 4 * d + 10; omega, by show 8 + (4 + 11) + (90 * d + 227) ≤ 90 * d + 250; omega⟩ rfl hl.1 rfl (Nat.le_of_ble_eq_true rfl) dX1_readSum_2 ⟨Nat.zero_le _, Nat.zero_le _⟩) hS (fun H locs hG hS hX => ?_)
  have hT_a0 := hX.T hT_a0
  replace hE := hE.trans hX
  refine lv_iconst (v := 0) X.1 X.2.1 dX1_readSum_5 (by decide) ?_
  refine lv_istore_n (lv' := [(2, .int 0), (0, .ref (ad a0)), (1, .int a1)]) X.1 X.2.1 dX1_readSum_6 rfl hl (by decide) rfl (fun ls hl => ?_)
  exact w_X1_readSum_7 X n d KS hKS  n a0 a1 0 σ11 _ _ ls hT_a0 hG hS hE (lv_sub hl [1, 2, 0] rfl) hF
theorem c_X1_readSum (l : Launch) (D : va_G) (cA : Nat → ClassId) (base : Nat) (ad : Nat → Nat) : ∀ (σ : Hp) (n d : Nat) (a0 : Nat) (a1 : Int32), hT σ a0 1 → ∀ {τ : Hp} , F_X1_readSum n d a0 a1 σ = some τ → MV l yX1_readSum cX1_readSum 4 (rmr_X1_readSum d) D cA base ad σ [.ref (ad a0), .int a1] τ := by
  intro σ n d
  induction d generalizing σ with
  | zero => intro a0 a1 h0 τ hF
            rw [F_X1_readSum] at hF; cases hF
  | succ d ih =>
    intro a0 a1 h0 τ hF
    rw [F_X1_readSum] at hF
    exact c_X1_readSumB l D cA base ad σ n d (F_X1_readSum n d) (fun σ a0 a1 τ h0 hz => ih σ a0 a1 h0 hz) a0 a1 h0 hF
theorem c_X1_init (l : Launch) (D : va_G) (cA : Nat → ClassId) (base : Nat) (ad : Nat → Nat) (σ : Hp) (n : Nat) (a0 : Nat) (a1 : Nat) (a2 : Int32) (hT_a0 : hT σ a0 1) (hT_a1 : hT σ a1 13) {τ : Hp} (hF : F_X1_init n a0 a1 a2 σ = some τ) : MVa l yX1_init cX1_init 4 rm_X1_init D cA base ad σ [.ref (ad a0), .ref (ad a1), .int a2] τ 3 300 := by
  refine Met.ofW (cc := cX1_init) (maxL := 4) (ret := none) (by decide) rfl ?_
  intro p e s m args below meth c s₁ B hml hv
  obtain ⟨rfl, hv⟩ := hv
  have X : SX D cA base p s m ([.ref (ad a0), .ref (ad a1), .int a2] : List Value).toArray meth c cX1_init 4 none RX1 := sx_of B hml hv
  have hG := hv.1
  have hS : va_S (bA base) s.heap s.heap [] := va_S.rf
  have hE := xT.rf σ
  have hA := adE.rf σ ad
  have hin : meth.name = "<init>" := (name_of_methodNamed B.named B.method).1
  have hl := lv_entry ([.ref (ad a0), .ref (ad a1), .int a2]) (n := 4) (Nat.le_of_ble_eq_true rfl)
  rw [lg_entry_eq]
  generalize (lg_sl ([.ref (ad a0), .ref (ad a1), .int a2]) ++ List.replicate (4 - (lg_sl ([.ref (ad a0), .ref (ad a1), .int a2])).length) Slot.unset).toArray = ls at hl ⊢
  have hl : lv_has ls 4 [(0, .ref (ad a0)), (1, .ref (ad a1)), (2, .int a2)] := hl
  unfold F_X1_init at hF
  refine lv_aload_n X.1 X.2.1 dX1_init_0 rfl (lv_at hl 0 rfl) ?_
  refine W.objInit X.1 X.2.1 X.2.2.2.2.2.1 (X.w k_449) (X.w k_28) (X.w k_29) rfl (by rw [X.2.2.1]; exact hl.1) rfl dX1_init_1 (Nat.le_of_ble_eq_true rfl) (Nat.le_of_ble_eq_true rfl) ?_
  refine W.eq (g2 := F0 m 4 ls []) rfl ?_
  refine lv_aload_n X.1 X.2.1 dX1_init_4 rfl (lv_at hl 0 rfl) ?_
  refine lv_iconst (v := (-1)) X.1 X.2.1 dX1_init_5 (by decide) ?_
  refine gx_putI 5  X hG hS hT_a0.1 (hT_a0.eq (by decide)) (by decide) rfl inX1 tyX1_ok nmX1 (by decide) k_501 (fun _ h => h) rfl rfl rfl rfl (Nat.le_of_ble_eq_true rfl) dX1_init_6 hF (fun σ1 H locs hG hS hX hF => ?_)
  have hT_a0 := hX.T hT_a0
  have hT_a1 := hX.T hT_a1
  replace hE := hE.trans hX
  refine lv_iconst (v := 0) X.1 X.2.1 dX1_init_9 (by decide) ?_
  refine lv_iload_n X.1 X.2.1 dX1_init_10 rfl (lv_at hl 2 rfl) ?_
  refine lv_aload_n X.1 X.2.1 dX1_init_11 rfl (lv_at hl 1 rfl) ?_
  refine gx_alen (t0 := 0) X hG hT_a1 (by decide) (by decide) rfl dX1_init_12 ?_
  refine va_mmin X.1 X.2.1 (by rw [X.2.2.1]; exact hl.1.symm) X.2.2.2.2.2.1 (X.w k_450) (X.w k_451) (X.w k_15) (X.w k_452) (Nat.le_of_ble_eq_true rfl) (Nat.le_of_ble_eq_true rfl) (Nat.zero_le _) (Nat.zero_le _) dX1_init_13 ?_
  refine lv_topi (fun x2 ex2 => ?_)
  replace hF := lt_nm hF ex2
  refine va_mmax X.1 X.2.1 (by rw [X.2.2.1]; exact hl.1.symm) X.2.2.2.2.2.1 (X.w k_453) (X.w k_454) (X.w k_15) (X.w k_455) (Nat.le_of_ble_eq_true rfl) (Nat.le_of_ble_eq_true rfl) (Nat.zero_le _) (Nat.zero_le _) dX1_init_16 ?_
  refine lv_topi (fun x3 ex3 => ?_)
  replace hF := lt_nm hF ex3
  refine lv_istore_n (lv' := [(3, .int x3), (0, .ref (ad a0)), (1, .ref (ad a1)), (2, .int a2)]) X.1 X.2.1 dX1_init_19 rfl hl (by decide) rfl (fun ls hl => ?_)
  refine lv_aload_n X.1 X.2.1 dX1_init_20 rfl (lv_at hl 1 rfl) ?_
  refine lv_iload_n X.1 X.2.1 dX1_init_21 rfl (lv_at hl 0 rfl) ?_
  refine gx_newI (M := 100) X hG hS k_122 (by decide) (by decide) (by decide) dX1_init_22 hF (fun i4 σ5 ad6 H hG hS hX hA2 hT_i4 hF => ?_)
  have hl : lv_has ls 4 [(3, .int x3), (0, .ref (ad6 a0)), (1, .ref (ad6 a1)), (2, .int a2)] := by rw [hA2 a0 hT_a0.1, hA2 a1 hT_a1.1]; exact hl
  refine W.eq (g2 := F0 m 24 ls [.ref (ad6 i4), .ref (ad6 a0)]) (by rw [hA2 a0 hT_a0.1] <;> rfl) ?_
  replace hA := hA.trans hE.1 hA2
  have hT_a0 := hX.T hT_a0
  have hT_a1 := hX.T hT_a1
  replace hE := hE.trans hX
  refine gx_putFR 0 (x := (some i4)) X hG hS hT_a0.1 (hT_a0.eq (by decide)) (by decide) rfl inX1 tyX1_ok nmX1 (by decide) k_496 rfl hin rfl (gx_narA _) (gx_fitA _) rfl (oT.some hT_i4) (Nat.le_of_ble_eq_true rfl) dX1_init_24 hF (fun σ7 H locs hG hS hX hF => ?_)
  have hT_a0 := hX.T hT_a0
  have hT_a1 := hX.T hT_a1
  replace hE := hE.trans hX
  refine lv_aload_n X.1 X.2.1 dX1_init_27 rfl (lv_at hl 1 rfl) ?_
  refine lv_iload_n X.1 X.2.1 dX1_init_28 rfl (lv_at hl 0 rfl) ?_
  refine gx_newI (M := 100) X hG hS k_122 (by decide) (by decide) (by decide) dX1_init_29 hF (fun i8 σ9 ad10 H hG hS hX hA2 hT_i8 hF => ?_)
  have hl : lv_has ls 4 [(3, .int x3), (0, .ref (ad10 a0)), (1, .ref (ad10 a1)), (2, .int a2)] := by rw [hA2 a0 hT_a0.1, hA2 a1 hT_a1.1]; exact hl
  refine W.eq (g2 := F0 m 31 ls [.ref (ad10 i8), .ref (ad10 a0)]) (by rw [hA2 a0 hT_a0.1] <;> rfl) ?_
  replace hA := hA.trans hE.1 hA2
  have hT_a0 := hX.T hT_a0
  have hT_a1 := hX.T hT_a1
  replace hE := hE.trans hX
  refine gx_putFR 2 (x := (some i8)) X hG hS hT_a0.1 (hT_a0.eq (by decide)) (by decide) rfl inX1 tyX1_ok nmX1 (by decide) k_498 rfl hin rfl (gx_narA _) (gx_fitA _) rfl (oT.some hT_i8) (Nat.le_of_ble_eq_true rfl) dX1_init_31 hF (fun σ11 H locs hG hS hX hF => ?_)
  have hT_a0 := hX.T hT_a0
  have hT_a1 := hX.T hT_a1
  replace hE := hE.trans hX
  refine lv_aload_n X.1 X.2.1 dX1_init_34 rfl (lv_at hl 1 rfl) ?_
  refine lv_iload_n X.1 X.2.1 dX1_init_35 rfl (lv_at hl 0 rfl) ?_
  refine gx_newI (M := 100) X hG hS k_122 (by decide) (by decide) (by decide) dX1_init_36 hF (fun i12 σ13 ad14 H hG hS hX hA2 hT_i12 hF => ?_)
  have hl : lv_has ls 4 [(3, .int x3), (0, .ref (ad14 a0)), (1, .ref (ad14 a1)), (2, .int a2)] := by rw [hA2 a0 hT_a0.1, hA2 a1 hT_a1.1]; exact hl
  refine W.eq (g2 := F0 m 38 ls [.ref (ad14 i12), .ref (ad14 a0)]) (by rw [hA2 a0 hT_a0.1] <;> rfl) ?_
  replace hA := hA.trans hE.1 hA2
  have hT_a0 := hX.T hT_a0
  have hT_a1 := hX.T hT_a1
  replace hE := hE.trans hX
  refine gx_putFR 4 (x := (some i12)) X hG hS hT_a0.1 (hT_a0.eq (by decide)) (by decide) rfl inX1 tyX1_ok nmX1 (by decide) k_500 rfl hin rfl (gx_narA _) (gx_fitA _) rfl (oT.some hT_i12) (Nat.le_of_ble_eq_true rfl) dX1_init_38 hF (fun σ15 H locs hG hS hX hF => ?_)
  have hT_a0 := hX.T hT_a0
  have hT_a1 := hX.T hT_a1
  replace hE := hE.trans hX
  refine lv_aload_n X.1 X.2.1 dX1_init_41 rfl (lv_at hl 2 rfl) ?_
  refine lv_aload_n X.1 X.2.1 dX1_init_42 rfl (lv_at hl 1 rfl) ?_
  obtain ⟨i16, hr, hF⟩ := b1_ex hF
  have hT_i16 : hT σ15 i16 13 := gw_T hG hT_a0 (by decide) hr
  refine gx_get 0 (v := .ref (ad14 i16)) X hG hT_a0.1 (hT_a0.eq (by decide)) (by decide) rfl inX1 (by decide) k_496 (fun _ h => h) (gx_rfv hr) dX1_init_43 ?_
  obtain ⟨σ17, hz, hF⟩ := b1_ex hF
  refine gx_rV (gx_runSN (As := [.ref (ad14 a1), .ref (ad14 i16)]) (rest := []) X hG hS (c_X11_copyAll l D cA base ad14 σ15 n a1 i16 hT_a1 hT_i16 hz) k_458 q_456 k_457 k_1 (h_X11_copyAll.2) rfl rfl ⟨by decide, by decide⟩ rfl hl.1 rfl (Nat.le_of_ble_eq_true rfl) dX1_init_46 ⟨by decide, by decide⟩) hS (fun H locs hG hS hX => ?_)
  have hT_a0 := hX.T hT_a0
  have hT_a1 := hX.T hT_a1
  replace hE := hE.trans hX
  refine lv_aload_n X.1 X.2.1 dX1_init_49 rfl (lv_at hl 1 rfl) ?_
  refine lv_iconst (v := 0) X.1 X.2.1 dX1_init_50 (by decide) ?_
  obtain ⟨σ18, hz, hF⟩ := b1_ex hF
  refine gx_rV (gx_runV (As := [.int 0]) (rest := []) X hG hS hT_a0.1 (hT_a0.eq (by decide)) (by decide) rfl (c_X1_readSum l D cA base ad14 σ17 n 8 a0 0 hT_a0 hz) k_462 k_459 k_461 ks_2 k_14 (h_X1_readSum) rfl rfl ⟨by decide, by decide⟩ rfl hl.1 rfl (Nat.le_of_ble_eq_true rfl) dX1_init_51 ⟨by decide, by decide⟩) hS (fun H locs hG hS hX => ?_)
  have hT_a0 := hX.T hT_a0
  have hT_a1 := hX.T hT_a1
  replace hE := hE.trans hX
  refine lv_aload_n X.1 X.2.1 dX1_init_54 rfl (lv_at hl 1 rfl) ?_
  refine gx_get 1 (v := .int (hI σ18 a0 1)) X hG hT_a0.1 (hT_a0.eq (by decide)) (by decide) rfl inX1 (by decide) k_497 (fun _ h => h) rfl dX1_init_55 ?_
  refine lv_iload_n X.1 X.2.1 dX1_init_58 rfl (lv_at hl 0 rfl) ?_
  refine lv_icmp_ge (tgt := 66) X.1 X.2.1 dX1_init_59 (by decide) (fun hc => ?_) (fun hc => ?_)
  · replace hF := it_t hF hc
    refine W.widen (k := 3) (n := 300) (by decide) (by decide) ?_
    exact gx_vretA X hG hS hE hA hF dX1_init_66
  · replace hF := it_f hF hc
    refine lv_aload_n X.1 X.2.1 dX1_init_62 rfl (lv_at hl 1 rfl) ?_
    obtain ⟨σ19, hz, hF⟩ := b1_ex hF
    refine gx_rV (gx_runV (As := []) (rest := []) X hG hS hT_a0.1 (hT_a0.eq (by decide)) (by decide) rfl (c_X1_findFault l D cA base ad14 σ18 n a0 hT_a0 hz) k_482 k_479 k_481 ks_7 k_14 (h_X1_findFault) rfl rfl ⟨by decide, by decide⟩ rfl hl.1 rfl (Nat.le_of_ble_eq_true rfl) dX1_init_63 ⟨by decide, by decide⟩) hS (fun H locs hG hS hX => ?_)
    have hT_a0 := hX.T hT_a0
    have hT_a1 := hX.T hT_a1
    replace hE := hE.trans hX
    refine W.widen (k := 3) (n := 300) (by decide) (by decide) ?_
    exact gx_vretA X hG hS hE hA hF dX1_init_66
theorem c_X3_addLaw (l : Launch) (D : va_G) (cA : Nat → ClassId) (base : Nat) (ad : Nat → Nat) (σ : Hp) (n : Nat) (a0 : Nat) (a1 : Nat) (hT_a0 : hT σ a0 3) (hT_a1 : hT σ a1 1) {τ : Hp} {r : Int32} (hF : F_X3_addLaw n a0 a1 σ = some (r, τ)) : MI l yX3_addLaw cX3_addLaw 2 (some .int) rm_X3_addLaw D cA base ad σ [.ref (ad a0), .ref (ad a1)] r τ := by
  refine Met.ofW (cc := cX3_addLaw) (maxL := 2) (ret := (some .int)) (by decide) rfl ?_
  intro p e s m args below meth c s₁ B hml hv
  obtain ⟨rfl, hv⟩ := hv
  have X : SX D cA base p s m ([.ref (ad a0), .ref (ad a1)] : List Value).toArray meth c cX3_addLaw 2 (some .int) RX3 := sx_of B hml hv
  have hG := hv.1
  have hS : va_S (bA base) s.heap s.heap [] := va_S.rf
  have hE := xT.rf σ
  have hl := lv_entry ([.ref (ad a0), .ref (ad a1)]) (n := 2) (Nat.le_of_ble_eq_true rfl)
  rw [lg_entry_eq]
  generalize (lg_sl ([.ref (ad a0), .ref (ad a1)]) ++ List.replicate (2 - (lg_sl ([.ref (ad a0), .ref (ad a1)])).length) Slot.unset).toArray = ls at hl ⊢
  have hl : lv_has ls 2 [(0, .ref (ad a0)), (1, .ref (ad a1))] := hl
  unfold F_X3_addLaw at hF
  refine lv_aload_n X.1 X.2.1 dX3_addLaw_0 rfl (lv_at hl 0 rfl) ?_
  refine gx_get 5 (v := .int (hI σ a0 5)) X hG hT_a0.1 (hT_a0.eq (by decide)) (by decide) rfl inX3 (by decide) k_54 (fun _ h => h) rfl dX3_addLaw_1 ?_
  refine lv_if_lt (tgt := 19) X.1 X.2.1 dX3_addLaw_4 (by decide) (fun hc => ?_) (fun hc => ?_)
  · replace hF := it_t hF hc
    refine lv_bipush (v := (-2)) X.1 X.2.1 dX3_addLaw_19 (by decide) ?_
    exact gx_iret X hG hS hE hF dX3_addLaw_21
  · replace hF := it_f hF hc
    refine lv_aload_n X.1 X.2.1 dX3_addLaw_7 rfl (lv_at hl 0 rfl) ?_
    refine gx_get 5 (v := .int (hI σ a0 5)) X hG hT_a0.1 (hT_a0.eq (by decide)) (by decide) rfl inX3 (by decide) k_54 (fun _ h => h) rfl dX3_addLaw_8 ?_
    refine lv_aload_n X.1 X.2.1 dX3_addLaw_11 rfl (lv_at hl 0 rfl) ?_
    obtain ⟨i1, hr, hF⟩ := b1_ex hF
    have hT_i1 : hT σ i1 14 := gw_T hG hT_a0 (by decide) hr
    refine gx_get 6 (v := .ref (ad i1)) X hG hT_a0.1 (hT_a0.eq (by decide)) (by decide) rfl inX3 (by decide) k_55 (fun _ h => h) (gx_rfv hr) dX3_addLaw_12 ?_
    refine gx_alen (t0 := 1) X hG hT_i1 (by decide) (by decide) rfl dX3_addLaw_15 ?_
    refine lv_icmp_lt (tgt := 22) X.1 X.2.1 dX3_addLaw_16 (by decide) (fun hc => ?_) (fun hc => ?_)
    · replace hF := it_t hF hc
      refine lv_aload_n X.1 X.2.1 dX3_addLaw_22 rfl (lv_at hl 0 rfl) ?_
      obtain ⟨i2, hr, hF⟩ := b1_ex hF
      have hT_i2 : hT σ i2 14 := gw_T hG hT_a0 (by decide) hr
      refine gx_get 6 (v := .ref (ad i2)) X hG hT_a0.1 (hT_a0.eq (by decide)) (by decide) rfl inX3 (by decide) k_55 (fun _ h => h) (gx_rfv hr) dX3_addLaw_23 ?_
      refine lv_aload_n X.1 X.2.1 dX3_addLaw_26 rfl (lv_at hl 0 rfl) ?_
      refine gx_get 5 (v := .int (hI σ a0 5)) X hG hT_a0.1 (hT_a0.eq (by decide)) (by decide) rfl inX3 (by decide) k_54 (fun _ h => h) rfl dX3_addLaw_27 ?_
      refine lv_aload_n X.1 X.2.1 dX3_addLaw_30 rfl (lv_at hl 1 rfl) ?_
      refine gx_qast (t0 := 1) (ci := 1) (r := (RX1, TX1, 6)) (v := (some a1)) X hG hS hT_i2 (by decide) (by decide) rfl rfl (by decide) (oT.some hT_a1) rfl hF dX3_addLaw_31 (fun σ3 H locs hG hS hX hF => ?_)
      have hT_a0 := hX.T hT_a0
      have hT_a1 := hX.T hT_a1
      replace hE := hE.trans hX
      refine lv_aload_n X.1 X.2.1 dX3_addLaw_32 rfl (lv_at hl 0 rfl) ?_
      refine lv_dup X.1 X.2.1 dX3_addLaw_33 rfl ?_
      refine gx_get 5 (v := .int (hI σ3 a0 5)) X hG hT_a0.1 (hT_a0.eq (by decide)) (by decide) rfl inX3 (by decide) k_54 (fun _ h => h) rfl dX3_addLaw_34 ?_
      refine lv_iconst (v := 1) X.1 X.2.1 dX3_addLaw_37 (by decide) ?_
      refine lv_iadd X.1 X.2.1 dX3_addLaw_38 ?_
      refine gx_putI 5  X hG hS hT_a0.1 (hT_a0.eq (by decide)) (by decide) rfl inX3 tyX3_ok nmX3 (by decide) k_54 (fun _ h => h) rfl rfl rfl rfl (Nat.le_of_ble_eq_true rfl) dX3_addLaw_39 hF (fun σ4 H locs hG hS hX hF => ?_)
      have hT_a0 := hX.T hT_a0
      have hT_a1 := hX.T hT_a1
      replace hE := hE.trans hX
      refine lv_aload_n X.1 X.2.1 dX3_addLaw_42 rfl (lv_at hl 0 rfl) ?_
      refine gx_get 5 (v := .int (hI σ4 a0 5)) X hG hT_a0.1 (hT_a0.eq (by decide)) (by decide) rfl inX3 (by decide) k_54 (fun _ h => h) rfl dX3_addLaw_43 ?_
      refine lv_iconst (v := 1) X.1 X.2.1 dX3_addLaw_46 (by decide) ?_
      refine lv_isub X.1 X.2.1 dX3_addLaw_47 ?_
      exact gx_iret X hG hS hE hF dX3_addLaw_48
    · replace hF := it_f hF hc
      refine lv_bipush (v := (-2)) X.1 X.2.1 dX3_addLaw_19 (by decide) ?_
      exact gx_iret X hG hS hE hF dX3_addLaw_21
theorem c_X11_law (l : Launch) (D : va_G) (cA : Nat → ClassId) (base : Nat) (ad : Nat → Nat) (σ : Hp) (n : Nat) (a0 : Nat) (a1 : Int32) (hT_a0 : hT σ a0 11) {τ : Hp} {r : Int32} (hF : F_X11_law n a0 a1 σ = some (r, τ)) : MIa l yX11_law cX11_law 4 (some .int) rm_X11_law D cA base ad σ [.ref (ad a0), .int a1] r τ 4 306 := by
  refine Met.ofW (cc := cX11_law) (maxL := 4) (ret := (some .int)) (by decide) rfl ?_
  intro p e s m args below meth c s₁ B hml hv
  obtain ⟨rfl, hv⟩ := hv
  have X : SX D cA base p s m ([.ref (ad a0), .int a1] : List Value).toArray meth c cX11_law 4 (some .int) RX11 := sx_of B hml hv
  have hG := hv.1
  have hS : va_S (bA base) s.heap s.heap [] := va_S.rf
  have hE := xT.rf σ
  have hA := adE.rf σ ad
  have hl := lv_entry ([.ref (ad a0), .int a1]) (n := 4) (Nat.le_of_ble_eq_true rfl)
  rw [lg_entry_eq]
  generalize (lg_sl ([.ref (ad a0), .int a1]) ++ List.replicate (4 - (lg_sl ([.ref (ad a0), .int a1])).length) Slot.unset).toArray = ls at hl ⊢
  have hl : lv_has ls 4 [(0, .ref (ad a0)), (1, .int a1)] := hl
  unfold F_X11_law at hF
  refine lv_aload_n X.1 X.2.1 dX11_law_0 rfl (lv_at hl 0 rfl) ?_
  refine lv_iload_n X.1 X.2.1 dX11_law_1 rfl (lv_at hl 1 rfl) ?_
  obtain ⟨r2, σ1, hz, hF⟩ := b2_ex hF
  refine gx_rQ (gx_runV (As := [.int a1]) (rest := []) X hG hS hT_a0.1 (hT_a0.eq (by decide)) (by decide) rfl (c_X11_shelfAt l D cA base ad σ n a0 a1 hT_a0 hz) k_435 k_432 k_434 ks_1 k_1 (h_X11_shelfAt) rfl rfl ⟨by decide, by decide⟩ rfl hl.1 rfl (Nat.le_of_ble_eq_true rfl) dX11_law_2 ⟨by decide, by decide⟩) hS (fun H locs hG hS hX hO_r2 => ?_)
  have hT_a0 := hX.T hT_a0
  replace hE := hE.trans hX
  refine gx_astore_n (lv' := [(2, va_rf (Option.map ad r2)), (0, .ref (ad a0)), (1, .int a1)]) X.1 X.2.1 dX11_law_5 rfl hl (by decide) (by cases r2 <;> rfl) (fun ls hl => ?_)
  refine gx_aload_n X.1 X.2.1 dX11_law_6 rfl (lv_at hl 0 rfl) ?_
  refine gx_ifnonnull (tgt := 12) X.1 X.2.1 dX11_law_7 (by decide) hF (fun hr hF2i3 => ?_) (fun i3 hr hF2i3 => ?_)
  · subst hr
    have hF := hF2i3
    have hl : lv_has ls 4 [(2, .null), (0, .ref (ad a0)), (1, .int a1)] := hl
    refine lv_iconst (v := (-1)) X.1 X.2.1 dX11_law_10 (by decide) ?_
    refine W.widen (k := 4) (n := 306) (by decide) (by decide) ?_
    exact gx_iretA X hG hS hE hA hF dX11_law_11
  · subst hr
    have hF := hF2i3
    have hT_i3 := hO_r2 i3 rfl
    have hl : lv_has ls 4 [(2, .ref (ad i3)), (0, .ref (ad a0)), (1, .int a1)] := hl
    refine lv_aload_n X.1 X.2.1 dX11_law_12 rfl (lv_at hl 1 rfl) ?_
    obtain ⟨i4, hr, hF⟩ := b1_ex hF
    have hT_i4 : hT σ1 i4 3 := gw_T hG hT_a0 (by decide) hr
    refine gx_get 0 (v := .ref (ad i4)) X hG hT_a0.1 (hT_a0.eq (by decide)) (by decide) rfl inX11 (by decide) k_151 (fun _ h => h) (gx_rfv hr) dX11_law_13 ?_
    refine gx_getN 5 (v := .int (hI σ1 i4 5)) X hG hT_i4.1 (hT_i4.eq (by decide)) (by decide) rfl inX3 (by decide) q_53 (fun _ h => h) rfl dX11_law_16 ?_
    refine lv_bipush (v := 6) X.1 X.2.1 dX11_law_19 (by decide) ?_
    refine lv_icmp_lt (tgt := 27) X.1 X.2.1 dX11_law_21 (by decide) (fun hc => ?_) (fun hc => ?_)
    · replace hF := it_t hF hc
      refine lv_aload_n X.1 X.2.1 dX11_law_27 rfl (lv_at hl 0 rfl) ?_
      obtain ⟨r6, σ5, hz, hF⟩ := b2_ex hF
      refine gx_rI (gx_runV (As := []) (rest := []) X hG hS hT_i3.1 (hT_i3.eq (by decide)) (by decide) rfl (c_X5_isEmpty l D cA base ad σ1 n i3 hT_i3 hz) k_439 k_436 k_437 k_438 k_3 (h_X5_isEmpty) rfl rfl ⟨by decide, by decide⟩ rfl hl.1 rfl (Nat.le_of_ble_eq_true rfl) dX11_law_28 ⟨by decide, by decide⟩) hS (fun H locs hG hS hX => ?_)
      have hT_a0 := hX.T hT_a0
      have hT_i3 := hX.T hT_i3
      replace hE := hE.trans hX
      refine lv_if_eq (tgt := 37) X.1 X.2.1 dX11_law_31 (by decide) (fun hc => ?_) (fun hc => ?_)
      · replace hF := it_t hF hc
        refine lv_aload_n X.1 X.2.1 dX11_law_37 rfl (lv_at hl 0 rfl) ?_
        refine gx_getN 2 (v := .int (hI σ5 i3 2)) X hG hT_i3.1 (hT_i3.eq (by decide)) (by decide) rfl inX5 (by decide) q_135 (fun _ h => h) rfl dX11_law_38 ?_
        refine lv_if_eq (tgt := 47) X.1 X.2.1 dX11_law_41 (by decide) (fun hc => ?_) (fun hc => ?_)
        · replace hF := it_t hF hc
          refine gx_new X hG hS (by decide) rfl inX1 tyX1_ok df1 k_444 k_445 k_14 rfl (by decide) (by decide) dX11_law_47 hF (fun i7 σ8 ad9 H hG hS hX hA2 hT_i7 hF => ?_)
          have hl : lv_has ls 4 [(2, .ref (ad9 i3)), (0, .ref (ad9 a0)), (1, .int a1)] := by rw [hA2 i3 hT_i3.1, hA2 a0 hT_a0.1]; exact hl
          replace hA := hA.trans hE.1 hA2
          have hT_a0 := hX.T hT_a0
          have hT_i3 := hX.T hT_i3
          replace hE := hE.trans hX
          refine lv_dup X.1 X.2.1 dX11_law_50 rfl ?_
          refine lv_aload_n X.1 X.2.1 dX11_law_51 rfl (lv_at hl 0 rfl) ?_
          obtain ⟨i10, hr, hF⟩ := b1_ex hF
          have hT_i10 : hT σ8 i10 13 := gw_T hG hT_i3 (by decide) hr
          refine gx_getN 4 (v := .ref (ad9 i10)) X hG hT_i3.1 (hT_i3.eq (by decide)) (by decide) rfl inX5 (by decide) q_139 (fun _ h => h) (gx_rfv hr) dX11_law_52 ?_
          refine lv_aload_n X.1 X.2.1 dX11_law_55 rfl (lv_at hl 0 rfl) ?_
          refine gx_getN 3 (v := .int (hI σ8 i3 3)) X hG hT_i3.1 (hT_i3.eq (by decide)) (by decide) rfl inX5 (by decide) q_137 (fun _ h => h) rfl dX11_law_56 ?_
          obtain ⟨σ11, hz, hF⟩ := b1_ex hF
          refine gx_rVa (gx_runI (As := [.ref (ad9 i10), .int (hI σ8 i3 3)]) (rest := [.ref (ad9 i7)]) X hG hS (c_X1_init l D cA base ad9 σ8 n i7 i10 (hI σ8 i3 3) hT_i7 hT_i10 hz) k_448 k_446 k_447 k_14 rfl (h_X1_init.2) rfl rfl ⟨by decide, by decide⟩ rfl hl.1 rfl (Nat.le_of_ble_eq_true rfl) dX11_law_59 ⟨by decide, by decide⟩) hS (fun ad12 H locs hG hS hX hA2 => ?_)
          have hl : lv_has ls 4 [(2, .ref (ad12 i3)), (0, .ref (ad12 a0)), (1, .int a1)] := by rw [hA2 i3 hT_i3.1, hA2 a0 hT_a0.1]; exact hl
          refine W.eq (g2 := F0 m 62 ls [.ref (ad12 i7)]) (by rw [hA2 i7 hT_i7.1] <;> rfl) ?_
          replace hA := hA.trans hE.1 hA2
          have hT_a0 := hX.T hT_a0
          have hT_i3 := hX.T hT_i3
          have hT_i7 := hX.T hT_i7
          replace hE := hE.trans hX
          refine lv_astore_n (lv' := [(3, .ref (ad12 i7)), (2, .ref (ad12 i3)), (0, .ref (ad12 a0)), (1, .int a1)]) X.1 X.2.1 dX11_law_62 rfl hl (by decide) rfl (fun ls hl => ?_)
          refine lv_aload_n X.1 X.2.1 dX11_law_63 rfl (lv_at hl 0 rfl) ?_
          refine gx_getN 5 (v := .int (hI σ11 i7 5)) X hG hT_i7.1 (hT_i7.eq (by decide)) (by decide) rfl inX1 (by decide) q_502 (fun _ h => h) rfl dX11_law_64 ?_
          refine lv_if_lt (tgt := 80) X.1 X.2.1 dX11_law_67 (by decide) (fun hc => ?_) (fun hc => ?_)
          · replace hF := it_t hF hc
            refine lv_aload_n X.1 X.2.1 dX11_law_80 rfl (lv_at hl 2 rfl) ?_
            obtain ⟨i13, hr, hF⟩ := b1_ex hF
            have hT_i13 : hT σ11 i13 3 := gw_T hG hT_a0 (by decide) hr
            refine gx_get 0 (v := .ref (ad12 i13)) X hG hT_a0.1 (hT_a0.eq (by decide)) (by decide) rfl inX11 (by decide) k_151 (fun _ h => h) (gx_rfv hr) dX11_law_81 ?_
            refine lv_aload_n X.1 X.2.1 dX11_law_84 rfl (lv_at hl 0 rfl) ?_
            obtain ⟨r15, σ14, hz, hF⟩ := b2_ex hF
            refine gx_rI (gx_runV (As := [.ref (ad12 i7)]) (rest := []) X hG hS hT_i13.1 (hT_i13.eq (by decide)) (by decide) rfl (c_X3_addLaw l D cA base ad12 σ11 n i13 i7 hT_i13 hT_i7 hz) k_519 k_516 k_517 k_518 k_2 (h_X3_addLaw) rfl rfl ⟨by decide, by decide⟩ rfl hl.1 rfl (Nat.le_of_ble_eq_true rfl) dX11_law_85 ⟨by decide, by decide⟩) hS (fun H locs hG hS hX => ?_)
            have hT_a0 := hX.T hT_a0
            have hT_i3 := hX.T hT_i3
            have hT_i7 := hX.T hT_i7
            replace hE := hE.trans hX
            refine W.widen (k := 4) (n := 306) (by decide) (by decide) ?_
            exact gx_iretA X hG hS hE hA hF dX11_law_88
          · replace hF := it_f hF hc
            refine lv_bipush (v := (-100)) X.1 X.2.1 dX11_law_70 (by decide) ?_
            refine lv_aload_n X.1 X.2.1 dX11_law_72 rfl (lv_at hl 0 rfl) ?_
            refine gx_getN 5 (v := .int (hI σ11 i7 5)) X hG hT_i7.1 (hT_i7.eq (by decide)) (by decide) rfl inX1 (by decide) q_502 (fun _ h => h) rfl dX11_law_73 ?_
            refine lv_isub X.1 X.2.1 dX11_law_76 ?_
            refine lv_goto (tgt := 88) X.1 X.2.1 dX11_law_77 (by decide) ?_
            refine W.widen (k := 4) (n := 306) (by decide) (by decide) ?_
            exact gx_iretA X hG hS hE hA hF dX11_law_88
        · replace hF := it_f hF hc
          refine lv_bipush (v := (-12)) X.1 X.2.1 dX11_law_44 (by decide) ?_
          refine W.widen (k := 4) (n := 306) (by decide) (by decide) ?_
          exact gx_iretA X hG hS hE hA hF dX11_law_46
      · replace hF := it_f hF hc
        refine lv_bipush (v := (-11)) X.1 X.2.1 dX11_law_34 (by decide) ?_
        refine W.widen (k := 4) (n := 306) (by decide) (by decide) ?_
        exact gx_iretA X hG hS hE hA hF dX11_law_36
    · replace hF := it_f hF hc
      refine lv_bipush (v := (-2)) X.1 X.2.1 dX11_law_24 (by decide) ?_
      refine W.widen (k := 4) (n := 306) (by decide) (by decide) ?_
      exact gx_iretA X hG hS hE hA hF dX11_law_26
theorem c_X3_leaderSeat (l : Launch) (D : va_G) (cA : Nat → ClassId) (base : Nat) (ad : Nat → Nat) (σ : Hp) (n : Nat) (a0 : Nat) (hT_a0 : hT σ a0 3) {τ : Hp} {r : Int32} (hF : F_X3_leaderSeat n a0 σ = some (r, τ)) : MI l yX3_leaderSeat cX3_leaderSeat 2 (some .int) rm_X3_leaderSeat D cA base ad σ [.ref (ad a0)] r τ := by
  refine Met.ofW (cc := cX3_leaderSeat) (maxL := 2) (ret := (some .int)) (by decide) rfl ?_
  intro p e s m args below meth c s₁ B hml hv
  obtain ⟨rfl, hv⟩ := hv
  have X : SX D cA base p s m ([.ref (ad a0)] : List Value).toArray meth c cX3_leaderSeat 2 (some .int) RX3 := sx_of B hml hv
  have hG := hv.1
  have hS : va_S (bA base) s.heap s.heap [] := va_S.rf
  have hE := xT.rf σ
  have hl := lv_entry ([.ref (ad a0)]) (n := 2) (Nat.le_of_ble_eq_true rfl)
  rw [lg_entry_eq]
  generalize (lg_sl ([.ref (ad a0)]) ++ List.replicate (2 - (lg_sl ([.ref (ad a0)])).length) Slot.unset).toArray = ls at hl ⊢
  have hl : lv_has ls 2 [(0, .ref (ad a0))] := hl
  unfold F_X3_leaderSeat at hF
  refine lv_aload_n X.1 X.2.1 dX3_leaderSeat_0 rfl (lv_at hl 0 rfl) ?_
  obtain ⟨i1, hr, hF⟩ := b1_ex hF
  have hT_i1 : hT σ i1 13 := gw_T hG hT_a0 (by decide) hr
  refine gx_get 7 (v := .ref (ad i1)) X hG hT_a0.1 (hT_a0.eq (by decide)) (by decide) rfl inX3 (by decide) k_56 (fun _ h => h) (gx_rfv hr) dX3_leaderSeat_1 ?_
  refine lv_iconst (v := 1) X.1 X.2.1 dX3_leaderSeat_4 (by decide) ?_
  obtain ⟨r3, σ2, hz, hF⟩ := b2_ex hF
  refine gx_rI (gx_runSN (As := [.ref (ad i1), .int 1]) (rest := []) X hG hS (c_X11_at l D cA base ad σ n i1 1 hT_i1 hz) k_362 q_360 k_361 k_1 (h_X11_at.2) rfl rfl ⟨by decide, by decide⟩ rfl hl.1 rfl (Nat.le_of_ble_eq_true rfl) dX3_leaderSeat_5 ⟨Nat.zero_le _, Nat.zero_le _⟩) hS (fun H locs hG hS hX => ?_)
  have hT_a0 := hX.T hT_a0
  replace hE := hE.trans hX
  refine lv_istore_n (lv' := [(1, .int r3), (0, .ref (ad a0))]) X.1 X.2.1 dX3_leaderSeat_8 rfl hl (by decide) rfl (fun ls hl => ?_)
  refine lv_aload_n X.1 X.2.1 dX3_leaderSeat_9 rfl (lv_at hl 1 rfl) ?_
  refine lv_iload_n X.1 X.2.1 dX3_leaderSeat_10 rfl (lv_at hl 0 rfl) ?_
  obtain ⟨r5, σ4, hz, hF⟩ := b2_ex hF
  refine gx_rI (gx_runV (As := [.int r3]) (rest := []) X hG hS hT_a0.1 (hT_a0.eq (by decide)) (by decide) rfl (c_X3_isSeat l D cA base ad σ2 n a0 r3 hT_a0 hz) k_374 k_384 k_372 k_373 k_2 (h_X3_isSeat) rfl rfl ⟨by decide, by decide⟩ rfl hl.1 rfl (Nat.le_of_ble_eq_true rfl) dX3_leaderSeat_11 ⟨Nat.zero_le _, Nat.zero_le _⟩) hS (fun H locs hG hS hX => ?_)
  have hT_a0 := hX.T hT_a0
  replace hE := hE.trans hX
  refine lv_if_eq (tgt := 21) X.1 X.2.1 dX3_leaderSeat_14 (by decide) (fun hc => ?_) (fun hc => ?_)
  · replace hF := it_t hF hc
    refine lv_iconst (v := 0) X.1 X.2.1 dX3_leaderSeat_21 (by decide) ?_
    exact gx_iret X hG hS hE hF dX3_leaderSeat_22
  · replace hF := it_f hF hc
    refine lv_iload_n X.1 X.2.1 dX3_leaderSeat_17 rfl (lv_at hl 0 rfl) ?_
    refine lv_goto (tgt := 22) X.1 X.2.1 dX3_leaderSeat_18 (by decide) ?_
    exact gx_iret X hG hS hE hF dX3_leaderSeat_22
theorem c_X3_seatFromLeader (l : Launch) (D : va_G) (cA : Nat → ClassId) (base : Nat) (ad : Nat → Nat) (σ : Hp) (n : Nat) (a0 : Nat) (a1 : Int32) (hT_a0 : hT σ a0 3) {τ : Hp} {r : Int32} (hF : F_X3_seatFromLeader n a0 a1 σ = some (r, τ)) : MI l yX3_seatFromLeader cX3_seatFromLeader 2 (some .int) rm_X3_seatFromLeader D cA base ad σ [.ref (ad a0), .int a1] r τ := by
  refine Met.ofW (cc := cX3_seatFromLeader) (maxL := 2) (ret := (some .int)) (by decide) rfl ?_
  intro p e s m args below meth c s₁ B hml hv
  obtain ⟨rfl, hv⟩ := hv
  have X : SX D cA base p s m ([.ref (ad a0), .int a1] : List Value).toArray meth c cX3_seatFromLeader 2 (some .int) RX3 := sx_of B hml hv
  have hG := hv.1
  have hS : va_S (bA base) s.heap s.heap [] := va_S.rf
  have hE := xT.rf σ
  have hl := lv_entry ([.ref (ad a0), .int a1]) (n := 2) (Nat.le_of_ble_eq_true rfl)
  rw [lg_entry_eq]
  generalize (lg_sl ([.ref (ad a0), .int a1]) ++ List.replicate (2 - (lg_sl ([.ref (ad a0), .int a1])).length) Slot.unset).toArray = ls at hl ⊢
  have hl : lv_has ls 2 [(0, .ref (ad a0)), (1, .int a1)] := hl
  unfold F_X3_seatFromLeader at hF
  refine lv_aload_n X.1 X.2.1 dX3_seatFromLeader_0 rfl (lv_at hl 0 rfl) ?_
  refine gx_get 2 (v := .int (hI σ a0 2)) X hG hT_a0.1 (hT_a0.eq (by decide)) (by decide) rfl inX3 (by decide) k_45 (fun _ h => h) rfl dX3_seatFromLeader_1 ?_
  refine lv_if_le (tgt := 21) X.1 X.2.1 dX3_seatFromLeader_4 (by decide) (fun hc => ?_) (fun hc => ?_)
  · replace hF := it_t hF hc
    refine lv_iconst (v := 0) X.1 X.2.1 dX3_seatFromLeader_21 (by decide) ?_
    exact gx_iret X hG hS hE hF dX3_seatFromLeader_22
  · replace hF := it_f hF hc
    refine lv_aload_n X.1 X.2.1 dX3_seatFromLeader_7 rfl (lv_at hl 0 rfl) ?_
    refine gx_get 9 (v := .int (hI σ a0 9)) X hG hT_a0.1 (hT_a0.eq (by decide)) (by decide) rfl inX3 (by decide) k_60 (fun _ h => h) rfl dX3_seatFromLeader_8 ?_
    refine lv_iload_n X.1 X.2.1 dX3_seatFromLeader_11 rfl (lv_at hl 1 rfl) ?_
    refine lv_iadd X.1 X.2.1 dX3_seatFromLeader_12 ?_
    refine lv_aload_n X.1 X.2.1 dX3_seatFromLeader_13 rfl (lv_at hl 0 rfl) ?_
    refine gx_get 2 (v := .int (hI σ a0 2)) X hG hT_a0.1 (hT_a0.eq (by decide)) (by decide) rfl inX3 (by decide) k_45 (fun _ h => h) rfl dX3_seatFromLeader_14 ?_
    obtain ⟨hne, hF⟩ := ck_ex hF
    refine lv_irem X.1 X.2.1 dX3_seatFromLeader_17 hne ?_
    refine lv_goto (tgt := 22) X.1 X.2.1 dX3_seatFromLeader_18 (by decide) ?_
    exact gx_iret X hG hS hE hF dX3_seatFromLeader_22
theorem w_X3_beginTalk_123 {σ0 τ : Hp} (X : SX D cA base p s m args meth c cX3_beginTalk 6 none RX3) (n : Nat)  : ∀ (v0 : Nat) (σ : Hp) (H : Heap) (locs : List Loc) (ls : Array Slot), hT σ v0 3 → GW D cA base ad σ H → va_S (bA base) s.heap H locs → xT σ0 σ → lv_has ls 6 [(0, .ref (ad v0))] → F_X3_beginTalk_123 n  v0 σ = some τ → W p l e rm_X3_beginTalk s m args below meth c H locs 0 0 (ZV below s args D cA base ad σ0 τ) (F0 m 123 ls []) := by
  intro v0 σ H locs ls hT_v0 hG hS hE hl hF
  unfold F_X3_beginTalk_123 at hF
  refine lv_aload_n X.1 X.2.1 dX3_beginTalk_123 rfl (lv_at hl 0 rfl) ?_
  refine lv_aload_n X.1 X.2.1 dX3_beginTalk_124 rfl (lv_at hl 0 rfl) ?_
  refine gx_get 12 (v := .int (hI σ v0 12)) X hG hT_v0.1 (hT_v0.eq (by decide)) (by decide) rfl inX3 (by decide) k_69 (fun _ h => h) rfl dX3_beginTalk_125 ?_
  refine gx_putI 13  X hG hS hT_v0.1 (hT_v0.eq (by decide)) (by decide) rfl inX3 tyX3_ok nmX3 (by decide) k_71 (fun _ h => h) rfl rfl rfl rfl (Nat.le_of_ble_eq_true rfl) dX3_beginTalk_128 hF (fun σ1 H locs hG hS hX hF => ?_)
  have hT_v0 := hX.T hT_v0
  replace hE := hE.trans hX
  exact gx_vret X hG hS hE hF dX3_beginTalk_131
theorem w_X3_beginTalk_117 {σ0 τ : Hp} (X : SX D cA base p s m args meth c cX3_beginTalk 6 none RX3) (n : Nat) (K_21 : Nat → Int32 → Int32 → Hp → Option Hp) (hK_21 : ∀ (v0 : Nat) (v1 : Int32) (v2 : Int32) (σ : Hp) (H : Heap) (locs : List Loc) (ls : Array Slot), hT σ v0 3 → GW D cA base ad σ H → va_S (bA base) s.heap H locs → xT σ0 σ → lv_has ls 6 [(0, .ref (ad v0)), (1, .int v1), (2, .int v2)] → K_21 v0 v1 v2 σ = some τ → W p l e rm_X3_beginTalk s m args below meth c H locs 0 0 (ZV below s args D cA base ad σ0 τ) (F0 m 21 ls [])) : ∀ (v0 : Nat) (v1 : Int32) (v2 : Int32) (σ : Hp) (H : Heap) (locs : List Loc) (ls : Array Slot), hT σ v0 3 → GW D cA base ad σ H → va_S (bA base) s.heap H locs → xT σ0 σ → lv_has ls 6 [(0, .ref (ad v0)), (1, .int v1), (2, .int v2)] → F_X3_beginTalk_117 n K_21 v0 v1 v2 σ = some τ → W p l e rm_X3_beginTalk s m args below meth c H locs 0 0 (ZV below s args D cA base ad σ0 τ) (F0 m 117 ls []) := by
  intro v0 v1 v2 σ H locs ls hT_v0 hG hS hE hl hF
  unfold F_X3_beginTalk_117 at hF
  refine lv_iinc (v := v2 + 1) (lv' := [(2, .int (v2 + 1)), (0, .ref (ad v0)), (1, .int v1)]) X.1 X.2.1 dX3_beginTalk_117 hl (k := 2) rfl rfl (by decide) rfl (fun ls hl => ?_)
  refine lv_goto (tgt := 21) X.1 X.2.1 dX3_beginTalk_120 (by decide) ?_
  exact hK_21 v0 v1 (v2 + 1) σ _ _ ls hT_v0 hG hS hE (lv_sub hl [1, 2, 0] rfl) hF
theorem w_X3_beginTalk_82 {σ0 τ : Hp} (X : SX D cA base p s m args meth c cX3_beginTalk 6 none RX3) (n : Nat) (K_21 : Nat → Int32 → Int32 → Hp → Option Hp) (hK_21 : ∀ (v0 : Nat) (v1 : Int32) (v2 : Int32) (σ : Hp) (H : Heap) (locs : List Loc) (ls : Array Slot), hT σ v0 3 → GW D cA base ad σ H → va_S (bA base) s.heap H locs → xT σ0 σ → lv_has ls 6 [(0, .ref (ad v0)), (1, .int v1), (2, .int v2)] → K_21 v0 v1 v2 σ = some τ → W p l e rm_X3_beginTalk s m args below meth c H locs 0 0 (ZV below s args D cA base ad σ0 τ) (F0 m 21 ls [])) : ∀ (v0 : Nat) (v1 : Int32) (v2 : Int32) (v3 : Int32) (v4 : Option Nat) (σ : Hp) (H : Heap) (locs : List Loc) (ls : Array Slot), hT σ v0 3 → oT σ v4 100 → GW D cA base ad σ H → va_S (bA base) s.heap H locs → xT σ0 σ → lv_has ls 6 [(0, .ref (ad v0)), (1, .int v1), (2, .int v2), (3, .int v3), (4, va_rf (Option.map ad v4))] → F_X3_beginTalk_82 n K_21 v0 v1 v2 v3 v4 σ = some τ → W p l e rm_X3_beginTalk s m args below meth c H locs 0 0 (ZV below s args D cA base ad σ0 τ) (F0 m 82 ls []) := by
  intro v0 v1 v2 v3 v4 σ H locs ls hT_v0 hO_v4 hG hS hE hl hF
  unfold F_X3_beginTalk_82 at hF
  refine gx_aload X.1 X.2.1 dX3_beginTalk_82 (lv_at hl 4 rfl) ?_
  refine gx_ifnull (tgt := 117) X.1 X.2.1 dX3_beginTalk_84 (by decide) hF (fun hr hF2i2 => ?_) (fun i2 hr hF2i2 => ?_)
  · subst hr
    have hF := hF2i2
    have hl : lv_has ls 6 [(0, .ref (ad v0)), (1, .int v1), (2, .int v2), (3, .int v3), (4, .null)] := hl
    exact w_X3_beginTalk_117 X n K_21 hK_21 v0 v1 v2 σ _ _ ls hT_v0 hG hS hE (lv_sub hl [0, 1, 2] rfl) hF
  · subst hr
    have hF := hF2i2
    have hT_i2 := hO_v4 i2 rfl
    have hl : lv_has ls 6 [(0, .ref (ad v0)), (1, .int v1), (2, .int v2), (3, .int v3), (4, .ref (ad i2))] := hl
    refine lv_aload_n X.1 X.2.1 dX3_beginTalk_87 rfl (lv_at hl 0 rfl) ?_
    refine lv_iload_n X.1 X.2.1 dX3_beginTalk_88 rfl (lv_at hl 3 rfl) ?_
    refine lv_iconst (v := 0) X.1 X.2.1 dX3_beginTalk_89 (by decide) ?_
    refine lv_iconst (v := 0) X.1 X.2.1 dX3_beginTalk_90 (by decide) ?_
    obtain ⟨r4, σ3, hz, hF⟩ := b2_ex hF
    refine gx_rI (gx_runV (As := [.int v3, .int 0, .int 0]) (rest := []) X hG hS hT_v0.1 (hT_v0.eq (by decide)) (by decide) rfl (c_X3_leaning l D cA base ad σ n v0 v3 0 0 hT_v0 hz) k_412 k_545 k_410 k_411 k_2 (h_X3_leaning) rfl rfl ⟨by decide, by decide⟩ rfl hl.1 rfl (Nat.le_of_ble_eq_true rfl) dX3_beginTalk_91 ⟨Nat.zero_le _, Nat.zero_le _⟩) hS (fun H locs hG hS hX => ?_)
    have hT_v0 := hX.T hT_v0
    have hT_i2 := hX.T hT_i2
    replace hE := hE.trans hX
    refine lv_aload X.1 X.2.1 dX3_beginTalk_94 (lv_at hl 4 rfl) ?_
    refine gx_getT 4 (v := .int (hI σ3 i2 4)) X hG hT_i2 (by decide) k_219 (fun _ h => h) rfl dX3_beginTalk_96 ?_
    refine lv_icmp_lt (tgt := 117) X.1 X.2.1 dX3_beginTalk_99 (by decide) (fun hc => ?_) (fun hc => ?_)
    · replace hF := it_t hF hc
      exact w_X3_beginTalk_117 X n K_21 hK_21 v0 v1 v2 σ3 _ _ ls hT_v0 hG hS hE (lv_sub hl [0, 1, 2] rfl) hF
    · replace hF := it_f hF hc
      refine lv_aload_n X.1 X.2.1 dX3_beginTalk_102 rfl (lv_at hl 0 rfl) ?_
      refine lv_dup X.1 X.2.1 dX3_beginTalk_103 rfl ?_
      refine gx_get 12 (v := .int (hI σ3 v0 12)) X hG hT_v0.1 (hT_v0.eq (by decide)) (by decide) rfl inX3 (by decide) k_69 (fun _ h => h) rfl dX3_beginTalk_104 ?_
      refine lv_iconst (v := 1) X.1 X.2.1 dX3_beginTalk_107 (by decide) ?_
      refine lv_iload_n X.1 X.2.1 dX3_beginTalk_108 rfl (lv_at hl 3 rfl) ?_
      refine lv_ishl X.1 X.2.1 dX3_beginTalk_109 ?_
      refine lv_ior X.1 X.2.1 dX3_beginTalk_110 ?_
      refine gx_putI 12  X hG hS hT_v0.1 (hT_v0.eq (by decide)) (by decide) rfl inX3 tyX3_ok nmX3 (by decide) k_69 (fun _ h => h) rfl rfl rfl rfl (Nat.le_of_ble_eq_true rfl) dX3_beginTalk_111 hF (fun σ5 H locs hG hS hX hF => ?_)
      have hT_v0 := hX.T hT_v0
      have hT_i2 := hX.T hT_i2
      replace hE := hE.trans hX
      refine lv_iinc (v := v1 + 1) (lv' := [(1, .int (v1 + 1)), (0, .ref (ad v0)), (2, .int v2), (3, .int v3), (4, .ref (ad i2))]) X.1 X.2.1 dX3_beginTalk_114 hl (k := 1) rfl rfl (by decide) rfl (fun ls hl => ?_)
      exact w_X3_beginTalk_117 X n K_21 hK_21 v0 (v1 + 1) v2 σ5 _ _ ls hT_v0 hG hS hE (lv_sub hl [1, 0, 2] rfl) hF
theorem w_X3_beginTalk_21 {σ0 τ : Hp} (X : SX D cA base p s m args meth c cX3_beginTalk 6 none RX3) (n : Nat)  : ∀ f : Nat, ∀ (v0 : Nat) (v1 : Int32) (v2 : Int32) (σ : Hp) (H : Heap) (locs : List Loc) (ls : Array Slot), hT σ v0 3 → GW D cA base ad σ H → va_S (bA base) s.heap H locs → xT σ0 σ → lv_has ls 6 [(0, .ref (ad v0)), (1, .int v1), (2, .int v2)] → F_X3_beginTalk_21 n  f v0 v1 v2 σ = some τ → W p l e rm_X3_beginTalk s m args below meth c H locs 0 0 (ZV below s args D cA base ad σ0 τ) (F0 m 21 ls []) := by
  intro f
  induction f with
  | zero => intro v0 v1 v2 σ H locs ls h0 hG hS hE hl hF
            rw [F_X3_beginTalk_21] at hF; cases hF
  | succ f ih =>
    intro v0 v1 v2 σ H locs ls hT_v0 hG hS hE hl hF
    rw [F_X3_beginTalk_21] at hF
    refine lv_iload_n X.1 X.2.1 dX3_beginTalk_21 rfl (lv_at hl 2 rfl) ?_
    refine lv_aload_n X.1 X.2.1 dX3_beginTalk_22 rfl (lv_at hl 0 rfl) ?_
    refine gx_get 2 (v := .int (hI σ v0 2)) X hG hT_v0.1 (hT_v0.eq (by decide)) (by decide) rfl inX3 (by decide) k_45 (fun _ h => h) rfl dX3_beginTalk_23 ?_
    refine lv_icmp_ge (tgt := 123) X.1 X.2.1 dX3_beginTalk_26 (by decide) (fun hc => ?_) (fun hc => ?_)
    · replace hF := it_t hF hc
      exact w_X3_beginTalk_123 X n  v0 σ _ _ ls hT_v0 hG hS hE (lv_sub hl [0] rfl) hF
    · replace hF := it_f hF hc
      refine lv_aload_n X.1 X.2.1 dX3_beginTalk_29 rfl (lv_at hl 0 rfl) ?_
      refine lv_iload_n X.1 X.2.1 dX3_beginTalk_30 rfl (lv_at hl 2 rfl) ?_
      obtain ⟨r7, σ6, hz, hF⟩ := b2_ex hF
      refine gx_rI (gx_runV (As := [.int v2]) (rest := []) X hG hS hT_v0.1 (hT_v0.eq (by decide)) (by decide) rfl (c_X3_seatFromLeader l D cA base ad σ n v0 v2 hT_v0 hz) k_544 k_541 k_542 k_543 k_2 (h_X3_seatFromLeader) rfl rfl ⟨by decide, by decide⟩ rfl hl.1 rfl (Nat.le_of_ble_eq_true rfl) dX3_beginTalk_31 ⟨Nat.zero_le _, Nat.zero_le _⟩) hS (fun H locs hG hS hX => ?_)
      have hT_v0 := hX.T hT_v0
      replace hE := hE.trans hX
      refine lv_istore_n (lv' := [(3, .int r7), (0, .ref (ad v0)), (1, .int v1), (2, .int v2)]) X.1 X.2.1 dX3_beginTalk_34 rfl hl (by decide) rfl (fun ls hl => ?_)
      refine lv_aload_n X.1 X.2.1 dX3_beginTalk_35 rfl (lv_at hl 1 rfl) ?_
      refine lv_iload_n X.1 X.2.1 dX3_beginTalk_36 rfl (lv_at hl 0 rfl) ?_
      obtain ⟨r9, σ8, hz, hF⟩ := b2_ex hF
      refine gx_rQ (gx_runV (As := [.int r7]) (rest := []) X hG hS hT_v0.1 (hT_v0.eq (by decide)) (by decide) rfl (c_X3_turnAt l D cA base ad σ6 n v0 r7 hT_v0 hz) k_383 k_413 k_381 k_382 k_2 (h_X3_turnAt) rfl rfl ⟨by decide, by decide⟩ rfl hl.1 rfl (Nat.le_of_ble_eq_true rfl) dX3_beginTalk_37 ⟨Nat.zero_le _, Nat.zero_le _⟩) hS (fun H locs hG hS hX hO_r9 => ?_)
      have hT_v0 := hX.T hT_v0
      replace hE := hE.trans hX
      refine gx_astore (lv' := [(4, va_rf (Option.map ad r9)), (3, .int r7), (0, .ref (ad v0)), (1, .int v1), (2, .int v2)]) X.1 X.2.1 dX3_beginTalk_40 hl (by decide) (by cases r9 <;> rfl) (fun ls hl => ?_)
      refine gx_aload X.1 X.2.1 dX3_beginTalk_42 (lv_at hl 0 rfl) ?_
      refine gx_ifnull (tgt := 82) X.1 X.2.1 dX3_beginTalk_44 (by decide) hF (fun hr hF2i10 => ?_) (fun i10 hr hF2i10 => ?_)
      · subst hr
        have hF := hF2i10
        have hl : lv_has ls 6 [(4, .null), (3, .int r7), (0, .ref (ad v0)), (1, .int v1), (2, .int v2)] := hl
        exact w_X3_beginTalk_82 X n (F_X3_beginTalk_21 n  f) ih v0 v1 v2 r7 none σ8 _ _ ls hT_v0 oT.none hG hS hE (lv_sub hl [2, 3, 4, 1, 0] rfl) hF
      · subst hr
        have hF := hF2i10
        have hT_i10 := hO_r9 i10 rfl
        have hl : lv_has ls 6 [(4, .ref (ad i10)), (3, .int r7), (0, .ref (ad v0)), (1, .int v1), (2, .int v2)] := hl
        refine lv_aload_n X.1 X.2.1 dX3_beginTalk_47 rfl (lv_at hl 2 rfl) ?_
        obtain ⟨i11, hr, hF⟩ := b1_ex hF
        have hT_i11 : hT σ8 i11 13 := gw_T hG hT_v0 (by decide) hr
        refine gx_get 7 (v := .ref (ad i11)) X hG hT_v0.1 (hT_v0.eq (by decide)) (by decide) rfl inX3 (by decide) k_56 (fun _ h => h) (gx_rfv hr) dX3_beginTalk_48 ?_
        refine lv_iconst (v := 2) X.1 X.2.1 dX3_beginTalk_51 (by decide) ?_
        obtain ⟨r13, σ12, hz, hF⟩ := b2_ex hF
        refine gx_rI (gx_runSN (As := [.ref (ad i11), .int 2]) (rest := []) X hG hS (c_X11_at l D cA base ad σ8 n i11 2 hT_i11 hz) k_362 q_360 k_361 k_1 (h_X11_at.2) rfl rfl ⟨by decide, by decide⟩ rfl hl.1 rfl (Nat.le_of_ble_eq_true rfl) dX3_beginTalk_52 ⟨Nat.zero_le _, Nat.zero_le _⟩) hS (fun H locs hG hS hX => ?_)
        have hT_v0 := hX.T hT_v0
        have hT_i10 := hX.T hT_i10
        replace hE := hE.trans hX
        refine lv_iconst (v := 1) X.1 X.2.1 dX3_beginTalk_55 (by decide) ?_
        refine lv_icmp_ne (tgt := 82) X.1 X.2.1 dX3_beginTalk_56 (by decide) (fun hc => ?_) (fun hc => ?_)
        · replace hF := it_f hF hc
          exact w_X3_beginTalk_82 X n (F_X3_beginTalk_21 n  f) ih v0 v1 v2 r7 (some i10) σ12 _ _ ls hT_v0 (oT.some hT_i10) hG hS hE (lv_sub hl [2, 3, 4, 1, 0] rfl) hF
        · replace hF := it_t hF hc
          refine lv_iload_n X.1 X.2.1 dX3_beginTalk_59 rfl (lv_at hl 4 rfl) ?_
          refine lv_iload_n X.1 X.2.1 dX3_beginTalk_60 rfl (lv_at hl 3 rfl) ?_
          refine lv_isub X.1 X.2.1 dX3_beginTalk_61 ?_
          refine lv_istore (lv' := [(5, .int (v2 - v1)), (4, .ref (ad i10)), (3, .int r7), (0, .ref (ad v0)), (1, .int v1), (2, .int v2)]) X.1 X.2.1 dX3_beginTalk_62 hl (by decide) rfl (fun ls hl => ?_)
          refine lv_aload_n X.1 X.2.1 dX3_beginTalk_64 rfl (lv_at hl 3 rfl) ?_
          obtain ⟨i14, hr, hF⟩ := b1_ex hF
          have hT_i14 : hT σ12 i14 13 := gw_T hG hT_v0 (by decide) hr
          refine gx_get 17 (v := .ref (ad i14)) X hG hT_v0.1 (hT_v0.eq (by decide)) (by decide) rfl inX3 (by decide) k_78 (fun _ h => h) (gx_rfv hr) dX3_beginTalk_65 ?_
          refine lv_iload_n X.1 X.2.1 dX3_beginTalk_68 rfl (lv_at hl 2 rfl) ?_
          refine lv_aload X.1 X.2.1 dX3_beginTalk_69 (lv_at hl 1 rfl) ?_
          refine gx_getT 2 (v := .int (hI σ12 i10 2)) X hG hT_i10 (by decide) k_212 (fun _ h => h) rfl dX3_beginTalk_71 ?_
          refine lv_iload_n X.1 X.2.1 dX3_beginTalk_74 rfl (lv_at hl 4 rfl) ?_
          refine lv_iload X.1 X.2.1 dX3_beginTalk_75 (lv_at hl 0 rfl) ?_
          refine lv_isub X.1 X.2.1 dX3_beginTalk_77 ?_
          refine lv_imul X.1 X.2.1 dX3_beginTalk_78 ?_
          obtain ⟨σ15, hz, hF⟩ := b1_ex hF
          refine gx_rV (gx_runSN (As := [.ref (ad i14), .int r7, .int ((hI σ12 i10 2) * (v1 - (v2 - v1)))]) (rest := []) X hG hS (c_X11_store l D cA base ad σ12 n i14 r7 ((hI σ12 i10 2) * (v1 - (v2 - v1))) hT_i14 hz) k_173 q_351 k_172 k_1 (h_X11_store.2) rfl rfl ⟨by decide, by decide⟩ rfl hl.1 rfl (Nat.le_of_ble_eq_true rfl) dX3_beginTalk_79 ⟨Nat.zero_le _, Nat.zero_le _⟩) hS (fun H locs hG hS hX => ?_)
          have hT_v0 := hX.T hT_v0
          have hT_i10 := hX.T hT_i10
          replace hE := hE.trans hX
          exact w_X3_beginTalk_82 X n (F_X3_beginTalk_21 n  f) ih v0 v1 v2 r7 (some i10) σ15 _ _ ls hT_v0 (oT.some hT_i10) hG hS hE (lv_sub hl [3, 4, 5, 2, 1] rfl) hF
theorem c_X3_beginTalk (l : Launch) (D : va_G) (cA : Nat → ClassId) (base : Nat) (ad : Nat → Nat) (σ : Hp) (n : Nat) (a0 : Nat) (hT_a0 : hT σ a0 3) {τ : Hp} (hF : F_X3_beginTalk n a0 σ = some τ) : MV l yX3_beginTalk cX3_beginTalk 6 rm_X3_beginTalk D cA base ad σ [.ref (ad a0)] τ := by
  refine Met.ofW (cc := cX3_beginTalk) (maxL := 6) (ret := none) (by decide) rfl ?_
  intro p e s m args below meth c s₁ B hml hv
  obtain ⟨rfl, hv⟩ := hv
  have X : SX D cA base p s m ([.ref (ad a0)] : List Value).toArray meth c cX3_beginTalk 6 none RX3 := sx_of B hml hv
  have hG := hv.1
  have hS : va_S (bA base) s.heap s.heap [] := va_S.rf
  have hE := xT.rf σ
  have hl := lv_entry ([.ref (ad a0)]) (n := 6) (Nat.le_of_ble_eq_true rfl)
  rw [lg_entry_eq]
  generalize (lg_sl ([.ref (ad a0)]) ++ List.replicate (6 - (lg_sl ([.ref (ad a0)])).length) Slot.unset).toArray = ls at hl ⊢
  have hl : lv_has ls 6 [(0, .ref (ad a0))] := hl
  unfold F_X3_beginTalk at hF
  refine lv_aload_n X.1 X.2.1 dX3_beginTalk_0 rfl (lv_at hl 0 rfl) ?_
  obtain ⟨σ16, hz, hF⟩ := b1_ex hF
  refine gx_rV (gx_runV (As := []) (rest := []) X hG hS hT_a0.1 (hT_a0.eq (by decide)) (by decide) rfl (c_X3_standAsTold l D cA base ad σ n a0 hT_a0 hz) k_355 k_536 k_353 k_354 k_2 (h_X3_standAsTold) rfl rfl ⟨by decide, by decide⟩ rfl hl.1 rfl (Nat.le_of_ble_eq_true rfl) dX3_beginTalk_1 ⟨Nat.zero_le _, Nat.zero_le _⟩) hS (fun H locs hG hS hX => ?_)
  have hT_a0 := hX.T hT_a0
  replace hE := hE.trans hX
  refine lv_aload_n X.1 X.2.1 dX3_beginTalk_4 rfl (lv_at hl 0 rfl) ?_
  refine lv_iconst (v := 1) X.1 X.2.1 dX3_beginTalk_5 (by decide) ?_
  refine gx_putI 8  X hG hS hT_a0.1 (hT_a0.eq (by decide)) (by decide) rfl inX3 tyX3_ok nmX3 (by decide) k_59 (fun _ h => h) rfl rfl rfl rfl (Nat.le_of_ble_eq_true rfl) dX3_beginTalk_6 hF (fun σ17 H locs hG hS hX hF => ?_)
  have hT_a0 := hX.T hT_a0
  replace hE := hE.trans hX
  refine lv_aload_n X.1 X.2.1 dX3_beginTalk_9 rfl (lv_at hl 0 rfl) ?_
  refine lv_aload_n X.1 X.2.1 dX3_beginTalk_10 rfl (lv_at hl 0 rfl) ?_
  obtain ⟨r19, σ18, hz, hF⟩ := b2_ex hF
  refine gx_rI (gx_runV (As := []) (rest := [.ref (ad a0)]) X hG hS hT_a0.1 (hT_a0.eq (by decide)) (by decide) rfl (c_X3_leaderSeat l D cA base ad σ17 n a0 hT_a0 hz) k_540 k_537 k_538 k_539 k_2 (h_X3_leaderSeat) rfl rfl ⟨by decide, by decide⟩ rfl hl.1 rfl (Nat.le_of_ble_eq_true rfl) dX3_beginTalk_11 ⟨Nat.zero_le _, Nat.zero_le _⟩) hS (fun H locs hG hS hX => ?_)
  have hT_a0 := hX.T hT_a0
  replace hE := hE.trans hX
  refine gx_putI 9  X hG hS hT_a0.1 (hT_a0.eq (by decide)) (by decide) rfl inX3 tyX3_ok nmX3 (by decide) k_60 (fun _ h => h) rfl rfl rfl rfl (Nat.le_of_ble_eq_true rfl) dX3_beginTalk_14 hF (fun σ20 H locs hG hS hX hF => ?_)
  have hT_a0 := hX.T hT_a0
  replace hE := hE.trans hX
  refine lv_iconst (v := 0) X.1 X.2.1 dX3_beginTalk_17 (by decide) ?_
  refine lv_istore_n (lv' := [(1, .int 0), (0, .ref (ad a0))]) X.1 X.2.1 dX3_beginTalk_18 rfl hl (by decide) rfl (fun ls hl => ?_)
  refine lv_iconst (v := 0) X.1 X.2.1 dX3_beginTalk_19 (by decide) ?_
  refine lv_istore_n (lv' := [(2, .int 0), (1, .int 0), (0, .ref (ad a0))]) X.1 X.2.1 dX3_beginTalk_20 rfl hl (by decide) rfl (fun ls hl => ?_)
  exact w_X3_beginTalk_21 X n  n a0 0 0 σ20 _ _ ls hT_a0 hG hS hE (lv_sub hl [2, 1, 0] rfl) hF
end W_class5
