/-! model6: printed by wip/whole/gen.py -/
section W_model6
variable {p : Program} {l : Launch} {e : Env} {s : State} {m : MethodId} {args : Array Value} {below : List Frame} {meth : Method} {c : Code} {D : va_G} {cA : Nat → ClassId} {base : Nat} {ad : Nat → Nat}
abbrev rm_X12_tellsThing : Room := { frames := 1, cells := 0, slots := 0, locals := 23 }
theorem h_X12_tellsThing : yX12_tellsThing.cls = RX12 ∧ yX12_tellsThing.cls ≠ "java/lang/invoke/MethodHandle" ∧ yX12_tellsThing.cls ≠ "java/lang/invoke/VarHandle" ∧ (parseMethodDescriptor yX12_tellsThing.desc).map (fun d => d.parameters.length) = some 2 := by decide +kernel
def F_X12_tellsThing_90 (n : Nat)  : Nat → Nat → Int32 → Int32 → Hp → Option Hp
  | 0, _, _, _, _ => none
  | f + 1, v1, v4, v5, σ => ck (¬ ((5 : Int32) < 0 ∨ hL σ v1 ≤ (5 : Int32).toNatClampNeg)) (if (hI σ v1 (5 : Int32).toNatClampNeg) ≤ v5 then (some σ) else (if v4 < 0 then (some σ) else (ck (¬ ((19 + v5) < 0 ∨ hL σ v1 ≤ (19 + v5).toNatClampNeg)) (ck (¬ ((19 + v5) < 0 ∨ hL σ v1 ≤ (19 + v5).toNatClampNeg)) (lt (pI σ v1 (19 + v5).toNatClampNeg ((hI σ v1 (19 + v5).toNatClampNeg) ||| (1 <<< (v4 &&& 31)))) fun (σ1 : Hp) => (F_X12_tellsThing_90 n  f) v1 v4 (v5 + 1) σ1)))))
def F_X12_tellsThing_87 (n : Nat)  (v1 : Nat) (v4 : Int32) (σ : Hp) : Option Hp := F_X12_tellsThing_90 n  n v1 v4 0 σ
def F_X12_tellsThing_81 (n : Nat) (K_22 : Nat → Nat → Int32 → Int32 → Int32 → Hp → Option Hp) (v0 : Nat) (v1 : Nat) (v3 : Int32) (v4 : Int32) (v5 : Int32) (σ : Hp) : Option Hp := K_22 v0 v1 v3 v4 (v5 + 1) σ
def F_X12_tellsThing_77 (n : Nat) (K_22 : Nat → Nat → Int32 → Int32 → Int32 → Hp → Option Hp) (v0 : Nat) (v1 : Nat) (v3 : Int32) (v5 : Int32) (σ : Hp) : Option Hp := F_X12_tellsThing_81 n K_22 v0 v1 v3 v5 v5 σ
def F_X12_tellsThing_22 (n : Nat)  : Nat → Nat → Nat → Int32 → Int32 → Int32 → Hp → Option Hp
  | 0, _, _, _, _, _, _ => none
  | f + 1, v0, v1, v3, v4, v5, σ => b1 (hR σ v0 0) fun (i2 : Nat) => ck (¬ ((0 : Int32) < 0 ∨ hL σ i2 ≤ (0 : Int32).toNatClampNeg)) (if (hI σ i2 (0 : Int32).toNatClampNeg) ≤ v5 then (F_X12_tellsThing_87 n  v1 v4 σ) else (if ((v3 >>> (v5 &&& 31)) &&& 1) = 1 then (if v4 < 0 then (F_X12_tellsThing_77 n (F_X12_tellsThing_22 n  f) v0 v1 v3 v5 σ) else (b1 (hR σ v0 0) fun (i3 : Nat) => ck (¬ ((7 + v5) < 0 ∨ hL σ i3 ≤ (7 + v5).toNatClampNeg)) (b2 (F_X12_amount n (hI σ i3 (7 + v5).toNatClampNeg) σ) fun (r5 : Int32) (σ4 : Hp) => b1 (hR σ4 v0 0) fun (i6 : Nat) => ck (¬ ((7 + v4) < 0 ∨ hL σ4 i6 ≤ (7 + v4).toNatClampNeg)) (b2 (F_X12_amount n (hI σ4 i6 (7 + v4).toNatClampNeg) σ4) fun (r8 : Int32) (σ7 : Hp) => if r5 ≤ r8 then (F_X12_tellsThing_81 n (F_X12_tellsThing_22 n  f) v0 v1 v3 v4 v5 σ7) else (F_X12_tellsThing_77 n (F_X12_tellsThing_22 n  f) v0 v1 v3 v5 σ7))))) else (F_X12_tellsThing_81 n (F_X12_tellsThing_22 n  f) v0 v1 v3 v4 v5 σ)))
def F_X12_tellsThing (n : Nat) (a0 : Nat) (a1 : Nat) (a2 : Int32) (σ : Hp) : Option Hp := ck (¬ ((19 + a2) < 0 ∨ hL σ a1 ≤ (19 + a2).toNatClampNeg)) (b2 (F_X12_allHold n a0 a1 σ) fun (r10 : Int32) (σ9 : Hp) => lt ((hI σ a1 (19 + a2).toNatClampNeg) &&& (r10 ^^^ (-1))) fun (x11 : Int32) => F_X12_tellsThing_22 n  n a0 a1 x11 (-4) 0 σ9)
abbrev rm_X12_tellsStory : Room := { frames := 33, cells := 0, slots := 0, locals := 781 }
theorem h_X12_tellsStory : yX12_tellsStory.cls = RX12 ∧ yX12_tellsStory.cls ≠ "java/lang/invoke/MethodHandle" ∧ yX12_tellsStory.cls ≠ "java/lang/invoke/VarHandle" ∧ (parseMethodDescriptor yX12_tellsStory.desc).map (fun d => d.parameters.length) = some 2 := by decide +kernel
def F_X12_tellsStory_87 (n : Nat) (K_15 : Nat → Nat → Int32 → Int32 → Hp → Option Hp) (v0 : Nat) (v1 : Nat) (v2 : Int32) (v3 : Int32) (σ : Hp) : Option Hp := K_15 v0 v1 v2 (v3 + 1) σ
def F_X12_tellsStory_85 (n : Nat) (K_15 : Nat → Nat → Int32 → Int32 → Hp → Option Hp) (v0 : Nat) (v1 : Nat) (v2 : Int32) (v3 : Int32) (s0 : Int32) (s1 : Int32) (s2 : Int32) (s3 : Nat) (σ : Hp) : Option Hp := ck (¬ (s2 < 0 ∨ hL σ s3 ≤ s2.toNatClampNeg)) (lt (pI σ s3 s2.toNatClampNeg (s1 + s0)) fun (σ1 : Hp) => F_X12_tellsStory_87 n K_15 v0 v1 v2 v3 σ1)
def F_X12_tellsStory_15 (n : Nat)  : Nat → Nat → Nat → Int32 → Int32 → Hp → Option Hp
  | 0, _, _, _, _, _ => none
  | f + 1, v0, v1, v2, v3, σ => ck (¬ ((5 : Int32) < 0 ∨ hL σ v1 ≤ (5 : Int32).toNatClampNeg)) (if (hI σ v1 (5 : Int32).toNatClampNeg) ≤ v3 then (some σ) else (b2 (F_X12_leansIn n v0 v1 v3 σ) fun (r3 : Int32) (σ2 : Hp) => ck (¬ ((7 + v3) < 0 ∨ hL σ2 v1 ≤ (7 + v3).toNatClampNeg)) (b2 (F_X12_get n v0 (hI σ2 v1 (7 + v3).toNatClampNeg) 3 σ2) fun (r5 : Int32) (σ4 : Hp) => if (lg_cmp (r3.toInt64 - r5.toInt64) (-5)) ≤ 0 then (F_X12_tellsStory_87 n (F_X12_tellsStory_15 n  f) v0 v1 v2 v3 σ4) else (if 0 ≤ (lg_cmp (r3.toInt64 - r5.toInt64) 5) then (F_X12_tellsStory_87 n (F_X12_tellsStory_15 n  f) v0 v1 v2 v3 σ4) else (ck (¬ ((31 + v3) < 0 ∨ hL σ4 v1 ≤ (31 + v3).toNatClampNeg)) (ck (¬ ((43 + v2) < 0 ∨ hL σ4 v1 ≤ (43 + v2).toNatClampNeg)) (if (hI σ4 v1 (43 + v2).toNatClampNeg) = 1 then (F_X12_tellsStory_85 n (F_X12_tellsStory_15 n  f) v0 v1 v2 v3 2 (hI σ4 v1 (31 + v3).toNatClampNeg) (31 + v3) v1 σ4) else (F_X12_tellsStory_85 n (F_X12_tellsStory_15 n  f) v0 v1 v2 v3 (-2) (hI σ4 v1 (31 + v3).toNatClampNeg) (31 + v3) v1 σ4))))))))
def F_X12_tellsStory (n : Nat) (a0 : Nat) (a1 : Nat) (a2 : Int32) (σ : Hp) : Option Hp := ck (¬ ((1 : Int32) < 0 ∨ hL σ a1 ≤ (1 : Int32).toNatClampNeg)) (ck (¬ ((2 : Int32) < 0 ∨ hL σ a1 ≤ (2 : Int32).toNatClampNeg)) (ck (¬ ((0 : Int32) < 0 ∨ hL σ a1 ≤ (0 : Int32).toNatClampNeg)) (b1 (F_X12_sees n a0 (hI σ a1 (1 : Int32).toNatClampNeg) (hI σ a1 (2 : Int32).toNatClampNeg) (hI σ a1 (0 : Int32).toNatClampNeg) σ) fun (σ6 : Hp) => F_X12_tellsStory_15 n  n a0 a1 a2 0 σ6)))
abbrev rm_X12_presses : Room := { frames := 1, cells := 0, slots := 0, locals := 22 }
theorem h_X12_presses : yX12_presses.cls = RX12 ∧ yX12_presses.cls ≠ "java/lang/invoke/MethodHandle" ∧ yX12_presses.cls ≠ "java/lang/invoke/VarHandle" ∧ (parseMethodDescriptor yX12_presses.desc).map (fun d => d.parameters.length) = some 1 := by decide +kernel
def F_X12_presses_96 (n : Nat) (K_10 : Nat → Nat → Int32 → Int32 → Hp → Option Hp) (v0 : Nat) (v1 : Nat) (v2 : Int32) (v3 : Int32) (σ : Hp) : Option Hp := K_10 v0 v1 v2 (v3 + 1) σ
def F_X12_presses_93 (n : Nat) (K_10 : Nat → Nat → Int32 → Int32 → Hp → Option Hp) (v0 : Nat) (v1 : Nat) (v2 : Int32) (v3 : Int32) (s0 : Int32) (s1 : Int32) (s2 : Int32) (s3 : Int32) (s4 : Nat) (σ : Hp) : Option Hp := ck (¬ (s3 < 0 ∨ hL σ s4 ≤ s3.toNatClampNeg)) (lt (pI σ s4 s3.toNatClampNeg (s2 + (s1 * s0))) fun (σ1 : Hp) => F_X12_presses_96 n K_10 v0 v1 v2 v3 σ1)
def F_X12_presses_57 (n : Nat) (K_10 : Nat → Nat → Int32 → Int32 → Hp → Option Hp) (v0 : Nat) (v1 : Nat) (v2 : Int32) (v3 : Int32) (s0 : Int32) (σ : Hp) : Option Hp := if s0 = 0 then (F_X12_presses_96 n K_10 v0 v1 v2 v3 σ) else (ck (¬ ((31 + v3) < 0 ∨ hL σ v1 ≤ (31 + v3).toNatClampNeg)) (ck (¬ ((7 + v3) < 0 ∨ hL σ v1 ≤ (7 + v3).toNatClampNeg)) (b2 (F_X12_get n v0 (hI σ v1 (7 + v3).toNatClampNeg) 1 σ) fun (r3 : Int32) (σ2 : Hp) => if v2 ≤ 0 then (F_X12_presses_93 n K_10 v0 v1 v2 v3 (-1) (2 * r3) (hI σ v1 (31 + v3).toNatClampNeg) (31 + v3) v1 σ2) else (F_X12_presses_93 n K_10 v0 v1 v2 v3 1 (2 * r3) (hI σ v1 (31 + v3).toNatClampNeg) (31 + v3) v1 σ2))))
def F_X12_presses_56 (n : Nat) (K_10 : Nat → Nat → Int32 → Int32 → Hp → Option Hp) (v0 : Nat) (v1 : Nat) (v2 : Int32) (v3 : Int32) (σ : Hp) : Option Hp := F_X12_presses_57 n K_10 v0 v1 v2 v3 0 σ
def F_X12_presses_10 (n : Nat)  : Nat → Nat → Nat → Int32 → Int32 → Hp → Option Hp
  | 0, _, _, _, _, _ => none
  | f + 1, v0, v1, v2, v3, σ => ck (¬ ((5 : Int32) < 0 ∨ hL σ v1 ≤ (5 : Int32).toNatClampNeg)) (if (hI σ v1 (5 : Int32).toNatClampNeg) ≤ v3 then (some σ) else (if v2 ≤ 0 then (if 0 ≤ v2 then (F_X12_presses_56 n (F_X12_presses_10 n  f) v0 v1 v2 v3 σ) else (ck (¬ ((43 + v3) < 0 ∨ hL σ v1 ≤ (43 + v3).toNatClampNeg)) (if (hI σ v1 (43 + v3).toNatClampNeg) = 1 then (F_X12_presses_57 n (F_X12_presses_10 n  f) v0 v1 v2 v3 1 σ) else (F_X12_presses_56 n (F_X12_presses_10 n  f) v0 v1 v2 v3 σ)))) else (ck (¬ ((43 + v3) < 0 ∨ hL σ v1 ≤ (43 + v3).toNatClampNeg)) (if (hI σ v1 (43 + v3).toNatClampNeg) = 0 then (F_X12_presses_57 n (F_X12_presses_10 n  f) v0 v1 v2 v3 1 σ) else (F_X12_presses_57 n (F_X12_presses_10 n  f) v0 v1 v2 v3 0 σ)))))
def F_X12_presses (n : Nat) (a0 : Nat) (a1 : Nat) (σ : Hp) : Option Hp := ck (¬ ((1 : Int32) < 0 ∨ hL σ a1 ≤ (1 : Int32).toNatClampNeg)) (ck (¬ ((2 : Int32) < 0 ∨ hL σ a1 ≤ (2 : Int32).toNatClampNeg)) (lt ((hI σ a1 (1 : Int32).toNatClampNeg) - (hI σ a1 (2 : Int32).toNatClampNeg)) fun (x4 : Int32) => F_X12_presses_10 n  n a0 a1 x4 0 σ))
theorem w_X12_tellsThing_90 {σ0 τ : Hp} (X : SX D cA base p s m args meth c cX12_tellsThing 6 none RX12) (n : Nat)  : ∀ f : Nat, ∀ (v1 : Nat) (v4 : Int32) (v5 : Int32) (σ : Hp) (H : Heap) (locs : List Loc) (ls : Array Slot), hT σ v1 13 → GW D cA base ad σ H → va_S (bA base) s.heap H locs → xT σ0 σ → lv_has ls 6 [(1, .ref (ad v1)), (4, .int v4), (5, .int v5)] → F_X12_tellsThing_90 n  f v1 v4 v5 σ = some τ → W p l e rm_X12_tellsThing s m args below meth c H locs 0 0 (ZV below s args D cA base ad σ0 τ) (F0 m 90 ls []) := by
  intro f
  induction f with
  | zero => intro v1 v4 v5 σ H locs ls h0 hG hS hE hl hF
            rw [F_X12_tellsThing_90] at hF; cases hF
  | succ f ih =>
    intro v1 v4 v5 σ H locs ls hT_v1 hG hS hE hl hF
    rw [F_X12_tellsThing_90] at hF
    refine lv_iload X.1 X.2.1 dX12_tellsThing_90 (lv_at hl 2 rfl) ?_
    refine lv_aload_n X.1 X.2.1 dX12_tellsThing_92 rfl (lv_at hl 0 rfl) ?_
    refine lv_iconst (v := 5) X.1 X.2.1 dX12_tellsThing_93 (by decide) ?_
    refine gx_iald X hG hT_v1 hF dX12_tellsThing_94 (fun hF => ?_)
    refine lv_icmp_ge (tgt := 123) X.1 X.2.1 dX12_tellsThing_95 (by decide) (fun hc => ?_) (fun hc => ?_)
    · replace hF := it_t hF hc
      exact gx_vret X hG hS hE hF dX12_tellsThing_123
    · replace hF := it_f hF hc
      refine lv_iload X.1 X.2.1 dX12_tellsThing_98 (lv_at hl 1 rfl) ?_
      refine lv_if_lt (tgt := 123) X.1 X.2.1 dX12_tellsThing_100 (by decide) (fun hc => ?_) (fun hc => ?_)
      · replace hF := it_t hF hc
        exact gx_vret X hG hS hE hF dX12_tellsThing_123
      · replace hF := it_f hF hc
        refine lv_aload_n X.1 X.2.1 dX12_tellsThing_103 rfl (lv_at hl 0 rfl) ?_
        refine lv_bipush (v := 19) X.1 X.2.1 dX12_tellsThing_104 (by decide) ?_
        refine lv_iload X.1 X.2.1 dX12_tellsThing_106 (lv_at hl 2 rfl) ?_
        refine lv_iadd X.1 X.2.1 dX12_tellsThing_108 ?_
        refine lv_dup2_11 X.1 X.2.1 dX12_tellsThing_109 rfl rfl ?_
        refine gx_iald X hG hT_v1 hF dX12_tellsThing_110 (fun hF => ?_)
        refine lv_iconst (v := 1) X.1 X.2.1 dX12_tellsThing_111 (by decide) ?_
        refine lv_iload X.1 X.2.1 dX12_tellsThing_112 (lv_at hl 1 rfl) ?_
        refine lv_ishl X.1 X.2.1 dX12_tellsThing_114 ?_
        refine lv_ior X.1 X.2.1 dX12_tellsThing_115 ?_
        refine gx_iast X hG hS hT_v1 hF dX12_tellsThing_116 (fun σ1 H locs hG hS hX hF => ?_)
        have hT_v1 := hX.T hT_v1
        replace hE := hE.trans hX
        refine lv_iinc (v := v5 + 1) (lv' := [(5, .int (v5 + 1)), (1, .ref (ad v1)), (4, .int v4)]) X.1 X.2.1 dX12_tellsThing_117 hl (k := 2) rfl rfl (by decide) rfl (fun ls hl => ?_)
        refine lv_goto (tgt := 90) X.1 X.2.1 dX12_tellsThing_120 (by decide) ?_
        exact ih v1 v4 (v5 + 1) σ1 _ _ ls hT_v1 hG hS hE (lv_sub hl [1, 2, 0] rfl) hF
theorem w_X12_tellsThing_87 {σ0 τ : Hp} (X : SX D cA base p s m args meth c cX12_tellsThing 6 none RX12) (n : Nat)  : ∀ (v1 : Nat) (v4 : Int32) (σ : Hp) (H : Heap) (locs : List Loc) (ls : Array Slot), hT σ v1 13 → GW D cA base ad σ H → va_S (bA base) s.heap H locs → xT σ0 σ → lv_has ls 6 [(1, .ref (ad v1)), (4, .int v4)] → F_X12_tellsThing_87 n  v1 v4 σ = some τ → W p l e rm_X12_tellsThing s m args below meth c H locs 0 0 (ZV below s args D cA base ad σ0 τ) (F0 m 87 ls []) := by
  intro v1 v4 σ H locs ls hT_v1 hG hS hE hl hF
  unfold F_X12_tellsThing_87 at hF
  refine lv_iconst (v := 0) X.1 X.2.1 dX12_tellsThing_87 (by decide) ?_
  refine lv_istore (lv' := [(5, .int 0), (1, .ref (ad v1)), (4, .int v4)]) X.1 X.2.1 dX12_tellsThing_88 hl (by decide) rfl (fun ls hl => ?_)
  exact w_X12_tellsThing_90 X n  n v1 v4 0 σ _ _ ls hT_v1 hG hS hE (lv_sub hl [1, 2, 0] rfl) hF
theorem w_X12_tellsThing_81 {σ0 τ : Hp} (X : SX D cA base p s m args meth c cX12_tellsThing 6 none RX12) (n : Nat) (K_22 : Nat → Nat → Int32 → Int32 → Int32 → Hp → Option Hp) (hK_22 : ∀ (v0 : Nat) (v1 : Nat) (v3 : Int32) (v4 : Int32) (v5 : Int32) (σ : Hp) (H : Heap) (locs : List Loc) (ls : Array Slot), hT σ v0 12 → hT σ v1 13 → GW D cA base ad σ H → va_S (bA base) s.heap H locs → xT σ0 σ → lv_has ls 6 [(0, .ref (ad v0)), (1, .ref (ad v1)), (3, .int v3), (4, .int v4), (5, .int v5)] → K_22 v0 v1 v3 v4 v5 σ = some τ → W p l e rm_X12_tellsThing s m args below meth c H locs 0 0 (ZV below s args D cA base ad σ0 τ) (F0 m 22 ls [])) : ∀ (v0 : Nat) (v1 : Nat) (v3 : Int32) (v4 : Int32) (v5 : Int32) (σ : Hp) (H : Heap) (locs : List Loc) (ls : Array Slot), hT σ v0 12 → hT σ v1 13 → GW D cA base ad σ H → va_S (bA base) s.heap H locs → xT σ0 σ → lv_has ls 6 [(0, .ref (ad v0)), (1, .ref (ad v1)), (3, .int v3), (4, .int v4), (5, .int v5)] → F_X12_tellsThing_81 n K_22 v0 v1 v3 v4 v5 σ = some τ → W p l e rm_X12_tellsThing s m args below meth c H locs 0 0 (ZV below s args D cA base ad σ0 τ) (F0 m 81 ls []) := by
  intro v0 v1 v3 v4 v5 σ H locs ls hT_v0 hT_v1 hG hS hE hl hF
  unfold F_X12_tellsThing_81 at hF
  refine lv_iinc (v := v5 + 1) (lv' := [(5, .int (v5 + 1)), (0, .ref (ad v0)), (1, .ref (ad v1)), (3, .int v3), (4, .int v4)]) X.1 X.2.1 dX12_tellsThing_81 hl (k := 4) rfl rfl (by decide) rfl (fun ls hl => ?_)
  refine lv_goto (tgt := 22) X.1 X.2.1 dX12_tellsThing_84 (by decide) ?_
  exact hK_22 v0 v1 v3 v4 (v5 + 1) σ _ _ ls hT_v0 hT_v1 hG hS hE (lv_sub hl [1, 2, 3, 4, 0] rfl) hF
theorem w_X12_tellsThing_77 {σ0 τ : Hp} (X : SX D cA base p s m args meth c cX12_tellsThing 6 none RX12) (n : Nat) (K_22 : Nat → Nat → Int32 → Int32 → Int32 → Hp → Option Hp) (hK_22 : ∀ (v0 : Nat) (v1 : Nat) (v3 : Int32) (v4 : Int32) (v5 : Int32) (σ : Hp) (H : Heap) (locs : List Loc) (ls : Array Slot), hT σ v0 12 → hT σ v1 13 → GW D cA base ad σ H → va_S (bA base) s.heap H locs → xT σ0 σ → lv_has ls 6 [(0, .ref (ad v0)), (1, .ref (ad v1)), (3, .int v3), (4, .int v4), (5, .int v5)] → K_22 v0 v1 v3 v4 v5 σ = some τ → W p l e rm_X12_tellsThing s m args below meth c H locs 0 0 (ZV below s args D cA base ad σ0 τ) (F0 m 22 ls [])) : ∀ (v0 : Nat) (v1 : Nat) (v3 : Int32) (v5 : Int32) (σ : Hp) (H : Heap) (locs : List Loc) (ls : Array Slot), hT σ v0 12 → hT σ v1 13 → GW D cA base ad σ H → va_S (bA base) s.heap H locs → xT σ0 σ → lv_has ls 6 [(0, .ref (ad v0)), (1, .ref (ad v1)), (3, .int v3), (5, .int v5)] → F_X12_tellsThing_77 n K_22 v0 v1 v3 v5 σ = some τ → W p l e rm_X12_tellsThing s m args below meth c H locs 0 0 (ZV below s args D cA base ad σ0 τ) (F0 m 77 ls []) := by
  intro v0 v1 v3 v5 σ H locs ls hT_v0 hT_v1 hG hS hE hl hF
  unfold F_X12_tellsThing_77 at hF
  refine lv_iload X.1 X.2.1 dX12_tellsThing_77 (lv_at hl 3 rfl) ?_
  refine lv_istore (lv' := [(4, .int v5), (0, .ref (ad v0)), (1, .ref (ad v1)), (3, .int v3), (5, .int v5)]) X.1 X.2.1 dX12_tellsThing_79 hl (by decide) rfl (fun ls hl => ?_)
  exact w_X12_tellsThing_81 X n K_22 hK_22 v0 v1 v3 v5 v5 σ _ _ ls hT_v0 hT_v1 hG hS hE (lv_sub hl [1, 2, 3, 0, 4] rfl) hF
theorem w_X12_tellsThing_22 {σ0 τ : Hp} (X : SX D cA base p s m args meth c cX12_tellsThing 6 none RX12) (n : Nat)  : ∀ f : Nat, ∀ (v0 : Nat) (v1 : Nat) (v3 : Int32) (v4 : Int32) (v5 : Int32) (σ : Hp) (H : Heap) (locs : List Loc) (ls : Array Slot), hT σ v0 12 → hT σ v1 13 → GW D cA base ad σ H → va_S (bA base) s.heap H locs → xT σ0 σ → lv_has ls 6 [(0, .ref (ad v0)), (1, .ref (ad v1)), (3, .int v3), (4, .int v4), (5, .int v5)] → F_X12_tellsThing_22 n  f v0 v1 v3 v4 v5 σ = some τ → W p l e rm_X12_tellsThing s m args below meth c H locs 0 0 (ZV below s args D cA base ad σ0 τ) (F0 m 22 ls []) := by
  intro f
  induction f with
  | zero => intro v0 v1 v3 v4 v5 σ H locs ls h0 h1 hG hS hE hl hF
            rw [F_X12_tellsThing_22] at hF; cases hF
  | succ f ih =>
    intro v0 v1 v3 v4 v5 σ H locs ls hT_v0 hT_v1 hG hS hE hl hF
    rw [F_X12_tellsThing_22] at hF
    refine lv_iload X.1 X.2.1 dX12_tellsThing_22 (lv_at hl 4 rfl) ?_
    refine lv_aload_n X.1 X.2.1 dX12_tellsThing_24 rfl (lv_at hl 0 rfl) ?_
    obtain ⟨i2, hr, hF⟩ := b1_ex hF
    have hT_i2 : hT σ i2 13 := gw_T hG hT_v0 (by decide) hr
    refine gx_get 0 (v := .ref (ad i2)) X hG hT_v0.1 (hT_v0.eq (by decide)) (by decide) rfl inX12 (by decide) k_960 (fun _ h => h) (gx_rfv hr) dX12_tellsThing_25 ?_
    refine lv_iconst (v := 0) X.1 X.2.1 dX12_tellsThing_28 (by decide) ?_
    refine gx_iald X hG hT_i2 hF dX12_tellsThing_29 (fun hF => ?_)
    refine lv_icmp_ge (tgt := 87) X.1 X.2.1 dX12_tellsThing_30 (by decide) (fun hc => ?_) (fun hc => ?_)
    · replace hF := it_t hF hc
      exact w_X12_tellsThing_87 X n  v1 v4 σ _ _ ls hT_v1 hG hS hE (lv_sub hl [1, 3] rfl) hF
    · replace hF := it_f hF hc
      refine lv_iload_n X.1 X.2.1 dX12_tellsThing_33 rfl (lv_at hl 2 rfl) ?_
      refine lv_iload X.1 X.2.1 dX12_tellsThing_34 (lv_at hl 4 rfl) ?_
      refine lv_ishr X.1 X.2.1 dX12_tellsThing_36 ?_
      refine lv_iconst (v := 1) X.1 X.2.1 dX12_tellsThing_37 (by decide) ?_
      refine lv_iand X.1 X.2.1 dX12_tellsThing_38 ?_
      refine lv_iconst (v := 1) X.1 X.2.1 dX12_tellsThing_39 (by decide) ?_
      refine lv_icmp_ne (tgt := 81) X.1 X.2.1 dX12_tellsThing_40 (by decide) (fun hc => ?_) (fun hc => ?_)
      · replace hF := it_f hF hc
        exact w_X12_tellsThing_81 X n (F_X12_tellsThing_22 n  f) ih v0 v1 v3 v4 v5 σ _ _ ls hT_v0 hT_v1 hG hS hE (lv_sub hl [0, 1, 2, 3, 4] rfl) hF
      · replace hF := it_t hF hc
        refine lv_iload X.1 X.2.1 dX12_tellsThing_43 (lv_at hl 3 rfl) ?_
        refine lv_if_lt (tgt := 77) X.1 X.2.1 dX12_tellsThing_45 (by decide) (fun hc => ?_) (fun hc => ?_)
        · replace hF := it_t hF hc
          exact w_X12_tellsThing_77 X n (F_X12_tellsThing_22 n  f) ih v0 v1 v3 v5 σ _ _ ls hT_v0 hT_v1 hG hS hE (lv_sub hl [0, 1, 2, 4] rfl) hF
        · replace hF := it_f hF hc
          refine lv_aload_n X.1 X.2.1 dX12_tellsThing_48 rfl (lv_at hl 0 rfl) ?_
          obtain ⟨i3, hr, hF⟩ := b1_ex hF
          have hT_i3 : hT σ i3 13 := gw_T hG hT_v0 (by decide) hr
          refine gx_get 0 (v := .ref (ad i3)) X hG hT_v0.1 (hT_v0.eq (by decide)) (by decide) rfl inX12 (by decide) k_960 (fun _ h => h) (gx_rfv hr) dX12_tellsThing_49 ?_
          refine lv_bipush (v := 7) X.1 X.2.1 dX12_tellsThing_52 (by decide) ?_
          refine lv_iload X.1 X.2.1 dX12_tellsThing_54 (lv_at hl 4 rfl) ?_
          refine lv_iadd X.1 X.2.1 dX12_tellsThing_56 ?_
          refine gx_iald X hG hT_i3 hF dX12_tellsThing_57 (fun hF => ?_)
          obtain ⟨r5, σ4, hz, hF⟩ := b2_ex hF
          refine gx_rI (gx_runS (As := [.int (hI σ i3 (7 + v5).toNatClampNeg)]) (rest := []) X hG hS (c_X12_amount l D cA base ad σ n (hI σ i3 (7 + v5).toNatClampNeg) hz) k_1243 k_1241 k_1242 k_4 (h_X12_amount.2) rfl rfl ⟨by decide, by decide⟩ rfl hl.1 rfl (Nat.le_of_ble_eq_true rfl) dX12_tellsThing_58 ⟨Nat.zero_le _, Nat.zero_le _⟩) hS (fun H locs hG hS hX => ?_)
          have hT_v0 := hX.T hT_v0
          have hT_v1 := hX.T hT_v1
          replace hE := hE.trans hX
          refine lv_aload_n X.1 X.2.1 dX12_tellsThing_61 rfl (lv_at hl 0 rfl) ?_
          obtain ⟨i6, hr, hF⟩ := b1_ex hF
          have hT_i6 : hT σ4 i6 13 := gw_T hG hT_v0 (by decide) hr
          refine gx_get 0 (v := .ref (ad i6)) X hG hT_v0.1 (hT_v0.eq (by decide)) (by decide) rfl inX12 (by decide) k_960 (fun _ h => h) (gx_rfv hr) dX12_tellsThing_62 ?_
          refine lv_bipush (v := 7) X.1 X.2.1 dX12_tellsThing_65 (by decide) ?_
          refine lv_iload X.1 X.2.1 dX12_tellsThing_67 (lv_at hl 3 rfl) ?_
          refine lv_iadd X.1 X.2.1 dX12_tellsThing_69 ?_
          refine gx_iald X hG hT_i6 hF dX12_tellsThing_70 (fun hF => ?_)
          obtain ⟨r8, σ7, hz, hF⟩ := b2_ex hF
          refine gx_rI (gx_runS (As := [.int (hI σ4 i6 (7 + v4).toNatClampNeg)]) (rest := [.int r5]) X hG hS (c_X12_amount l D cA base ad σ4 n (hI σ4 i6 (7 + v4).toNatClampNeg) hz) k_1243 k_1241 k_1242 k_4 (h_X12_amount.2) rfl rfl ⟨by decide, by decide⟩ rfl hl.1 rfl (Nat.le_of_ble_eq_true rfl) dX12_tellsThing_71 ⟨Nat.zero_le _, Nat.zero_le _⟩) hS (fun H locs hG hS hX => ?_)
          have hT_v0 := hX.T hT_v0
          have hT_v1 := hX.T hT_v1
          replace hE := hE.trans hX
          refine lv_icmp_le (tgt := 81) X.1 X.2.1 dX12_tellsThing_74 (by decide) (fun hc => ?_) (fun hc => ?_)
          · replace hF := it_t hF hc
            exact w_X12_tellsThing_81 X n (F_X12_tellsThing_22 n  f) ih v0 v1 v3 v4 v5 σ7 _ _ ls hT_v0 hT_v1 hG hS hE (lv_sub hl [0, 1, 2, 3, 4] rfl) hF
          · replace hF := it_f hF hc
            exact w_X12_tellsThing_77 X n (F_X12_tellsThing_22 n  f) ih v0 v1 v3 v5 σ7 _ _ ls hT_v0 hT_v1 hG hS hE (lv_sub hl [0, 1, 2, 4] rfl) hF
theorem c_X12_tellsThing (l : Launch) (D : va_G) (cA : Nat → ClassId) (base : Nat) (ad : Nat → Nat) (σ : Hp) (n : Nat) (a0 : Nat) (a1 : Nat) (a2 : Int32) (hT_a0 : hT σ a0 12) (hT_a1 : hT σ a1 13) {τ : Hp} (hF : F_X12_tellsThing n a0 a1 a2 σ = some τ) : MV l yX12_tellsThing cX12_tellsThing 6 rm_X12_tellsThing D cA base ad σ [.ref (ad a0), .ref (ad a1), .int a2] τ := by
  refine Met.ofW (cc := cX12_tellsThing) (maxL := 6) (ret := none) (by decide) rfl ?_
  intro p e s m args below meth c s₁ B hml hv
  obtain ⟨rfl, hv⟩ := hv
  have X : SX D cA base p s m ([.ref (ad a0), .ref (ad a1), .int a2] : List Value).toArray meth c cX12_tellsThing 6 none RX12 := sx_of B hml hv
  have hG := hv.1
  have hS : va_S (bA base) s.heap s.heap [] := va_S.rf
  have hE := xT.rf σ
  have hl := lv_entry ([.ref (ad a0), .ref (ad a1), .int a2]) (n := 6) (Nat.le_of_ble_eq_true rfl)
  rw [lg_entry_eq]
  generalize (lg_sl ([.ref (ad a0), .ref (ad a1), .int a2]) ++ List.replicate (6 - (lg_sl ([.ref (ad a0), .ref (ad a1), .int a2])).length) Slot.unset).toArray = ls at hl ⊢
  have hl : lv_has ls 6 [(0, .ref (ad a0)), (1, .ref (ad a1)), (2, .int a2)] := hl
  unfold F_X12_tellsThing at hF
  refine lv_aload_n X.1 X.2.1 dX12_tellsThing_0 rfl (lv_at hl 1 rfl) ?_
  refine lv_bipush (v := 19) X.1 X.2.1 dX12_tellsThing_1 (by decide) ?_
  refine lv_iload_n X.1 X.2.1 dX12_tellsThing_3 rfl (lv_at hl 2 rfl) ?_
  refine lv_iadd X.1 X.2.1 dX12_tellsThing_4 ?_
  refine gx_iald X hG hT_a1 hF dX12_tellsThing_5 (fun hF => ?_)
  refine lv_aload_n X.1 X.2.1 dX12_tellsThing_6 rfl (lv_at hl 0 rfl) ?_
  refine lv_aload_n X.1 X.2.1 dX12_tellsThing_7 rfl (lv_at hl 1 rfl) ?_
  obtain ⟨r10, σ9, hz, hF⟩ := b2_ex hF
  refine gx_rI (gx_runV (As := [.ref (ad a1)]) (rest := [.int (hI σ a1 (19 + a2).toNatClampNeg)]) X hG hS hT_a0.1 (hT_a0.eq (by decide)) (by decide) rfl (c_X12_allHold l D cA base ad σ n a0 a1 hT_a0 hT_a1 hz) k_1240 k_1237 k_1239 ks_45 k_4 (h_X12_allHold) rfl rfl ⟨by decide, by decide⟩ rfl hl.1 rfl (Nat.le_of_ble_eq_true rfl) dX12_tellsThing_8 ⟨Nat.zero_le _, Nat.zero_le _⟩) hS (fun H locs hG hS hX => ?_)
  have hT_a0 := hX.T hT_a0
  have hT_a1 := hX.T hT_a1
  replace hE := hE.trans hX
  refine lv_iconst (v := (-1)) X.1 X.2.1 dX12_tellsThing_11 (by decide) ?_
  refine lv_ixor X.1 X.2.1 dX12_tellsThing_12 ?_
  refine lv_iand X.1 X.2.1 dX12_tellsThing_13 ?_
  refine lv_topi (fun x11 ex11 => ?_)
  replace hF := lt_nm hF ex11
  refine lv_istore_n (lv' := [(3, .int x11), (0, .ref (ad a0)), (1, .ref (ad a1)), (2, .int a2)]) X.1 X.2.1 dX12_tellsThing_14 rfl hl (by decide) rfl (fun ls hl => ?_)
  refine lv_bipush (v := (-4)) X.1 X.2.1 dX12_tellsThing_15 (by decide) ?_
  refine lv_istore (lv' := [(4, .int (-4)), (3, .int x11), (0, .ref (ad a0)), (1, .ref (ad a1)), (2, .int a2)]) X.1 X.2.1 dX12_tellsThing_17 hl (by decide) rfl (fun ls hl => ?_)
  refine lv_iconst (v := 0) X.1 X.2.1 dX12_tellsThing_19 (by decide) ?_
  refine lv_istore (lv' := [(5, .int 0), (4, .int (-4)), (3, .int x11), (0, .ref (ad a0)), (1, .ref (ad a1)), (2, .int a2)]) X.1 X.2.1 dX12_tellsThing_20 hl (by decide) rfl (fun ls hl => ?_)
  exact w_X12_tellsThing_22 X n  n a0 a1 x11 (-4) 0 σ9 _ _ ls hT_a0 hT_a1 hG hS hE (lv_sub hl [3, 4, 2, 1, 0] rfl) hF
theorem w_X12_tellsStory_87 {σ0 τ : Hp} (X : SX D cA base p s m args meth c cX12_tellsStory 6 none RX12) (n : Nat) (K_15 : Nat → Nat → Int32 → Int32 → Hp → Option Hp) (hK_15 : ∀ (v0 : Nat) (v1 : Nat) (v2 : Int32) (v3 : Int32) (σ : Hp) (H : Heap) (locs : List Loc) (ls : Array Slot), hT σ v0 12 → hT σ v1 13 → GW D cA base ad σ H → va_S (bA base) s.heap H locs → xT σ0 σ → lv_has ls 6 [(0, .ref (ad v0)), (1, .ref (ad v1)), (2, .int v2), (3, .int v3)] → K_15 v0 v1 v2 v3 σ = some τ → W p l e rm_X12_tellsStory s m args below meth c H locs 0 0 (ZV below s args D cA base ad σ0 τ) (F0 m 15 ls [])) : ∀ (v0 : Nat) (v1 : Nat) (v2 : Int32) (v3 : Int32) (σ : Hp) (H : Heap) (locs : List Loc) (ls : Array Slot), hT σ v0 12 → hT σ v1 13 → GW D cA base ad σ H → va_S (bA base) s.heap H locs → xT σ0 σ → lv_has ls 6 [(0, .ref (ad v0)), (1, .ref (ad v1)), (2, .int v2), (3, .int v3)] → F_X12_tellsStory_87 n K_15 v0 v1 v2 v3 σ = some τ → W p l e rm_X12_tellsStory s m args below meth c H locs 0 0 (ZV below s args D cA base ad σ0 τ) (F0 m 87 ls []) := by
  intro v0 v1 v2 v3 σ H locs ls hT_v0 hT_v1 hG hS hE hl hF
  unfold F_X12_tellsStory_87 at hF
  refine lv_iinc (v := v3 + 1) (lv' := [(3, .int (v3 + 1)), (0, .ref (ad v0)), (1, .ref (ad v1)), (2, .int v2)]) X.1 X.2.1 dX12_tellsStory_87 hl (k := 3) rfl rfl (by decide) rfl (fun ls hl => ?_)
  refine lv_goto (tgt := 15) X.1 X.2.1 dX12_tellsStory_90 (by decide) ?_
  exact hK_15 v0 v1 v2 (v3 + 1) σ _ _ ls hT_v0 hT_v1 hG hS hE (lv_sub hl [1, 2, 3, 0] rfl) hF
theorem w_X12_tellsStory_85 {σ0 τ : Hp} (X : SX D cA base p s m args meth c cX12_tellsStory 6 none RX12) (n : Nat) (K_15 : Nat → Nat → Int32 → Int32 → Hp → Option Hp) (hK_15 : ∀ (v0 : Nat) (v1 : Nat) (v2 : Int32) (v3 : Int32) (σ : Hp) (H : Heap) (locs : List Loc) (ls : Array Slot), hT σ v0 12 → hT σ v1 13 → GW D cA base ad σ H → va_S (bA base) s.heap H locs → xT σ0 σ → lv_has ls 6 [(0, .ref (ad v0)), (1, .ref (ad v1)), (2, .int v2), (3, .int v3)] → K_15 v0 v1 v2 v3 σ = some τ → W p l e rm_X12_tellsStory s m args below meth c H locs 0 0 (ZV below s args D cA base ad σ0 τ) (F0 m 15 ls [])) : ∀ (v0 : Nat) (v1 : Nat) (v2 : Int32) (v3 : Int32) (s0 : Int32) (s1 : Int32) (s2 : Int32) (s3 : Nat) (σ : Hp) (H : Heap) (locs : List Loc) (ls : Array Slot), hT σ v0 12 → hT σ v1 13 → hT σ s3 13 → GW D cA base ad σ H → va_S (bA base) s.heap H locs → xT σ0 σ → lv_has ls 6 [(0, .ref (ad v0)), (1, .ref (ad v1)), (2, .int v2), (3, .int v3)] → F_X12_tellsStory_85 n K_15 v0 v1 v2 v3 s0 s1 s2 s3 σ = some τ → W p l e rm_X12_tellsStory s m args below meth c H locs 0 0 (ZV below s args D cA base ad σ0 τ) (F0 m 85 ls [.int s0, .int s1, .int s2, .ref (ad s3)]) := by
  intro v0 v1 v2 v3 s0 s1 s2 s3 σ H locs ls hT_v0 hT_v1 hT_s3 hG hS hE hl hF
  unfold F_X12_tellsStory_85 at hF
  refine lv_iadd X.1 X.2.1 dX12_tellsStory_85 ?_
  refine gx_iast X hG hS hT_s3 hF dX12_tellsStory_86 (fun σ1 H locs hG hS hX hF => ?_)
  have hT_v0 := hX.T hT_v0
  have hT_v1 := hX.T hT_v1
  replace hE := hE.trans hX
  exact w_X12_tellsStory_87 X n K_15 hK_15 v0 v1 v2 v3 σ1 _ _ ls hT_v0 hT_v1 hG hS hE (lv_sub hl [0, 1, 2, 3] rfl) hF
theorem w_X12_tellsStory_15 {σ0 τ : Hp} (X : SX D cA base p s m args meth c cX12_tellsStory 6 none RX12) (n : Nat)  : ∀ f : Nat, ∀ (v0 : Nat) (v1 : Nat) (v2 : Int32) (v3 : Int32) (σ : Hp) (H : Heap) (locs : List Loc) (ls : Array Slot), hT σ v0 12 → hT σ v1 13 → GW D cA base ad σ H → va_S (bA base) s.heap H locs → xT σ0 σ → lv_has ls 6 [(0, .ref (ad v0)), (1, .ref (ad v1)), (2, .int v2), (3, .int v3)] → F_X12_tellsStory_15 n  f v0 v1 v2 v3 σ = some τ → W p l e rm_X12_tellsStory s m args below meth c H locs 0 0 (ZV below s args D cA base ad σ0 τ) (F0 m 15 ls []) := by
  intro f
  induction f with
  | zero => intro v0 v1 v2 v3 σ H locs ls h0 h1 hG hS hE hl hF
            rw [F_X12_tellsStory_15] at hF; cases hF
  | succ f ih =>
    intro v0 v1 v2 v3 σ H locs ls hT_v0 hT_v1 hG hS hE hl hF
    rw [F_X12_tellsStory_15] at hF
    refine lv_iload_n X.1 X.2.1 dX12_tellsStory_15 rfl (lv_at hl 3 rfl) ?_
    refine lv_aload_n X.1 X.2.1 dX12_tellsStory_16 rfl (lv_at hl 1 rfl) ?_
    refine lv_iconst (v := 5) X.1 X.2.1 dX12_tellsStory_17 (by decide) ?_
    refine gx_iald X hG hT_v1 hF dX12_tellsStory_18 (fun hF => ?_)
    refine lv_icmp_ge (tgt := 93) X.1 X.2.1 dX12_tellsStory_19 (by decide) (fun hc => ?_) (fun hc => ?_)
    · replace hF := it_t hF hc
      exact gx_vret X hG hS hE hF dX12_tellsStory_93
    · replace hF := it_f hF hc
      refine lv_aload_n X.1 X.2.1 dX12_tellsStory_22 rfl (lv_at hl 0 rfl) ?_
      refine lv_aload_n X.1 X.2.1 dX12_tellsStory_23 rfl (lv_at hl 1 rfl) ?_
      refine lv_iload_n X.1 X.2.1 dX12_tellsStory_24 rfl (lv_at hl 3 rfl) ?_
      obtain ⟨r3, σ2, hz, hF⟩ := b2_ex hF
      refine gx_rI (gx_runV (As := [.ref (ad v1), .int v3]) (rest := []) X hG hS hT_v0.1 (hT_v0.eq (by decide)) (by decide) rfl (c_X12_leansIn l D cA base ad σ n v0 v1 v3 hT_v0 hT_v1 hz) k_1204 k_1201 k_1203 ks_38 k_4 (h_X12_leansIn) rfl rfl ⟨by decide, by decide⟩ rfl hl.1 rfl (Nat.le_of_ble_eq_true rfl) dX12_tellsStory_25 ⟨Nat.zero_le _, Nat.zero_le _⟩) hS (fun H locs hG hS hX => ?_)
      have hT_v0 := hX.T hT_v0
      have hT_v1 := hX.T hT_v1
      replace hE := hE.trans hX
      refine lv_i2l X.1 X.2.1 dX12_tellsStory_28 rfl ?_
      refine lv_aload_n X.1 X.2.1 dX12_tellsStory_29 rfl (lv_at hl 0 rfl) ?_
      refine lv_aload_n X.1 X.2.1 dX12_tellsStory_30 rfl (lv_at hl 1 rfl) ?_
      refine lv_bipush (v := 7) X.1 X.2.1 dX12_tellsStory_31 (by decide) ?_
      refine lv_iload_n X.1 X.2.1 dX12_tellsStory_33 rfl (lv_at hl 3 rfl) ?_
      refine lv_iadd X.1 X.2.1 dX12_tellsStory_34 ?_
      refine gx_iald X hG hT_v1 hF dX12_tellsStory_35 (fun hF => ?_)
      refine lv_iconst (v := 3) X.1 X.2.1 dX12_tellsStory_36 (by decide) ?_
      obtain ⟨r5, σ4, hz, hF⟩ := b2_ex hF
      refine gx_rI (gx_runV (As := [.int (hI σ2 v1 (7 + v3).toNatClampNeg), .int 3]) (rest := [.long r3.toInt64]) X hG hS hT_v0.1 (hT_v0.eq (by decide)) (by decide) rfl (c_X12_get l D cA base ad σ2 n v0 (hI σ2 v1 (7 + v3).toNatClampNeg) 3 hT_v0 hz) k_1099 k_1096 k_1098 ks_19 k_4 (h_X12_get) rfl rfl ⟨by decide, by decide⟩ rfl hl.1 rfl (Nat.le_of_ble_eq_true rfl) dX12_tellsStory_37 ⟨Nat.zero_le _, Nat.zero_le _⟩) hS (fun H locs hG hS hX => ?_)
      have hT_v0 := hX.T hT_v0
      have hT_v1 := hX.T hT_v1
      replace hE := hE.trans hX
      refine lv_i2l X.1 X.2.1 dX12_tellsStory_40 rfl ?_
      refine lv_lsub X.1 X.2.1 dX12_tellsStory_41 ?_
      refine lv_lstore (lv' := [(4, .long (r3.toInt64 - r5.toInt64)), (0, .ref (ad v0)), (1, .ref (ad v1)), (2, .int v2), (3, .int v3)]) X.1 X.2.1 dX12_tellsStory_42 hl (by decide) rfl (fun ls hl => ?_)
      refine lv_lload X.1 X.2.1 dX12_tellsStory_44 (lv_at hl 0 rfl) ?_
      refine lv_ldc2 (v := (-5)) X.1 X.2.1 X.2.2.2.2.2.1 (X.w k_1248) dX12_tellsStory_46 ?_
      refine W.lcmp X.1 X.2.1 dX12_tellsStory_49 ?_
      refine lv_if_le (tgt := 87) X.1 X.2.1 dX12_tellsStory_50 (by decide) (fun hc => ?_) (fun hc => ?_)
      · replace hF := it_t hF hc
        exact w_X12_tellsStory_87 X n (F_X12_tellsStory_15 n  f) ih v0 v1 v2 v3 σ4 _ _ ls hT_v0 hT_v1 hG hS hE (lv_sub hl [1, 2, 3, 4] rfl) hF
      · replace hF := it_f hF hc
        refine lv_lload X.1 X.2.1 dX12_tellsStory_53 (lv_at hl 0 rfl) ?_
        refine lv_ldc2 (v := 5) X.1 X.2.1 X.2.2.2.2.2.1 (X.w k_1249) dX12_tellsStory_55 ?_
        refine W.lcmp X.1 X.2.1 dX12_tellsStory_58 ?_
        refine lv_if_ge (tgt := 87) X.1 X.2.1 dX12_tellsStory_59 (by decide) (fun hc => ?_) (fun hc => ?_)
        · replace hF := it_t hF hc
          exact w_X12_tellsStory_87 X n (F_X12_tellsStory_15 n  f) ih v0 v1 v2 v3 σ4 _ _ ls hT_v0 hT_v1 hG hS hE (lv_sub hl [1, 2, 3, 4] rfl) hF
        · replace hF := it_f hF hc
          refine lv_aload_n X.1 X.2.1 dX12_tellsStory_62 rfl (lv_at hl 2 rfl) ?_
          refine lv_bipush (v := 31) X.1 X.2.1 dX12_tellsStory_63 (by decide) ?_
          refine lv_iload_n X.1 X.2.1 dX12_tellsStory_65 rfl (lv_at hl 4 rfl) ?_
          refine lv_iadd X.1 X.2.1 dX12_tellsStory_66 ?_
          refine lv_dup2_11 X.1 X.2.1 dX12_tellsStory_67 rfl rfl ?_
          refine gx_iald X hG hT_v1 hF dX12_tellsStory_68 (fun hF => ?_)
          refine lv_aload_n X.1 X.2.1 dX12_tellsStory_69 rfl (lv_at hl 2 rfl) ?_
          refine lv_bipush (v := 43) X.1 X.2.1 dX12_tellsStory_70 (by decide) ?_
          refine lv_iload_n X.1 X.2.1 dX12_tellsStory_72 rfl (lv_at hl 3 rfl) ?_
          refine lv_iadd X.1 X.2.1 dX12_tellsStory_73 ?_
          refine gx_iald X hG hT_v1 hF dX12_tellsStory_74 (fun hF => ?_)
          refine lv_iconst (v := 1) X.1 X.2.1 dX12_tellsStory_75 (by decide) ?_
          refine lv_icmp_ne (tgt := 83) X.1 X.2.1 dX12_tellsStory_76 (by decide) (fun hc => ?_) (fun hc => ?_)
          · replace hF := it_f hF hc
            refine lv_bipush (v := (-2)) X.1 X.2.1 dX12_tellsStory_83 (by decide) ?_
            exact w_X12_tellsStory_85 X n (F_X12_tellsStory_15 n  f) ih v0 v1 v2 v3 (-2) (hI σ4 v1 (31 + v3).toNatClampNeg) (31 + v3) v1 σ4 _ _ ls hT_v0 hT_v1 hT_v1 hG hS hE (lv_sub hl [1, 2, 3, 4] rfl) hF
          · replace hF := it_t hF hc
            refine lv_iconst (v := 2) X.1 X.2.1 dX12_tellsStory_79 (by decide) ?_
            refine lv_goto (tgt := 85) X.1 X.2.1 dX12_tellsStory_80 (by decide) ?_
            exact w_X12_tellsStory_85 X n (F_X12_tellsStory_15 n  f) ih v0 v1 v2 v3 2 (hI σ4 v1 (31 + v3).toNatClampNeg) (31 + v3) v1 σ4 _ _ ls hT_v0 hT_v1 hT_v1 hG hS hE (lv_sub hl [1, 2, 3, 4] rfl) hF
theorem c_X12_tellsStory (l : Launch) (D : va_G) (cA : Nat → ClassId) (base : Nat) (ad : Nat → Nat) (σ : Hp) (n : Nat) (a0 : Nat) (a1 : Nat) (a2 : Int32) (hT_a0 : hT σ a0 12) (hT_a1 : hT σ a1 13) {τ : Hp} (hF : F_X12_tellsStory n a0 a1 a2 σ = some τ) : MV l yX12_tellsStory cX12_tellsStory 6 rm_X12_tellsStory D cA base ad σ [.ref (ad a0), .ref (ad a1), .int a2] τ := by
  refine Met.ofW (cc := cX12_tellsStory) (maxL := 6) (ret := none) (by decide) rfl ?_
  intro p e s m args below meth c s₁ B hml hv
  obtain ⟨rfl, hv⟩ := hv
  have X : SX D cA base p s m ([.ref (ad a0), .ref (ad a1), .int a2] : List Value).toArray meth c cX12_tellsStory 6 none RX12 := sx_of B hml hv
  have hG := hv.1
  have hS : va_S (bA base) s.heap s.heap [] := va_S.rf
  have hE := xT.rf σ
  have hl := lv_entry ([.ref (ad a0), .ref (ad a1), .int a2]) (n := 6) (Nat.le_of_ble_eq_true rfl)
  rw [lg_entry_eq]
  generalize (lg_sl ([.ref (ad a0), .ref (ad a1), .int a2]) ++ List.replicate (6 - (lg_sl ([.ref (ad a0), .ref (ad a1), .int a2])).length) Slot.unset).toArray = ls at hl ⊢
  have hl : lv_has ls 6 [(0, .ref (ad a0)), (1, .ref (ad a1)), (2, .int a2)] := hl
  unfold F_X12_tellsStory at hF
  refine lv_aload_n X.1 X.2.1 dX12_tellsStory_0 rfl (lv_at hl 0 rfl) ?_
  refine lv_aload_n X.1 X.2.1 dX12_tellsStory_1 rfl (lv_at hl 1 rfl) ?_
  refine lv_iconst (v := 1) X.1 X.2.1 dX12_tellsStory_2 (by decide) ?_
  refine gx_iald X hG hT_a1 hF dX12_tellsStory_3 (fun hF => ?_)
  refine lv_aload_n X.1 X.2.1 dX12_tellsStory_4 rfl (lv_at hl 1 rfl) ?_
  refine lv_iconst (v := 2) X.1 X.2.1 dX12_tellsStory_5 (by decide) ?_
  refine gx_iald X hG hT_a1 hF dX12_tellsStory_6 (fun hF => ?_)
  refine lv_aload_n X.1 X.2.1 dX12_tellsStory_7 rfl (lv_at hl 1 rfl) ?_
  refine lv_iconst (v := 0) X.1 X.2.1 dX12_tellsStory_8 (by decide) ?_
  refine gx_iald X hG hT_a1 hF dX12_tellsStory_9 (fun hF => ?_)
  obtain ⟨σ6, hz, hF⟩ := b1_ex hF
  refine gx_rV (gx_runV (As := [.int (hI σ a1 (1 : Int32).toNatClampNeg), .int (hI σ a1 (2 : Int32).toNatClampNeg), .int (hI σ a1 (0 : Int32).toNatClampNeg)]) (rest := []) X hG hS hT_a0.1 (hT_a0.eq (by decide)) (by decide) rfl (c_X12_sees l D cA base ad σ n a0 (hI σ a1 (1 : Int32).toNatClampNeg) (hI σ a1 (2 : Int32).toNatClampNeg) (hI σ a1 (0 : Int32).toNatClampNeg) hT_a0 hz) k_1152 k_1149 k_1151 ks_28 k_4 (h_X12_sees) rfl rfl ⟨by decide, by decide⟩ rfl hl.1 rfl (Nat.le_of_ble_eq_true rfl) dX12_tellsStory_10 ⟨Nat.zero_le _, Nat.zero_le _⟩) hS (fun H locs hG hS hX => ?_)
  have hT_a0 := hX.T hT_a0
  have hT_a1 := hX.T hT_a1
  replace hE := hE.trans hX
  refine lv_iconst (v := 0) X.1 X.2.1 dX12_tellsStory_13 (by decide) ?_
  refine lv_istore_n (lv' := [(3, .int 0), (0, .ref (ad a0)), (1, .ref (ad a1)), (2, .int a2)]) X.1 X.2.1 dX12_tellsStory_14 rfl hl (by decide) rfl (fun ls hl => ?_)
  exact w_X12_tellsStory_15 X n  n a0 a1 a2 0 σ6 _ _ ls hT_a0 hT_a1 hG hS hE (lv_sub hl [1, 2, 3, 0] rfl) hF
theorem w_X12_presses_96 {σ0 τ : Hp} (X : SX D cA base p s m args meth c cX12_presses 5 none RX12) (n : Nat) (K_10 : Nat → Nat → Int32 → Int32 → Hp → Option Hp) (hK_10 : ∀ (v0 : Nat) (v1 : Nat) (v2 : Int32) (v3 : Int32) (σ : Hp) (H : Heap) (locs : List Loc) (ls : Array Slot), hT σ v0 12 → hT σ v1 13 → GW D cA base ad σ H → va_S (bA base) s.heap H locs → xT σ0 σ → lv_has ls 5 [(0, .ref (ad v0)), (1, .ref (ad v1)), (2, .int v2), (3, .int v3)] → K_10 v0 v1 v2 v3 σ = some τ → W p l e rm_X12_presses s m args below meth c H locs 0 0 (ZV below s args D cA base ad σ0 τ) (F0 m 10 ls [])) : ∀ (v0 : Nat) (v1 : Nat) (v2 : Int32) (v3 : Int32) (σ : Hp) (H : Heap) (locs : List Loc) (ls : Array Slot), hT σ v0 12 → hT σ v1 13 → GW D cA base ad σ H → va_S (bA base) s.heap H locs → xT σ0 σ → lv_has ls 5 [(0, .ref (ad v0)), (1, .ref (ad v1)), (2, .int v2), (3, .int v3)] → F_X12_presses_96 n K_10 v0 v1 v2 v3 σ = some τ → W p l e rm_X12_presses s m args below meth c H locs 0 0 (ZV below s args D cA base ad σ0 τ) (F0 m 96 ls []) := by
  intro v0 v1 v2 v3 σ H locs ls hT_v0 hT_v1 hG hS hE hl hF
  unfold F_X12_presses_96 at hF
  refine lv_iinc (v := v3 + 1) (lv' := [(3, .int (v3 + 1)), (0, .ref (ad v0)), (1, .ref (ad v1)), (2, .int v2)]) X.1 X.2.1 dX12_presses_96 hl (k := 3) rfl rfl (by decide) rfl (fun ls hl => ?_)
  refine lv_goto (tgt := 10) X.1 X.2.1 dX12_presses_99 (by decide) ?_
  exact hK_10 v0 v1 v2 (v3 + 1) σ _ _ ls hT_v0 hT_v1 hG hS hE (lv_sub hl [1, 2, 3, 0] rfl) hF
theorem w_X12_presses_93 {σ0 τ : Hp} (X : SX D cA base p s m args meth c cX12_presses 5 none RX12) (n : Nat) (K_10 : Nat → Nat → Int32 → Int32 → Hp → Option Hp) (hK_10 : ∀ (v0 : Nat) (v1 : Nat) (v2 : Int32) (v3 : Int32) (σ : Hp) (H : Heap) (locs : List Loc) (ls : Array Slot), hT σ v0 12 → hT σ v1 13 → GW D cA base ad σ H → va_S (bA base) s.heap H locs → xT σ0 σ → lv_has ls 5 [(0, .ref (ad v0)), (1, .ref (ad v1)), (2, .int v2), (3, .int v3)] → K_10 v0 v1 v2 v3 σ = some τ → W p l e rm_X12_presses s m args below meth c H locs 0 0 (ZV below s args D cA base ad σ0 τ) (F0 m 10 ls [])) : ∀ (v0 : Nat) (v1 : Nat) (v2 : Int32) (v3 : Int32) (s0 : Int32) (s1 : Int32) (s2 : Int32) (s3 : Int32) (s4 : Nat) (σ : Hp) (H : Heap) (locs : List Loc) (ls : Array Slot), hT σ v0 12 → hT σ v1 13 → hT σ s4 13 → GW D cA base ad σ H → va_S (bA base) s.heap H locs → xT σ0 σ → lv_has ls 5 [(0, .ref (ad v0)), (1, .ref (ad v1)), (2, .int v2), (3, .int v3)] → F_X12_presses_93 n K_10 v0 v1 v2 v3 s0 s1 s2 s3 s4 σ = some τ → W p l e rm_X12_presses s m args below meth c H locs 0 0 (ZV below s args D cA base ad σ0 τ) (F0 m 93 ls [.int s0, .int s1, .int s2, .int s3, .ref (ad s4)]) := by
  intro v0 v1 v2 v3 s0 s1 s2 s3 s4 σ H locs ls hT_v0 hT_v1 hT_s4 hG hS hE hl hF
  unfold F_X12_presses_93 at hF
  refine lv_imul X.1 X.2.1 dX12_presses_93 ?_
  refine lv_iadd X.1 X.2.1 dX12_presses_94 ?_
  refine gx_iast X hG hS hT_s4 hF dX12_presses_95 (fun σ1 H locs hG hS hX hF => ?_)
  have hT_v0 := hX.T hT_v0
  have hT_v1 := hX.T hT_v1
  replace hE := hE.trans hX
  exact w_X12_presses_96 X n K_10 hK_10 v0 v1 v2 v3 σ1 _ _ ls hT_v0 hT_v1 hG hS hE (lv_sub hl [0, 1, 2, 3] rfl) hF
theorem w_X12_presses_57 {σ0 τ : Hp} (X : SX D cA base p s m args meth c cX12_presses 5 none RX12) (n : Nat) (K_10 : Nat → Nat → Int32 → Int32 → Hp → Option Hp) (hK_10 : ∀ (v0 : Nat) (v1 : Nat) (v2 : Int32) (v3 : Int32) (σ : Hp) (H : Heap) (locs : List Loc) (ls : Array Slot), hT σ v0 12 → hT σ v1 13 → GW D cA base ad σ H → va_S (bA base) s.heap H locs → xT σ0 σ → lv_has ls 5 [(0, .ref (ad v0)), (1, .ref (ad v1)), (2, .int v2), (3, .int v3)] → K_10 v0 v1 v2 v3 σ = some τ → W p l e rm_X12_presses s m args below meth c H locs 0 0 (ZV below s args D cA base ad σ0 τ) (F0 m 10 ls [])) : ∀ (v0 : Nat) (v1 : Nat) (v2 : Int32) (v3 : Int32) (s0 : Int32) (σ : Hp) (H : Heap) (locs : List Loc) (ls : Array Slot), hT σ v0 12 → hT σ v1 13 → GW D cA base ad σ H → va_S (bA base) s.heap H locs → xT σ0 σ → lv_has ls 5 [(0, .ref (ad v0)), (1, .ref (ad v1)), (2, .int v2), (3, .int v3)] → F_X12_presses_57 n K_10 v0 v1 v2 v3 s0 σ = some τ → W p l e rm_X12_presses s m args below meth c H locs 0 0 (ZV below s args D cA base ad σ0 τ) (F0 m 57 ls [.int s0]) := by
  intro v0 v1 v2 v3 s0 σ H locs ls hT_v0 hT_v1 hG hS hE hl hF
  unfold F_X12_presses_57 at hF
  refine lv_istore (lv' := [(4, .int s0), (0, .ref (ad v0)), (1, .ref (ad v1)), (2, .int v2), (3, .int v3)]) X.1 X.2.1 dX12_presses_57 hl (by decide) rfl (fun ls hl => ?_)
  refine lv_iload X.1 X.2.1 dX12_presses_59 (lv_at hl 0 rfl) ?_
  refine lv_if_eq (tgt := 96) X.1 X.2.1 dX12_presses_61 (by decide) (fun hc => ?_) (fun hc => ?_)
  · replace hF := it_t hF hc
    exact w_X12_presses_96 X n K_10 hK_10 v0 v1 v2 v3 σ _ _ ls hT_v0 hT_v1 hG hS hE (lv_sub hl [1, 2, 3, 4] rfl) hF
  · replace hF := it_f hF hc
    refine lv_aload_n X.1 X.2.1 dX12_presses_64 rfl (lv_at hl 2 rfl) ?_
    refine lv_bipush (v := 31) X.1 X.2.1 dX12_presses_65 (by decide) ?_
    refine lv_iload_n X.1 X.2.1 dX12_presses_67 rfl (lv_at hl 4 rfl) ?_
    refine lv_iadd X.1 X.2.1 dX12_presses_68 ?_
    refine lv_dup2_11 X.1 X.2.1 dX12_presses_69 rfl rfl ?_
    refine gx_iald X hG hT_v1 hF dX12_presses_70 (fun hF => ?_)
    refine lv_iconst (v := 2) X.1 X.2.1 dX12_presses_71 (by decide) ?_
    refine lv_aload_n X.1 X.2.1 dX12_presses_72 rfl (lv_at hl 1 rfl) ?_
    refine lv_aload_n X.1 X.2.1 dX12_presses_73 rfl (lv_at hl 2 rfl) ?_
    refine lv_bipush (v := 7) X.1 X.2.1 dX12_presses_74 (by decide) ?_
    refine lv_iload_n X.1 X.2.1 dX12_presses_76 rfl (lv_at hl 4 rfl) ?_
    refine lv_iadd X.1 X.2.1 dX12_presses_77 ?_
    refine gx_iald X hG hT_v1 hF dX12_presses_78 (fun hF => ?_)
    refine lv_iconst (v := 1) X.1 X.2.1 dX12_presses_79 (by decide) ?_
    obtain ⟨r3, σ2, hz, hF⟩ := b2_ex hF
    refine gx_rI (gx_runV (As := [.int (hI σ v1 (7 + v3).toNatClampNeg), .int 1]) (rest := [.int 2, .int (hI σ v1 (31 + v3).toNatClampNeg), .int (31 + v3), .ref (ad v1)]) X hG hS hT_v0.1 (hT_v0.eq (by decide)) (by decide) rfl (c_X12_get l D cA base ad σ n v0 (hI σ v1 (7 + v3).toNatClampNeg) 1 hT_v0 hz) k_1099 k_1096 k_1098 ks_19 k_4 (h_X12_get) rfl rfl ⟨by decide, by decide⟩ rfl hl.1 rfl (Nat.le_of_ble_eq_true rfl) dX12_presses_80 ⟨Nat.zero_le _, Nat.zero_le _⟩) hS (fun H locs hG hS hX => ?_)
    have hT_v0 := hX.T hT_v0
    have hT_v1 := hX.T hT_v1
    replace hE := hE.trans hX
    refine lv_imul X.1 X.2.1 dX12_presses_83 ?_
    refine lv_iload_n X.1 X.2.1 dX12_presses_84 rfl (lv_at hl 3 rfl) ?_
    refine lv_if_le (tgt := 92) X.1 X.2.1 dX12_presses_85 (by decide) (fun hc => ?_) (fun hc => ?_)
    · replace hF := it_t hF hc
      refine lv_iconst (v := (-1)) X.1 X.2.1 dX12_presses_92 (by decide) ?_
      exact w_X12_presses_93 X n K_10 hK_10 v0 v1 v2 v3 (-1) (2 * r3) (hI σ v1 (31 + v3).toNatClampNeg) (31 + v3) v1 σ2 _ _ ls hT_v0 hT_v1 hT_v1 hG hS hE (lv_sub hl [1, 2, 3, 4] rfl) hF
    · replace hF := it_f hF hc
      refine lv_iconst (v := 1) X.1 X.2.1 dX12_presses_88 (by decide) ?_
      refine lv_goto (tgt := 93) X.1 X.2.1 dX12_presses_89 (by decide) ?_
      exact w_X12_presses_93 X n K_10 hK_10 v0 v1 v2 v3 1 (2 * r3) (hI σ v1 (31 + v3).toNatClampNeg) (31 + v3) v1 σ2 _ _ ls hT_v0 hT_v1 hT_v1 hG hS hE (lv_sub hl [1, 2, 3, 4] rfl) hF
theorem w_X12_presses_56 {σ0 τ : Hp} (X : SX D cA base p s m args meth c cX12_presses 5 none RX12) (n : Nat) (K_10 : Nat → Nat → Int32 → Int32 → Hp → Option Hp) (hK_10 : ∀ (v0 : Nat) (v1 : Nat) (v2 : Int32) (v3 : Int32) (σ : Hp) (H : Heap) (locs : List Loc) (ls : Array Slot), hT σ v0 12 → hT σ v1 13 → GW D cA base ad σ H → va_S (bA base) s.heap H locs → xT σ0 σ → lv_has ls 5 [(0, .ref (ad v0)), (1, .ref (ad v1)), (2, .int v2), (3, .int v3)] → K_10 v0 v1 v2 v3 σ = some τ → W p l e rm_X12_presses s m args below meth c H locs 0 0 (ZV below s args D cA base ad σ0 τ) (F0 m 10 ls [])) : ∀ (v0 : Nat) (v1 : Nat) (v2 : Int32) (v3 : Int32) (σ : Hp) (H : Heap) (locs : List Loc) (ls : Array Slot), hT σ v0 12 → hT σ v1 13 → GW D cA base ad σ H → va_S (bA base) s.heap H locs → xT σ0 σ → lv_has ls 5 [(0, .ref (ad v0)), (1, .ref (ad v1)), (2, .int v2), (3, .int v3)] → F_X12_presses_56 n K_10 v0 v1 v2 v3 σ = some τ → W p l e rm_X12_presses s m args below meth c H locs 0 0 (ZV below s args D cA base ad σ0 τ) (F0 m 56 ls []) := by
  intro v0 v1 v2 v3 σ H locs ls hT_v0 hT_v1 hG hS hE hl hF
  unfold F_X12_presses_56 at hF
  refine lv_iconst (v := 0) X.1 X.2.1 dX12_presses_56 (by decide) ?_
  exact w_X12_presses_57 X n K_10 hK_10 v0 v1 v2 v3 0 σ _ _ ls hT_v0 hT_v1 hG hS hE (lv_sub hl [0, 1, 2, 3] rfl) hF
theorem w_X12_presses_10 {σ0 τ : Hp} (X : SX D cA base p s m args meth c cX12_presses 5 none RX12) (n : Nat)  : ∀ f : Nat, ∀ (v0 : Nat) (v1 : Nat) (v2 : Int32) (v3 : Int32) (σ : Hp) (H : Heap) (locs : List Loc) (ls : Array Slot), hT σ v0 12 → hT σ v1 13 → GW D cA base ad σ H → va_S (bA base) s.heap H locs → xT σ0 σ → lv_has ls 5 [(0, .ref (ad v0)), (1, .ref (ad v1)), (2, .int v2), (3, .int v3)] → F_X12_presses_10 n  f v0 v1 v2 v3 σ = some τ → W p l e rm_X12_presses s m args below meth c H locs 0 0 (ZV below s args D cA base ad σ0 τ) (F0 m 10 ls []) := by
  intro f
  induction f with
  | zero => intro v0 v1 v2 v3 σ H locs ls h0 h1 hG hS hE hl hF
            rw [F_X12_presses_10] at hF; cases hF
  | succ f ih =>
    intro v0 v1 v2 v3 σ H locs ls hT_v0 hT_v1 hG hS hE hl hF
    rw [F_X12_presses_10] at hF
    refine lv_iload_n X.1 X.2.1 dX12_presses_10 rfl (lv_at hl 3 rfl) ?_
    refine lv_aload_n X.1 X.2.1 dX12_presses_11 rfl (lv_at hl 1 rfl) ?_
    refine lv_iconst (v := 5) X.1 X.2.1 dX12_presses_12 (by decide) ?_
    refine gx_iald X hG hT_v1 hF dX12_presses_13 (fun hF => ?_)
    refine lv_icmp_ge (tgt := 102) X.1 X.2.1 dX12_presses_14 (by decide) (fun hc => ?_) (fun hc => ?_)
    · replace hF := it_t hF hc
      exact gx_vret X hG hS hE hF dX12_presses_102
    · replace hF := it_f hF hc
      refine lv_iload_n X.1 X.2.1 dX12_presses_17 rfl (lv_at hl 2 rfl) ?_
      refine lv_if_le (tgt := 38) X.1 X.2.1 dX12_presses_18 (by decide) (fun hc => ?_) (fun hc => ?_)
      · replace hF := it_t hF hc
        refine lv_iload_n X.1 X.2.1 dX12_presses_38 rfl (lv_at hl 2 rfl) ?_
        refine lv_if_ge (tgt := 56) X.1 X.2.1 dX12_presses_39 (by decide) (fun hc => ?_) (fun hc => ?_)
        · replace hF := it_t hF hc
          exact w_X12_presses_56 X n (F_X12_presses_10 n  f) ih v0 v1 v2 v3 σ _ _ ls hT_v0 hT_v1 hG hS hE (lv_sub hl [0, 1, 2, 3] rfl) hF
        · replace hF := it_f hF hc
          refine lv_aload_n X.1 X.2.1 dX12_presses_42 rfl (lv_at hl 1 rfl) ?_
          refine lv_bipush (v := 43) X.1 X.2.1 dX12_presses_43 (by decide) ?_
          refine lv_iload_n X.1 X.2.1 dX12_presses_45 rfl (lv_at hl 3 rfl) ?_
          refine lv_iadd X.1 X.2.1 dX12_presses_46 ?_
          refine gx_iald X hG hT_v1 hF dX12_presses_47 (fun hF => ?_)
          refine lv_iconst (v := 1) X.1 X.2.1 dX12_presses_48 (by decide) ?_
          refine lv_icmp_ne (tgt := 56) X.1 X.2.1 dX12_presses_49 (by decide) (fun hc => ?_) (fun hc => ?_)
          · replace hF := it_f hF hc
            exact w_X12_presses_56 X n (F_X12_presses_10 n  f) ih v0 v1 v2 v3 σ _ _ ls hT_v0 hT_v1 hG hS hE (lv_sub hl [0, 1, 2, 3] rfl) hF
          · replace hF := it_t hF hc
            refine lv_iconst (v := 1) X.1 X.2.1 dX12_presses_52 (by decide) ?_
            refine lv_goto (tgt := 57) X.1 X.2.1 dX12_presses_53 (by decide) ?_
            exact w_X12_presses_57 X n (F_X12_presses_10 n  f) ih v0 v1 v2 v3 1 σ _ _ ls hT_v0 hT_v1 hG hS hE (lv_sub hl [0, 1, 2, 3] rfl) hF
      · replace hF := it_f hF hc
        refine lv_aload_n X.1 X.2.1 dX12_presses_21 rfl (lv_at hl 1 rfl) ?_
        refine lv_bipush (v := 43) X.1 X.2.1 dX12_presses_22 (by decide) ?_
        refine lv_iload_n X.1 X.2.1 dX12_presses_24 rfl (lv_at hl 3 rfl) ?_
        refine lv_iadd X.1 X.2.1 dX12_presses_25 ?_
        refine gx_iald X hG hT_v1 hF dX12_presses_26 (fun hF => ?_)
        refine lv_if_ne (tgt := 34) X.1 X.2.1 dX12_presses_27 (by decide) (fun hc => ?_) (fun hc => ?_)
        · replace hF := it_f hF hc
          refine lv_iconst (v := 0) X.1 X.2.1 dX12_presses_34 (by decide) ?_
          refine lv_goto (tgt := 57) X.1 X.2.1 dX12_presses_35 (by decide) ?_
          exact w_X12_presses_57 X n (F_X12_presses_10 n  f) ih v0 v1 v2 v3 0 σ _ _ ls hT_v0 hT_v1 hG hS hE (lv_sub hl [0, 1, 2, 3] rfl) hF
        · replace hF := it_t hF hc
          refine lv_iconst (v := 1) X.1 X.2.1 dX12_presses_30 (by decide) ?_
          refine lv_goto (tgt := 57) X.1 X.2.1 dX12_presses_31 (by decide) ?_
          exact w_X12_presses_57 X n (F_X12_presses_10 n  f) ih v0 v1 v2 v3 1 σ _ _ ls hT_v0 hT_v1 hG hS hE (lv_sub hl [0, 1, 2, 3] rfl) hF
theorem c_X12_presses (l : Launch) (D : va_G) (cA : Nat → ClassId) (base : Nat) (ad : Nat → Nat) (σ : Hp) (n : Nat) (a0 : Nat) (a1 : Nat) (hT_a0 : hT σ a0 12) (hT_a1 : hT σ a1 13) {τ : Hp} (hF : F_X12_presses n a0 a1 σ = some τ) : MV l yX12_presses cX12_presses 5 rm_X12_presses D cA base ad σ [.ref (ad a0), .ref (ad a1)] τ := by
  refine Met.ofW (cc := cX12_presses) (maxL := 5) (ret := none) (by decide) rfl ?_
  intro p e s m args below meth c s₁ B hml hv
  obtain ⟨rfl, hv⟩ := hv
  have X : SX D cA base p s m ([.ref (ad a0), .ref (ad a1)] : List Value).toArray meth c cX12_presses 5 none RX12 := sx_of B hml hv
  have hG := hv.1
  have hS : va_S (bA base) s.heap s.heap [] := va_S.rf
  have hE := xT.rf σ
  have hl := lv_entry ([.ref (ad a0), .ref (ad a1)]) (n := 5) (Nat.le_of_ble_eq_true rfl)
  rw [lg_entry_eq]
  generalize (lg_sl ([.ref (ad a0), .ref (ad a1)]) ++ List.replicate (5 - (lg_sl ([.ref (ad a0), .ref (ad a1)])).length) Slot.unset).toArray = ls at hl ⊢
  have hl : lv_has ls 5 [(0, .ref (ad a0)), (1, .ref (ad a1))] := hl
  unfold F_X12_presses at hF
  refine lv_aload_n X.1 X.2.1 dX12_presses_0 rfl (lv_at hl 1 rfl) ?_
  refine lv_iconst (v := 1) X.1 X.2.1 dX12_presses_1 (by decide) ?_
  refine gx_iald X hG hT_a1 hF dX12_presses_2 (fun hF => ?_)
  refine lv_aload_n X.1 X.2.1 dX12_presses_3 rfl (lv_at hl 1 rfl) ?_
  refine lv_iconst (v := 2) X.1 X.2.1 dX12_presses_4 (by decide) ?_
  refine gx_iald X hG hT_a1 hF dX12_presses_5 (fun hF => ?_)
  refine lv_isub X.1 X.2.1 dX12_presses_6 ?_
  refine lv_topi (fun x4 ex4 => ?_)
  replace hF := lt_nm hF ex4
  refine lv_istore_n (lv' := [(2, .int x4), (0, .ref (ad a0)), (1, .ref (ad a1))]) X.1 X.2.1 dX12_presses_7 rfl hl (by decide) rfl (fun ls hl => ?_)
  refine lv_iconst (v := 0) X.1 X.2.1 dX12_presses_8 (by decide) ?_
  refine lv_istore_n (lv' := [(3, .int 0), (2, .int x4), (0, .ref (ad a0)), (1, .ref (ad a1))]) X.1 X.2.1 dX12_presses_9 rfl hl (by decide) rfl (fun ls hl => ?_)
  exact w_X12_presses_10 X n  n a0 a1 x4 0 σ _ _ ls hT_a0 hT_a1 hG hS hE (lv_sub hl [2, 3, 1, 0] rfl) hF
end W_model6
