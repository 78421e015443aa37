/-! model7: printed by wip/whole/gen.py -/
section W_model7
variable {p : Program} {l : Launch} {e : Env} {s : State} {m : MethodId} {args : Array Value} {below : List Frame} {meth : Method} {c : Code} {D : va_G} {cA : Nat → ClassId} {base : Nat} {ad : Nat → Nat}
abbrev rm_X12_acts : Room := { frames := 34, cells := 0, slots := 0, locals := 806 }
theorem h_X12_acts : yX12_acts.cls = RX12 ∧ yX12_acts.cls ≠ "java/lang/invoke/MethodHandle" ∧ yX12_acts.cls ≠ "java/lang/invoke/VarHandle" ∧ (parseMethodDescriptor yX12_acts.desc).map (fun d => d.parameters.length) = some 2 := by decide +kernel
def F_X12_acts_192 (n : Nat)  (s0 : Int32) (s1 : Int32) (s2 : Nat) (σ : Hp) : Option Hp := ck (¬ (s1 < 0 ∨ hL σ s2 ≤ s1.toNatClampNeg)) (lt (pI σ s2 s1.toNatClampNeg s0) fun (σ1 : Hp) => some σ1)
def F_X12_acts_141 (n : Nat)  (v0 : Nat) (v1 : Nat) (v2 : Int32) (v3 : Int32) (σ : Hp) : Option Hp := if v3 = 7 then (ck (¬ ((55 + v2) < 0 ∨ hL σ v1 ≤ (55 + v2).toNatClampNeg)) (if (hI σ v1 (55 + v2).toNatClampNeg) = 0 then (ck (¬ ((0 : Int32) < 0 ∨ hL σ v1 ≤ (0 : Int32).toNatClampNeg)) (ck (¬ ((7 + v2) < 0 ∨ hL σ v1 ≤ (7 + v2).toNatClampNeg)) (b2 (F_X12_get n v0 (hI σ v1 (7 + v2).toNatClampNeg) 4 σ) fun (r3 : Int32) (σ2 : Hp) => if (hI σ v1 (0 : Int32).toNatClampNeg) < r3 then (some σ2) else (ck (¬ ((1 : Int32) < 0 ∨ hL σ2 v1 ≤ (1 : Int32).toNatClampNeg)) (ck (¬ ((2 : Int32) < 0 ∨ hL σ2 v1 ≤ (2 : Int32).toNatClampNeg)) (if (hI σ2 v1 (1 : Int32).toNatClampNeg) < (hI σ2 v1 (2 : Int32).toNatClampNeg) then (F_X12_acts_192 n  1 (55 + v2) v1 σ2) else (F_X12_acts_192 n  2 (55 + v2) v1 σ2))))))) else (some σ))) else (some σ)
def F_X12_acts_116 (n : Nat)  : Nat → Nat → Nat → Int32 → Int32 → Int32 → Hp → Option Hp
  | 0, _, _, _, _, _, _ => none
  | f + 1, v0, v1, v2, v3, v4, σ => ck (¬ ((5 : Int32) < 0 ∨ hL σ v1 ≤ (5 : Int32).toNatClampNeg)) (if (hI σ v1 (5 : Int32).toNatClampNeg) ≤ v4 then (F_X12_acts_141 n  v0 v1 v2 v3 σ) else (ck (¬ ((31 + v4) < 0 ∨ hL σ v1 ≤ (31 + v4).toNatClampNeg)) (ck (¬ ((31 + v4) < 0 ∨ hL σ v1 ≤ (31 + v4).toNatClampNeg)) (lt (pI σ v1 (31 + v4).toNatClampNeg ((hI σ v1 (31 + v4).toNatClampNeg) / 2)) fun (σ4 : Hp) => (F_X12_acts_116 n  f) v0 v1 v2 v3 (v4 + 1) σ4))))
def F_X12_acts_108 (n : Nat)  (v0 : Nat) (v1 : Nat) (v2 : Int32) (v3 : Int32) (σ : Hp) : Option Hp := if v3 = 5 then (F_X12_acts_116 n  n v0 v1 v2 v3 0 σ) else (F_X12_acts_141 n  v0 v1 v2 v3 σ)
def F_X12_acts_98 (n : Nat)  (v0 : Nat) (v1 : Nat) (v2 : Int32) (v3 : Int32) (σ : Hp) : Option Hp := if v3 = 3 then (b1 (F_X12_presses n v0 v1 σ) fun (σ5 : Hp) => F_X12_acts_108 n  v0 v1 v2 v3 σ5) else (F_X12_acts_108 n  v0 v1 v2 v3 σ)
def F_X12_acts_52 (n : Nat)  : Nat → Nat → Nat → Int32 → Int32 → Int32 → Hp → Option Hp
  | 0, _, _, _, _, _, _ => none
  | f + 1, v0, v1, v2, v3, v4, σ => ck (¬ ((5 : Int32) < 0 ∨ hL σ v1 ≤ (5 : Int32).toNatClampNeg)) (if (hI σ v1 (5 : Int32).toNatClampNeg) ≤ v4 then (F_X12_acts_98 n  v0 v1 v2 v3 σ) else (ck (¬ ((31 + v4) < 0 ∨ hL σ v1 ≤ (31 + v4).toNatClampNeg)) (ck (¬ ((7 + v4) < 0 ∨ hL σ v1 ≤ (7 + v4).toNatClampNeg)) (b2 (F_X12_get n v0 (hI σ v1 (7 + v4).toNatClampNeg) 1 σ) fun (r7 : Int32) (σ6 : Hp) => ck (¬ ((1 : Int32) < 0 ∨ hL σ6 v1 ≤ (1 : Int32).toNatClampNeg)) (ck (¬ ((2 : Int32) < 0 ∨ hL σ6 v1 ≤ (2 : Int32).toNatClampNeg)) (ck (¬ ((31 + v4) < 0 ∨ hL σ6 v1 ≤ (31 + v4).toNatClampNeg)) (lt (pI σ6 v1 (31 + v4).toNatClampNeg ((hI σ v1 (31 + v4).toNatClampNeg) + ((r7 * ((hI σ6 v1 (1 : Int32).toNatClampNeg) - (hI σ6 v1 (2 : Int32).toNatClampNeg))) / 4))) fun (σ8 : Hp) => (F_X12_acts_52 n  f) v0 v1 v2 v3 (v4 + 1) σ8)))))))
def F_X12_acts_49 (n : Nat)  (v0 : Nat) (v1 : Nat) (v2 : Int32) (v3 : Int32) (σ : Hp) : Option Hp := F_X12_acts_52 n  n v0 v1 v2 v3 0 σ
def F_X12_acts_39 (n : Nat)  (v0 : Nat) (v1 : Nat) (v2 : Int32) (v3 : Int32) (σ : Hp) : Option Hp := if v3 = 2 then (F_X12_acts_49 n  v0 v1 v2 v3 σ) else (if v3 = 3 then (F_X12_acts_49 n  v0 v1 v2 v3 σ) else (F_X12_acts_98 n  v0 v1 v2 v3 σ))
def F_X12_acts_28 (n : Nat)  (v0 : Nat) (v1 : Nat) (v2 : Int32) (v3 : Int32) (σ : Hp) : Option Hp := if v3 = 4 then (b1 (F_X12_tellsStory n v0 v1 v2 σ) fun (σ9 : Hp) => F_X12_acts_39 n  v0 v1 v2 v3 σ9) else (F_X12_acts_39 n  v0 v1 v2 v3 σ)
def F_X12_acts_22 (n : Nat)  (v0 : Nat) (v1 : Nat) (v2 : Int32) (v3 : Int32) (σ : Hp) : Option Hp := b1 (F_X12_tellsThing n v0 v1 v2 σ) fun (σ10 : Hp) => F_X12_acts_28 n  v0 v1 v2 v3 σ10
def F_X12_acts (n : Nat) (a0 : Nat) (a1 : Nat) (a2 : Int32) (σ : Hp) : Option Hp := ck (¬ ((7 + a2) < 0 ∨ hL σ a1 ≤ (7 + a2).toNatClampNeg)) (b2 (F_X12_get n a0 (hI σ a1 (7 + a2).toNatClampNeg) 0 σ) fun (r12 : Int32) (σ11 : Hp) => if r12 = 1 then (F_X12_acts_22 n  a0 a1 a2 r12 σ11) else (if r12 = 4 then (F_X12_acts_22 n  a0 a1 a2 r12 σ11) else (F_X12_acts_28 n  a0 a1 a2 r12 σ11)))
abbrev rm_X12_turn : Room := { frames := 35, cells := 0, slots := 0, locals := 830 }
theorem h_X12_turn : yX12_turn.cls = RX12 ∧ yX12_turn.cls ≠ "java/lang/invoke/MethodHandle" ∧ yX12_turn.cls ≠ "java/lang/invoke/VarHandle" ∧ (parseMethodDescriptor yX12_turn.desc).map (fun d => d.parameters.length) = some 1 := by decide +kernel
def F_X12_turn_92 (n : Nat)  (v0 : Nat) (v1 : Nat) (σ : Hp) : Option Hp := b1 (F_X12_counts n v0 v1 σ) fun (σ1 : Hp) => some σ1
def F_X12_turn_85 (n : Nat) (K_59 : Nat → Nat → Int32 → Hp → Option Hp) (v0 : Nat) (v1 : Nat) (v3 : Int32) (s0 : Int32) (s1 : Int32) (s2 : Nat) (σ : Hp) : Option Hp := ck (¬ (s1 < 0 ∨ hL σ s2 ≤ s1.toNatClampNeg)) (lt (pI σ s2 s1.toNatClampNeg s0) fun (σ2 : Hp) => K_59 v0 v1 (v3 + 1) σ2)
def F_X12_turn_59 (n : Nat)  : Nat → Nat → Nat → Int32 → Hp → Option Hp
  | 0, _, _, _, _ => none
  | f + 1, v0, v1, v3, σ => ck (¬ ((5 : Int32) < 0 ∨ hL σ v1 ≤ (5 : Int32).toNatClampNeg)) (if (hI σ v1 (5 : Int32).toNatClampNeg) ≤ v3 then (F_X12_turn_92 n  v0 v1 σ) else (b2 (F_X12_saysYes n v0 v1 v3 σ) fun (r4 : Int32) (σ3 : Hp) => if r4 = 0 then (F_X12_turn_85 n (F_X12_turn_59 n  f) v0 v1 v3 0 (43 + v3) v1 σ3) else (F_X12_turn_85 n (F_X12_turn_59 n  f) v0 v1 v3 1 (43 + v3) v1 σ3)))
def F_X12_turn (n : Nat) (a0 : Nat) (a1 : Nat) (σ : Hp) : Option Hp := ck (¬ ((4 : Int32) < 0 ∨ hL σ a1 ≤ (4 : Int32).toNatClampNeg)) (b1 (F_X12_acts n a0 a1 (hI σ a1 (4 : Int32).toNatClampNeg) σ) fun (σ5 : Hp) => ck (¬ ((0 : Int32) < 0 ∨ hL σ5 a1 ≤ (0 : Int32).toNatClampNeg)) (ck (¬ ((7 + (hI σ a1 (4 : Int32).toNatClampNeg)) < 0 ∨ hL σ5 a1 ≤ (7 + (hI σ a1 (4 : Int32).toNatClampNeg)).toNatClampNeg)) (b2 (F_X12_get n a0 (hI σ5 a1 (7 + (hI σ a1 (4 : Int32).toNatClampNeg)).toNatClampNeg) 2 σ5) fun (r7 : Int32) (σ6 : Hp) => ck (¬ ((0 : Int32) < 0 ∨ hL σ6 a1 ≤ (0 : Int32).toNatClampNeg)) (lt (pI σ6 a1 (0 : Int32).toNatClampNeg ((hI σ5 a1 (0 : Int32).toNatClampNeg) + r7)) fun (σ8 : Hp) => ck (¬ ((3 : Int32) < 0 ∨ hL σ8 a1 ≤ (3 : Int32).toNatClampNeg)) (ck (¬ ((3 : Int32) < 0 ∨ hL σ8 a1 ≤ (3 : Int32).toNatClampNeg)) (lt (pI σ8 a1 (3 : Int32).toNatClampNeg ((hI σ8 a1 (3 : Int32).toNatClampNeg) + 1)) fun (σ9 : Hp) => ck (¬ ((5 : Int32) < 0 ∨ hL σ9 a1 ≤ (5 : Int32).toNatClampNeg)) (ck (¬ (hI σ9 a1 (5 : Int32).toNatClampNeg) = 0) (ck (¬ ((4 : Int32) < 0 ∨ hL σ9 a1 ≤ (4 : Int32).toNatClampNeg)) (lt (pI σ9 a1 (4 : Int32).toNatClampNeg (((hI σ a1 (4 : Int32).toNatClampNeg) + 1) - ((hI σ a1 (4 : Int32).toNatClampNeg) + 1) / (hI σ9 a1 (5 : Int32).toNatClampNeg) * (hI σ9 a1 (5 : Int32).toNatClampNeg))) fun (σ10 : Hp) => ck (¬ ((1 : Int32) < 0 ∨ hL σ10 a1 ≤ (1 : Int32).toNatClampNeg)) (ck (¬ ((2 : Int32) < 0 ∨ hL σ10 a1 ≤ (2 : Int32).toNatClampNeg)) (ck (¬ ((0 : Int32) < 0 ∨ hL σ10 a1 ≤ (0 : Int32).toNatClampNeg)) (b1 (F_X12_sees n a0 (hI σ10 a1 (1 : Int32).toNatClampNeg) (hI σ10 a1 (2 : Int32).toNatClampNeg) (hI σ10 a1 (0 : Int32).toNatClampNeg) σ10) fun (σ11 : Hp) => F_X12_turn_59 n  n a0 a1 0 σ11))))))))))))
abbrev rm_X12_takesAll : Room := { frames := 1, cells := 0, slots := 0, locals := 22 }
theorem h_X12_takesAll : yX12_takesAll.cls = RX12 ∧ yX12_takesAll.cls ≠ "java/lang/invoke/MethodHandle" ∧ yX12_takesAll.cls ≠ "java/lang/invoke/VarHandle" ∧ (parseMethodDescriptor yX12_takesAll.desc).map (fun d => d.parameters.length) = some 1 := by decide +kernel
def F_X12_takesAll_11 (n : Nat)  : Nat → Nat → Nat → Int32 → Hp → Option Hp
  | 0, _, _, _, _ => none
  | f + 1, v0, v1, v2, σ => b1 (hR σ v0 0) fun (i1 : Nat) => ck (¬ ((1 : Int32) < 0 ∨ hL σ i1 ≤ (1 : Int32).toNatClampNeg)) (if (hI σ i1 (1 : Int32).toNatClampNeg) ≤ v2 then (some σ) else (ck (¬ ((7 + v2) < 0 ∨ hL σ v1 ≤ (7 + v2).toNatClampNeg)) (lt (pI σ v1 (7 + v2).toNatClampNeg v2) fun (σ2 : Hp) => b2 (F_X12_get n v0 v2 6 σ2) fun (r4 : Int32) (σ3 : Hp) => ck (¬ ((19 + v2) < 0 ∨ hL σ3 v1 ≤ (19 + v2).toNatClampNeg)) (lt (pI σ3 v1 (19 + v2).toNatClampNeg r4) fun (σ5 : Hp) => (F_X12_takesAll_11 n  f) v0 v1 (v2 + 1) σ5))))
def F_X12_takesAll (n : Nat) (a0 : Nat) (a1 : Nat) (σ : Hp) : Option Hp := b1 (hR σ a0 0) fun (i6 : Nat) => ck (¬ ((1 : Int32) < 0 ∨ hL σ i6 ≤ (1 : Int32).toNatClampNeg)) (ck (¬ ((5 : Int32) < 0 ∨ hL σ a1 ≤ (5 : Int32).toNatClampNeg)) (lt (pI σ a1 (5 : Int32).toNatClampNeg (hI σ i6 (1 : Int32).toNatClampNeg)) fun (σ7 : Hp) => F_X12_takesAll_11 n  n a0 a1 0 σ7))
abbrev rm_X12_leaderOf : Room := { frames := 0, cells := 0, slots := 0, locals := 0 }
theorem h_X12_leaderOf : yX12_leaderOf.cls = RX12 ∧ yX12_leaderOf.cls ≠ "java/lang/invoke/MethodHandle" ∧ yX12_leaderOf.cls ≠ "java/lang/invoke/VarHandle" ∧ (parseMethodDescriptor yX12_leaderOf.desc).map (fun d => d.parameters.length) = some 1 := by decide +kernel
def F_X12_leaderOf (n : Nat) (a0 : Nat) (a1 : Int32) (σ : Hp) : Option (Int32 × Hp) := b1 (hR σ a0 0) fun (i1 : Nat) => ck (¬ ((4 : Int32) < 0 ∨ hL σ i1 ≤ (4 : Int32).toNatClampNeg)) (if a1 ≤ (hI σ i1 (4 : Int32).toNatClampNeg) then (some (0, σ)) else (b1 (hR σ a0 0) fun (i2 : Nat) => ck (¬ ((4 : Int32) < 0 ∨ hL σ i2 ≤ (4 : Int32).toNatClampNeg)) (some (hI σ i2 (4 : Int32).toNatClampNeg, σ))))
theorem w_X12_acts_192 {σ0 τ : Hp} (X : SX D cA base p s m args meth c cX12_acts 5 none RX12) (n : Nat)  : ∀ (s0 : Int32) (s1 : Int32) (s2 : Nat) (σ : Hp) (H : Heap) (locs : List Loc) (ls : Array Slot), hT σ s2 13 → GW D cA base ad σ H → va_S (bA base) s.heap H locs → xT σ0 σ → lv_has ls 5 [] → F_X12_acts_192 n  s0 s1 s2 σ = some τ → W p l e rm_X12_acts s m args below meth c H locs 0 0 (ZV below s args D cA base ad σ0 τ) (F0 m 192 ls [.int s0, .int s1, .ref (ad s2)]) := by
  intro s0 s1 s2 σ H locs ls hT_s2 hG hS hE hl hF
  unfold F_X12_acts_192 at hF
  refine gx_iast X hG hS hT_s2 hF dX12_acts_192 (fun σ1 H locs hG hS hX hF => ?_)
  replace hE := hE.trans hX
  exact gx_vret X hG hS hE hF dX12_acts_193
theorem w_X12_acts_141 {σ0 τ : Hp} (X : SX D cA base p s m args meth c cX12_acts 5 none RX12) (n : Nat)  : ∀ (v0 : Nat) (v1 : Nat) (v2 : Int32) (v3 : Int32) (σ : Hp) (H : Heap) (locs : List Loc) (ls : Array Slot), hT σ v0 12 → hT σ v1 13 → GW D cA base ad σ H → va_S (bA base) s.heap H locs → xT σ0 σ → lv_has ls 5 [(0, .ref (ad v0)), (1, .ref (ad v1)), (2, .int v2), (3, .int v3)] → F_X12_acts_141 n  v0 v1 v2 v3 σ = some τ → W p l e rm_X12_acts s m args below meth c H locs 0 0 (ZV below s args D cA base ad σ0 τ) (F0 m 141 ls []) := by
  intro v0 v1 v2 v3 σ H locs ls hT_v0 hT_v1 hG hS hE hl hF
  unfold F_X12_acts_141 at hF
  refine lv_iload_n X.1 X.2.1 dX12_acts_141 rfl (lv_at hl 3 rfl) ?_
  refine lv_bipush (v := 7) X.1 X.2.1 dX12_acts_142 (by decide) ?_
  refine lv_icmp_ne (tgt := 193) X.1 X.2.1 dX12_acts_144 (by decide) (fun hc => ?_) (fun hc => ?_)
  · replace hF := it_f hF hc
    exact gx_vret X hG hS hE hF dX12_acts_193
  · replace hF := it_t hF hc
    refine lv_aload_n X.1 X.2.1 dX12_acts_147 rfl (lv_at hl 1 rfl) ?_
    refine lv_bipush (v := 55) X.1 X.2.1 dX12_acts_148 (by decide) ?_
    refine lv_iload_n X.1 X.2.1 dX12_acts_150 rfl (lv_at hl 2 rfl) ?_
    refine lv_iadd X.1 X.2.1 dX12_acts_151 ?_
    refine gx_iald X hG hT_v1 hF dX12_acts_152 (fun hF => ?_)
    refine lv_if_ne (tgt := 193) X.1 X.2.1 dX12_acts_153 (by decide) (fun hc => ?_) (fun hc => ?_)
    · replace hF := it_f hF hc
      exact gx_vret X hG hS hE hF dX12_acts_193
    · replace hF := it_t hF hc
      refine lv_aload_n X.1 X.2.1 dX12_acts_156 rfl (lv_at hl 1 rfl) ?_
      refine lv_iconst (v := 0) X.1 X.2.1 dX12_acts_157 (by decide) ?_
      refine gx_iald X hG hT_v1 hF dX12_acts_158 (fun hF => ?_)
      refine lv_aload_n X.1 X.2.1 dX12_acts_159 rfl (lv_at hl 0 rfl) ?_
      refine lv_aload_n X.1 X.2.1 dX12_acts_160 rfl (lv_at hl 1 rfl) ?_
      refine lv_bipush (v := 7) X.1 X.2.1 dX12_acts_161 (by decide) ?_
      refine lv_iload_n X.1 X.2.1 dX12_acts_163 rfl (lv_at hl 2 rfl) ?_
      refine lv_iadd X.1 X.2.1 dX12_acts_164 ?_
      refine gx_iald X hG hT_v1 hF dX12_acts_165 (fun hF => ?_)
      refine lv_iconst (v := 4) X.1 X.2.1 dX12_acts_166 (by decide) ?_
      obtain ⟨r3, σ2, hz, hF⟩ := b2_ex hF
      refine gx_rI (gx_runV (As := [.int (hI σ v1 (7 + v2).toNatClampNeg), .int 4]) (rest := [.int (hI σ v1 (0 : Int32).toNatClampNeg)]) X hG hS hT_v0.1 (hT_v0.eq (by decide)) (by decide) rfl (c_X12_get l D cA base ad σ n v0 (hI σ v1 (7 + v2).toNatClampNeg) 4 hT_v0 hz) k_1099 k_1096 k_1098 ks_19 k_4 (h_X12_get) rfl rfl ⟨by decide, by decide⟩ rfl hl.1 rfl (Nat.le_of_ble_eq_true rfl) dX12_acts_167 ⟨Nat.zero_le _, Nat.zero_le _⟩) hS (fun H locs hG hS hX => ?_)
      have hT_v0 := hX.T hT_v0
      have hT_v1 := hX.T hT_v1
      replace hE := hE.trans hX
      refine lv_icmp_lt (tgt := 193) X.1 X.2.1 dX12_acts_170 (by decide) (fun hc => ?_) (fun hc => ?_)
      · replace hF := it_t hF hc
        exact gx_vret X hG hS hE hF dX12_acts_193
      · replace hF := it_f hF hc
        refine lv_aload_n X.1 X.2.1 dX12_acts_173 rfl (lv_at hl 1 rfl) ?_
        refine lv_bipush (v := 55) X.1 X.2.1 dX12_acts_174 (by decide) ?_
        refine lv_iload_n X.1 X.2.1 dX12_acts_176 rfl (lv_at hl 2 rfl) ?_
        refine lv_iadd X.1 X.2.1 dX12_acts_177 ?_
        refine lv_aload_n X.1 X.2.1 dX12_acts_178 rfl (lv_at hl 1 rfl) ?_
        refine lv_iconst (v := 1) X.1 X.2.1 dX12_acts_179 (by decide) ?_
        refine gx_iald X hG hT_v1 hF dX12_acts_180 (fun hF => ?_)
        refine lv_aload_n X.1 X.2.1 dX12_acts_181 rfl (lv_at hl 1 rfl) ?_
        refine lv_iconst (v := 2) X.1 X.2.1 dX12_acts_182 (by decide) ?_
        refine gx_iald X hG hT_v1 hF dX12_acts_183 (fun hF => ?_)
        refine lv_icmp_lt (tgt := 191) X.1 X.2.1 dX12_acts_184 (by decide) (fun hc => ?_) (fun hc => ?_)
        · replace hF := it_t hF hc
          refine lv_iconst (v := 1) X.1 X.2.1 dX12_acts_191 (by decide) ?_
          exact w_X12_acts_192 X n  1 (55 + v2) v1 σ2 _ _ ls hT_v1 hG hS hE (lv_sub hl [] rfl) hF
        · replace hF := it_f hF hc
          refine lv_iconst (v := 2) X.1 X.2.1 dX12_acts_187 (by decide) ?_
          refine lv_goto (tgt := 192) X.1 X.2.1 dX12_acts_188 (by decide) ?_
          exact w_X12_acts_192 X n  2 (55 + v2) v1 σ2 _ _ ls hT_v1 hG hS hE (lv_sub hl [] rfl) hF
theorem w_X12_acts_116 {σ0 τ : Hp} (X : SX D cA base p s m args meth c cX12_acts 5 none RX12) (n : Nat)  : ∀ f : Nat, ∀ (v0 : Nat) (v1 : Nat) (v2 : Int32) (v3 : Int32) (v4 : Int32) (σ : Hp) (H : Heap) (locs : List Loc) (ls : Array Slot), hT σ v0 12 → hT σ v1 13 → GW D cA base ad σ H → va_S (bA base) s.heap H locs → xT σ0 σ → lv_has ls 5 [(0, .ref (ad v0)), (1, .ref (ad v1)), (2, .int v2), (3, .int v3), (4, .int v4)] → F_X12_acts_116 n  f v0 v1 v2 v3 v4 σ = some τ → W p l e rm_X12_acts s m args below meth c H locs 0 0 (ZV below s args D cA base ad σ0 τ) (F0 m 116 ls []) := by
  intro f
  induction f with
  | zero => intro v0 v1 v2 v3 v4 σ H locs ls h0 h1 hG hS hE hl hF
            rw [F_X12_acts_116] at hF; cases hF
  | succ f ih =>
    intro v0 v1 v2 v3 v4 σ H locs ls hT_v0 hT_v1 hG hS hE hl hF
    rw [F_X12_acts_116] at hF
    refine lv_iload X.1 X.2.1 dX12_acts_116 (lv_at hl 4 rfl) ?_
    refine lv_aload_n X.1 X.2.1 dX12_acts_118 rfl (lv_at hl 1 rfl) ?_
    refine lv_iconst (v := 5) X.1 X.2.1 dX12_acts_119 (by decide) ?_
    refine gx_iald X hG hT_v1 hF dX12_acts_120 (fun hF => ?_)
    refine lv_icmp_ge (tgt := 141) X.1 X.2.1 dX12_acts_121 (by decide) (fun hc => ?_) (fun hc => ?_)
    · replace hF := it_t hF hc
      exact w_X12_acts_141 X n  v0 v1 v2 v3 σ _ _ ls hT_v0 hT_v1 hG hS hE (lv_sub hl [0, 1, 2, 3] rfl) hF
    · replace hF := it_f hF hc
      refine lv_aload_n X.1 X.2.1 dX12_acts_124 rfl (lv_at hl 1 rfl) ?_
      refine lv_bipush (v := 31) X.1 X.2.1 dX12_acts_125 (by decide) ?_
      refine lv_iload X.1 X.2.1 dX12_acts_127 (lv_at hl 4 rfl) ?_
      refine lv_iadd X.1 X.2.1 dX12_acts_129 ?_
      refine lv_dup2_11 X.1 X.2.1 dX12_acts_130 rfl rfl ?_
      refine gx_iald X hG hT_v1 hF dX12_acts_131 (fun hF => ?_)
      refine lv_iconst (v := 2) X.1 X.2.1 dX12_acts_132 (by decide) ?_
      refine lv_idiv X.1 X.2.1 dX12_acts_133 (by decide) ?_
      refine gx_iast X hG hS hT_v1 hF dX12_acts_134 (fun σ4 H locs hG hS hX hF => ?_)
      have hT_v0 := hX.T hT_v0
      have hT_v1 := hX.T hT_v1
      replace hE := hE.trans hX
      refine lv_iinc (v := v4 + 1) (lv' := [(4, .int (v4 + 1)), (0, .ref (ad v0)), (1, .ref (ad v1)), (2, .int v2), (3, .int v3)]) X.1 X.2.1 dX12_acts_135 hl (k := 4) rfl rfl (by decide) rfl (fun ls hl => ?_)
      refine lv_goto (tgt := 116) X.1 X.2.1 dX12_acts_138 (by decide) ?_
      exact ih v0 v1 v2 v3 (v4 + 1) σ4 _ _ ls hT_v0 hT_v1 hG hS hE (lv_sub hl [1, 2, 3, 4, 0] rfl) hF
theorem w_X12_acts_108 {σ0 τ : Hp} (X : SX D cA base p s m args meth c cX12_acts 5 none RX12) (n : Nat)  : ∀ (v0 : Nat) (v1 : Nat) (v2 : Int32) (v3 : Int32) (σ : Hp) (H : Heap) (locs : List Loc) (ls : Array Slot), hT σ v0 12 → hT σ v1 13 → GW D cA base ad σ H → va_S (bA base) s.heap H locs → xT σ0 σ → lv_has ls 5 [(0, .ref (ad v0)), (1, .ref (ad v1)), (2, .int v2), (3, .int v3)] → F_X12_acts_108 n  v0 v1 v2 v3 σ = some τ → W p l e rm_X12_acts s m args below meth c H locs 0 0 (ZV below s args D cA base ad σ0 τ) (F0 m 108 ls []) := by
  intro v0 v1 v2 v3 σ H locs ls hT_v0 hT_v1 hG hS hE hl hF
  unfold F_X12_acts_108 at hF
  refine lv_iload_n X.1 X.2.1 dX12_acts_108 rfl (lv_at hl 3 rfl) ?_
  refine lv_iconst (v := 5) X.1 X.2.1 dX12_acts_109 (by decide) ?_
  refine lv_icmp_ne (tgt := 141) X.1 X.2.1 dX12_acts_110 (by decide) (fun hc => ?_) (fun hc => ?_)
  · replace hF := it_f hF hc
    exact w_X12_acts_141 X n  v0 v1 v2 v3 σ _ _ ls hT_v0 hT_v1 hG hS hE (lv_sub hl [0, 1, 2, 3] rfl) hF
  · replace hF := it_t hF hc
    refine lv_iconst (v := 0) X.1 X.2.1 dX12_acts_113 (by decide) ?_
    refine lv_istore (lv' := [(4, .int 0), (0, .ref (ad v0)), (1, .ref (ad v1)), (2, .int v2), (3, .int v3)]) X.1 X.2.1 dX12_acts_114 hl (by decide) rfl (fun ls hl => ?_)
    exact w_X12_acts_116 X n  n v0 v1 v2 v3 0 σ _ _ ls hT_v0 hT_v1 hG hS hE (lv_sub hl [1, 2, 3, 4, 0] rfl) hF
theorem w_X12_acts_98 {σ0 τ : Hp} (X : SX D cA base p s m args meth c cX12_acts 5 none RX12) (n : Nat)  : ∀ (v0 : Nat) (v1 : Nat) (v2 : Int32) (v3 : Int32) (σ : Hp) (H : Heap) (locs : List Loc) (ls : Array Slot), hT σ v0 12 → hT σ v1 13 → GW D cA base ad σ H → va_S (bA base) s.heap H locs → xT σ0 σ → lv_has ls 5 [(0, .ref (ad v0)), (1, .ref (ad v1)), (2, .int v2), (3, .int v3)] → F_X12_acts_98 n  v0 v1 v2 v3 σ = some τ → W p l e rm_X12_acts s m args below meth c H locs 0 0 (ZV below s args D cA base ad σ0 τ) (F0 m 98 ls []) := by
  intro v0 v1 v2 v3 σ H locs ls hT_v0 hT_v1 hG hS hE hl hF
  unfold F_X12_acts_98 at hF
  refine lv_iload_n X.1 X.2.1 dX12_acts_98 rfl (lv_at hl 3 rfl) ?_
  refine lv_iconst (v := 3) X.1 X.2.1 dX12_acts_99 (by decide) ?_
  refine lv_icmp_ne (tgt := 108) X.1 X.2.1 dX12_acts_100 (by decide) (fun hc => ?_) (fun hc => ?_)
  · replace hF := it_f hF hc
    exact w_X12_acts_108 X n  v0 v1 v2 v3 σ _ _ ls hT_v0 hT_v1 hG hS hE (lv_sub hl [0, 1, 2, 3] rfl) hF
  · replace hF := it_t hF hc
    refine lv_aload_n X.1 X.2.1 dX12_acts_103 rfl (lv_at hl 0 rfl) ?_
    refine lv_aload_n X.1 X.2.1 dX12_acts_104 rfl (lv_at hl 1 rfl) ?_
    obtain ⟨σ5, hz, hF⟩ := b1_ex hF
    refine gx_rV (gx_runV (As := [.ref (ad v1)]) (rest := []) X hG hS hT_v0.1 (hT_v0.eq (by decide)) (by decide) rfl (c_X12_presses l D cA base ad σ n v0 v1 hT_v0 hT_v1 hz) k_1253 k_1250 k_1252 ks_47 k_4 (h_X12_presses) rfl rfl ⟨by decide, by decide⟩ rfl hl.1 rfl (Nat.le_of_ble_eq_true rfl) dX12_acts_105 ⟨Nat.zero_le _, Nat.zero_le _⟩) hS (fun H locs hG hS hX => ?_)
    have hT_v0 := hX.T hT_v0
    have hT_v1 := hX.T hT_v1
    replace hE := hE.trans hX
    exact w_X12_acts_108 X n  v0 v1 v2 v3 σ5 _ _ ls hT_v0 hT_v1 hG hS hE (lv_sub hl [0, 1, 2, 3] rfl) hF
theorem w_X12_acts_52 {σ0 τ : Hp} (X : SX D cA base p s m args meth c cX12_acts 5 none RX12) (n : Nat)  : ∀ f : Nat, ∀ (v0 : Nat) (v1 : Nat) (v2 : Int32) (v3 : Int32) (v4 : Int32) (σ : Hp) (H : Heap) (locs : List Loc) (ls : Array Slot), hT σ v0 12 → hT σ v1 13 → GW D cA base ad σ H → va_S (bA base) s.heap H locs → xT σ0 σ → lv_has ls 5 [(0, .ref (ad v0)), (1, .ref (ad v1)), (2, .int v2), (3, .int v3), (4, .int v4)] → F_X12_acts_52 n  f v0 v1 v2 v3 v4 σ = some τ → W p l e rm_X12_acts s m args below meth c H locs 0 0 (ZV below s args D cA base ad σ0 τ) (F0 m 52 ls []) := by
  intro f
  induction f with
  | zero => intro v0 v1 v2 v3 v4 σ H locs ls h0 h1 hG hS hE hl hF
            rw [F_X12_acts_52] at hF; cases hF
  | succ f ih =>
    intro v0 v1 v2 v3 v4 σ H locs ls hT_v0 hT_v1 hG hS hE hl hF
    rw [F_X12_acts_52] at hF
    refine lv_iload X.1 X.2.1 dX12_acts_52 (lv_at hl 4 rfl) ?_
    refine lv_aload_n X.1 X.2.1 dX12_acts_54 rfl (lv_at hl 1 rfl) ?_
    refine lv_iconst (v := 5) X.1 X.2.1 dX12_acts_55 (by decide) ?_
    refine gx_iald X hG hT_v1 hF dX12_acts_56 (fun hF => ?_)
    refine lv_icmp_ge (tgt := 98) X.1 X.2.1 dX12_acts_57 (by decide) (fun hc => ?_) (fun hc => ?_)
    · replace hF := it_t hF hc
      exact w_X12_acts_98 X n  v0 v1 v2 v3 σ _ _ ls hT_v0 hT_v1 hG hS hE (lv_sub hl [0, 1, 2, 3] rfl) hF
    · replace hF := it_f hF hc
      refine lv_aload_n X.1 X.2.1 dX12_acts_60 rfl (lv_at hl 1 rfl) ?_
      refine lv_bipush (v := 31) X.1 X.2.1 dX12_acts_61 (by decide) ?_
      refine lv_iload X.1 X.2.1 dX12_acts_63 (lv_at hl 4 rfl) ?_
      refine lv_iadd X.1 X.2.1 dX12_acts_65 ?_
      refine lv_dup2_11 X.1 X.2.1 dX12_acts_66 rfl rfl ?_
      refine gx_iald X hG hT_v1 hF dX12_acts_67 (fun hF => ?_)
      refine lv_aload_n X.1 X.2.1 dX12_acts_68 rfl (lv_at hl 0 rfl) ?_
      refine lv_aload_n X.1 X.2.1 dX12_acts_69 rfl (lv_at hl 1 rfl) ?_
      refine lv_bipush (v := 7) X.1 X.2.1 dX12_acts_70 (by decide) ?_
      refine lv_iload X.1 X.2.1 dX12_acts_72 (lv_at hl 4 rfl) ?_
      refine lv_iadd X.1 X.2.1 dX12_acts_74 ?_
      refine gx_iald X hG hT_v1 hF dX12_acts_75 (fun hF => ?_)
      refine lv_iconst (v := 1) X.1 X.2.1 dX12_acts_76 (by decide) ?_
      obtain ⟨r7, σ6, hz, hF⟩ := b2_ex hF
      refine gx_rI (gx_runV (As := [.int (hI σ v1 (7 + v4).toNatClampNeg), .int 1]) (rest := [.int (hI σ v1 (31 + v4).toNatClampNeg), .int (31 + v4), .ref (ad v1)]) X hG hS hT_v0.1 (hT_v0.eq (by decide)) (by decide) rfl (c_X12_get l D cA base ad σ n v0 (hI σ v1 (7 + v4).toNatClampNeg) 1 hT_v0 hz) k_1099 k_1096 k_1098 ks_19 k_4 (h_X12_get) rfl rfl ⟨by decide, by decide⟩ rfl hl.1 rfl (Nat.le_of_ble_eq_true rfl) dX12_acts_77 ⟨Nat.zero_le _, Nat.zero_le _⟩) hS (fun H locs hG hS hX => ?_)
      have hT_v0 := hX.T hT_v0
      have hT_v1 := hX.T hT_v1
      replace hE := hE.trans hX
      refine lv_aload_n X.1 X.2.1 dX12_acts_80 rfl (lv_at hl 1 rfl) ?_
      refine lv_iconst (v := 1) X.1 X.2.1 dX12_acts_81 (by decide) ?_
      refine gx_iald X hG hT_v1 hF dX12_acts_82 (fun hF => ?_)
      refine lv_aload_n X.1 X.2.1 dX12_acts_83 rfl (lv_at hl 1 rfl) ?_
      refine lv_iconst (v := 2) X.1 X.2.1 dX12_acts_84 (by decide) ?_
      refine gx_iald X hG hT_v1 hF dX12_acts_85 (fun hF => ?_)
      refine lv_isub X.1 X.2.1 dX12_acts_86 ?_
      refine lv_imul X.1 X.2.1 dX12_acts_87 ?_
      refine lv_iconst (v := 4) X.1 X.2.1 dX12_acts_88 (by decide) ?_
      refine lv_idiv X.1 X.2.1 dX12_acts_89 (by decide) ?_
      refine lv_iadd X.1 X.2.1 dX12_acts_90 ?_
      refine gx_iast X hG hS hT_v1 hF dX12_acts_91 (fun σ8 H locs hG hS hX hF => ?_)
      have hT_v0 := hX.T hT_v0
      have hT_v1 := hX.T hT_v1
      replace hE := hE.trans hX
      refine lv_iinc (v := v4 + 1) (lv' := [(4, .int (v4 + 1)), (0, .ref (ad v0)), (1, .ref (ad v1)), (2, .int v2), (3, .int v3)]) X.1 X.2.1 dX12_acts_92 hl (k := 4) rfl rfl (by decide) rfl (fun ls hl => ?_)
      refine lv_goto (tgt := 52) X.1 X.2.1 dX12_acts_95 (by decide) ?_
      exact ih v0 v1 v2 v3 (v4 + 1) σ8 _ _ ls hT_v0 hT_v1 hG hS hE (lv_sub hl [1, 2, 3, 4, 0] rfl) hF
theorem w_X12_acts_49 {σ0 τ : Hp} (X : SX D cA base p s m args meth c cX12_acts 5 none RX12) (n : Nat)  : ∀ (v0 : Nat) (v1 : Nat) (v2 : Int32) (v3 : Int32) (σ : Hp) (H : Heap) (locs : List Loc) (ls : Array Slot), hT σ v0 12 → hT σ v1 13 → GW D cA base ad σ H → va_S (bA base) s.heap H locs → xT σ0 σ → lv_has ls 5 [(0, .ref (ad v0)), (1, .ref (ad v1)), (2, .int v2), (3, .int v3)] → F_X12_acts_49 n  v0 v1 v2 v3 σ = some τ → W p l e rm_X12_acts s m args below meth c H locs 0 0 (ZV below s args D cA base ad σ0 τ) (F0 m 49 ls []) := by
  intro v0 v1 v2 v3 σ H locs ls hT_v0 hT_v1 hG hS hE hl hF
  unfold F_X12_acts_49 at hF
  refine lv_iconst (v := 0) X.1 X.2.1 dX12_acts_49 (by decide) ?_
  refine lv_istore (lv' := [(4, .int 0), (0, .ref (ad v0)), (1, .ref (ad v1)), (2, .int v2), (3, .int v3)]) X.1 X.2.1 dX12_acts_50 hl (by decide) rfl (fun ls hl => ?_)
  exact w_X12_acts_52 X n  n v0 v1 v2 v3 0 σ _ _ ls hT_v0 hT_v1 hG hS hE (lv_sub hl [1, 2, 3, 4, 0] rfl) hF
theorem w_X12_acts_39 {σ0 τ : Hp} (X : SX D cA base p s m args meth c cX12_acts 5 none RX12) (n : Nat)  : ∀ (v0 : Nat) (v1 : Nat) (v2 : Int32) (v3 : Int32) (σ : Hp) (H : Heap) (locs : List Loc) (ls : Array Slot), hT σ v0 12 → hT σ v1 13 → GW D cA base ad σ H → va_S (bA base) s.heap H locs → xT σ0 σ → lv_has ls 5 [(0, .ref (ad v0)), (1, .ref (ad v1)), (2, .int v2), (3, .int v3)] → F_X12_acts_39 n  v0 v1 v2 v3 σ = some τ → W p l e rm_X12_acts s m args below meth c H locs 0 0 (ZV below s args D cA base ad σ0 τ) (F0 m 39 ls []) := by
  intro v0 v1 v2 v3 σ H locs ls hT_v0 hT_v1 hG hS hE hl hF
  unfold F_X12_acts_39 at hF
  refine lv_iload_n X.1 X.2.1 dX12_acts_39 rfl (lv_at hl 3 rfl) ?_
  refine lv_iconst (v := 2) X.1 X.2.1 dX12_acts_40 (by decide) ?_
  refine lv_icmp_eq (tgt := 49) X.1 X.2.1 dX12_acts_41 (by decide) (fun hc => ?_) (fun hc => ?_)
  · replace hF := it_t hF hc
    exact w_X12_acts_49 X n  v0 v1 v2 v3 σ _ _ ls hT_v0 hT_v1 hG hS hE (lv_sub hl [0, 1, 2, 3] rfl) hF
  · replace hF := it_f hF hc
    refine lv_iload_n X.1 X.2.1 dX12_acts_44 rfl (lv_at hl 3 rfl) ?_
    refine lv_iconst (v := 3) X.1 X.2.1 dX12_acts_45 (by decide) ?_
    refine lv_icmp_ne (tgt := 98) X.1 X.2.1 dX12_acts_46 (by decide) (fun hc => ?_) (fun hc => ?_)
    · replace hF := it_f hF hc
      exact w_X12_acts_98 X n  v0 v1 v2 v3 σ _ _ ls hT_v0 hT_v1 hG hS hE (lv_sub hl [0, 1, 2, 3] rfl) hF
    · replace hF := it_t hF hc
      exact w_X12_acts_49 X n  v0 v1 v2 v3 σ _ _ ls hT_v0 hT_v1 hG hS hE (lv_sub hl [0, 1, 2, 3] rfl) hF
theorem w_X12_acts_28 {σ0 τ : Hp} (X : SX D cA base p s m args meth c cX12_acts 5 none RX12) (n : Nat)  : ∀ (v0 : Nat) (v1 : Nat) (v2 : Int32) (v3 : Int32) (σ : Hp) (H : Heap) (locs : List Loc) (ls : Array Slot), hT σ v0 12 → hT σ v1 13 → GW D cA base ad σ H → va_S (bA base) s.heap H locs → xT σ0 σ → lv_has ls 5 [(0, .ref (ad v0)), (1, .ref (ad v1)), (2, .int v2), (3, .int v3)] → F_X12_acts_28 n  v0 v1 v2 v3 σ = some τ → W p l e rm_X12_acts s m args below meth c H locs 0 0 (ZV below s args D cA base ad σ0 τ) (F0 m 28 ls []) := by
  intro v0 v1 v2 v3 σ H locs ls hT_v0 hT_v1 hG hS hE hl hF
  unfold F_X12_acts_28 at hF
  refine lv_iload_n X.1 X.2.1 dX12_acts_28 rfl (lv_at hl 3 rfl) ?_
  refine lv_iconst (v := 4) X.1 X.2.1 dX12_acts_29 (by decide) ?_
  refine lv_icmp_ne (tgt := 39) X.1 X.2.1 dX12_acts_30 (by decide) (fun hc => ?_) (fun hc => ?_)
  · replace hF := it_f hF hc
    exact w_X12_acts_39 X n  v0 v1 v2 v3 σ _ _ ls hT_v0 hT_v1 hG hS hE (lv_sub hl [0, 1, 2, 3] rfl) hF
  · replace hF := it_t hF hc
    refine lv_aload_n X.1 X.2.1 dX12_acts_33 rfl (lv_at hl 0 rfl) ?_
    refine lv_aload_n X.1 X.2.1 dX12_acts_34 rfl (lv_at hl 1 rfl) ?_
    refine lv_iload_n X.1 X.2.1 dX12_acts_35 rfl (lv_at hl 2 rfl) ?_
    obtain ⟨σ9, hz, hF⟩ := b1_ex hF
    refine gx_rV (gx_runV (As := [.ref (ad v1), .int v2]) (rest := []) X hG hS hT_v0.1 (hT_v0.eq (by decide)) (by decide) rfl (c_X12_tellsStory l D cA base ad σ n v0 v1 v2 hT_v0 hT_v1 hz) k_1247 k_1244 k_1246 ks_46 k_4 (h_X12_tellsStory) rfl rfl ⟨by decide, by decide⟩ rfl hl.1 rfl (Nat.le_of_ble_eq_true rfl) dX12_acts_36 ⟨Nat.zero_le _, Nat.zero_le _⟩) hS (fun H locs hG hS hX => ?_)
    have hT_v0 := hX.T hT_v0
    have hT_v1 := hX.T hT_v1
    replace hE := hE.trans hX
    exact w_X12_acts_39 X n  v0 v1 v2 v3 σ9 _ _ ls hT_v0 hT_v1 hG hS hE (lv_sub hl [0, 1, 2, 3] rfl) hF
theorem w_X12_acts_22 {σ0 τ : Hp} (X : SX D cA base p s m args meth c cX12_acts 5 none RX12) (n : Nat)  : ∀ (v0 : Nat) (v1 : Nat) (v2 : Int32) (v3 : Int32) (σ : Hp) (H : Heap) (locs : List Loc) (ls : Array Slot), hT σ v0 12 → hT σ v1 13 → GW D cA base ad σ H → va_S (bA base) s.heap H locs → xT σ0 σ → lv_has ls 5 [(0, .ref (ad v0)), (1, .ref (ad v1)), (2, .int v2), (3, .int v3)] → F_X12_acts_22 n  v0 v1 v2 v3 σ = some τ → W p l e rm_X12_acts s m args below meth c H locs 0 0 (ZV below s args D cA base ad σ0 τ) (F0 m 22 ls []) := by
  intro v0 v1 v2 v3 σ H locs ls hT_v0 hT_v1 hG hS hE hl hF
  unfold F_X12_acts_22 at hF
  refine lv_aload_n X.1 X.2.1 dX12_acts_22 rfl (lv_at hl 0 rfl) ?_
  refine lv_aload_n X.1 X.2.1 dX12_acts_23 rfl (lv_at hl 1 rfl) ?_
  refine lv_iload_n X.1 X.2.1 dX12_acts_24 rfl (lv_at hl 2 rfl) ?_
  obtain ⟨σ10, hz, hF⟩ := b1_ex hF
  refine gx_rV (gx_runV (As := [.ref (ad v1), .int v2]) (rest := []) X hG hS hT_v0.1 (hT_v0.eq (by decide)) (by decide) rfl (c_X12_tellsThing l D cA base ad σ n v0 v1 v2 hT_v0 hT_v1 hz) k_1236 k_1233 k_1235 ks_44 k_4 (h_X12_tellsThing) rfl rfl ⟨by decide, by decide⟩ rfl hl.1 rfl (Nat.le_of_ble_eq_true rfl) dX12_acts_25 ⟨Nat.zero_le _, Nat.zero_le _⟩) hS (fun H locs hG hS hX => ?_)
  have hT_v0 := hX.T hT_v0
  have hT_v1 := hX.T hT_v1
  replace hE := hE.trans hX
  exact w_X12_acts_28 X n  v0 v1 v2 v3 σ10 _ _ ls hT_v0 hT_v1 hG hS hE (lv_sub hl [0, 1, 2, 3] rfl) hF
theorem c_X12_acts (l : Launch) (D : va_G) (cA : Nat → ClassId) (base : Nat) (ad : Nat → Nat) (σ : Hp) (n : Nat) (a0 : Nat) (a1 : Nat) (a2 : Int32) (hT_a0 : hT σ a0 12) (hT_a1 : hT σ a1 13) {τ : Hp} (hF : F_X12_acts n a0 a1 a2 σ = some τ) : MV l yX12_acts cX12_acts 5 rm_X12_acts D cA base ad σ [.ref (ad a0), .ref (ad a1), .int a2] τ := by
  refine Met.ofW (cc := cX12_acts) (maxL := 5) (ret := none) (by decide) rfl ?_
  intro p e s m args below meth c s₁ B hml hv
  obtain ⟨rfl, hv⟩ := hv
  have X : SX D cA base p s m ([.ref (ad a0), .ref (ad a1), .int a2] : List Value).toArray meth c cX12_acts 5 none RX12 := sx_of B hml hv
  have hG := hv.1
  have hS : va_S (bA base) s.heap s.heap [] := va_S.rf
  have hE := xT.rf σ
  have hl := lv_entry ([.ref (ad a0), .ref (ad a1), .int a2]) (n := 5) (Nat.le_of_ble_eq_true rfl)
  rw [lg_entry_eq]
  generalize (lg_sl ([.ref (ad a0), .ref (ad a1), .int a2]) ++ List.replicate (5 - (lg_sl ([.ref (ad a0), .ref (ad a1), .int a2])).length) Slot.unset).toArray = ls at hl ⊢
  have hl : lv_has ls 5 [(0, .ref (ad a0)), (1, .ref (ad a1)), (2, .int a2)] := hl
  unfold F_X12_acts at hF
  refine lv_aload_n X.1 X.2.1 dX12_acts_0 rfl (lv_at hl 0 rfl) ?_
  refine lv_aload_n X.1 X.2.1 dX12_acts_1 rfl (lv_at hl 1 rfl) ?_
  refine lv_bipush (v := 7) X.1 X.2.1 dX12_acts_2 (by decide) ?_
  refine lv_iload_n X.1 X.2.1 dX12_acts_4 rfl (lv_at hl 2 rfl) ?_
  refine lv_iadd X.1 X.2.1 dX12_acts_5 ?_
  refine gx_iald X hG hT_a1 hF dX12_acts_6 (fun hF => ?_)
  refine lv_iconst (v := 0) X.1 X.2.1 dX12_acts_7 (by decide) ?_
  obtain ⟨r12, σ11, hz, hF⟩ := b2_ex hF
  refine gx_rI (gx_runV (As := [.int (hI σ a1 (7 + a2).toNatClampNeg), .int 0]) (rest := []) X hG hS hT_a0.1 (hT_a0.eq (by decide)) (by decide) rfl (c_X12_get l D cA base ad σ n a0 (hI σ a1 (7 + a2).toNatClampNeg) 0 hT_a0 hz) k_1099 k_1096 k_1098 ks_19 k_4 (h_X12_get) rfl rfl ⟨by decide, by decide⟩ rfl hl.1 rfl (Nat.le_of_ble_eq_true rfl) dX12_acts_8 ⟨Nat.zero_le _, Nat.zero_le _⟩) hS (fun H locs hG hS hX => ?_)
  have hT_a0 := hX.T hT_a0
  have hT_a1 := hX.T hT_a1
  replace hE := hE.trans hX
  refine lv_istore_n (lv' := [(3, .int r12), (0, .ref (ad a0)), (1, .ref (ad a1)), (2, .int a2)]) X.1 X.2.1 dX12_acts_11 rfl hl (by decide) rfl (fun ls hl => ?_)
  refine lv_iload_n X.1 X.2.1 dX12_acts_12 rfl (lv_at hl 0 rfl) ?_
  refine lv_iconst (v := 1) X.1 X.2.1 dX12_acts_13 (by decide) ?_
  refine lv_icmp_eq (tgt := 22) X.1 X.2.1 dX12_acts_14 (by decide) (fun hc => ?_) (fun hc => ?_)
  · replace hF := it_t hF hc
    exact w_X12_acts_22 X n  a0 a1 a2 r12 σ11 _ _ ls hT_a0 hT_a1 hG hS hE (lv_sub hl [1, 2, 3, 0] rfl) hF
  · replace hF := it_f hF hc
    refine lv_iload_n X.1 X.2.1 dX12_acts_17 rfl (lv_at hl 0 rfl) ?_
    refine lv_iconst (v := 4) X.1 X.2.1 dX12_acts_18 (by decide) ?_
    refine lv_icmp_ne (tgt := 28) X.1 X.2.1 dX12_acts_19 (by decide) (fun hc => ?_) (fun hc => ?_)
    · replace hF := it_f hF hc
      exact w_X12_acts_28 X n  a0 a1 a2 r12 σ11 _ _ ls hT_a0 hT_a1 hG hS hE (lv_sub hl [1, 2, 3, 0] rfl) hF
    · replace hF := it_t hF hc
      exact w_X12_acts_22 X n  a0 a1 a2 r12 σ11 _ _ ls hT_a0 hT_a1 hG hS hE (lv_sub hl [1, 2, 3, 0] rfl) hF
theorem w_X12_turn_92 {σ0 τ : Hp} (X : SX D cA base p s m args meth c cX12_turn 4 none RX12) (n : Nat)  : ∀ (v0 : Nat) (v1 : Nat) (σ : Hp) (H : Heap) (locs : List Loc) (ls : Array Slot), hT σ v0 12 → hT σ v1 13 → GW D cA base ad σ H → va_S (bA base) s.heap H locs → xT σ0 σ → lv_has ls 4 [(0, .ref (ad v0)), (1, .ref (ad v1))] → F_X12_turn_92 n  v0 v1 σ = some τ → W p l e rm_X12_turn s m args below meth c H locs 0 0 (ZV below s args D cA base ad σ0 τ) (F0 m 92 ls []) := by
  intro v0 v1 σ H locs ls hT_v0 hT_v1 hG hS hE hl hF
  unfold F_X12_turn_92 at hF
  refine lv_aload_n X.1 X.2.1 dX12_turn_92 rfl (lv_at hl 0 rfl) ?_
  refine lv_aload_n X.1 X.2.1 dX12_turn_93 rfl (lv_at hl 1 rfl) ?_
  obtain ⟨σ1, hz, hF⟩ := b1_ex hF
  refine gx_rV (gx_runV (As := [.ref (ad v1)]) (rest := []) X hG hS hT_v0.1 (hT_v0.eq (by decide)) (by decide) rfl (c_X12_counts l D cA base ad σ n v0 v1 hT_v0 hT_v1 hz) k_1208 k_1205 k_1207 ks_39 k_4 (h_X12_counts) rfl rfl ⟨by decide, by decide⟩ rfl hl.1 rfl (Nat.le_of_ble_eq_true rfl) dX12_turn_94 ⟨Nat.zero_le _, Nat.zero_le _⟩) hS (fun H locs hG hS hX => ?_)
  have hT_v0 := hX.T hT_v0
  have hT_v1 := hX.T hT_v1
  replace hE := hE.trans hX
  exact gx_vret X hG hS hE hF dX12_turn_97
theorem w_X12_turn_85 {σ0 τ : Hp} (X : SX D cA base p s m args meth c cX12_turn 4 none RX12) (n : Nat) (K_59 : Nat → Nat → Int32 → Hp → Option Hp) (hK_59 : ∀ (v0 : Nat) (v1 : Nat) (v3 : Int32) (σ : Hp) (H : Heap) (locs : List Loc) (ls : Array Slot), hT σ v0 12 → hT σ v1 13 → GW D cA base ad σ H → va_S (bA base) s.heap H locs → xT σ0 σ → lv_has ls 4 [(0, .ref (ad v0)), (1, .ref (ad v1)), (3, .int v3)] → K_59 v0 v1 v3 σ = some τ → W p l e rm_X12_turn s m args below meth c H locs 0 0 (ZV below s args D cA base ad σ0 τ) (F0 m 59 ls [])) : ∀ (v0 : Nat) (v1 : Nat) (v3 : Int32) (s0 : Int32) (s1 : Int32) (s2 : Nat) (σ : Hp) (H : Heap) (locs : List Loc) (ls : Array Slot), hT σ v0 12 → hT σ v1 13 → hT σ s2 13 → GW D cA base ad σ H → va_S (bA base) s.heap H locs → xT σ0 σ → lv_has ls 4 [(0, .ref (ad v0)), (1, .ref (ad v1)), (3, .int v3)] → F_X12_turn_85 n K_59 v0 v1 v3 s0 s1 s2 σ = some τ → W p l e rm_X12_turn s m args below meth c H locs 0 0 (ZV below s args D cA base ad σ0 τ) (F0 m 85 ls [.int s0, .int s1, .ref (ad s2)]) := by
  intro v0 v1 v3 s0 s1 s2 σ H locs ls hT_v0 hT_v1 hT_s2 hG hS hE hl hF
  unfold F_X12_turn_85 at hF
  refine gx_iast X hG hS hT_s2 hF dX12_turn_85 (fun σ2 H locs hG hS hX hF => ?_)
  have hT_v0 := hX.T hT_v0
  have hT_v1 := hX.T hT_v1
  replace hE := hE.trans hX
  refine lv_iinc (v := v3 + 1) (lv' := [(3, .int (v3 + 1)), (0, .ref (ad v0)), (1, .ref (ad v1))]) X.1 X.2.1 dX12_turn_86 hl (k := 2) rfl rfl (by decide) rfl (fun ls hl => ?_)
  refine lv_goto (tgt := 59) X.1 X.2.1 dX12_turn_89 (by decide) ?_
  exact hK_59 v0 v1 (v3 + 1) σ2 _ _ ls hT_v0 hT_v1 hG hS hE (lv_sub hl [1, 2, 0] rfl) hF
theorem w_X12_turn_59 {σ0 τ : Hp} (X : SX D cA base p s m args meth c cX12_turn 4 none RX12) (n : Nat)  : ∀ f : Nat, ∀ (v0 : Nat) (v1 : Nat) (v3 : Int32) (σ : Hp) (H : Heap) (locs : List Loc) (ls : Array Slot), hT σ v0 12 → hT σ v1 13 → GW D cA base ad σ H → va_S (bA base) s.heap H locs → xT σ0 σ → lv_has ls 4 [(0, .ref (ad v0)), (1, .ref (ad v1)), (3, .int v3)] → F_X12_turn_59 n  f v0 v1 v3 σ = some τ → W p l e rm_X12_turn s m args below meth c H locs 0 0 (ZV below s args D cA base ad σ0 τ) (F0 m 59 ls []) := by
  intro f
  induction f with
  | zero => intro v0 v1 v3 σ H locs ls h0 h1 hG hS hE hl hF
            rw [F_X12_turn_59] at hF; cases hF
  | succ f ih =>
    intro v0 v1 v3 σ H locs ls hT_v0 hT_v1 hG hS hE hl hF
    rw [F_X12_turn_59] at hF
    refine lv_iload_n X.1 X.2.1 dX12_turn_59 rfl (lv_at hl 2 rfl) ?_
    refine lv_aload_n X.1 X.2.1 dX12_turn_60 rfl (lv_at hl 1 rfl) ?_
    refine lv_iconst (v := 5) X.1 X.2.1 dX12_turn_61 (by decide) ?_
    refine gx_iald X hG hT_v1 hF dX12_turn_62 (fun hF => ?_)
    refine lv_icmp_ge (tgt := 92) X.1 X.2.1 dX12_turn_63 (by decide) (fun hc => ?_) (fun hc => ?_)
    · replace hF := it_t hF hc
      exact w_X12_turn_92 X n  v0 v1 σ _ _ ls hT_v0 hT_v1 hG hS hE (lv_sub hl [0, 1] rfl) hF
    · replace hF := it_f hF hc
      refine lv_aload_n X.1 X.2.1 dX12_turn_66 rfl (lv_at hl 1 rfl) ?_
      refine lv_bipush (v := 43) X.1 X.2.1 dX12_turn_67 (by decide) ?_
      refine lv_iload_n X.1 X.2.1 dX12_turn_69 rfl (lv_at hl 2 rfl) ?_
      refine lv_iadd X.1 X.2.1 dX12_turn_70 ?_
      refine lv_aload_n X.1 X.2.1 dX12_turn_71 rfl (lv_at hl 0 rfl) ?_
      refine lv_aload_n X.1 X.2.1 dX12_turn_72 rfl (lv_at hl 1 rfl) ?_
      refine lv_iload_n X.1 X.2.1 dX12_turn_73 rfl (lv_at hl 2 rfl) ?_
      obtain ⟨r4, σ3, hz, hF⟩ := b2_ex hF
      refine gx_rI (gx_runV (As := [.ref (ad v1), .int v3]) (rest := [.int (43 + v3), .ref (ad v1)]) X hG hS hT_v0.1 (hT_v0.eq (by decide)) (by decide) rfl (c_X12_saysYes l D cA base ad σ n v0 v1 v3 hT_v0 hT_v1 hz) k_1200 k_1197 k_1199 ks_37 k_4 (h_X12_saysYes) rfl rfl ⟨by decide, by decide⟩ rfl hl.1 rfl (Nat.le_of_ble_eq_true rfl) dX12_turn_74 ⟨Nat.zero_le _, Nat.zero_le _⟩) hS (fun H locs hG hS hX => ?_)
      have hT_v0 := hX.T hT_v0
      have hT_v1 := hX.T hT_v1
      replace hE := hE.trans hX
      refine lv_if_eq (tgt := 84) X.1 X.2.1 dX12_turn_77 (by decide) (fun hc => ?_) (fun hc => ?_)
      · replace hF := it_t hF hc
        refine lv_iconst (v := 0) X.1 X.2.1 dX12_turn_84 (by decide) ?_
        exact w_X12_turn_85 X n (F_X12_turn_59 n  f) ih v0 v1 v3 0 (43 + v3) v1 σ3 _ _ ls hT_v0 hT_v1 hT_v1 hG hS hE (lv_sub hl [0, 1, 2] rfl) hF
      · replace hF := it_f hF hc
        refine lv_iconst (v := 1) X.1 X.2.1 dX12_turn_80 (by decide) ?_
        refine lv_goto (tgt := 85) X.1 X.2.1 dX12_turn_81 (by decide) ?_
        exact w_X12_turn_85 X n (F_X12_turn_59 n  f) ih v0 v1 v3 1 (43 + v3) v1 σ3 _ _ ls hT_v0 hT_v1 hT_v1 hG hS hE (lv_sub hl [0, 1, 2] rfl) hF
theorem c_X12_turn (l : Launch) (D : va_G) (cA : Nat → ClassId) (base : Nat) (ad : Nat → Nat) (σ : Hp) (n : Nat) (a0 : Nat) (a1 : Nat) (hT_a0 : hT σ a0 12) (hT_a1 : hT σ a1 13) {τ : Hp} (hF : F_X12_turn n a0 a1 σ = some τ) : MV l yX12_turn cX12_turn 4 rm_X12_turn D cA base ad σ [.ref (ad a0), .ref (ad a1)] τ := by
  refine Met.ofW (cc := cX12_turn) (maxL := 4) (ret := none) (by decide) rfl ?_
  intro p e s m args below meth c s₁ B hml hv
  obtain ⟨rfl, hv⟩ := hv
  have X : SX D cA base p s m ([.ref (ad a0), .ref (ad a1)] : List Value).toArray meth c cX12_turn 4 none RX12 := sx_of B hml hv
  have hG := hv.1
  have hS : va_S (bA base) s.heap s.heap [] := va_S.rf
  have hE := xT.rf σ
  have hl := lv_entry ([.ref (ad a0), .ref (ad a1)]) (n := 4) (Nat.le_of_ble_eq_true rfl)
  rw [lg_entry_eq]
  generalize (lg_sl ([.ref (ad a0), .ref (ad a1)]) ++ List.replicate (4 - (lg_sl ([.ref (ad a0), .ref (ad a1)])).length) Slot.unset).toArray = ls at hl ⊢
  have hl : lv_has ls 4 [(0, .ref (ad a0)), (1, .ref (ad a1))] := hl
  unfold F_X12_turn at hF
  refine lv_aload_n X.1 X.2.1 dX12_turn_0 rfl (lv_at hl 1 rfl) ?_
  refine lv_iconst (v := 4) X.1 X.2.1 dX12_turn_1 (by decide) ?_
  refine gx_iald X hG hT_a1 hF dX12_turn_2 (fun hF => ?_)
  refine lv_istore_n (lv' := [(2, .int (hI σ a1 (4 : Int32).toNatClampNeg)), (0, .ref (ad a0)), (1, .ref (ad a1))]) X.1 X.2.1 dX12_turn_3 rfl hl (by decide) rfl (fun ls hl => ?_)
  refine lv_aload_n X.1 X.2.1 dX12_turn_4 rfl (lv_at hl 1 rfl) ?_
  refine lv_aload_n X.1 X.2.1 dX12_turn_5 rfl (lv_at hl 2 rfl) ?_
  refine lv_iload_n X.1 X.2.1 dX12_turn_6 rfl (lv_at hl 0 rfl) ?_
  obtain ⟨σ5, hz, hF⟩ := b1_ex hF
  refine gx_rV (gx_runV (As := [.ref (ad a1), .int (hI σ a1 (4 : Int32).toNatClampNeg)]) (rest := []) X hG hS hT_a0.1 (hT_a0.eq (by decide)) (by decide) rfl (c_X12_acts l D cA base ad σ n a0 a1 (hI σ a1 (4 : Int32).toNatClampNeg) hT_a0 hT_a1 hz) k_1232 k_1229 k_1231 ks_43 k_4 (h_X12_acts) rfl rfl ⟨by decide, by decide⟩ rfl hl.1 rfl (Nat.le_of_ble_eq_true rfl) dX12_turn_7 ⟨Nat.zero_le _, Nat.zero_le _⟩) hS (fun H locs hG hS hX => ?_)
  have hT_a0 := hX.T hT_a0
  have hT_a1 := hX.T hT_a1
  replace hE := hE.trans hX
  refine lv_aload_n X.1 X.2.1 dX12_turn_10 rfl (lv_at hl 2 rfl) ?_
  refine lv_iconst (v := 0) X.1 X.2.1 dX12_turn_11 (by decide) ?_
  refine lv_dup2_11 X.1 X.2.1 dX12_turn_12 rfl rfl ?_
  refine gx_iald X hG hT_a1 hF dX12_turn_13 (fun hF => ?_)
  refine lv_aload_n X.1 X.2.1 dX12_turn_14 rfl (lv_at hl 1 rfl) ?_
  refine lv_aload_n X.1 X.2.1 dX12_turn_15 rfl (lv_at hl 2 rfl) ?_
  refine lv_bipush (v := 7) X.1 X.2.1 dX12_turn_16 (by decide) ?_
  refine lv_iload_n X.1 X.2.1 dX12_turn_18 rfl (lv_at hl 0 rfl) ?_
  refine lv_iadd X.1 X.2.1 dX12_turn_19 ?_
  refine gx_iald X hG hT_a1 hF dX12_turn_20 (fun hF => ?_)
  refine lv_iconst (v := 2) X.1 X.2.1 dX12_turn_21 (by decide) ?_
  obtain ⟨r7, σ6, hz, hF⟩ := b2_ex hF
  refine gx_rI (gx_runV (As := [.int (hI σ5 a1 (7 + (hI σ a1 (4 : Int32).toNatClampNeg)).toNatClampNeg), .int 2]) (rest := [.int (hI σ5 a1 (0 : Int32).toNatClampNeg), .int 0, .ref (ad a1)]) X hG hS hT_a0.1 (hT_a0.eq (by decide)) (by decide) rfl (c_X12_get l D cA base ad σ5 n a0 (hI σ5 a1 (7 + (hI σ a1 (4 : Int32).toNatClampNeg)).toNatClampNeg) 2 hT_a0 hz) k_1099 k_1096 k_1098 ks_19 k_4 (h_X12_get) rfl rfl ⟨by decide, by decide⟩ rfl hl.1 rfl (Nat.le_of_ble_eq_true rfl) dX12_turn_22 ⟨Nat.zero_le _, Nat.zero_le _⟩) hS (fun H locs hG hS hX => ?_)
  have hT_a0 := hX.T hT_a0
  have hT_a1 := hX.T hT_a1
  replace hE := hE.trans hX
  refine lv_iadd X.1 X.2.1 dX12_turn_25 ?_
  refine gx_iast X hG hS hT_a1 hF dX12_turn_26 (fun σ8 H locs hG hS hX hF => ?_)
  have hT_a0 := hX.T hT_a0
  have hT_a1 := hX.T hT_a1
  replace hE := hE.trans hX
  refine lv_aload_n X.1 X.2.1 dX12_turn_27 rfl (lv_at hl 2 rfl) ?_
  refine lv_iconst (v := 3) X.1 X.2.1 dX12_turn_28 (by decide) ?_
  refine lv_dup2_11 X.1 X.2.1 dX12_turn_29 rfl rfl ?_
  refine gx_iald X hG hT_a1 hF dX12_turn_30 (fun hF => ?_)
  refine lv_iconst (v := 1) X.1 X.2.1 dX12_turn_31 (by decide) ?_
  refine lv_iadd X.1 X.2.1 dX12_turn_32 ?_
  refine gx_iast X hG hS hT_a1 hF dX12_turn_33 (fun σ9 H locs hG hS hX hF => ?_)
  have hT_a0 := hX.T hT_a0
  have hT_a1 := hX.T hT_a1
  replace hE := hE.trans hX
  refine lv_aload_n X.1 X.2.1 dX12_turn_34 rfl (lv_at hl 2 rfl) ?_
  refine lv_iconst (v := 4) X.1 X.2.1 dX12_turn_35 (by decide) ?_
  refine lv_iload_n X.1 X.2.1 dX12_turn_36 rfl (lv_at hl 0 rfl) ?_
  refine lv_iconst (v := 1) X.1 X.2.1 dX12_turn_37 (by decide) ?_
  refine lv_iadd X.1 X.2.1 dX12_turn_38 ?_
  refine lv_aload_n X.1 X.2.1 dX12_turn_39 rfl (lv_at hl 2 rfl) ?_
  refine lv_iconst (v := 5) X.1 X.2.1 dX12_turn_40 (by decide) ?_
  refine gx_iald X hG hT_a1 hF dX12_turn_41 (fun hF => ?_)
  obtain ⟨hne, hF⟩ := ck_ex hF
  refine lv_irem X.1 X.2.1 dX12_turn_42 hne ?_
  refine gx_iast X hG hS hT_a1 hF dX12_turn_43 (fun σ10 H locs hG hS hX hF => ?_)
  have hT_a0 := hX.T hT_a0
  have hT_a1 := hX.T hT_a1
  replace hE := hE.trans hX
  refine lv_aload_n X.1 X.2.1 dX12_turn_44 rfl (lv_at hl 1 rfl) ?_
  refine lv_aload_n X.1 X.2.1 dX12_turn_45 rfl (lv_at hl 2 rfl) ?_
  refine lv_iconst (v := 1) X.1 X.2.1 dX12_turn_46 (by decide) ?_
  refine gx_iald X hG hT_a1 hF dX12_turn_47 (fun hF => ?_)
  refine lv_aload_n X.1 X.2.1 dX12_turn_48 rfl (lv_at hl 2 rfl) ?_
  refine lv_iconst (v := 2) X.1 X.2.1 dX12_turn_49 (by decide) ?_
  refine gx_iald X hG hT_a1 hF dX12_turn_50 (fun hF => ?_)
  refine lv_aload_n X.1 X.2.1 dX12_turn_51 rfl (lv_at hl 2 rfl) ?_
  refine lv_iconst (v := 0) X.1 X.2.1 dX12_turn_52 (by decide) ?_
  refine gx_iald X hG hT_a1 hF dX12_turn_53 (fun hF => ?_)
  obtain ⟨σ11, hz, hF⟩ := b1_ex hF
  refine gx_rV (gx_runV (As := [.int (hI σ10 a1 (1 : Int32).toNatClampNeg), .int (hI σ10 a1 (2 : Int32).toNatClampNeg), .int (hI σ10 a1 (0 : Int32).toNatClampNeg)]) (rest := []) X hG hS hT_a0.1 (hT_a0.eq (by decide)) (by decide) rfl (c_X12_sees l D cA base ad σ10 n a0 (hI σ10 a1 (1 : Int32).toNatClampNeg) (hI σ10 a1 (2 : Int32).toNatClampNeg) (hI σ10 a1 (0 : Int32).toNatClampNeg) hT_a0 hz) k_1152 k_1149 k_1151 ks_28 k_4 (h_X12_sees) rfl rfl ⟨by decide, by decide⟩ rfl hl.1 rfl (Nat.le_of_ble_eq_true rfl) dX12_turn_54 ⟨Nat.zero_le _, Nat.zero_le _⟩) hS (fun H locs hG hS hX => ?_)
  have hT_a0 := hX.T hT_a0
  have hT_a1 := hX.T hT_a1
  replace hE := hE.trans hX
  refine lv_iconst (v := 0) X.1 X.2.1 dX12_turn_57 (by decide) ?_
  refine lv_istore_n (lv' := [(3, .int 0), (2, .int (hI σ a1 (4 : Int32).toNatClampNeg)), (0, .ref (ad a0)), (1, .ref (ad a1))]) X.1 X.2.1 dX12_turn_58 rfl hl (by decide) rfl (fun ls hl => ?_)
  exact w_X12_turn_59 X n  n a0 a1 0 σ11 _ _ ls hT_a0 hT_a1 hG hS hE (lv_sub hl [2, 3, 0] rfl) hF
theorem w_X12_takesAll_11 {σ0 τ : Hp} (X : SX D cA base p s m args meth c cX12_takesAll 3 none RX12) (n : Nat)  : ∀ f : Nat, ∀ (v0 : Nat) (v1 : Nat) (v2 : Int32) (σ : Hp) (H : Heap) (locs : List Loc) (ls : Array Slot), hT σ v0 12 → hT σ v1 13 → GW D cA base ad σ H → va_S (bA base) s.heap H locs → xT σ0 σ → lv_has ls 3 [(0, .ref (ad v0)), (1, .ref (ad v1)), (2, .int v2)] → F_X12_takesAll_11 n  f v0 v1 v2 σ = some τ → W p l e rm_X12_takesAll s m args below meth c H locs 0 0 (ZV below s args D cA base ad σ0 τ) (F0 m 11 ls []) := by
  intro f
  induction f with
  | zero => intro v0 v1 v2 σ H locs ls h0 h1 hG hS hE hl hF
            rw [F_X12_takesAll_11] at hF; cases hF
  | succ f ih =>
    intro v0 v1 v2 σ H locs ls hT_v0 hT_v1 hG hS hE hl hF
    rw [F_X12_takesAll_11] at hF
    refine lv_iload_n X.1 X.2.1 dX12_takesAll_11 rfl (lv_at hl 2 rfl) ?_
    refine lv_aload_n X.1 X.2.1 dX12_takesAll_12 rfl (lv_at hl 0 rfl) ?_
    obtain ⟨i1, hr, hF⟩ := b1_ex hF
    have hT_i1 : hT σ i1 13 := gw_T hG hT_v0 (by decide) hr
    refine gx_get 0 (v := .ref (ad i1)) X hG hT_v0.1 (hT_v0.eq (by decide)) (by decide) rfl inX12 (by decide) k_960 (fun _ h => h) (gx_rfv hr) dX12_takesAll_13 ?_
    refine lv_iconst (v := 1) X.1 X.2.1 dX12_takesAll_16 (by decide) ?_
    refine gx_iald X hG hT_i1 hF dX12_takesAll_17 (fun hF => ?_)
    refine lv_icmp_ge (tgt := 47) X.1 X.2.1 dX12_takesAll_18 (by decide) (fun hc => ?_) (fun hc => ?_)
    · replace hF := it_t hF hc
      exact gx_vret X hG hS hE hF dX12_takesAll_47
    · replace hF := it_f hF hc
      refine lv_aload_n X.1 X.2.1 dX12_takesAll_21 rfl (lv_at hl 1 rfl) ?_
      refine lv_bipush (v := 7) X.1 X.2.1 dX12_takesAll_22 (by decide) ?_
      refine lv_iload_n X.1 X.2.1 dX12_takesAll_24 rfl (lv_at hl 2 rfl) ?_
      refine lv_iadd X.1 X.2.1 dX12_takesAll_25 ?_
      refine lv_iload_n X.1 X.2.1 dX12_takesAll_26 rfl (lv_at hl 2 rfl) ?_
      refine gx_iast X hG hS hT_v1 hF dX12_takesAll_27 (fun σ2 H locs hG hS hX hF => ?_)
      have hT_v0 := hX.T hT_v0
      have hT_v1 := hX.T hT_v1
      replace hE := hE.trans hX
      refine lv_aload_n X.1 X.2.1 dX12_takesAll_28 rfl (lv_at hl 1 rfl) ?_
      refine lv_bipush (v := 19) X.1 X.2.1 dX12_takesAll_29 (by decide) ?_
      refine lv_iload_n X.1 X.2.1 dX12_takesAll_31 rfl (lv_at hl 2 rfl) ?_
      refine lv_iadd X.1 X.2.1 dX12_takesAll_32 ?_
      refine lv_aload_n X.1 X.2.1 dX12_takesAll_33 rfl (lv_at hl 0 rfl) ?_
      refine lv_iload_n X.1 X.2.1 dX12_takesAll_34 rfl (lv_at hl 2 rfl) ?_
      refine lv_bipush (v := 6) X.1 X.2.1 dX12_takesAll_35 (by decide) ?_
      obtain ⟨r4, σ3, hz, hF⟩ := b2_ex hF
      refine gx_rI (gx_runV (As := [.int v2, .int 6]) (rest := [.int (19 + v2), .ref (ad v1)]) X hG hS hT_v0.1 (hT_v0.eq (by decide)) (by decide) rfl (c_X12_get l D cA base ad σ2 n v0 v2 6 hT_v0 hz) k_1099 k_1096 k_1098 ks_19 k_4 (h_X12_get) rfl rfl ⟨by decide, by decide⟩ rfl hl.1 rfl (Nat.le_of_ble_eq_true rfl) dX12_takesAll_37 ⟨Nat.zero_le _, Nat.zero_le _⟩) hS (fun H locs hG hS hX => ?_)
      have hT_v0 := hX.T hT_v0
      have hT_v1 := hX.T hT_v1
      replace hE := hE.trans hX
      refine gx_iast X hG hS hT_v1 hF dX12_takesAll_40 (fun σ5 H locs hG hS hX hF => ?_)
      have hT_v0 := hX.T hT_v0
      have hT_v1 := hX.T hT_v1
      replace hE := hE.trans hX
      refine lv_iinc (v := v2 + 1) (lv' := [(2, .int (v2 + 1)), (0, .ref (ad v0)), (1, .ref (ad v1))]) X.1 X.2.1 dX12_takesAll_41 hl (k := 2) rfl rfl (by decide) rfl (fun ls hl => ?_)
      refine lv_goto (tgt := 11) X.1 X.2.1 dX12_takesAll_44 (by decide) ?_
      exact ih v0 v1 (v2 + 1) σ5 _ _ ls hT_v0 hT_v1 hG hS hE (lv_sub hl [1, 2, 0] rfl) hF
theorem c_X12_takesAll (l : Launch) (D : va_G) (cA : Nat → ClassId) (base : Nat) (ad : Nat → Nat) (σ : Hp) (n : Nat) (a0 : Nat) (a1 : Nat) (hT_a0 : hT σ a0 12) (hT_a1 : hT σ a1 13) {τ : Hp} (hF : F_X12_takesAll n a0 a1 σ = some τ) : MV l yX12_takesAll cX12_takesAll 3 rm_X12_takesAll D cA base ad σ [.ref (ad a0), .ref (ad a1)] τ := by
  refine Met.ofW (cc := cX12_takesAll) (maxL := 3) (ret := none) (by decide) rfl ?_
  intro p e s m args below meth c s₁ B hml hv
  obtain ⟨rfl, hv⟩ := hv
  have X : SX D cA base p s m ([.ref (ad a0), .ref (ad a1)] : List Value).toArray meth c cX12_takesAll 3 none RX12 := sx_of B hml hv
  have hG := hv.1
  have hS : va_S (bA base) s.heap s.heap [] := va_S.rf
  have hE := xT.rf σ
  have hl := lv_entry ([.ref (ad a0), .ref (ad a1)]) (n := 3) (Nat.le_of_ble_eq_true rfl)
  rw [lg_entry_eq]
  generalize (lg_sl ([.ref (ad a0), .ref (ad a1)]) ++ List.replicate (3 - (lg_sl ([.ref (ad a0), .ref (ad a1)])).length) Slot.unset).toArray = ls at hl ⊢
  have hl : lv_has ls 3 [(0, .ref (ad a0)), (1, .ref (ad a1))] := hl
  unfold F_X12_takesAll at hF
  refine lv_aload_n X.1 X.2.1 dX12_takesAll_0 rfl (lv_at hl 1 rfl) ?_
  refine lv_iconst (v := 5) X.1 X.2.1 dX12_takesAll_1 (by decide) ?_
  refine lv_aload_n X.1 X.2.1 dX12_takesAll_2 rfl (lv_at hl 0 rfl) ?_
  obtain ⟨i6, hr, hF⟩ := b1_ex hF
  have hT_i6 : hT σ i6 13 := gw_T hG hT_a0 (by decide) hr
  refine gx_get 0 (v := .ref (ad i6)) X hG hT_a0.1 (hT_a0.eq (by decide)) (by decide) rfl inX12 (by decide) k_960 (fun _ h => h) (gx_rfv hr) dX12_takesAll_3 ?_
  refine lv_iconst (v := 1) X.1 X.2.1 dX12_takesAll_6 (by decide) ?_
  refine gx_iald X hG hT_i6 hF dX12_takesAll_7 (fun hF => ?_)
  refine gx_iast X hG hS hT_a1 hF dX12_takesAll_8 (fun σ7 H locs hG hS hX hF => ?_)
  have hT_a0 := hX.T hT_a0
  have hT_a1 := hX.T hT_a1
  replace hE := hE.trans hX
  refine lv_iconst (v := 0) X.1 X.2.1 dX12_takesAll_9 (by decide) ?_
  refine lv_istore_n (lv' := [(2, .int 0), (0, .ref (ad a0)), (1, .ref (ad a1))]) X.1 X.2.1 dX12_takesAll_10 rfl hl (by decide) rfl (fun ls hl => ?_)
  exact w_X12_takesAll_11 X n  n a0 a1 0 σ7 _ _ ls hT_a0 hT_a1 hG hS hE (lv_sub hl [1, 2, 0] rfl) hF
theorem c_X12_leaderOf (l : Launch) (D : va_G) (cA : Nat → ClassId) (base : Nat) (ad : Nat → Nat) (σ : Hp) (n : Nat) (a0 : Nat) (a1 : Int32) (hT_a0 : hT σ a0 12) {τ : Hp} {r : Int32} (hF : F_X12_leaderOf n a0 a1 σ = some (r, τ)) : MI l yX12_leaderOf cX12_leaderOf 2 (some .int) rm_X12_leaderOf D cA base ad σ [.ref (ad a0), .int a1] r τ := by
  refine Met.ofW (cc := cX12_leaderOf) (maxL := 2) (ret := (some .int)) (by decide) rfl ?_
  intro p e s m args below meth c s₁ B hml hv
  obtain ⟨rfl, hv⟩ := hv
  have X : SX D cA base p s m ([.ref (ad a0), .int a1] : List Value).toArray meth c cX12_leaderOf 2 (some .int) RX12 := sx_of B hml hv
  have hG := hv.1
  have hS : va_S (bA base) s.heap s.heap [] := va_S.rf
  have hE := xT.rf σ
  have hl := lv_entry ([.ref (ad a0), .int a1]) (n := 2) (Nat.le_of_ble_eq_true rfl)
  rw [lg_entry_eq]
  generalize (lg_sl ([.ref (ad a0), .int a1]) ++ List.replicate (2 - (lg_sl ([.ref (ad a0), .int a1])).length) Slot.unset).toArray = ls at hl ⊢
  have hl : lv_has ls 2 [(0, .ref (ad a0)), (1, .int a1)] := hl
  unfold F_X12_leaderOf at hF
  refine lv_aload_n X.1 X.2.1 dX12_leaderOf_0 rfl (lv_at hl 0 rfl) ?_
  obtain ⟨i1, hr, hF⟩ := b1_ex hF
  have hT_i1 : hT σ i1 13 := gw_T hG hT_a0 (by decide) hr
  refine gx_get 0 (v := .ref (ad i1)) X hG hT_a0.1 (hT_a0.eq (by decide)) (by decide) rfl inX12 (by decide) k_960 (fun _ h => h) (gx_rfv hr) dX12_leaderOf_1 ?_
  refine lv_iconst (v := 4) X.1 X.2.1 dX12_leaderOf_4 (by decide) ?_
  refine gx_iald X hG hT_i1 hF dX12_leaderOf_5 (fun hF => ?_)
  refine lv_iload_n X.1 X.2.1 dX12_leaderOf_6 rfl (lv_at hl 1 rfl) ?_
  refine lv_icmp_ge (tgt := 19) X.1 X.2.1 dX12_leaderOf_7 (by decide) (fun hc => ?_) (fun hc => ?_)
  · replace hF := it_t hF hc
    refine lv_iconst (v := 0) X.1 X.2.1 dX12_leaderOf_19 (by decide) ?_
    exact gx_iret X hG hS hE hF dX12_leaderOf_20
  · replace hF := it_f hF hc
    refine lv_aload_n X.1 X.2.1 dX12_leaderOf_10 rfl (lv_at hl 0 rfl) ?_
    obtain ⟨i2, hr, hF⟩ := b1_ex hF
    have hT_i2 : hT σ i2 13 := gw_T hG hT_a0 (by decide) hr
    refine gx_get 0 (v := .ref (ad i2)) X hG hT_a0.1 (hT_a0.eq (by decide)) (by decide) rfl inX12 (by decide) k_960 (fun _ h => h) (gx_rfv hr) dX12_leaderOf_11 ?_
    refine lv_iconst (v := 4) X.1 X.2.1 dX12_leaderOf_14 (by decide) ?_
    refine gx_iald X hG hT_i2 hF dX12_leaderOf_15 (fun hF => ?_)
    refine lv_goto (tgt := 20) X.1 X.2.1 dX12_leaderOf_16 (by decide) ?_
    exact gx_iret X hG hS hE hF dX12_leaderOf_20
end W_model7
