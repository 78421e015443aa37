/-! model11: printed by wip/whole/gen.py -/
section W_model11
variable {p : Program} {l : Launch} {e : Env} {s : State} {m : MethodId} {args : Array Value} {below : List Frame} {meth : Method} {c : Code} {D : va_G} {cA : Nat → ClassId} {base : Nat} {ad : Nat → Nat}
abbrev rm_X12_runWithout : Room := { frames := 37, cells := 0, slots := 0, locals := 878 }
theorem h_X12_runWithout : yX12_runWithout.cls = RX12 ∧ yX12_runWithout.cls ≠ "java/lang/invoke/MethodHandle" ∧ yX12_runWithout.cls ≠ "java/lang/invoke/VarHandle" ∧ (parseMethodDescriptor yX12_runWithout.desc).map (fun d => d.parameters.length) = some 1 := by decide +kernel
def F_X12_runWithout_132 (n : Nat)  (s0 : Int32) (s1 : Int32) (s2 : Int32) (s3 : Nat) (σ : Hp) : Option (Int32 × Hp) := b2 (F_X12_runs n s3 s2 s1 s0 σ) fun (r2 : Int32) (σ1 : Hp) => some (r2, σ1)
def F_X12_runWithout_117 (n : Nat)  (v0 : Nat) (s0 : Int32) (s1 : Int32) (s2 : Nat) (σ : Hp) : Option (Int32 × Hp) := b1 (hR σ v0 0) fun (i3 : Nat) => ck (¬ ((5 : Int32) < 0 ∨ hL σ i3 ≤ (5 : Int32).toNatClampNeg)) (if (hI σ i3 (5 : Int32).toNatClampNeg) = 1 then (F_X12_runWithout_132 n  1 s0 s1 s2 σ) else (F_X12_runWithout_132 n  0 s0 s1 s2 σ))
def F_X12_runWithout_85 (n : Nat)  (v0 : Nat) (v1 : Int32) (v2 : Int32) (v3 : Int32) (σ : Hp) : Option (Int32 × Hp) := b1 (hR σ v0 5) fun (i4 : Nat) => ck (¬ ((5 : Int32) < 0 ∨ hL σ i4 ≤ (5 : Int32).toNatClampNeg)) (lt (pI σ i4 (5 : Int32).toNatClampNeg v2) fun (σ5 : Hp) => b2 (F_X12_neededNow n v0 σ5) fun (r7 : Int32) (σ6 : Hp) => b2 (F_X12_bits n v1 σ6) fun (r9 : Int32) (σ8 : Hp) => if 1 ≤ (r7 - r9) then (F_X12_runWithout_117 n  v0 (r7 - r9) v3 v0 σ8) else (F_X12_runWithout_117 n  v0 1 v3 v0 σ8))
def F_X12_runWithout_79 (n : Nat) (K_7 : Nat → Int32 → Int32 → Int32 → Int32 → Hp → Option (Int32 × Hp)) (v0 : Nat) (v1 : Int32) (v2 : Int32) (v3 : Int32) (v4 : Int32) (σ : Hp) : Option (Int32 × Hp) := K_7 v0 v1 v2 v3 (v4 + 1) σ
def F_X12_runWithout_48 (n : Nat) (K_7 : Nat → Int32 → Int32 → Int32 → Int32 → Hp → Option (Int32 × Hp)) (v0 : Nat) (v1 : Int32) (v2 : Int32) (v3 : Int32) (v4 : Int32) (σ : Hp) : Option (Int32 × Hp) := b1 (hR σ v0 5) fun (i10 : Nat) => ck (¬ ((7 + v2) < 0 ∨ hL σ i10 ≤ (7 + v2).toNatClampNeg)) (lt (pI σ i10 (7 + v2).toNatClampNeg v4) fun (σ11 : Hp) => b1 (hR σ11 v0 5) fun (i12 : Nat) => b2 (F_X12_get n v0 v4 6 σ11) fun (r14 : Int32) (σ13 : Hp) => ck (¬ ((19 + v2) < 0 ∨ hL σ13 i12 ≤ (19 + v2).toNatClampNeg)) (lt (pI σ13 i12 (19 + v2).toNatClampNeg r14) fun (σ15 : Hp) => F_X12_runWithout_79 n K_7 v0 v1 (v2 + 1) v3 v4 σ15))
def F_X12_runWithout_7 (n : Nat)  : Nat → Nat → Int32 → Int32 → Int32 → Int32 → Hp → Option (Int32 × Hp)
  | 0, _, _, _, _, _, _ => none
  | f + 1, v0, v1, v2, v3, v4, σ => b1 (hR σ v0 0) fun (i16 : Nat) => ck (¬ ((1 : Int32) < 0 ∨ hL σ i16 ≤ (1 : Int32).toNatClampNeg)) (if (hI σ i16 (1 : Int32).toNatClampNeg) ≤ v4 then (F_X12_runWithout_85 n  v0 v1 v2 v3 σ) else (if ((v1 >>> (v4 &&& 31)) &&& 1) = 1 then (F_X12_runWithout_79 n (F_X12_runWithout_7 n  f) v0 v1 v2 v3 v4 σ) else (b1 (hR σ v0 0) fun (i17 : Nat) => ck (¬ ((1 : Int32) < 0 ∨ hL σ i17 ≤ (1 : Int32).toNatClampNeg)) (b2 (F_X12_leaderOf n v0 (hI σ i17 (1 : Int32).toNatClampNeg) σ) fun (r19 : Int32) (σ18 : Hp) => if v4 = r19 then (F_X12_runWithout_48 n (F_X12_runWithout_7 n  f) v0 v1 v2 v2 v4 σ18) else (F_X12_runWithout_48 n (F_X12_runWithout_7 n  f) v0 v1 v2 v3 v4 σ18)))))
def F_X12_runWithout (n : Nat) (a0 : Nat) (a1 : Int32) (σ : Hp) : Option (Int32 × Hp) := F_X12_runWithout_7 n  n a0 a1 0 0 0 σ
abbrev rm_X12_leftOut : Room := { frames := 38, cells := 0, slots := 0, locals := 902 }
theorem h_X12_leftOut : yX12_leftOut.cls = RX12 ∧ yX12_leftOut.cls ≠ "java/lang/invoke/MethodHandle" ∧ yX12_leftOut.cls ≠ "java/lang/invoke/VarHandle" ∧ (parseMethodDescriptor yX12_leftOut.desc).map (fun d => d.parameters.length) = some 1 := by decide +kernel
def F_X12_leftOut_82 (n : Nat) (K_28 : Nat → Int32 → Int32 → Hp → Option (Int32 × Hp)) (v0 : Nat) (v1 : Int32) (v2 : Int32) (σ : Hp) : Option (Int32 × Hp) := K_28 v0 v1 (v2 + 1) σ
def F_X12_leftOut_76 (n : Nat) (K_28 : Nat → Int32 → Int32 → Hp → Option (Int32 × Hp)) (K_45 : Nat → Int32 → Int32 → Int32 → Hp → Option (Int32 × Hp)) (v0 : Nat) (v1 : Int32) (v2 : Int32) (v3 : Int32) (σ : Hp) : Option (Int32 × Hp) := K_45 v0 v1 v2 (v3 + 1) σ
def F_X12_leftOut_45 (n : Nat) (K_28 : Nat → Int32 → Int32 → Hp → Option (Int32 × Hp)) : Nat → Nat → Int32 → Int32 → Int32 → Hp → Option (Int32 × Hp)
  | 0, _, _, _, _, _ => none
  | f + 1, v0, v1, v2, v3, σ => b1 (hR σ v0 0) fun (i1 : Nat) => ck (¬ ((1 : Int32) < 0 ∨ hL σ i1 ≤ (1 : Int32).toNatClampNeg)) (if (1 <<< ((hI σ i1 (1 : Int32).toNatClampNeg) &&& 31)) ≤ v3 then (F_X12_leftOut_82 n K_28 v0 v1 v2 σ) else (b2 (F_X12_bits n v3 σ) fun (r3 : Int32) (σ2 : Hp) => if r3 = v2 then (b2 (F_X12_runWithout n v0 v3 σ2) fun (r5 : Int32) (σ4 : Hp) => if r5 = v1 then (some (v3, σ4)) else (F_X12_leftOut_76 n K_28 (F_X12_leftOut_45 n K_28 f) v0 v1 v2 v3 σ4)) else (F_X12_leftOut_76 n K_28 (F_X12_leftOut_45 n K_28 f) v0 v1 v2 v3 σ2)))
def F_X12_leftOut_28 (n : Nat)  : Nat → Nat → Int32 → Int32 → Hp → Option (Int32 × Hp)
  | 0, _, _, _, _ => none
  | f + 1, v0, v1, v2, σ => if 4 ≤ v2 then (some ((-4), σ)) else (b1 (hR σ v0 0) fun (i6 : Nat) => ck (¬ ((1 : Int32) < 0 ∨ hL σ i6 ≤ (1 : Int32).toNatClampNeg)) (if (hI σ i6 (1 : Int32).toNatClampNeg) ≤ v2 then (some ((-4), σ)) else (F_X12_leftOut_45 n (F_X12_leftOut_28 n  f) n v0 v1 v2 0 σ)))
def F_X12_leftOut (n : Nat) (a0 : Nat) (a1 : Int32) (σ : Hp) : Option (Int32 × Hp) := b2 (F_X12_isIn n a1.toInt64 0 2 σ) fun (r8 : Int32) (σ7 : Hp) => if r8 = 0 then (some ((-1), σ7)) else (b1 (hR σ7 a0 0) fun (i9 : Nat) => ck (¬ ((1 : Int32) < 0 ∨ hL σ7 i9 ≤ (1 : Int32).toNatClampNeg)) (if (hI σ7 i9 (1 : Int32).toNatClampNeg) = 0 then (some ((-3), σ7)) else (F_X12_leftOut_28 n  n a0 a1 0 σ7)))
theorem w_X12_runWithout_132 {σ0 τ : Hp} {r : Int32} (X : SX D cA base p s m args meth c cX12_runWithout 5 (some .int) RX12) (n : Nat)  : ∀ (s0 : Int32) (s1 : Int32) (s2 : Int32) (s3 : Nat) (σ : Hp) (H : Heap) (locs : List Loc) (ls : Array Slot), hT σ s3 12 → GW D cA base ad σ H → va_S (bA base) s.heap H locs → xT σ0 σ → lv_has ls 5 [] → F_X12_runWithout_132 n  s0 s1 s2 s3 σ = some (r, τ) → W p l e rm_X12_runWithout s m args below meth c H locs 0 0 (ZI below s args D cA base ad σ0 r τ) (F0 m 132 ls [.int s0, .int s1, .int s2, .ref (ad s3)]) := by
  intro s0 s1 s2 s3 σ H locs ls hT_s3 hG hS hE hl hF
  unfold F_X12_runWithout_132 at hF
  obtain ⟨r2, σ1, hz, hF⟩ := b2_ex hF
  refine gx_rI (gx_runV (As := [.int s2, .int s1, .int s0]) (rest := []) X hG hS hT_s3.1 (hT_s3.eq (by decide)) (by decide) rfl (c_X12_runs l D cA base ad σ n s3 s2 s1 s0 hT_s3 hz) k_1274 k_1271 k_1273 ks_50 k_4 (h_X12_runs) rfl rfl ⟨by decide, by decide⟩ rfl hl.1 rfl (Nat.le_of_ble_eq_true rfl) dX12_runWithout_132 ⟨Nat.zero_le _, Nat.zero_le _⟩) hS (fun H locs hG hS hX => ?_)
  replace hE := hE.trans hX
  exact gx_iret X hG hS hE hF dX12_runWithout_135
theorem w_X12_runWithout_117 {σ0 τ : Hp} {r : Int32} (X : SX D cA base p s m args meth c cX12_runWithout 5 (some .int) RX12) (n : Nat)  : ∀ (v0 : Nat) (s0 : Int32) (s1 : Int32) (s2 : Nat) (σ : Hp) (H : Heap) (locs : List Loc) (ls : Array Slot), hT σ v0 12 → hT σ s2 12 → GW D cA base ad σ H → va_S (bA base) s.heap H locs → xT σ0 σ → lv_has ls 5 [(0, .ref (ad v0))] → F_X12_runWithout_117 n  v0 s0 s1 s2 σ = some (r, τ) → W p l e rm_X12_runWithout s m args below meth c H locs 0 0 (ZI below s args D cA base ad σ0 r τ) (F0 m 117 ls [.int s0, .int s1, .ref (ad s2)]) := by
  intro v0 s0 s1 s2 σ H locs ls hT_v0 hT_s2 hG hS hE hl hF
  unfold F_X12_runWithout_117 at hF
  refine lv_aload_n X.1 X.2.1 dX12_runWithout_117 rfl (lv_at hl 0 rfl) ?_
  obtain ⟨i3, hr, hF⟩ := b1_ex hF
  have hT_i3 : hT σ i3 13 := gw_T hG hT_v0 (by decide) hr
  refine gx_get 0 (v := .ref (ad i3)) X hG hT_v0.1 (hT_v0.eq (by decide)) (by decide) rfl inX12 (by decide) k_960 (fun _ h => h) (gx_rfv hr) dX12_runWithout_118 ?_
  refine lv_iconst (v := 5) X.1 X.2.1 dX12_runWithout_121 (by decide) ?_
  refine gx_iald X hG hT_i3 hF dX12_runWithout_122 (fun hF => ?_)
  refine lv_iconst (v := 1) X.1 X.2.1 dX12_runWithout_123 (by decide) ?_
  refine lv_icmp_ne (tgt := 131) X.1 X.2.1 dX12_runWithout_124 (by decide) (fun hc => ?_) (fun hc => ?_)
  · replace hF := it_f hF hc
    refine lv_iconst (v := 0) X.1 X.2.1 dX12_runWithout_131 (by decide) ?_
    exact w_X12_runWithout_132 X n  0 s0 s1 s2 σ _ _ ls hT_s2 hG hS hE (lv_sub hl [] rfl) hF
  · replace hF := it_t hF hc
    refine lv_iconst (v := 1) X.1 X.2.1 dX12_runWithout_127 (by decide) ?_
    refine lv_goto (tgt := 132) X.1 X.2.1 dX12_runWithout_128 (by decide) ?_
    exact w_X12_runWithout_132 X n  1 s0 s1 s2 σ _ _ ls hT_s2 hG hS hE (lv_sub hl [] rfl) hF
theorem w_X12_runWithout_85 {σ0 τ : Hp} {r : Int32} (X : SX D cA base p s m args meth c cX12_runWithout 5 (some .int) RX12) (n : Nat)  : ∀ (v0 : Nat) (v1 : Int32) (v2 : Int32) (v3 : Int32) (σ : Hp) (H : Heap) (locs : List Loc) (ls : Array Slot), hT σ v0 12 → GW D cA base ad σ H → va_S (bA base) s.heap H locs → xT σ0 σ → lv_has ls 5 [(0, .ref (ad v0)), (1, .int v1), (2, .int v2), (3, .int v3)] → F_X12_runWithout_85 n  v0 v1 v2 v3 σ = some (r, τ) → W p l e rm_X12_runWithout s m args below meth c H locs 0 0 (ZI below s args D cA base ad σ0 r τ) (F0 m 85 ls []) := by
  intro v0 v1 v2 v3 σ H locs ls hT_v0 hG hS hE hl hF
  unfold F_X12_runWithout_85 at hF
  refine lv_aload_n X.1 X.2.1 dX12_runWithout_85 rfl (lv_at hl 0 rfl) ?_
  obtain ⟨i4, hr, hF⟩ := b1_ex hF
  have hT_i4 : hT σ i4 13 := gw_T hG hT_v0 (by decide) hr
  refine gx_get 5 (v := .ref (ad i4)) X hG hT_v0.1 (hT_v0.eq (by decide)) (by decide) rfl inX12 (by decide) k_965 (fun _ h => h) (gx_rfv hr) dX12_runWithout_86 ?_
  refine lv_iconst (v := 5) X.1 X.2.1 dX12_runWithout_89 (by decide) ?_
  refine lv_iload_n X.1 X.2.1 dX12_runWithout_90 rfl (lv_at hl 2 rfl) ?_
  refine gx_iast X hG hS hT_i4 hF dX12_runWithout_91 (fun σ5 H locs hG hS hX hF => ?_)
  have hT_v0 := hX.T hT_v0
  replace hE := hE.trans hX
  refine lv_aload_n X.1 X.2.1 dX12_runWithout_92 rfl (lv_at hl 0 rfl) ?_
  obtain ⟨r7, σ6, hz, hF⟩ := b2_ex hF
  refine gx_rI (gx_runV (As := []) (rest := []) X hG hS hT_v0.1 (hT_v0.eq (by decide)) (by decide) rfl (c_X12_neededNow l D cA base ad σ5 n v0 hT_v0 hz) k_1217 k_1214 k_1216 ks_40 k_4 (h_X12_neededNow) rfl rfl ⟨by decide, by decide⟩ rfl hl.1 rfl (Nat.le_of_ble_eq_true rfl) dX12_runWithout_93 ⟨Nat.zero_le _, Nat.zero_le _⟩) hS (fun H locs hG hS hX => ?_)
  have hT_v0 := hX.T hT_v0
  replace hE := hE.trans hX
  refine lv_iload_n X.1 X.2.1 dX12_runWithout_96 rfl (lv_at hl 1 rfl) ?_
  obtain ⟨r9, σ8, hz, hF⟩ := b2_ex hF
  refine gx_rI (gx_runS (As := [.int v1]) (rest := [.int r7]) X hG hS (c_X12_bits l D cA base ad σ6 n v1 hz) k_1322 k_1320 k_1321 k_4 (h_X12_bits.2) rfl rfl ⟨by decide, by decide⟩ rfl hl.1 rfl (Nat.le_of_ble_eq_true rfl) dX12_runWithout_97 ⟨Nat.zero_le _, Nat.zero_le _⟩) hS (fun H locs hG hS hX => ?_)
  have hT_v0 := hX.T hT_v0
  replace hE := hE.trans hX
  refine lv_isub X.1 X.2.1 dX12_runWithout_100 ?_
  refine lv_istore (lv' := [(4, .int (r7 - r9)), (0, .ref (ad v0)), (1, .int v1), (2, .int v2), (3, .int v3)]) X.1 X.2.1 dX12_runWithout_101 hl (by decide) rfl (fun ls hl => ?_)
  refine lv_aload_n X.1 X.2.1 dX12_runWithout_103 rfl (lv_at hl 1 rfl) ?_
  refine lv_iload_n X.1 X.2.1 dX12_runWithout_104 rfl (lv_at hl 4 rfl) ?_
  refine lv_iload X.1 X.2.1 dX12_runWithout_105 (lv_at hl 0 rfl) ?_
  refine lv_iconst (v := 1) X.1 X.2.1 dX12_runWithout_107 (by decide) ?_
  refine lv_icmp_ge (tgt := 115) X.1 X.2.1 dX12_runWithout_108 (by decide) (fun hc => ?_) (fun hc => ?_)
  · replace hF := it_t hF hc
    refine lv_iload X.1 X.2.1 dX12_runWithout_115 (lv_at hl 0 rfl) ?_
    exact w_X12_runWithout_117 X n  v0 (r7 - r9) v3 v0 σ8 _ _ ls hT_v0 hT_v0 hG hS hE (lv_sub hl [1] rfl) hF
  · replace hF := it_f hF hc
    refine lv_iconst (v := 1) X.1 X.2.1 dX12_runWithout_111 (by decide) ?_
    refine lv_goto (tgt := 117) X.1 X.2.1 dX12_runWithout_112 (by decide) ?_
    exact w_X12_runWithout_117 X n  v0 1 v3 v0 σ8 _ _ ls hT_v0 hT_v0 hG hS hE (lv_sub hl [1] rfl) hF
theorem w_X12_runWithout_79 {σ0 τ : Hp} {r : Int32} (X : SX D cA base p s m args meth c cX12_runWithout 5 (some .int) RX12) (n : Nat) (K_7 : Nat → Int32 → Int32 → Int32 → Int32 → Hp → Option (Int32 × Hp)) (hK_7 : ∀ (v0 : Nat) (v1 : Int32) (v2 : Int32) (v3 : Int32) (v4 : Int32) (σ : Hp) (H : Heap) (locs : List Loc) (ls : Array Slot), hT σ v0 12 → GW D cA base ad σ H → va_S (bA base) s.heap H locs → xT σ0 σ → lv_has ls 5 [(0, .ref (ad v0)), (1, .int v1), (2, .int v2), (3, .int v3), (4, .int v4)] → K_7 v0 v1 v2 v3 v4 σ = some (r, τ) → W p l e rm_X12_runWithout s m args below meth c H locs 0 0 (ZI below s args D cA base ad σ0 r τ) (F0 m 7 ls [])) : ∀ (v0 : Nat) (v1 : Int32) (v2 : Int32) (v3 : Int32) (v4 : Int32) (σ : Hp) (H : Heap) (locs : List Loc) (ls : Array Slot), hT σ v0 12 → GW D cA base ad σ H → va_S (bA base) s.heap H locs → xT σ0 σ → lv_has ls 5 [(0, .ref (ad v0)), (1, .int v1), (2, .int v2), (3, .int v3), (4, .int v4)] → F_X12_runWithout_79 n K_7 v0 v1 v2 v3 v4 σ = some (r, τ) → W p l e rm_X12_runWithout s m args below meth c H locs 0 0 (ZI below s args D cA base ad σ0 r τ) (F0 m 79 ls []) := by
  intro v0 v1 v2 v3 v4 σ H locs ls hT_v0 hG hS hE hl hF
  unfold F_X12_runWithout_79 at hF
  refine lv_iinc (v := v4 + 1) (lv' := [(4, .int (v4 + 1)), (0, .ref (ad v0)), (1, .int v1), (2, .int v2), (3, .int v3)]) X.1 X.2.1 dX12_runWithout_79 hl (k := 4) rfl rfl (by decide) rfl (fun ls hl => ?_)
  refine lv_goto (tgt := 7) X.1 X.2.1 dX12_runWithout_82 (by decide) ?_
  exact hK_7 v0 v1 v2 v3 (v4 + 1) σ _ _ ls hT_v0 hG hS hE (lv_sub hl [1, 2, 3, 4, 0] rfl) hF
theorem w_X12_runWithout_48 {σ0 τ : Hp} {r : Int32} (X : SX D cA base p s m args meth c cX12_runWithout 5 (some .int) RX12) (n : Nat) (K_7 : Nat → Int32 → Int32 → Int32 → Int32 → Hp → Option (Int32 × Hp)) (hK_7 : ∀ (v0 : Nat) (v1 : Int32) (v2 : Int32) (v3 : Int32) (v4 : Int32) (σ : Hp) (H : Heap) (locs : List Loc) (ls : Array Slot), hT σ v0 12 → GW D cA base ad σ H → va_S (bA base) s.heap H locs → xT σ0 σ → lv_has ls 5 [(0, .ref (ad v0)), (1, .int v1), (2, .int v2), (3, .int v3), (4, .int v4)] → K_7 v0 v1 v2 v3 v4 σ = some (r, τ) → W p l e rm_X12_runWithout s m args below meth c H locs 0 0 (ZI below s args D cA base ad σ0 r τ) (F0 m 7 ls [])) : ∀ (v0 : Nat) (v1 : Int32) (v2 : Int32) (v3 : Int32) (v4 : Int32) (σ : Hp) (H : Heap) (locs : List Loc) (ls : Array Slot), hT σ v0 12 → GW D cA base ad σ H → va_S (bA base) s.heap H locs → xT σ0 σ → lv_has ls 5 [(0, .ref (ad v0)), (1, .int v1), (2, .int v2), (3, .int v3), (4, .int v4)] → F_X12_runWithout_48 n K_7 v0 v1 v2 v3 v4 σ = some (r, τ) → W p l e rm_X12_runWithout s m args below meth c H locs 0 0 (ZI below s args D cA base ad σ0 r τ) (F0 m 48 ls []) := by
  intro v0 v1 v2 v3 v4 σ H locs ls hT_v0 hG hS hE hl hF
  unfold F_X12_runWithout_48 at hF
  refine lv_aload_n X.1 X.2.1 dX12_runWithout_48 rfl (lv_at hl 0 rfl) ?_
  obtain ⟨i10, hr, hF⟩ := b1_ex hF
  have hT_i10 : hT σ i10 13 := gw_T hG hT_v0 (by decide) hr
  refine gx_get 5 (v := .ref (ad i10)) X hG hT_v0.1 (hT_v0.eq (by decide)) (by decide) rfl inX12 (by decide) k_965 (fun _ h => h) (gx_rfv hr) dX12_runWithout_49 ?_
  refine lv_bipush (v := 7) X.1 X.2.1 dX12_runWithout_52 (by decide) ?_
  refine lv_iload_n X.1 X.2.1 dX12_runWithout_54 rfl (lv_at hl 2 rfl) ?_
  refine lv_iadd X.1 X.2.1 dX12_runWithout_55 ?_
  refine lv_iload X.1 X.2.1 dX12_runWithout_56 (lv_at hl 4 rfl) ?_
  refine gx_iast X hG hS hT_i10 hF dX12_runWithout_58 (fun σ11 H locs hG hS hX hF => ?_)
  have hT_v0 := hX.T hT_v0
  replace hE := hE.trans hX
  refine lv_aload_n X.1 X.2.1 dX12_runWithout_59 rfl (lv_at hl 0 rfl) ?_
  obtain ⟨i12, hr, hF⟩ := b1_ex hF
  have hT_i12 : hT σ11 i12 13 := gw_T hG hT_v0 (by decide) hr
  refine gx_get 5 (v := .ref (ad i12)) X hG hT_v0.1 (hT_v0.eq (by decide)) (by decide) rfl inX12 (by decide) k_965 (fun _ h => h) (gx_rfv hr) dX12_runWithout_60 ?_
  refine lv_bipush (v := 19) X.1 X.2.1 dX12_runWithout_63 (by decide) ?_
  refine lv_iload_n X.1 X.2.1 dX12_runWithout_65 rfl (lv_at hl 2 rfl) ?_
  refine lv_iadd X.1 X.2.1 dX12_runWithout_66 ?_
  refine lv_aload_n X.1 X.2.1 dX12_runWithout_67 rfl (lv_at hl 0 rfl) ?_
  refine lv_iload X.1 X.2.1 dX12_runWithout_68 (lv_at hl 4 rfl) ?_
  refine lv_bipush (v := 6) X.1 X.2.1 dX12_runWithout_70 (by decide) ?_
  obtain ⟨r14, σ13, hz, hF⟩ := b2_ex hF
  refine gx_rI (gx_runV (As := [.int v4, .int 6]) (rest := [.int (19 + v2), .ref (ad i12)]) X hG hS hT_v0.1 (hT_v0.eq (by decide)) (by decide) rfl (c_X12_get l D cA base ad σ11 n v0 v4 6 hT_v0 hz) k_1099 k_1096 k_1098 ks_19 k_4 (h_X12_get) rfl rfl ⟨by decide, by decide⟩ rfl hl.1 rfl (Nat.le_of_ble_eq_true rfl) dX12_runWithout_72 ⟨Nat.zero_le _, Nat.zero_le _⟩) hS (fun H locs hG hS hX => ?_)
  have hT_v0 := hX.T hT_v0
  have hT_i12 := hX.T hT_i12
  replace hE := hE.trans hX
  refine gx_iast X hG hS hT_i12 hF dX12_runWithout_75 (fun σ15 H locs hG hS hX hF => ?_)
  have hT_v0 := hX.T hT_v0
  replace hE := hE.trans hX
  refine lv_iinc (v := v2 + 1) (lv' := [(2, .int (v2 + 1)), (0, .ref (ad v0)), (1, .int v1), (3, .int v3), (4, .int v4)]) X.1 X.2.1 dX12_runWithout_76 hl (k := 2) rfl rfl (by decide) rfl (fun ls hl => ?_)
  exact w_X12_runWithout_79 X n K_7 hK_7 v0 v1 (v2 + 1) v3 v4 σ15 _ _ ls hT_v0 hG hS hE (lv_sub hl [1, 2, 0, 3, 4] rfl) hF
theorem w_X12_runWithout_7 {σ0 τ : Hp} {r : Int32} (X : SX D cA base p s m args meth c cX12_runWithout 5 (some .int) RX12) (n : Nat)  : ∀ f : Nat, ∀ (v0 : Nat) (v1 : Int32) (v2 : Int32) (v3 : Int32) (v4 : Int32) (σ : Hp) (H : Heap) (locs : List Loc) (ls : Array Slot), hT σ v0 12 → GW D cA base ad σ H → va_S (bA base) s.heap H locs → xT σ0 σ → lv_has ls 5 [(0, .ref (ad v0)), (1, .int v1), (2, .int v2), (3, .int v3), (4, .int v4)] → F_X12_runWithout_7 n  f v0 v1 v2 v3 v4 σ = some (r, τ) → W p l e rm_X12_runWithout s m args below meth c H locs 0 0 (ZI below s args D cA base ad σ0 r τ) (F0 m 7 ls []) := by
  intro f
  induction f with
  | zero => intro v0 v1 v2 v3 v4 σ H locs ls h0 hG hS hE hl hF
            rw [F_X12_runWithout_7] at hF; cases hF
  | succ f ih =>
    intro v0 v1 v2 v3 v4 σ H locs ls hT_v0 hG hS hE hl hF
    rw [F_X12_runWithout_7] at hF
    refine lv_iload X.1 X.2.1 dX12_runWithout_7 (lv_at hl 4 rfl) ?_
    refine lv_aload_n X.1 X.2.1 dX12_runWithout_9 rfl (lv_at hl 0 rfl) ?_
    obtain ⟨i16, hr, hF⟩ := b1_ex hF
    have hT_i16 : hT σ i16 13 := gw_T hG hT_v0 (by decide) hr
    refine gx_get 0 (v := .ref (ad i16)) X hG hT_v0.1 (hT_v0.eq (by decide)) (by decide) rfl inX12 (by decide) k_960 (fun _ h => h) (gx_rfv hr) dX12_runWithout_10 ?_
    refine lv_iconst (v := 1) X.1 X.2.1 dX12_runWithout_13 (by decide) ?_
    refine gx_iald X hG hT_i16 hF dX12_runWithout_14 (fun hF => ?_)
    refine lv_icmp_ge (tgt := 85) X.1 X.2.1 dX12_runWithout_15 (by decide) (fun hc => ?_) (fun hc => ?_)
    · replace hF := it_t hF hc
      exact w_X12_runWithout_85 X n  v0 v1 v2 v3 σ _ _ ls hT_v0 hG hS hE (lv_sub hl [0, 1, 2, 3] rfl) hF
    · replace hF := it_f hF hc
      refine lv_iload_n X.1 X.2.1 dX12_runWithout_18 rfl (lv_at hl 1 rfl) ?_
      refine lv_iload X.1 X.2.1 dX12_runWithout_19 (lv_at hl 4 rfl) ?_
      refine lv_ishr X.1 X.2.1 dX12_runWithout_21 ?_
      refine lv_iconst (v := 1) X.1 X.2.1 dX12_runWithout_22 (by decide) ?_
      refine lv_iand X.1 X.2.1 dX12_runWithout_23 ?_
      refine lv_iconst (v := 1) X.1 X.2.1 dX12_runWithout_24 (by decide) ?_
      refine lv_icmp_ne (tgt := 31) X.1 X.2.1 dX12_runWithout_25 (by decide) (fun hc => ?_) (fun hc => ?_)
      · replace hF := it_f hF hc
        refine lv_iload X.1 X.2.1 dX12_runWithout_31 (lv_at hl 4 rfl) ?_
        refine lv_aload_n X.1 X.2.1 dX12_runWithout_33 rfl (lv_at hl 0 rfl) ?_
        refine lv_aload_n X.1 X.2.1 dX12_runWithout_34 rfl (lv_at hl 0 rfl) ?_
        obtain ⟨i17, hr, hF⟩ := b1_ex hF
        have hT_i17 : hT σ i17 13 := gw_T hG hT_v0 (by decide) hr
        refine gx_get 0 (v := .ref (ad i17)) X hG hT_v0.1 (hT_v0.eq (by decide)) (by decide) rfl inX12 (by decide) k_960 (fun _ h => h) (gx_rfv hr) dX12_runWithout_35 ?_
        refine lv_iconst (v := 1) X.1 X.2.1 dX12_runWithout_38 (by decide) ?_
        refine gx_iald X hG hT_i17 hF dX12_runWithout_39 (fun hF => ?_)
        obtain ⟨r19, σ18, hz, hF⟩ := b2_ex hF
        refine gx_rI (gx_runV (As := [.int (hI σ i17 (1 : Int32).toNatClampNeg)]) (rest := [.int v4]) X hG hS hT_v0.1 (hT_v0.eq (by decide)) (by decide) rfl (c_X12_leaderOf l D cA base ad σ n v0 (hI σ i17 (1 : Int32).toNatClampNeg) hT_v0 hz) k_1192 k_1189 k_1191 ks_35 k_4 (h_X12_leaderOf) rfl rfl ⟨by decide, by decide⟩ rfl hl.1 rfl (Nat.le_of_ble_eq_true rfl) dX12_runWithout_40 ⟨Nat.zero_le _, Nat.zero_le _⟩) hS (fun H locs hG hS hX => ?_)
        have hT_v0 := hX.T hT_v0
        replace hE := hE.trans hX
        refine lv_icmp_ne (tgt := 48) X.1 X.2.1 dX12_runWithout_43 (by decide) (fun hc => ?_) (fun hc => ?_)
        · replace hF := it_f hF hc
          exact w_X12_runWithout_48 X n (F_X12_runWithout_7 n  f) ih v0 v1 v2 v3 v4 σ18 _ _ ls hT_v0 hG hS hE (lv_sub hl [0, 1, 2, 3, 4] rfl) hF
        · replace hF := it_t hF hc
          refine lv_iload_n X.1 X.2.1 dX12_runWithout_46 rfl (lv_at hl 2 rfl) ?_
          refine lv_istore_n (lv' := [(3, .int v2), (0, .ref (ad v0)), (1, .int v1), (2, .int v2), (4, .int v4)]) X.1 X.2.1 dX12_runWithout_47 rfl hl (by decide) rfl (fun ls hl => ?_)
          exact w_X12_runWithout_48 X n (F_X12_runWithout_7 n  f) ih v0 v1 v2 v2 v4 σ18 _ _ ls hT_v0 hG hS hE (lv_sub hl [1, 2, 3, 0, 4] rfl) hF
      · replace hF := it_t hF hc
        refine lv_goto (tgt := 79) X.1 X.2.1 dX12_runWithout_28 (by decide) ?_
        exact w_X12_runWithout_79 X n (F_X12_runWithout_7 n  f) ih v0 v1 v2 v3 v4 σ _ _ ls hT_v0 hG hS hE (lv_sub hl [0, 1, 2, 3, 4] rfl) hF
theorem c_X12_runWithout (l : Launch) (D : va_G) (cA : Nat → ClassId) (base : Nat) (ad : Nat → Nat) (σ : Hp) (n : Nat) (a0 : Nat) (a1 : Int32) (hT_a0 : hT σ a0 12) {τ : Hp} {r : Int32} (hF : F_X12_runWithout n a0 a1 σ = some (r, τ)) : MI l yX12_runWithout cX12_runWithout 5 (some .int) rm_X12_runWithout D cA base ad σ [.ref (ad a0), .int a1] r τ := by
  refine Met.ofW (cc := cX12_runWithout) (maxL := 5) (ret := (some .int)) (by decide) rfl ?_
  intro p e s m args below meth c s₁ B hml hv
  obtain ⟨rfl, hv⟩ := hv
  have X : SX D cA base p s m ([.ref (ad a0), .int a1] : List Value).toArray meth c cX12_runWithout 5 (some .int) RX12 := sx_of B hml hv
  have hG := hv.1
  have hS : va_S (bA base) s.heap s.heap [] := va_S.rf
  have hE := xT.rf σ
  have hl := lv_entry ([.ref (ad a0), .int a1]) (n := 5) (Nat.le_of_ble_eq_true rfl)
  rw [lg_entry_eq]
  generalize (lg_sl ([.ref (ad a0), .int a1]) ++ List.replicate (5 - (lg_sl ([.ref (ad a0), .int a1])).length) Slot.unset).toArray = ls at hl ⊢
  have hl : lv_has ls 5 [(0, .ref (ad a0)), (1, .int a1)] := hl
  unfold F_X12_runWithout at hF
  refine lv_iconst (v := 0) X.1 X.2.1 dX12_runWithout_0 (by decide) ?_
  refine lv_istore_n (lv' := [(2, .int 0), (0, .ref (ad a0)), (1, .int a1)]) X.1 X.2.1 dX12_runWithout_1 rfl hl (by decide) rfl (fun ls hl => ?_)
  refine lv_iconst (v := 0) X.1 X.2.1 dX12_runWithout_2 (by decide) ?_
  refine lv_istore_n (lv' := [(3, .int 0), (2, .int 0), (0, .ref (ad a0)), (1, .int a1)]) X.1 X.2.1 dX12_runWithout_3 rfl hl (by decide) rfl (fun ls hl => ?_)
  refine lv_iconst (v := 0) X.1 X.2.1 dX12_runWithout_4 (by decide) ?_
  refine lv_istore (lv' := [(4, .int 0), (3, .int 0), (2, .int 0), (0, .ref (ad a0)), (1, .int a1)]) X.1 X.2.1 dX12_runWithout_5 hl (by decide) rfl (fun ls hl => ?_)
  exact w_X12_runWithout_7 X n  n a0 a1 0 0 0 σ _ _ ls hT_a0 hG hS hE (lv_sub hl [3, 4, 2, 1, 0] rfl) hF
theorem w_X12_leftOut_82 {σ0 τ : Hp} {r : Int32} (X : SX D cA base p s m args meth c cX12_leftOut 4 (some .int) RX12) (n : Nat) (K_28 : Nat → Int32 → Int32 → Hp → Option (Int32 × Hp)) (hK_28 : ∀ (v0 : Nat) (v1 : Int32) (v2 : Int32) (σ : Hp) (H : Heap) (locs : List Loc) (ls : Array Slot), hT σ v0 12 → GW D cA base ad σ H → va_S (bA base) s.heap H locs → xT σ0 σ → lv_has ls 4 [(0, .ref (ad v0)), (1, .int v1), (2, .int v2)] → K_28 v0 v1 v2 σ = some (r, τ) → W p l e rm_X12_leftOut s m args below meth c H locs 0 0 (ZI below s args D cA base ad σ0 r τ) (F0 m 28 ls [])) : ∀ (v0 : Nat) (v1 : Int32) (v2 : Int32) (σ : Hp) (H : Heap) (locs : List Loc) (ls : Array Slot), hT σ v0 12 → GW D cA base ad σ H → va_S (bA base) s.heap H locs → xT σ0 σ → lv_has ls 4 [(0, .ref (ad v0)), (1, .int v1), (2, .int v2)] → F_X12_leftOut_82 n K_28 v0 v1 v2 σ = some (r, τ) → W p l e rm_X12_leftOut s m args below meth c H locs 0 0 (ZI below s args D cA base ad σ0 r τ) (F0 m 82 ls []) := by
  intro v0 v1 v2 σ H locs ls hT_v0 hG hS hE hl hF
  unfold F_X12_leftOut_82 at hF
  refine lv_iinc (v := v2 + 1) (lv' := [(2, .int (v2 + 1)), (0, .ref (ad v0)), (1, .int v1)]) X.1 X.2.1 dX12_leftOut_82 hl (k := 2) rfl rfl (by decide) rfl (fun ls hl => ?_)
  refine lv_goto (tgt := 28) X.1 X.2.1 dX12_leftOut_85 (by decide) ?_
  exact hK_28 v0 v1 (v2 + 1) σ _ _ ls hT_v0 hG hS hE (lv_sub hl [1, 2, 0] rfl) hF
theorem w_X12_leftOut_76 {σ0 τ : Hp} {r : Int32} (X : SX D cA base p s m args meth c cX12_leftOut 4 (some .int) RX12) (n : Nat) (K_28 : Nat → Int32 → Int32 → Hp → Option (Int32 × Hp)) (hK_28 : ∀ (v0 : Nat) (v1 : Int32) (v2 : Int32) (σ : Hp) (H : Heap) (locs : List Loc) (ls : Array Slot), hT σ v0 12 → GW D cA base ad σ H → va_S (bA base) s.heap H locs → xT σ0 σ → lv_has ls 4 [(0, .ref (ad v0)), (1, .int v1), (2, .int v2)] → K_28 v0 v1 v2 σ = some (r, τ) → W p l e rm_X12_leftOut s m args below meth c H locs 0 0 (ZI below s args D cA base ad σ0 r τ) (F0 m 28 ls [])) (K_45 : Nat → Int32 → Int32 → Int32 → Hp → Option (Int32 × Hp)) (hK_45 : ∀ (v0 : Nat) (v1 : Int32) (v2 : Int32) (v3 : Int32) (σ : Hp) (H : Heap) (locs : List Loc) (ls : Array Slot), hT σ v0 12 → GW D cA base ad σ H → va_S (bA base) s.heap H locs → xT σ0 σ → lv_has ls 4 [(0, .ref (ad v0)), (1, .int v1), (2, .int v2), (3, .int v3)] → K_45 v0 v1 v2 v3 σ = some (r, τ) → W p l e rm_X12_leftOut s m args below meth c H locs 0 0 (ZI below s args D cA base ad σ0 r τ) (F0 m 45 ls [])) : ∀ (v0 : Nat) (v1 : Int32) (v2 : Int32) (v3 : Int32) (σ : Hp) (H : Heap) (locs : List Loc) (ls : Array Slot), hT σ v0 12 → GW D cA base ad σ H → va_S (bA base) s.heap H locs → xT σ0 σ → lv_has ls 4 [(0, .ref (ad v0)), (1, .int v1), (2, .int v2), (3, .int v3)] → F_X12_leftOut_76 n K_28 K_45 v0 v1 v2 v3 σ = some (r, τ) → W p l e rm_X12_leftOut s m args below meth c H locs 0 0 (ZI below s args D cA base ad σ0 r τ) (F0 m 76 ls []) := by
  intro v0 v1 v2 v3 σ H locs ls hT_v0 hG hS hE hl hF
  unfold F_X12_leftOut_76 at hF
  refine lv_iinc (v := v3 + 1) (lv' := [(3, .int (v3 + 1)), (0, .ref (ad v0)), (1, .int v1), (2, .int v2)]) X.1 X.2.1 dX12_leftOut_76 hl (k := 3) rfl rfl (by decide) rfl (fun ls hl => ?_)
  refine lv_goto (tgt := 45) X.1 X.2.1 dX12_leftOut_79 (by decide) ?_
  exact hK_45 v0 v1 v2 (v3 + 1) σ _ _ ls hT_v0 hG hS hE (lv_sub hl [1, 2, 3, 0] rfl) hF
theorem w_X12_leftOut_45 {σ0 τ : Hp} {r : Int32} (X : SX D cA base p s m args meth c cX12_leftOut 4 (some .int) RX12) (n : Nat) (K_28 : Nat → Int32 → Int32 → Hp → Option (Int32 × Hp)) (hK_28 : ∀ (v0 : Nat) (v1 : Int32) (v2 : Int32) (σ : Hp) (H : Heap) (locs : List Loc) (ls : Array Slot), hT σ v0 12 → GW D cA base ad σ H → va_S (bA base) s.heap H locs → xT σ0 σ → lv_has ls 4 [(0, .ref (ad v0)), (1, .int v1), (2, .int v2)] → K_28 v0 v1 v2 σ = some (r, τ) → W p l e rm_X12_leftOut s m args below meth c H locs 0 0 (ZI below s args D cA base ad σ0 r τ) (F0 m 28 ls [])) : ∀ f : Nat, ∀ (v0 : Nat) (v1 : Int32) (v2 : Int32) (v3 : Int32) (σ : Hp) (H : Heap) (locs : List Loc) (ls : Array Slot), hT σ v0 12 → GW D cA base ad σ H → va_S (bA base) s.heap H locs → xT σ0 σ → lv_has ls 4 [(0, .ref (ad v0)), (1, .int v1), (2, .int v2), (3, .int v3)] → F_X12_leftOut_45 n K_28 f v0 v1 v2 v3 σ = some (r, τ) → W p l e rm_X12_leftOut s m args below meth c H locs 0 0 (ZI below s args D cA base ad σ0 r τ) (F0 m 45 ls []) := by
  intro f
  induction f with
  | zero => intro v0 v1 v2 v3 σ H locs ls h0 hG hS hE hl hF
            rw [F_X12_leftOut_45] at hF; cases hF
  | succ f ih =>
    intro v0 v1 v2 v3 σ H locs ls hT_v0 hG hS hE hl hF
    rw [F_X12_leftOut_45] at hF
    refine lv_iload_n X.1 X.2.1 dX12_leftOut_45 rfl (lv_at hl 3 rfl) ?_
    refine lv_iconst (v := 1) X.1 X.2.1 dX12_leftOut_46 (by decide) ?_
    refine lv_aload_n X.1 X.2.1 dX12_leftOut_47 rfl (lv_at hl 0 rfl) ?_
    obtain ⟨i1, hr, hF⟩ := b1_ex hF
    have hT_i1 : hT σ i1 13 := gw_T hG hT_v0 (by decide) hr
    refine gx_get 0 (v := .ref (ad i1)) X hG hT_v0.1 (hT_v0.eq (by decide)) (by decide) rfl inX12 (by decide) k_960 (fun _ h => h) (gx_rfv hr) dX12_leftOut_48 ?_
    refine lv_iconst (v := 1) X.1 X.2.1 dX12_leftOut_51 (by decide) ?_
    refine gx_iald X hG hT_i1 hF dX12_leftOut_52 (fun hF => ?_)
    refine lv_ishl X.1 X.2.1 dX12_leftOut_53 ?_
    refine lv_icmp_ge (tgt := 82) X.1 X.2.1 dX12_leftOut_54 (by decide) (fun hc => ?_) (fun hc => ?_)
    · replace hF := it_t hF hc
      exact w_X12_leftOut_82 X n K_28 hK_28 v0 v1 v2 σ _ _ ls hT_v0 hG hS hE (lv_sub hl [0, 1, 2] rfl) hF
    · replace hF := it_f hF hc
      refine lv_iload_n X.1 X.2.1 dX12_leftOut_57 rfl (lv_at hl 3 rfl) ?_
      obtain ⟨r3, σ2, hz, hF⟩ := b2_ex hF
      refine gx_rI (gx_runS (As := [.int v3]) (rest := []) X hG hS (c_X12_bits l D cA base ad σ n v3 hz) k_1322 k_1320 k_1321 k_4 (h_X12_bits.2) rfl rfl ⟨by decide, by decide⟩ rfl hl.1 rfl (Nat.le_of_ble_eq_true rfl) dX12_leftOut_58 ⟨Nat.zero_le _, Nat.zero_le _⟩) hS (fun H locs hG hS hX => ?_)
      have hT_v0 := hX.T hT_v0
      replace hE := hE.trans hX
      refine lv_iload_n X.1 X.2.1 dX12_leftOut_61 rfl (lv_at hl 2 rfl) ?_
      refine lv_icmp_ne (tgt := 76) X.1 X.2.1 dX12_leftOut_62 (by decide) (fun hc => ?_) (fun hc => ?_)
      · replace hF := it_f hF hc
        exact w_X12_leftOut_76 X n K_28 hK_28 (F_X12_leftOut_45 n K_28 f) ih v0 v1 v2 v3 σ2 _ _ ls hT_v0 hG hS hE (lv_sub hl [0, 1, 2, 3] rfl) hF
      · replace hF := it_t hF hc
        refine lv_aload_n X.1 X.2.1 dX12_leftOut_65 rfl (lv_at hl 0 rfl) ?_
        refine lv_iload_n X.1 X.2.1 dX12_leftOut_66 rfl (lv_at hl 3 rfl) ?_
        obtain ⟨r5, σ4, hz, hF⟩ := b2_ex hF
        refine gx_rI (gx_runV (As := [.int v3]) (rest := []) X hG hS hT_v0.1 (hT_v0.eq (by decide)) (by decide) rfl (c_X12_runWithout l D cA base ad σ2 n v0 v3 hT_v0 hz) k_1326 k_1323 k_1325 ks_53 k_4 (h_X12_runWithout) rfl rfl ⟨by decide, by decide⟩ rfl hl.1 rfl (Nat.le_of_ble_eq_true rfl) dX12_leftOut_67 ⟨Nat.zero_le _, Nat.zero_le _⟩) hS (fun H locs hG hS hX => ?_)
        have hT_v0 := hX.T hT_v0
        replace hE := hE.trans hX
        refine lv_iload_n X.1 X.2.1 dX12_leftOut_70 rfl (lv_at hl 1 rfl) ?_
        refine lv_icmp_ne (tgt := 76) X.1 X.2.1 dX12_leftOut_71 (by decide) (fun hc => ?_) (fun hc => ?_)
        · replace hF := it_f hF hc
          exact w_X12_leftOut_76 X n K_28 hK_28 (F_X12_leftOut_45 n K_28 f) ih v0 v1 v2 v3 σ4 _ _ ls hT_v0 hG hS hE (lv_sub hl [0, 1, 2, 3] rfl) hF
        · replace hF := it_t hF hc
          refine lv_iload_n X.1 X.2.1 dX12_leftOut_74 rfl (lv_at hl 3 rfl) ?_
          exact gx_iret X hG hS hE hF dX12_leftOut_75
theorem w_X12_leftOut_28 {σ0 τ : Hp} {r : Int32} (X : SX D cA base p s m args meth c cX12_leftOut 4 (some .int) RX12) (n : Nat)  : ∀ f : Nat, ∀ (v0 : Nat) (v1 : Int32) (v2 : Int32) (σ : Hp) (H : Heap) (locs : List Loc) (ls : Array Slot), hT σ v0 12 → GW D cA base ad σ H → va_S (bA base) s.heap H locs → xT σ0 σ → lv_has ls 4 [(0, .ref (ad v0)), (1, .int v1), (2, .int v2)] → F_X12_leftOut_28 n  f v0 v1 v2 σ = some (r, τ) → W p l e rm_X12_leftOut s m args below meth c H locs 0 0 (ZI below s args D cA base ad σ0 r τ) (F0 m 28 ls []) := by
  intro f
  induction f with
  | zero => intro v0 v1 v2 σ H locs ls h0 hG hS hE hl hF
            rw [F_X12_leftOut_28] at hF; cases hF
  | succ f ih =>
    intro v0 v1 v2 σ H locs ls hT_v0 hG hS hE hl hF
    rw [F_X12_leftOut_28] at hF
    refine lv_iload_n X.1 X.2.1 dX12_leftOut_28 rfl (lv_at hl 2 rfl) ?_
    refine lv_iconst (v := 4) X.1 X.2.1 dX12_leftOut_29 (by decide) ?_
    refine lv_icmp_ge (tgt := 88) X.1 X.2.1 dX12_leftOut_30 (by decide) (fun hc => ?_) (fun hc => ?_)
    · replace hF := it_t hF hc
      refine lv_bipush (v := (-4)) X.1 X.2.1 dX12_leftOut_88 (by decide) ?_
      exact gx_iret X hG hS hE hF dX12_leftOut_90
    · replace hF := it_f hF hc
      refine lv_iload_n X.1 X.2.1 dX12_leftOut_33 rfl (lv_at hl 2 rfl) ?_
      refine lv_aload_n X.1 X.2.1 dX12_leftOut_34 rfl (lv_at hl 0 rfl) ?_
      obtain ⟨i6, hr, hF⟩ := b1_ex hF
      have hT_i6 : hT σ i6 13 := gw_T hG hT_v0 (by decide) hr
      refine gx_get 0 (v := .ref (ad i6)) X hG hT_v0.1 (hT_v0.eq (by decide)) (by decide) rfl inX12 (by decide) k_960 (fun _ h => h) (gx_rfv hr) dX12_leftOut_35 ?_
      refine lv_iconst (v := 1) X.1 X.2.1 dX12_leftOut_38 (by decide) ?_
      refine gx_iald X hG hT_i6 hF dX12_leftOut_39 (fun hF => ?_)
      refine lv_icmp_ge (tgt := 88) X.1 X.2.1 dX12_leftOut_40 (by decide) (fun hc => ?_) (fun hc => ?_)
      · replace hF := it_t hF hc
        refine lv_bipush (v := (-4)) X.1 X.2.1 dX12_leftOut_88 (by decide) ?_
        exact gx_iret X hG hS hE hF dX12_leftOut_90
      · replace hF := it_f hF hc
        refine lv_iconst (v := 0) X.1 X.2.1 dX12_leftOut_43 (by decide) ?_
        refine lv_istore_n (lv' := [(3, .int 0), (0, .ref (ad v0)), (1, .int v1), (2, .int v2)]) X.1 X.2.1 dX12_leftOut_44 rfl hl (by decide) rfl (fun ls hl => ?_)
        exact w_X12_leftOut_45 X n (F_X12_leftOut_28 n  f) ih n v0 v1 v2 0 σ _ _ ls hT_v0 hG hS hE (lv_sub hl [1, 2, 3, 0] rfl) hF
theorem c_X12_leftOut (l : Launch) (D : va_G) (cA : Nat → ClassId) (base : Nat) (ad : Nat → Nat) (σ : Hp) (n : Nat) (a0 : Nat) (a1 : Int32) (hT_a0 : hT σ a0 12) {τ : Hp} {r : Int32} (hF : F_X12_leftOut n a0 a1 σ = some (r, τ)) : MI l yX12_leftOut cX12_leftOut 4 (some .int) rm_X12_leftOut D cA base ad σ [.ref (ad a0), .int a1] r τ := by
  refine Met.ofW (cc := cX12_leftOut) (maxL := 4) (ret := (some .int)) (by decide) rfl ?_
  intro p e s m args below meth c s₁ B hml hv
  obtain ⟨rfl, hv⟩ := hv
  have X : SX D cA base p s m ([.ref (ad a0), .int a1] : List Value).toArray meth c cX12_leftOut 4 (some .int) RX12 := sx_of B hml hv
  have hG := hv.1
  have hS : va_S (bA base) s.heap s.heap [] := va_S.rf
  have hE := xT.rf σ
  have hl := lv_entry ([.ref (ad a0), .int a1]) (n := 4) (Nat.le_of_ble_eq_true rfl)
  rw [lg_entry_eq]
  generalize (lg_sl ([.ref (ad a0), .int a1]) ++ List.replicate (4 - (lg_sl ([.ref (ad a0), .int a1])).length) Slot.unset).toArray = ls at hl ⊢
  have hl : lv_has ls 4 [(0, .ref (ad a0)), (1, .int a1)] := hl
  unfold F_X12_leftOut at hF
  refine lv_iload_n X.1 X.2.1 dX12_leftOut_0 rfl (lv_at hl 1 rfl) ?_
  refine lv_i2l X.1 X.2.1 dX12_leftOut_1 rfl ?_
  refine lv_lconst (v := 0) X.1 X.2.1 dX12_leftOut_2 (by decide) ?_
  refine lv_ldc2 (v := 2) X.1 X.2.1 X.2.2.2.2.2.1 (X.w k_1291) dX12_leftOut_3 ?_
  obtain ⟨r8, σ7, hz, hF⟩ := b2_ex hF
  refine gx_rI (gx_runS (As := [.long a1.toInt64, .long 0, .long 2]) (rest := []) X hG hS (c_X12_isIn l D cA base ad σ n a1.toInt64 0 2 hz) k_1063 k_1061 k_1062 k_4 (h_X12_isIn.2) rfl rfl ⟨by decide, by decide⟩ rfl hl.1 rfl (Nat.le_of_ble_eq_true rfl) dX12_leftOut_6 ⟨Nat.zero_le _, Nat.zero_le _⟩) hS (fun H locs hG hS hX => ?_)
  have hT_a0 := hX.T hT_a0
  replace hE := hE.trans hX
  refine lv_if_ne (tgt := 14) X.1 X.2.1 dX12_leftOut_9 (by decide) (fun hc => ?_) (fun hc => ?_)
  · replace hF := it_f hF hc
    refine lv_aload_n X.1 X.2.1 dX12_leftOut_14 rfl (lv_at hl 0 rfl) ?_
    obtain ⟨i9, hr, hF⟩ := b1_ex hF
    have hT_i9 : hT σ7 i9 13 := gw_T hG hT_a0 (by decide) hr
    refine gx_get 0 (v := .ref (ad i9)) X hG hT_a0.1 (hT_a0.eq (by decide)) (by decide) rfl inX12 (by decide) k_960 (fun _ h => h) (gx_rfv hr) dX12_leftOut_15 ?_
    refine lv_iconst (v := 1) X.1 X.2.1 dX12_leftOut_18 (by decide) ?_
    refine gx_iald X hG hT_i9 hF dX12_leftOut_19 (fun hF => ?_)
    refine lv_if_ne (tgt := 26) X.1 X.2.1 dX12_leftOut_20 (by decide) (fun hc => ?_) (fun hc => ?_)
    · replace hF := it_f hF hc
      refine lv_iconst (v := 0) X.1 X.2.1 dX12_leftOut_26 (by decide) ?_
      refine lv_istore_n (lv' := [(2, .int 0), (0, .ref (ad a0)), (1, .int a1)]) X.1 X.2.1 dX12_leftOut_27 rfl hl (by decide) rfl (fun ls hl => ?_)
      exact w_X12_leftOut_28 X n  n a0 a1 0 σ7 _ _ ls hT_a0 hG hS hE (lv_sub hl [1, 2, 0] rfl) hF
    · replace hF := it_t hF hc
      refine lv_bipush (v := (-3)) X.1 X.2.1 dX12_leftOut_23 (by decide) ?_
      exact gx_iret X hG hS hE hF dX12_leftOut_25
  · replace hF := it_t hF hc
    refine lv_iconst (v := (-1)) X.1 X.2.1 dX12_leftOut_12 (by decide) ?_
    exact gx_iret X hG hS hE hF dX12_leftOut_13
end W_model11
