/-! model12: printed by wip/whole/gen.py -/
section W_model12
variable {p : Program} {l : Launch} {e : Env} {s : State} {m : MethodId} {args : Array Value} {below : List Frame} {meth : Method} {c : Code} {D : va_G} {cA : Nat → ClassId} {base : Nat} {ad : Nat → Nat}
abbrev rm_X12_worlds : Room := { frames := 37, cells := 0, slots := 0, locals := 878 }
theorem h_X12_worlds : yX12_worlds.cls = RX12 ∧ yX12_worlds.cls ≠ "java/lang/invoke/MethodHandle" ∧ yX12_worlds.cls ≠ "java/lang/invoke/VarHandle" ∧ (parseMethodDescriptor yX12_worlds.desc).map (fun d => d.parameters.length) = some 4 := by decide +kernel
def F_X12_worlds_304 (n : Nat) (K_60 : Nat → Int32 → Int32 → Int32 → Int32 → Int32 → Int32 → Hp → Option (Int32 × Hp)) (v0 : Nat) (v1 : Int32) (v3 : Int32) (v4 : Int32) (v5 : Int32) (v7 : Int32) (s0 : Int32) (s1 : Int32) (σ : Hp) : Option (Int32 × Hp) := K_60 v0 v1 v3 v4 v5 (s1 + s0) (v7 + 1) σ
def F_X12_worlds_290 (n : Nat) (K_60 : Nat → Int32 → Int32 → Int32 → Int32 → Int32 → Int32 → Hp → Option (Int32 × Hp)) (v0 : Nat) (v1 : Int32) (v3 : Int32) (v4 : Int32) (v5 : Int32) (v6 : Int32) (v7 : Int32) (s0 : Int32) (σ : Hp) : Option (Int32 × Hp) := if s0 = 0 then (F_X12_worlds_304 n K_60 v0 v1 v3 v4 v5 v7 0 v6 σ) else (F_X12_worlds_304 n K_60 v0 v1 v3 v4 v5 v7 1 v6 σ)
def F_X12_worlds_255 (n : Nat) (K_60 : Nat → Int32 → Int32 → Int32 → Int32 → Int32 → Int32 → Hp → Option (Int32 × Hp)) (v0 : Nat) (v1 : Int32) (v3 : Int32) (v4 : Int32) (v5 : Int32) (v6 : Int32) (v7 : Int32) (σ : Hp) : Option (Int32 × Hp) := F_X12_worlds_290 n K_60 v0 v1 v3 v4 v5 v6 v7 0 σ
def F_X12_worlds_251 (n : Nat) (K_60 : Nat → Int32 → Int32 → Int32 → Int32 → Int32 → Int32 → Hp → Option (Int32 × Hp)) (v0 : Nat) (v1 : Int32) (v3 : Int32) (v4 : Int32) (v5 : Int32) (v6 : Int32) (v7 : Int32) (σ : Hp) : Option (Int32 × Hp) := F_X12_worlds_290 n K_60 v0 v1 v3 v4 v5 v6 v7 1 σ
def F_X12_worlds_241 (n : Nat) (K_60 : Nat → Int32 → Int32 → Int32 → Int32 → Int32 → Int32 → Hp → Option (Int32 × Hp)) (v0 : Nat) (v1 : Int32) (v3 : Int32) (v4 : Int32) (v5 : Int32) (v6 : Int32) (v7 : Int32) (v8 : Int32) (v9 : Int32) (σ : Hp) : Option (Int32 × Hp) := if 0 ≤ v9 then (F_X12_worlds_255 n K_60 v0 v1 v3 v4 v5 v6 v7 σ) else (if v8 = 0 then (F_X12_worlds_251 n K_60 v0 v1 v3 v4 v5 v6 v7 σ) else (F_X12_worlds_255 n K_60 v0 v1 v3 v4 v5 v6 v7 σ))
def F_X12_worlds_205 (n : Nat) (K_60 : Nat → Int32 → Int32 → Int32 → Int32 → Int32 → Int32 → Hp → Option (Int32 × Hp)) (v0 : Nat) (v1 : Int32) (v3 : Int32) (v4 : Int32) (v5 : Int32) (v6 : Int32) (v7 : Int32) (s0 : Int32) (s1 : Int32) (s2 : Int32) (s3 : Nat) (σ : Hp) : Option (Int32 × Hp) := b2 (F_X12_runs n s3 s2 s1 s0 σ) fun (r2 : Int32) (σ1 : Hp) => b1 (hR σ1 v0 0) fun (i3 : Nat) => ck (¬ ((1 : Int32) < 0 ∨ hL σ1 i3 ≤ (1 : Int32).toNatClampNeg)) (lt ((2 * (hI σ1 v0 26)) - (hI σ1 i3 (1 : Int32).toNatClampNeg)) fun (x4 : Int32) => if v4 = 0 then (if x4 ≤ 0 then (F_X12_worlds_241 n K_60 v0 v1 v3 v4 v5 v6 v7 r2 x4 σ1) else (if r2 = 1 then (F_X12_worlds_251 n K_60 v0 v1 v3 v4 v5 v6 v7 σ1) else (F_X12_worlds_241 n K_60 v0 v1 v3 v4 v5 v6 v7 r2 x4 σ1))) else (if v4 = 1 then (if r2 = 1 then (F_X12_worlds_290 n K_60 v0 v1 v3 v4 v5 v6 v7 1 σ1) else (F_X12_worlds_290 n K_60 v0 v1 v3 v4 v5 v6 v7 0 σ1)) else (if r2 = 2 then (F_X12_worlds_290 n K_60 v0 v1 v3 v4 v5 v6 v7 1 σ1) else (F_X12_worlds_290 n K_60 v0 v1 v3 v4 v5 v6 v7 0 σ1))))
def F_X12_worlds_175 (n : Nat) (K_60 : Nat → Int32 → Int32 → Int32 → Int32 → Int32 → Int32 → Hp → Option (Int32 × Hp)) (v0 : Nat) (v1 : Int32) (v3 : Int32) (v4 : Int32) (v5 : Int32) (v6 : Int32) (v7 : Int32) (σ : Hp) : Option (Int32 × Hp) := b1 (hR σ v0 0) fun (i5 : Nat) => ck (¬ ((1 : Int32) < 0 ∨ hL σ i5 ≤ (1 : Int32).toNatClampNeg)) (b2 (F_X12_leaderOf n v0 (hI σ i5 (1 : Int32).toNatClampNeg) σ) fun (r7 : Int32) (σ6 : Hp) => b2 (F_X12_neededNow n v0 σ6) fun (r9 : Int32) (σ8 : Hp) => b1 (hR σ8 v0 0) fun (i10 : Nat) => ck (¬ ((5 : Int32) < 0 ∨ hL σ8 i10 ≤ (5 : Int32).toNatClampNeg)) (if (hI σ8 i10 (5 : Int32).toNatClampNeg) = 1 then (F_X12_worlds_205 n K_60 v0 v1 v3 v4 v5 v6 v7 1 r9 r7 v0 σ8) else (F_X12_worlds_205 n K_60 v0 v1 v3 v4 v5 v6 v7 0 r9 r7 v0 σ8)))
def F_X12_worlds_169 (n : Nat) (K_60 : Nat → Int32 → Int32 → Int32 → Int32 → Int32 → Int32 → Hp → Option (Int32 × Hp)) (K_77 : Nat → Int32 → Int32 → Int32 → Int32 → Int32 → Int32 → Int32 → Hp → Option (Int32 × Hp)) (v0 : Nat) (v1 : Int32) (v3 : Int32) (v4 : Int32) (v5 : Int32) (v6 : Int32) (v7 : Int32) (v8 : Int32) (σ : Hp) : Option (Int32 × Hp) := K_77 v0 v1 v3 v4 v5 v6 v7 (v8 + 1) σ
def F_X12_worlds_161 (n : Nat) (K_60 : Nat → Int32 → Int32 → Int32 → Int32 → Int32 → Int32 → Hp → Option (Int32 × Hp)) (K_77 : Nat → Int32 → Int32 → Int32 → Int32 → Int32 → Int32 → Int32 → Hp → Option (Int32 × Hp)) (K_102 : Nat → Int32 → Int32 → Int32 → Int32 → Int32 → Int32 → Int32 → Int32 → Hp → Option (Int32 × Hp)) (v0 : Nat) (v1 : Int32) (v3 : Int32) (v4 : Int32) (v5 : Int32) (v6 : Int32) (v7 : Int32) (v8 : Int32) (v9 : Int32) (s0 : Int32) (s1 : Int32) (s2 : Int32) (s3 : Nat) (σ : Hp) : Option (Int32 × Hp) := ck (¬ (s2 < 0 ∨ hL σ s3 ≤ s2.toNatClampNeg)) (lt (pI σ s3 s2.toNatClampNeg (s1 ||| s0)) fun (σ11 : Hp) => K_102 v0 v1 v3 v4 v5 v6 v7 v8 (v9 + 1) σ11)
def F_X12_worlds_102 (n : Nat) (K_60 : Nat → Int32 → Int32 → Int32 → Int32 → Int32 → Int32 → Hp → Option (Int32 × Hp)) (K_77 : Nat → Int32 → Int32 → Int32 → Int32 → Int32 → Int32 → Int32 → Hp → Option (Int32 × Hp)) : Nat → Nat → Int32 → Int32 → Int32 → Int32 → Int32 → Int32 → Int32 → Int32 → Hp → Option (Int32 × Hp)
  | 0, _, _, _, _, _, _, _, _, _, _ => none
  | f + 1, v0, v1, v3, v4, v5, v6, v7, v8, v9, σ => b1 (hR σ v0 0) fun (i12 : Nat) => ck (¬ ((0 : Int32) < 0 ∨ hL σ i12 ≤ (0 : Int32).toNatClampNeg)) (if (hI σ i12 (0 : Int32).toNatClampNeg) ≤ v9 then (F_X12_worlds_169 n K_60 K_77 v0 v1 v3 v4 v5 v6 v7 v8 σ) else (b1 (hR σ v0 5) fun (i13 : Nat) => ck (¬ ((19 + v8) < 0 ∨ hL σ i13 ≤ (19 + v8).toNatClampNeg)) (if v3 ≤ (((((v5 * 1103515245) + 12345) &&& 2147483647) / 65536) - ((((v5 * 1103515245) + 12345) &&& 2147483647) / 65536) / 100 * 100) then (F_X12_worlds_161 n K_60 K_77 (F_X12_worlds_102 n K_60 K_77 f) v0 v1 v3 v4 ((v5 * 1103515245) + 12345) v6 v7 v8 v9 0 (hI σ i13 (19 + v8).toNatClampNeg) (19 + v8) i13 σ) else (F_X12_worlds_161 n K_60 K_77 (F_X12_worlds_102 n K_60 K_77 f) v0 v1 v3 v4 ((v5 * 1103515245) + 12345) v6 v7 v8 v9 (1 <<< (v9 &&& 31)) (hI σ i13 (19 + v8).toNatClampNeg) (19 + v8) i13 σ))))
def F_X12_worlds_77 (n : Nat) (K_60 : Nat → Int32 → Int32 → Int32 → Int32 → Int32 → Int32 → Hp → Option (Int32 × Hp)) : Nat → Nat → Int32 → Int32 → Int32 → Int32 → Int32 → Int32 → Int32 → Hp → Option (Int32 × Hp)
  | 0, _, _, _, _, _, _, _, _, _ => none
  | f + 1, v0, v1, v3, v4, v5, v6, v7, v8, σ => b1 (hR σ v0 0) fun (i14 : Nat) => ck (¬ ((1 : Int32) < 0 ∨ hL σ i14 ≤ (1 : Int32).toNatClampNeg)) (if (hI σ i14 (1 : Int32).toNatClampNeg) ≤ v8 then (F_X12_worlds_175 n K_60 v0 v1 v3 v4 v5 v6 v7 σ) else (b1 (hR σ v0 5) fun (i15 : Nat) => ck (¬ ((19 + v8) < 0 ∨ hL σ i15 ≤ (19 + v8).toNatClampNeg)) (lt (pI σ i15 (19 + v8).toNatClampNeg 0) fun (σ16 : Hp) => F_X12_worlds_102 n K_60 (F_X12_worlds_77 n K_60 f) n v0 v1 v3 v4 v5 v6 v7 v8 0 σ16)))
def F_X12_worlds_60 (n : Nat)  : Nat → Nat → Int32 → Int32 → Int32 → Int32 → Int32 → Int32 → Hp → Option (Int32 × Hp)
  | 0, _, _, _, _, _, _, _, _ => none
  | f + 1, v0, v1, v3, v4, v5, v6, v7, σ => if v1 ≤ v7 then (some (v6, σ)) else (b1 (hR σ v0 5) fun (i17 : Nat) => b1 (F_X12_takesAll n v0 i17 σ) fun (σ18 : Hp) => F_X12_worlds_77 n (F_X12_worlds_60 n  f) n v0 v1 v3 v4 v5 v6 v7 0 σ18)
def F_X12_worlds (n : Nat) (a0 : Nat) (a1 : Int32) (a2 : Int32) (a3 : Int32) (a4 : Int32) (σ : Hp) : Option (Int32 × Hp) := b2 (F_X12_isIn n a1.toInt64 1 30 σ) fun (r20 : Int32) (σ19 : Hp) => if r20 = 0 then (some ((-1), σ19)) else (b2 (F_X12_isIn n a3.toInt64 0 100 σ19) fun (r22 : Int32) (σ21 : Hp) => if r22 = 0 then (some ((-1), σ21)) else (b2 (F_X12_isIn n a4.toInt64 0 2 σ21) fun (r24 : Int32) (σ23 : Hp) => if r24 = 0 then (some ((-1), σ23)) else (b1 (hR σ23 a0 0) fun (i25 : Nat) => ck (¬ ((1 : Int32) < 0 ∨ hL σ23 i25 ≤ (1 : Int32).toNatClampNeg)) (if (hI σ23 i25 (1 : Int32).toNatClampNeg) = 0 then (some ((-3), σ23)) else (F_X12_worlds_60 n  n a0 a1 a3 a4 a2 0 0 σ23)))))
abbrev rm_X12_image : Room := { frames := 0, cells := 0, slots := 0, locals := 0 }
theorem h_X12_image : yX12_image.cls = RX12 ∧ yX12_image.cls ≠ "java/lang/invoke/MethodHandle" ∧ yX12_image.cls ≠ "java/lang/invoke/VarHandle" ∧ (parseMethodDescriptor yX12_image.desc).map (fun d => d.parameters.length) = some 0 := by decide +kernel
def F_X12_image_79 (n : Nat)  (v0 : Nat) (σ : Hp) : Option (Int32 × Hp) := lt (pI σ v0 13 1) fun (σ1 : Hp) => b1 (hR σ1 v0 0) fun (i2 : Nat) => ck (¬ ((1 : Int32) < 0 ∨ hL σ1 i2 ≤ (1 : Int32).toNatClampNeg)) (some (hI σ1 i2 (1 : Int32).toNatClampNeg, σ1))
def F_X12_image_54 (n : Nat)  : Nat → Nat → Int32 → Hp → Option (Int32 × Hp)
  | 0, _, _, _ => none
  | f + 1, v0, v1, σ => if 600 ≤ v1 then (F_X12_image_79 n  v0 σ) else (b1 (hR σ v0 3) fun (i3 : Nat) => b1 (hR σ v0 2) fun (i4 : Nat) => ck (¬ (v1 < 0 ∨ hL σ i4 ≤ v1.toNatClampNeg)) (ck (¬ (v1 < 0 ∨ hL σ i3 ≤ v1.toNatClampNeg)) (lt (pI σ i3 v1.toNatClampNeg (hI σ i4 v1.toNatClampNeg)) fun (σ5 : Hp) => (F_X12_image_54 n  f) v0 (v1 + 1) σ5)))
def F_X12_image_52 (n : Nat)  (v0 : Nat) (σ : Hp) : Option (Int32 × Hp) := F_X12_image_54 n  n v0 0 σ
def F_X12_image_28 (n : Nat)  : Nat → Nat → Int32 → Hp → Option (Int32 × Hp)
  | 0, _, _, _ => none
  | f + 1, v0, v1, σ => if 67 ≤ v1 then (F_X12_image_52 n  v0 σ) else (b1 (hR σ v0 6) fun (i6 : Nat) => b1 (hR σ v0 4) fun (i7 : Nat) => ck (¬ (v1 < 0 ∨ hL σ i7 ≤ v1.toNatClampNeg)) (ck (¬ (v1 < 0 ∨ hL σ i6 ≤ v1.toNatClampNeg)) (lt (pI σ i6 v1.toNatClampNeg (hI σ i7 v1.toNatClampNeg)) fun (σ8 : Hp) => (F_X12_image_28 n  f) v0 (v1 + 1) σ8)))
def F_X12_image_26 (n : Nat)  (v0 : Nat) (σ : Hp) : Option (Int32 × Hp) := F_X12_image_28 n  n v0 0 σ
def F_X12_image_2 (n : Nat)  : Nat → Nat → Int32 → Hp → Option (Int32 × Hp)
  | 0, _, _, _ => none
  | f + 1, v0, v1, σ => if 109 ≤ v1 then (F_X12_image_26 n  v0 σ) else (b1 (hR σ v0 1) fun (i9 : Nat) => b1 (hR σ v0 0) fun (i10 : Nat) => ck (¬ (v1 < 0 ∨ hL σ i10 ≤ v1.toNatClampNeg)) (ck (¬ (v1 < 0 ∨ hL σ i9 ≤ v1.toNatClampNeg)) (lt (pI σ i9 v1.toNatClampNeg (hI σ i10 v1.toNatClampNeg)) fun (σ11 : Hp) => (F_X12_image_2 n  f) v0 (v1 + 1) σ11)))
def F_X12_image (n : Nat) (a0 : Nat) (σ : Hp) : Option (Int32 × Hp) := F_X12_image_2 n  n a0 0 σ
theorem w_X12_worlds_304 {σ0 τ : Hp} {r : Int32} (X : SX D cA base p s m args meth c cX12_worlds 11 (some .int) RX12) (n : Nat) (K_60 : Nat → Int32 → Int32 → Int32 → Int32 → Int32 → Int32 → Hp → Option (Int32 × Hp)) (hK_60 : ∀ (v0 : Nat) (v1 : Int32) (v3 : Int32) (v4 : Int32) (v5 : Int32) (v6 : Int32) (v7 : Int32) (σ : Hp) (H : Heap) (locs : List Loc) (ls : Array Slot), hT σ v0 12 → GW D cA base ad σ H → va_S (bA base) s.heap H locs → xT σ0 σ → lv_has ls 11 [(0, .ref (ad v0)), (1, .int v1), (3, .int v3), (4, .int v4), (5, .int v5), (6, .int v6), (7, .int v7)] → K_60 v0 v1 v3 v4 v5 v6 v7 σ = some (r, τ) → W p l e rm_X12_worlds s m args below meth c H locs 0 0 (ZI below s args D cA base ad σ0 r τ) (F0 m 60 ls [])) : ∀ (v0 : Nat) (v1 : Int32) (v3 : Int32) (v4 : Int32) (v5 : Int32) (v7 : Int32) (s0 : Int32) (s1 : Int32) (σ : Hp) (H : Heap) (locs : List Loc) (ls : Array Slot), hT σ v0 12 → GW D cA base ad σ H → va_S (bA base) s.heap H locs → xT σ0 σ → lv_has ls 11 [(0, .ref (ad v0)), (1, .int v1), (3, .int v3), (4, .int v4), (5, .int v5), (7, .int v7)] → F_X12_worlds_304 n K_60 v0 v1 v3 v4 v5 v7 s0 s1 σ = some (r, τ) → W p l e rm_X12_worlds s m args below meth c H locs 0 0 (ZI below s args D cA base ad σ0 r τ) (F0 m 304 ls [.int s0, .int s1]) := by
  intro v0 v1 v3 v4 v5 v7 s0 s1 σ H locs ls hT_v0 hG hS hE hl hF
  unfold F_X12_worlds_304 at hF
  refine lv_iadd X.1 X.2.1 dX12_worlds_304 ?_
  refine lv_istore (lv' := [(6, .int (s1 + s0)), (0, .ref (ad v0)), (1, .int v1), (3, .int v3), (4, .int v4), (5, .int v5), (7, .int v7)]) X.1 X.2.1 dX12_worlds_305 hl (by decide) rfl (fun ls hl => ?_)
  refine lv_iinc (v := v7 + 1) (lv' := [(7, .int (v7 + 1)), (6, .int (s1 + s0)), (0, .ref (ad v0)), (1, .int v1), (3, .int v3), (4, .int v4), (5, .int v5)]) X.1 X.2.1 dX12_worlds_307 hl (k := 6) rfl rfl (by decide) rfl (fun ls hl => ?_)
  refine lv_goto (tgt := 60) X.1 X.2.1 dX12_worlds_310 (by decide) ?_
  exact hK_60 v0 v1 v3 v4 v5 (s1 + s0) (v7 + 1) σ _ _ ls hT_v0 hG hS hE (lv_sub hl [2, 3, 4, 5, 6, 1, 0] rfl) hF
theorem w_X12_worlds_290 {σ0 τ : Hp} {r : Int32} (X : SX D cA base p s m args meth c cX12_worlds 11 (some .int) RX12) (n : Nat) (K_60 : Nat → Int32 → Int32 → Int32 → Int32 → Int32 → Int32 → Hp → Option (Int32 × Hp)) (hK_60 : ∀ (v0 : Nat) (v1 : Int32) (v3 : Int32) (v4 : Int32) (v5 : Int32) (v6 : Int32) (v7 : Int32) (σ : Hp) (H : Heap) (locs : List Loc) (ls : Array Slot), hT σ v0 12 → GW D cA base ad σ H → va_S (bA base) s.heap H locs → xT σ0 σ → lv_has ls 11 [(0, .ref (ad v0)), (1, .int v1), (3, .int v3), (4, .int v4), (5, .int v5), (6, .int v6), (7, .int v7)] → K_60 v0 v1 v3 v4 v5 v6 v7 σ = some (r, τ) → W p l e rm_X12_worlds s m args below meth c H locs 0 0 (ZI below s args D cA base ad σ0 r τ) (F0 m 60 ls [])) : ∀ (v0 : Nat) (v1 : Int32) (v3 : Int32) (v4 : Int32) (v5 : Int32) (v6 : Int32) (v7 : Int32) (s0 : Int32) (σ : Hp) (H : Heap) (locs : List Loc) (ls : Array Slot), hT σ v0 12 → GW D cA base ad σ H → va_S (bA base) s.heap H locs → xT σ0 σ → lv_has ls 11 [(0, .ref (ad v0)), (1, .int v1), (3, .int v3), (4, .int v4), (5, .int v5), (6, .int v6), (7, .int v7)] → F_X12_worlds_290 n K_60 v0 v1 v3 v4 v5 v6 v7 s0 σ = some (r, τ) → W p l e rm_X12_worlds s m args below meth c H locs 0 0 (ZI below s args D cA base ad σ0 r τ) (F0 m 290 ls [.int s0]) := by
  intro v0 v1 v3 v4 v5 v6 v7 s0 σ H locs ls hT_v0 hG hS hE hl hF
  unfold F_X12_worlds_290 at hF
  refine lv_istore (lv' := [(10, .int s0), (0, .ref (ad v0)), (1, .int v1), (3, .int v3), (4, .int v4), (5, .int v5), (6, .int v6), (7, .int v7)]) X.1 X.2.1 dX12_worlds_290 hl (by decide) rfl (fun ls hl => ?_)
  refine lv_iload X.1 X.2.1 dX12_worlds_292 (lv_at hl 6 rfl) ?_
  refine lv_iload X.1 X.2.1 dX12_worlds_294 (lv_at hl 0 rfl) ?_
  refine lv_if_eq (tgt := 303) X.1 X.2.1 dX12_worlds_296 (by decide) (fun hc => ?_) (fun hc => ?_)
  · replace hF := it_t hF hc
    refine lv_iconst (v := 0) X.1 X.2.1 dX12_worlds_303 (by decide) ?_
    exact w_X12_worlds_304 X n K_60 hK_60 v0 v1 v3 v4 v5 v7 0 v6 σ _ _ ls hT_v0 hG hS hE (lv_sub hl [1, 2, 3, 4, 5, 7] rfl) hF
  · replace hF := it_f hF hc
    refine lv_iconst (v := 1) X.1 X.2.1 dX12_worlds_299 (by decide) ?_
    refine lv_goto (tgt := 304) X.1 X.2.1 dX12_worlds_300 (by decide) ?_
    exact w_X12_worlds_304 X n K_60 hK_60 v0 v1 v3 v4 v5 v7 1 v6 σ _ _ ls hT_v0 hG hS hE (lv_sub hl [1, 2, 3, 4, 5, 7] rfl) hF
theorem w_X12_worlds_255 {σ0 τ : Hp} {r : Int32} (X : SX D cA base p s m args meth c cX12_worlds 11 (some .int) RX12) (n : Nat) (K_60 : Nat → Int32 → Int32 → Int32 → Int32 → Int32 → Int32 → Hp → Option (Int32 × Hp)) (hK_60 : ∀ (v0 : Nat) (v1 : Int32) (v3 : Int32) (v4 : Int32) (v5 : Int32) (v6 : Int32) (v7 : Int32) (σ : Hp) (H : Heap) (locs : List Loc) (ls : Array Slot), hT σ v0 12 → GW D cA base ad σ H → va_S (bA base) s.heap H locs → xT σ0 σ → lv_has ls 11 [(0, .ref (ad v0)), (1, .int v1), (3, .int v3), (4, .int v4), (5, .int v5), (6, .int v6), (7, .int v7)] → K_60 v0 v1 v3 v4 v5 v6 v7 σ = some (r, τ) → W p l e rm_X12_worlds s m args below meth c H locs 0 0 (ZI below s args D cA base ad σ0 r τ) (F0 m 60 ls [])) : ∀ (v0 : Nat) (v1 : Int32) (v3 : Int32) (v4 : Int32) (v5 : Int32) (v6 : Int32) (v7 : Int32) (σ : Hp) (H : Heap) (locs : List Loc) (ls : Array Slot), hT σ v0 12 → GW D cA base ad σ H → va_S (bA base) s.heap H locs → xT σ0 σ → lv_has ls 11 [(0, .ref (ad v0)), (1, .int v1), (3, .int v3), (4, .int v4), (5, .int v5), (6, .int v6), (7, .int v7)] → F_X12_worlds_255 n K_60 v0 v1 v3 v4 v5 v6 v7 σ = some (r, τ) → W p l e rm_X12_worlds s m args below meth c H locs 0 0 (ZI below s args D cA base ad σ0 r τ) (F0 m 255 ls []) := by
  intro v0 v1 v3 v4 v5 v6 v7 σ H locs ls hT_v0 hG hS hE hl hF
  unfold F_X12_worlds_255 at hF
  refine lv_iconst (v := 0) X.1 X.2.1 dX12_worlds_255 (by decide) ?_
  refine lv_goto (tgt := 290) X.1 X.2.1 dX12_worlds_256 (by decide) ?_
  exact w_X12_worlds_290 X n K_60 hK_60 v0 v1 v3 v4 v5 v6 v7 0 σ _ _ ls hT_v0 hG hS hE (lv_sub hl [0, 1, 2, 3, 4, 5, 6] rfl) hF
theorem w_X12_worlds_251 {σ0 τ : Hp} {r : Int32} (X : SX D cA base p s m args meth c cX12_worlds 11 (some .int) RX12) (n : Nat) (K_60 : Nat → Int32 → Int32 → Int32 → Int32 → Int32 → Int32 → Hp → Option (Int32 × Hp)) (hK_60 : ∀ (v0 : Nat) (v1 : Int32) (v3 : Int32) (v4 : Int32) (v5 : Int32) (v6 : Int32) (v7 : Int32) (σ : Hp) (H : Heap) (locs : List Loc) (ls : Array Slot), hT σ v0 12 → GW D cA base ad σ H → va_S (bA base) s.heap H locs → xT σ0 σ → lv_has ls 11 [(0, .ref (ad v0)), (1, .int v1), (3, .int v3), (4, .int v4), (5, .int v5), (6, .int v6), (7, .int v7)] → K_60 v0 v1 v3 v4 v5 v6 v7 σ = some (r, τ) → W p l e rm_X12_worlds s m args below meth c H locs 0 0 (ZI below s args D cA base ad σ0 r τ) (F0 m 60 ls [])) : ∀ (v0 : Nat) (v1 : Int32) (v3 : Int32) (v4 : Int32) (v5 : Int32) (v6 : Int32) (v7 : Int32) (σ : Hp) (H : Heap) (locs : List Loc) (ls : Array Slot), hT σ v0 12 → GW D cA base ad σ H → va_S (bA base) s.heap H locs → xT σ0 σ → lv_has ls 11 [(0, .ref (ad v0)), (1, .int v1), (3, .int v3), (4, .int v4), (5, .int v5), (6, .int v6), (7, .int v7)] → F_X12_worlds_251 n K_60 v0 v1 v3 v4 v5 v6 v7 σ = some (r, τ) → W p l e rm_X12_worlds s m args below meth c H locs 0 0 (ZI below s args D cA base ad σ0 r τ) (F0 m 251 ls []) := by
  intro v0 v1 v3 v4 v5 v6 v7 σ H locs ls hT_v0 hG hS hE hl hF
  unfold F_X12_worlds_251 at hF
  refine lv_iconst (v := 1) X.1 X.2.1 dX12_worlds_251 (by decide) ?_
  refine lv_goto (tgt := 290) X.1 X.2.1 dX12_worlds_252 (by decide) ?_
  exact w_X12_worlds_290 X n K_60 hK_60 v0 v1 v3 v4 v5 v6 v7 1 σ _ _ ls hT_v0 hG hS hE (lv_sub hl [0, 1, 2, 3, 4, 5, 6] rfl) hF
theorem w_X12_worlds_241 {σ0 τ : Hp} {r : Int32} (X : SX D cA base p s m args meth c cX12_worlds 11 (some .int) RX12) (n : Nat) (K_60 : Nat → Int32 → Int32 → Int32 → Int32 → Int32 → Int32 → Hp → Option (Int32 × Hp)) (hK_60 : ∀ (v0 : Nat) (v1 : Int32) (v3 : Int32) (v4 : Int32) (v5 : Int32) (v6 : Int32) (v7 : Int32) (σ : Hp) (H : Heap) (locs : List Loc) (ls : Array Slot), hT σ v0 12 → GW D cA base ad σ H → va_S (bA base) s.heap H locs → xT σ0 σ → lv_has ls 11 [(0, .ref (ad v0)), (1, .int v1), (3, .int v3), (4, .int v4), (5, .int v5), (6, .int v6), (7, .int v7)] → K_60 v0 v1 v3 v4 v5 v6 v7 σ = some (r, τ) → W p l e rm_X12_worlds s m args below meth c H locs 0 0 (ZI below s args D cA base ad σ0 r τ) (F0 m 60 ls [])) : ∀ (v0 : Nat) (v1 : Int32) (v3 : Int32) (v4 : Int32) (v5 : Int32) (v6 : Int32) (v7 : Int32) (v8 : Int32) (v9 : Int32) (σ : Hp) (H : Heap) (locs : List Loc) (ls : Array Slot), hT σ v0 12 → GW D cA base ad σ H → va_S (bA base) s.heap H locs → xT σ0 σ → lv_has ls 11 [(0, .ref (ad v0)), (1, .int v1), (3, .int v3), (4, .int v4), (5, .int v5), (6, .int v6), (7, .int v7), (8, .int v8), (9, .int v9)] → F_X12_worlds_241 n K_60 v0 v1 v3 v4 v5 v6 v7 v8 v9 σ = some (r, τ) → W p l e rm_X12_worlds s m args below meth c H locs 0 0 (ZI below s args D cA base ad σ0 r τ) (F0 m 241 ls []) := by
  intro v0 v1 v3 v4 v5 v6 v7 v8 v9 σ H locs ls hT_v0 hG hS hE hl hF
  unfold F_X12_worlds_241 at hF
  refine lv_iload X.1 X.2.1 dX12_worlds_241 (lv_at hl 8 rfl) ?_
  refine lv_if_ge (tgt := 255) X.1 X.2.1 dX12_worlds_243 (by decide) (fun hc => ?_) (fun hc => ?_)
  · replace hF := it_t hF hc
    exact w_X12_worlds_255 X n K_60 hK_60 v0 v1 v3 v4 v5 v6 v7 σ _ _ ls hT_v0 hG hS hE (lv_sub hl [0, 1, 2, 3, 4, 5, 6] rfl) hF
  · replace hF := it_f hF hc
    refine lv_iload X.1 X.2.1 dX12_worlds_246 (lv_at hl 7 rfl) ?_
    refine lv_if_ne (tgt := 255) X.1 X.2.1 dX12_worlds_248 (by decide) (fun hc => ?_) (fun hc => ?_)
    · replace hF := it_f hF hc
      exact w_X12_worlds_255 X n K_60 hK_60 v0 v1 v3 v4 v5 v6 v7 σ _ _ ls hT_v0 hG hS hE (lv_sub hl [0, 1, 2, 3, 4, 5, 6] rfl) hF
    · replace hF := it_t hF hc
      exact w_X12_worlds_251 X n K_60 hK_60 v0 v1 v3 v4 v5 v6 v7 σ _ _ ls hT_v0 hG hS hE (lv_sub hl [0, 1, 2, 3, 4, 5, 6] rfl) hF
theorem w_X12_worlds_205 {σ0 τ : Hp} {r : Int32} (X : SX D cA base p s m args meth c cX12_worlds 11 (some .int) RX12) (n : Nat) (K_60 : Nat → Int32 → Int32 → Int32 → Int32 → Int32 → Int32 → Hp → Option (Int32 × Hp)) (hK_60 : ∀ (v0 : Nat) (v1 : Int32) (v3 : Int32) (v4 : Int32) (v5 : Int32) (v6 : Int32) (v7 : Int32) (σ : Hp) (H : Heap) (locs : List Loc) (ls : Array Slot), hT σ v0 12 → GW D cA base ad σ H → va_S (bA base) s.heap H locs → xT σ0 σ → lv_has ls 11 [(0, .ref (ad v0)), (1, .int v1), (3, .int v3), (4, .int v4), (5, .int v5), (6, .int v6), (7, .int v7)] → K_60 v0 v1 v3 v4 v5 v6 v7 σ = some (r, τ) → W p l e rm_X12_worlds s m args below meth c H locs 0 0 (ZI below s args D cA base ad σ0 r τ) (F0 m 60 ls [])) : ∀ (v0 : Nat) (v1 : Int32) (v3 : Int32) (v4 : Int32) (v5 : Int32) (v6 : Int32) (v7 : Int32) (s0 : Int32) (s1 : Int32) (s2 : Int32) (s3 : Nat) (σ : Hp) (H : Heap) (locs : List Loc) (ls : Array Slot), hT σ v0 12 → hT σ s3 12 → GW D cA base ad σ H → va_S (bA base) s.heap H locs → xT σ0 σ → lv_has ls 11 [(0, .ref (ad v0)), (1, .int v1), (3, .int v3), (4, .int v4), (5, .int v5), (6, .int v6), (7, .int v7)] → F_X12_worlds_205 n K_60 v0 v1 v3 v4 v5 v6 v7 s0 s1 s2 s3 σ = some (r, τ) → W p l e rm_X12_worlds s m args below meth c H locs 0 0 (ZI below s args D cA base ad σ0 r τ) (F0 m 205 ls [.int s0, .int s1, .int s2, .ref (ad s3)]) := by
  intro v0 v1 v3 v4 v5 v6 v7 s0 s1 s2 s3 σ H locs ls hT_v0 hT_s3 hG hS hE hl hF
  unfold F_X12_worlds_205 at hF
  obtain ⟨r2, σ1, hz, hF⟩ := b2_ex hF
  refine gx_rI (gx_runV (As := [.int s2, .int s1, .int s0]) (rest := []) X hG hS hT_s3.1 (hT_s3.eq (by decide)) (by decide) rfl (c_X12_runs l D cA base ad σ n s3 s2 s1 s0 hT_s3 hz) k_1274 k_1271 k_1273 ks_50 k_4 (h_X12_runs) rfl rfl ⟨by decide, by decide⟩ rfl hl.1 rfl (Nat.le_of_ble_eq_true rfl) dX12_worlds_205 ⟨Nat.zero_le _, Nat.zero_le _⟩) hS (fun H locs hG hS hX => ?_)
  have hT_v0 := hX.T hT_v0
  replace hE := hE.trans hX
  refine lv_istore (lv' := [(8, .int r2), (0, .ref (ad v0)), (1, .int v1), (3, .int v3), (4, .int v4), (5, .int v5), (6, .int v6), (7, .int v7)]) X.1 X.2.1 dX12_worlds_208 hl (by decide) rfl (fun ls hl => ?_)
  refine lv_iconst (v := 2) X.1 X.2.1 dX12_worlds_210 (by decide) ?_
  refine lv_aload_n X.1 X.2.1 dX12_worlds_211 rfl (lv_at hl 1 rfl) ?_
  refine gx_get 26 (v := .int (hI σ1 v0 26)) X hG hT_v0.1 (hT_v0.eq (by decide)) (by decide) rfl inX12 (by decide) k_986 (fun _ h => h) rfl dX12_worlds_212 ?_
  refine lv_imul X.1 X.2.1 dX12_worlds_215 ?_
  refine lv_aload_n X.1 X.2.1 dX12_worlds_216 rfl (lv_at hl 1 rfl) ?_
  obtain ⟨i3, hr, hF⟩ := b1_ex hF
  have hT_i3 : hT σ1 i3 13 := gw_T hG hT_v0 (by decide) hr
  refine gx_get 0 (v := .ref (ad i3)) X hG hT_v0.1 (hT_v0.eq (by decide)) (by decide) rfl inX12 (by decide) k_960 (fun _ h => h) (gx_rfv hr) dX12_worlds_217 ?_
  refine lv_iconst (v := 1) X.1 X.2.1 dX12_worlds_220 (by decide) ?_
  refine gx_iald X hG hT_i3 hF dX12_worlds_221 (fun hF => ?_)
  refine lv_isub X.1 X.2.1 dX12_worlds_222 ?_
  refine lv_topi (fun x4 ex4 => ?_)
  replace hF := lt_nm hF ex4
  refine lv_istore (lv' := [(9, .int x4), (8, .int r2), (0, .ref (ad v0)), (1, .int v1), (3, .int v3), (4, .int v4), (5, .int v5), (6, .int v6), (7, .int v7)]) X.1 X.2.1 dX12_worlds_223 hl (by decide) rfl (fun ls hl => ?_)
  refine lv_iload X.1 X.2.1 dX12_worlds_225 (lv_at hl 5 rfl) ?_
  refine lv_if_ne (tgt := 259) X.1 X.2.1 dX12_worlds_227 (by decide) (fun hc => ?_) (fun hc => ?_)
  · replace hF := it_f hF hc
    refine lv_iload X.1 X.2.1 dX12_worlds_259 (lv_at hl 5 rfl) ?_
    refine lv_iconst (v := 1) X.1 X.2.1 dX12_worlds_261 (by decide) ?_
    refine lv_icmp_ne (tgt := 279) X.1 X.2.1 dX12_worlds_262 (by decide) (fun hc => ?_) (fun hc => ?_)
    · replace hF := it_f hF hc
      refine lv_iload X.1 X.2.1 dX12_worlds_279 (lv_at hl 1 rfl) ?_
      refine lv_iconst (v := 2) X.1 X.2.1 dX12_worlds_281 (by decide) ?_
      refine lv_icmp_ne (tgt := 289) X.1 X.2.1 dX12_worlds_282 (by decide) (fun hc => ?_) (fun hc => ?_)
      · replace hF := it_f hF hc
        refine lv_iconst (v := 0) X.1 X.2.1 dX12_worlds_289 (by decide) ?_
        exact w_X12_worlds_290 X n K_60 hK_60 v0 v1 v3 v4 v5 v6 v7 0 σ1 _ _ ls hT_v0 hG hS hE (lv_sub hl [2, 3, 4, 5, 6, 7, 8] rfl) hF
      · replace hF := it_t hF hc
        refine lv_iconst (v := 1) X.1 X.2.1 dX12_worlds_285 (by decide) ?_
        refine lv_goto (tgt := 290) X.1 X.2.1 dX12_worlds_286 (by decide) ?_
        exact w_X12_worlds_290 X n K_60 hK_60 v0 v1 v3 v4 v5 v6 v7 1 σ1 _ _ ls hT_v0 hG hS hE (lv_sub hl [2, 3, 4, 5, 6, 7, 8] rfl) hF
    · replace hF := it_t hF hc
      refine lv_iload X.1 X.2.1 dX12_worlds_265 (lv_at hl 1 rfl) ?_
      refine lv_iconst (v := 1) X.1 X.2.1 dX12_worlds_267 (by decide) ?_
      refine lv_icmp_ne (tgt := 275) X.1 X.2.1 dX12_worlds_268 (by decide) (fun hc => ?_) (fun hc => ?_)
      · replace hF := it_f hF hc
        refine lv_iconst (v := 0) X.1 X.2.1 dX12_worlds_275 (by decide) ?_
        refine lv_goto (tgt := 290) X.1 X.2.1 dX12_worlds_276 (by decide) ?_
        exact w_X12_worlds_290 X n K_60 hK_60 v0 v1 v3 v4 v5 v6 v7 0 σ1 _ _ ls hT_v0 hG hS hE (lv_sub hl [2, 3, 4, 5, 6, 7, 8] rfl) hF
      · replace hF := it_t hF hc
        refine lv_iconst (v := 1) X.1 X.2.1 dX12_worlds_271 (by decide) ?_
        refine lv_goto (tgt := 290) X.1 X.2.1 dX12_worlds_272 (by decide) ?_
        exact w_X12_worlds_290 X n K_60 hK_60 v0 v1 v3 v4 v5 v6 v7 1 σ1 _ _ ls hT_v0 hG hS hE (lv_sub hl [2, 3, 4, 5, 6, 7, 8] rfl) hF
  · replace hF := it_t hF hc
    refine lv_iload X.1 X.2.1 dX12_worlds_230 (lv_at hl 0 rfl) ?_
    refine lv_if_le (tgt := 241) X.1 X.2.1 dX12_worlds_232 (by decide) (fun hc => ?_) (fun hc => ?_)
    · replace hF := it_t hF hc
      exact w_X12_worlds_241 X n K_60 hK_60 v0 v1 v3 v4 v5 v6 v7 r2 x4 σ1 _ _ ls hT_v0 hG hS hE (lv_sub hl [2, 3, 4, 5, 6, 7, 8, 1, 0] rfl) hF
    · replace hF := it_f hF hc
      refine lv_iload X.1 X.2.1 dX12_worlds_235 (lv_at hl 1 rfl) ?_
      refine lv_iconst (v := 1) X.1 X.2.1 dX12_worlds_237 (by decide) ?_
      refine lv_icmp_eq (tgt := 251) X.1 X.2.1 dX12_worlds_238 (by decide) (fun hc => ?_) (fun hc => ?_)
      · replace hF := it_t hF hc
        exact w_X12_worlds_251 X n K_60 hK_60 v0 v1 v3 v4 v5 v6 v7 σ1 _ _ ls hT_v0 hG hS hE (lv_sub hl [2, 3, 4, 5, 6, 7, 8] rfl) hF
      · replace hF := it_f hF hc
        exact w_X12_worlds_241 X n K_60 hK_60 v0 v1 v3 v4 v5 v6 v7 r2 x4 σ1 _ _ ls hT_v0 hG hS hE (lv_sub hl [2, 3, 4, 5, 6, 7, 8, 1, 0] rfl) hF
theorem w_X12_worlds_175 {σ0 τ : Hp} {r : Int32} (X : SX D cA base p s m args meth c cX12_worlds 11 (some .int) RX12) (n : Nat) (K_60 : Nat → Int32 → Int32 → Int32 → Int32 → Int32 → Int32 → Hp → Option (Int32 × Hp)) (hK_60 : ∀ (v0 : Nat) (v1 : Int32) (v3 : Int32) (v4 : Int32) (v5 : Int32) (v6 : Int32) (v7 : Int32) (σ : Hp) (H : Heap) (locs : List Loc) (ls : Array Slot), hT σ v0 12 → GW D cA base ad σ H → va_S (bA base) s.heap H locs → xT σ0 σ → lv_has ls 11 [(0, .ref (ad v0)), (1, .int v1), (3, .int v3), (4, .int v4), (5, .int v5), (6, .int v6), (7, .int v7)] → K_60 v0 v1 v3 v4 v5 v6 v7 σ = some (r, τ) → W p l e rm_X12_worlds s m args below meth c H locs 0 0 (ZI below s args D cA base ad σ0 r τ) (F0 m 60 ls [])) : ∀ (v0 : Nat) (v1 : Int32) (v3 : Int32) (v4 : Int32) (v5 : Int32) (v6 : Int32) (v7 : Int32) (σ : Hp) (H : Heap) (locs : List Loc) (ls : Array Slot), hT σ v0 12 → GW D cA base ad σ H → va_S (bA base) s.heap H locs → xT σ0 σ → lv_has ls 11 [(0, .ref (ad v0)), (1, .int v1), (3, .int v3), (4, .int v4), (5, .int v5), (6, .int v6), (7, .int v7)] → F_X12_worlds_175 n K_60 v0 v1 v3 v4 v5 v6 v7 σ = some (r, τ) → W p l e rm_X12_worlds s m args below meth c H locs 0 0 (ZI below s args D cA base ad σ0 r τ) (F0 m 175 ls []) := by
  intro v0 v1 v3 v4 v5 v6 v7 σ H locs ls hT_v0 hG hS hE hl hF
  unfold F_X12_worlds_175 at hF
  refine lv_aload_n X.1 X.2.1 dX12_worlds_175 rfl (lv_at hl 0 rfl) ?_
  refine lv_aload_n X.1 X.2.1 dX12_worlds_176 rfl (lv_at hl 0 rfl) ?_
  refine lv_aload_n X.1 X.2.1 dX12_worlds_177 rfl (lv_at hl 0 rfl) ?_
  obtain ⟨i5, hr, hF⟩ := b1_ex hF
  have hT_i5 : hT σ i5 13 := gw_T hG hT_v0 (by decide) hr
  refine gx_get 0 (v := .ref (ad i5)) X hG hT_v0.1 (hT_v0.eq (by decide)) (by decide) rfl inX12 (by decide) k_960 (fun _ h => h) (gx_rfv hr) dX12_worlds_178 ?_
  refine lv_iconst (v := 1) X.1 X.2.1 dX12_worlds_181 (by decide) ?_
  refine gx_iald X hG hT_i5 hF dX12_worlds_182 (fun hF => ?_)
  obtain ⟨r7, σ6, hz, hF⟩ := b2_ex hF
  refine gx_rI (gx_runV (As := [.int (hI σ i5 (1 : Int32).toNatClampNeg)]) (rest := [.ref (ad v0)]) X hG hS hT_v0.1 (hT_v0.eq (by decide)) (by decide) rfl (c_X12_leaderOf l D cA base ad σ n v0 (hI σ i5 (1 : Int32).toNatClampNeg) hT_v0 hz) k_1192 k_1189 k_1191 ks_35 k_4 (h_X12_leaderOf) rfl rfl ⟨by decide, by decide⟩ rfl hl.1 rfl (Nat.le_of_ble_eq_true rfl) dX12_worlds_183 ⟨Nat.zero_le _, Nat.zero_le _⟩) hS (fun H locs hG hS hX => ?_)
  have hT_v0 := hX.T hT_v0
  replace hE := hE.trans hX
  refine lv_aload_n X.1 X.2.1 dX12_worlds_186 rfl (lv_at hl 0 rfl) ?_
  obtain ⟨r9, σ8, hz, hF⟩ := b2_ex hF
  refine gx_rI (gx_runV (As := []) (rest := [.int r7, .ref (ad v0)]) X hG hS hT_v0.1 (hT_v0.eq (by decide)) (by decide) rfl (c_X12_neededNow l D cA base ad σ6 n v0 hT_v0 hz) k_1217 k_1214 k_1216 ks_40 k_4 (h_X12_neededNow) rfl rfl ⟨by decide, by decide⟩ rfl hl.1 rfl (Nat.le_of_ble_eq_true rfl) dX12_worlds_187 ⟨Nat.zero_le _, Nat.zero_le _⟩) hS (fun H locs hG hS hX => ?_)
  have hT_v0 := hX.T hT_v0
  replace hE := hE.trans hX
  refine lv_aload_n X.1 X.2.1 dX12_worlds_190 rfl (lv_at hl 0 rfl) ?_
  obtain ⟨i10, hr, hF⟩ := b1_ex hF
  have hT_i10 : hT σ8 i10 13 := gw_T hG hT_v0 (by decide) hr
  refine gx_get 0 (v := .ref (ad i10)) X hG hT_v0.1 (hT_v0.eq (by decide)) (by decide) rfl inX12 (by decide) k_960 (fun _ h => h) (gx_rfv hr) dX12_worlds_191 ?_
  refine lv_iconst (v := 5) X.1 X.2.1 dX12_worlds_194 (by decide) ?_
  refine gx_iald X hG hT_i10 hF dX12_worlds_195 (fun hF => ?_)
  refine lv_iconst (v := 1) X.1 X.2.1 dX12_worlds_196 (by decide) ?_
  refine lv_icmp_ne (tgt := 204) X.1 X.2.1 dX12_worlds_197 (by decide) (fun hc => ?_) (fun hc => ?_)
  · replace hF := it_f hF hc
    refine lv_iconst (v := 0) X.1 X.2.1 dX12_worlds_204 (by decide) ?_
    exact w_X12_worlds_205 X n K_60 hK_60 v0 v1 v3 v4 v5 v6 v7 0 r9 r7 v0 σ8 _ _ ls hT_v0 hT_v0 hG hS hE (lv_sub hl [0, 1, 2, 3, 4, 5, 6] rfl) hF
  · replace hF := it_t hF hc
    refine lv_iconst (v := 1) X.1 X.2.1 dX12_worlds_200 (by decide) ?_
    refine lv_goto (tgt := 205) X.1 X.2.1 dX12_worlds_201 (by decide) ?_
    exact w_X12_worlds_205 X n K_60 hK_60 v0 v1 v3 v4 v5 v6 v7 1 r9 r7 v0 σ8 _ _ ls hT_v0 hT_v0 hG hS hE (lv_sub hl [0, 1, 2, 3, 4, 5, 6] rfl) hF
theorem w_X12_worlds_169 {σ0 τ : Hp} {r : Int32} (X : SX D cA base p s m args meth c cX12_worlds 11 (some .int) RX12) (n : Nat) (K_60 : Nat → Int32 → Int32 → Int32 → Int32 → Int32 → Int32 → Hp → Option (Int32 × Hp)) (hK_60 : ∀ (v0 : Nat) (v1 : Int32) (v3 : Int32) (v4 : Int32) (v5 : Int32) (v6 : Int32) (v7 : Int32) (σ : Hp) (H : Heap) (locs : List Loc) (ls : Array Slot), hT σ v0 12 → GW D cA base ad σ H → va_S (bA base) s.heap H locs → xT σ0 σ → lv_has ls 11 [(0, .ref (ad v0)), (1, .int v1), (3, .int v3), (4, .int v4), (5, .int v5), (6, .int v6), (7, .int v7)] → K_60 v0 v1 v3 v4 v5 v6 v7 σ = some (r, τ) → W p l e rm_X12_worlds s m args below meth c H locs 0 0 (ZI below s args D cA base ad σ0 r τ) (F0 m 60 ls [])) (K_77 : Nat → Int32 → Int32 → Int32 → Int32 → Int32 → Int32 → Int32 → Hp → Option (Int32 × Hp)) (hK_77 : ∀ (v0 : Nat) (v1 : Int32) (v3 : Int32) (v4 : Int32) (v5 : Int32) (v6 : Int32) (v7 : Int32) (v8 : Int32) (σ : Hp) (H : Heap) (locs : List Loc) (ls : Array Slot), hT σ v0 12 → GW D cA base ad σ H → va_S (bA base) s.heap H locs → xT σ0 σ → lv_has ls 11 [(0, .ref (ad v0)), (1, .int v1), (3, .int v3), (4, .int v4), (5, .int v5), (6, .int v6), (7, .int v7), (8, .int v8)] → K_77 v0 v1 v3 v4 v5 v6 v7 v8 σ = some (r, τ) → W p l e rm_X12_worlds s m args below meth c H locs 0 0 (ZI below s args D cA base ad σ0 r τ) (F0 m 77 ls [])) : ∀ (v0 : Nat) (v1 : Int32) (v3 : Int32) (v4 : Int32) (v5 : Int32) (v6 : Int32) (v7 : Int32) (v8 : Int32) (σ : Hp) (H : Heap) (locs : List Loc) (ls : Array Slot), hT σ v0 12 → GW D cA base ad σ H → va_S (bA base) s.heap H locs → xT σ0 σ → lv_has ls 11 [(0, .ref (ad v0)), (1, .int v1), (3, .int v3), (4, .int v4), (5, .int v5), (6, .int v6), (7, .int v7), (8, .int v8)] → F_X12_worlds_169 n K_60 K_77 v0 v1 v3 v4 v5 v6 v7 v8 σ = some (r, τ) → W p l e rm_X12_worlds s m args below meth c H locs 0 0 (ZI below s args D cA base ad σ0 r τ) (F0 m 169 ls []) := by
  intro v0 v1 v3 v4 v5 v6 v7 v8 σ H locs ls hT_v0 hG hS hE hl hF
  unfold F_X12_worlds_169 at hF
  refine lv_iinc (v := v8 + 1) (lv' := [(8, .int (v8 + 1)), (0, .ref (ad v0)), (1, .int v1), (3, .int v3), (4, .int v4), (5, .int v5), (6, .int v6), (7, .int v7)]) X.1 X.2.1 dX12_worlds_169 hl (k := 7) rfl rfl (by decide) rfl (fun ls hl => ?_)
  refine lv_goto (tgt := 77) X.1 X.2.1 dX12_worlds_172 (by decide) ?_
  exact hK_77 v0 v1 v3 v4 v5 v6 v7 (v8 + 1) σ _ _ ls hT_v0 hG hS hE (lv_sub hl [1, 2, 3, 4, 5, 6, 7, 0] rfl) hF
theorem w_X12_worlds_161 {σ0 τ : Hp} {r : Int32} (X : SX D cA base p s m args meth c cX12_worlds 11 (some .int) RX12) (n : Nat) (K_60 : Nat → Int32 → Int32 → Int32 → Int32 → Int32 → Int32 → Hp → Option (Int32 × Hp)) (hK_60 : ∀ (v0 : Nat) (v1 : Int32) (v3 : Int32) (v4 : Int32) (v5 : Int32) (v6 : Int32) (v7 : Int32) (σ : Hp) (H : Heap) (locs : List Loc) (ls : Array Slot), hT σ v0 12 → GW D cA base ad σ H → va_S (bA base) s.heap H locs → xT σ0 σ → lv_has ls 11 [(0, .ref (ad v0)), (1, .int v1), (3, .int v3), (4, .int v4), (5, .int v5), (6, .int v6), (7, .int v7)] → K_60 v0 v1 v3 v4 v5 v6 v7 σ = some (r, τ) → W p l e rm_X12_worlds s m args below meth c H locs 0 0 (ZI below s args D cA base ad σ0 r τ) (F0 m 60 ls [])) (K_77 : Nat → Int32 → Int32 → Int32 → Int32 → Int32 → Int32 → Int32 → Hp → Option (Int32 × Hp)) (hK_77 : ∀ (v0 : Nat) (v1 : Int32) (v3 : Int32) (v4 : Int32) (v5 : Int32) (v6 : Int32) (v7 : Int32) (v8 : Int32) (σ : Hp) (H : Heap) (locs : List Loc) (ls : Array Slot), hT σ v0 12 → GW D cA base ad σ H → va_S (bA base) s.heap H locs → xT σ0 σ → lv_has ls 11 [(0, .ref (ad v0)), (1, .int v1), (3, .int v3), (4, .int v4), (5, .int v5), (6, .int v6), (7, .int v7), (8, .int v8)] → K_77 v0 v1 v3 v4 v5 v6 v7 v8 σ = some (r, τ) → W p l e rm_X12_worlds s m args below meth c H locs 0 0 (ZI below s args D cA base ad σ0 r τ) (F0 m 77 ls [])) (K_102 : Nat → Int32 → Int32 → Int32 → Int32 → Int32 → Int32 → Int32 → Int32 → Hp → Option (Int32 × Hp)) (hK_102 : ∀ (v0 : Nat) (v1 : Int32) (v3 : Int32) (v4 : Int32) (v5 : Int32) (v6 : Int32) (v7 : Int32) (v8 : Int32) (v9 : Int32) (σ : Hp) (H : Heap) (locs : List Loc) (ls : Array Slot), hT σ v0 12 → GW D cA base ad σ H → va_S (bA base) s.heap H locs → xT σ0 σ → lv_has ls 11 [(0, .ref (ad v0)), (1, .int v1), (3, .int v3), (4, .int v4), (5, .int v5), (6, .int v6), (7, .int v7), (8, .int v8), (9, .int v9)] → K_102 v0 v1 v3 v4 v5 v6 v7 v8 v9 σ = some (r, τ) → W p l e rm_X12_worlds s m args below meth c H locs 0 0 (ZI below s args D cA base ad σ0 r τ) (F0 m 102 ls [])) : ∀ (v0 : Nat) (v1 : Int32) (v3 : Int32) (v4 : Int32) (v5 : Int32) (v6 : Int32) (v7 : Int32) (v8 : Int32) (v9 : Int32) (s0 : Int32) (s1 : Int32) (s2 : Int32) (s3 : Nat) (σ : Hp) (H : Heap) (locs : List Loc) (ls : Array Slot), hT σ v0 12 → hT σ s3 13 → GW D cA base ad σ H → va_S (bA base) s.heap H locs → xT σ0 σ → lv_has ls 11 [(0, .ref (ad v0)), (1, .int v1), (3, .int v3), (4, .int v4), (5, .int v5), (6, .int v6), (7, .int v7), (8, .int v8), (9, .int v9)] → F_X12_worlds_161 n K_60 K_77 K_102 v0 v1 v3 v4 v5 v6 v7 v8 v9 s0 s1 s2 s3 σ = some (r, τ) → W p l e rm_X12_worlds s m args below meth c H locs 0 0 (ZI below s args D cA base ad σ0 r τ) (F0 m 161 ls [.int s0, .int s1, .int s2, .ref (ad s3)]) := by
  intro v0 v1 v3 v4 v5 v6 v7 v8 v9 s0 s1 s2 s3 σ H locs ls hT_v0 hT_s3 hG hS hE hl hF
  unfold F_X12_worlds_161 at hF
  refine lv_ior X.1 X.2.1 dX12_worlds_161 ?_
  refine gx_iast X hG hS hT_s3 hF dX12_worlds_162 (fun σ11 H locs hG hS hX hF => ?_)
  have hT_v0 := hX.T hT_v0
  replace hE := hE.trans hX
  refine lv_iinc (v := v9 + 1) (lv' := [(9, .int (v9 + 1)), (0, .ref (ad v0)), (1, .int v1), (3, .int v3), (4, .int v4), (5, .int v5), (6, .int v6), (7, .int v7), (8, .int v8)]) X.1 X.2.1 dX12_worlds_163 hl (k := 8) rfl rfl (by decide) rfl (fun ls hl => ?_)
  refine lv_goto (tgt := 102) X.1 X.2.1 dX12_worlds_166 (by decide) ?_
  exact hK_102 v0 v1 v3 v4 v5 v6 v7 v8 (v9 + 1) σ11 _ _ ls hT_v0 hG hS hE (lv_sub hl [1, 2, 3, 4, 5, 6, 7, 8, 0] rfl) hF
theorem w_X12_worlds_102 {σ0 τ : Hp} {r : Int32} (X : SX D cA base p s m args meth c cX12_worlds 11 (some .int) RX12) (n : Nat) (K_60 : Nat → Int32 → Int32 → Int32 → Int32 → Int32 → Int32 → Hp → Option (Int32 × Hp)) (hK_60 : ∀ (v0 : Nat) (v1 : Int32) (v3 : Int32) (v4 : Int32) (v5 : Int32) (v6 : Int32) (v7 : Int32) (σ : Hp) (H : Heap) (locs : List Loc) (ls : Array Slot), hT σ v0 12 → GW D cA base ad σ H → va_S (bA base) s.heap H locs → xT σ0 σ → lv_has ls 11 [(0, .ref (ad v0)), (1, .int v1), (3, .int v3), (4, .int v4), (5, .int v5), (6, .int v6), (7, .int v7)] → K_60 v0 v1 v3 v4 v5 v6 v7 σ = some (r, τ) → W p l e rm_X12_worlds s m args below meth c H locs 0 0 (ZI below s args D cA base ad σ0 r τ) (F0 m 60 ls [])) (K_77 : Nat → Int32 → Int32 → Int32 → Int32 → Int32 → Int32 → Int32 → Hp → Option (Int32 × Hp)) (hK_77 : ∀ (v0 : Nat) (v1 : Int32) (v3 : Int32) (v4 : Int32) (v5 : Int32) (v6 : Int32) (v7 : Int32) (v8 : Int32) (σ : Hp) (H : Heap) (locs : List Loc) (ls : Array Slot), hT σ v0 12 → GW D cA base ad σ H → va_S (bA base) s.heap H locs → xT σ0 σ → lv_has ls 11 [(0, .ref (ad v0)), (1, .int v1), (3, .int v3), (4, .int v4), (5, .int v5), (6, .int v6), (7, .int v7), (8, .int v8)] → K_77 v0 v1 v3 v4 v5 v6 v7 v8 σ = some (r, τ) → W p l e rm_X12_worlds s m args below meth c H locs 0 0 (ZI below s args D cA base ad σ0 r τ) (F0 m 77 ls [])) : ∀ f : Nat, ∀ (v0 : Nat) (v1 : Int32) (v3 : Int32) (v4 : Int32) (v5 : Int32) (v6 : Int32) (v7 : Int32) (v8 : Int32) (v9 : Int32) (σ : Hp) (H : Heap) (locs : List Loc) (ls : Array Slot), hT σ v0 12 → GW D cA base ad σ H → va_S (bA base) s.heap H locs → xT σ0 σ → lv_has ls 11 [(0, .ref (ad v0)), (1, .int v1), (3, .int v3), (4, .int v4), (5, .int v5), (6, .int v6), (7, .int v7), (8, .int v8), (9, .int v9)] → F_X12_worlds_102 n K_60 K_77 f v0 v1 v3 v4 v5 v6 v7 v8 v9 σ = some (r, τ) → W p l e rm_X12_worlds s m args below meth c H locs 0 0 (ZI below s args D cA base ad σ0 r τ) (F0 m 102 ls []) := by
  intro f
  induction f with
  | zero => intro v0 v1 v3 v4 v5 v6 v7 v8 v9 σ H locs ls h0 hG hS hE hl hF
            rw [F_X12_worlds_102] at hF; cases hF
  | succ f ih =>
    intro v0 v1 v3 v4 v5 v6 v7 v8 v9 σ H locs ls hT_v0 hG hS hE hl hF
    rw [F_X12_worlds_102] at hF
    refine lv_iload X.1 X.2.1 dX12_worlds_102 (lv_at hl 8 rfl) ?_
    refine lv_aload_n X.1 X.2.1 dX12_worlds_104 rfl (lv_at hl 0 rfl) ?_
    obtain ⟨i12, hr, hF⟩ := b1_ex hF
    have hT_i12 : hT σ i12 13 := gw_T hG hT_v0 (by decide) hr
    refine gx_get 0 (v := .ref (ad i12)) X hG hT_v0.1 (hT_v0.eq (by decide)) (by decide) rfl inX12 (by decide) k_960 (fun _ h => h) (gx_rfv hr) dX12_worlds_105 ?_
    refine lv_iconst (v := 0) X.1 X.2.1 dX12_worlds_108 (by decide) ?_
    refine gx_iald X hG hT_i12 hF dX12_worlds_109 (fun hF => ?_)
    refine lv_icmp_ge (tgt := 169) X.1 X.2.1 dX12_worlds_110 (by decide) (fun hc => ?_) (fun hc => ?_)
    · replace hF := it_t hF hc
      exact w_X12_worlds_169 X n K_60 hK_60 K_77 hK_77 v0 v1 v3 v4 v5 v6 v7 v8 σ _ _ ls hT_v0 hG hS hE (lv_sub hl [0, 1, 2, 3, 4, 5, 6, 7] rfl) hF
    · replace hF := it_f hF hc
      refine lv_iload X.1 X.2.1 dX12_worlds_113 (lv_at hl 4 rfl) ?_
      refine lv_ldcw (v := 1103515245) X.1 X.2.1 X.2.2.2.2.2.1 (X.w k_1332) dX12_worlds_115 ?_
      refine lv_imul X.1 X.2.1 dX12_worlds_118 ?_
      refine lv_sipush (v := 12345) X.1 X.2.1 dX12_worlds_119 (by decide) ?_
      refine lv_iadd X.1 X.2.1 dX12_worlds_122 ?_
      refine lv_istore (lv' := [(5, .int ((v5 * 1103515245) + 12345)), (0, .ref (ad v0)), (1, .int v1), (3, .int v3), (4, .int v4), (6, .int v6), (7, .int v7), (8, .int v8), (9, .int v9)]) X.1 X.2.1 dX12_worlds_123 hl (by decide) rfl (fun ls hl => ?_)
      refine lv_aload_n X.1 X.2.1 dX12_worlds_125 rfl (lv_at hl 1 rfl) ?_
      obtain ⟨i13, hr, hF⟩ := b1_ex hF
      have hT_i13 : hT σ i13 13 := gw_T hG hT_v0 (by decide) hr
      refine gx_get 5 (v := .ref (ad i13)) X hG hT_v0.1 (hT_v0.eq (by decide)) (by decide) rfl inX12 (by decide) k_965 (fun _ h => h) (gx_rfv hr) dX12_worlds_126 ?_
      refine lv_bipush (v := 19) X.1 X.2.1 dX12_worlds_129 (by decide) ?_
      refine lv_iload X.1 X.2.1 dX12_worlds_131 (lv_at hl 7 rfl) ?_
      refine lv_iadd X.1 X.2.1 dX12_worlds_133 ?_
      refine lv_dup2_11 X.1 X.2.1 dX12_worlds_134 rfl rfl ?_
      refine gx_iald X hG hT_i13 hF dX12_worlds_135 (fun hF => ?_)
      refine lv_iload X.1 X.2.1 dX12_worlds_136 (lv_at hl 0 rfl) ?_
      refine lv_ldcw (v := 2147483647) X.1 X.2.1 X.2.2.2.2.2.1 (X.w k_1333) dX12_worlds_138 ?_
      refine lv_iand X.1 X.2.1 dX12_worlds_141 ?_
      refine lv_ldcw (v := 65536) X.1 X.2.1 X.2.2.2.2.2.1 (X.w k_1334) dX12_worlds_142 ?_
      refine lv_idiv X.1 X.2.1 dX12_worlds_145 (by decide) ?_
      refine lv_bipush (v := 100) X.1 X.2.1 dX12_worlds_146 (by decide) ?_
      refine lv_irem X.1 X.2.1 dX12_worlds_148 (by decide) ?_
      refine lv_iload_n X.1 X.2.1 dX12_worlds_149 rfl (lv_at hl 3 rfl) ?_
      refine lv_icmp_ge (tgt := 160) X.1 X.2.1 dX12_worlds_150 (by decide) (fun hc => ?_) (fun hc => ?_)
      · replace hF := it_t hF hc
        refine lv_iconst (v := 0) X.1 X.2.1 dX12_worlds_160 (by decide) ?_
        exact w_X12_worlds_161 X n K_60 hK_60 K_77 hK_77 (F_X12_worlds_102 n K_60 K_77 f) ih v0 v1 v3 v4 ((v5 * 1103515245) + 12345) v6 v7 v8 v9 0 (hI σ i13 (19 + v8).toNatClampNeg) (19 + v8) i13 σ _ _ ls hT_v0 hT_i13 hG hS hE (lv_sub hl [1, 2, 3, 4, 0, 5, 6, 7, 8] rfl) hF
      · replace hF := it_f hF hc
        refine lv_iconst (v := 1) X.1 X.2.1 dX12_worlds_153 (by decide) ?_
        refine lv_iload X.1 X.2.1 dX12_worlds_154 (lv_at hl 8 rfl) ?_
        refine lv_ishl X.1 X.2.1 dX12_worlds_156 ?_
        refine lv_goto (tgt := 161) X.1 X.2.1 dX12_worlds_157 (by decide) ?_
        exact w_X12_worlds_161 X n K_60 hK_60 K_77 hK_77 (F_X12_worlds_102 n K_60 K_77 f) ih v0 v1 v3 v4 ((v5 * 1103515245) + 12345) v6 v7 v8 v9 (1 <<< (v9 &&& 31)) (hI σ i13 (19 + v8).toNatClampNeg) (19 + v8) i13 σ _ _ ls hT_v0 hT_i13 hG hS hE (lv_sub hl [1, 2, 3, 4, 0, 5, 6, 7, 8] rfl) hF
theorem w_X12_worlds_77 {σ0 τ : Hp} {r : Int32} (X : SX D cA base p s m args meth c cX12_worlds 11 (some .int) RX12) (n : Nat) (K_60 : Nat → Int32 → Int32 → Int32 → Int32 → Int32 → Int32 → Hp → Option (Int32 × Hp)) (hK_60 : ∀ (v0 : Nat) (v1 : Int32) (v3 : Int32) (v4 : Int32) (v5 : Int32) (v6 : Int32) (v7 : Int32) (σ : Hp) (H : Heap) (locs : List Loc) (ls : Array Slot), hT σ v0 12 → GW D cA base ad σ H → va_S (bA base) s.heap H locs → xT σ0 σ → lv_has ls 11 [(0, .ref (ad v0)), (1, .int v1), (3, .int v3), (4, .int v4), (5, .int v5), (6, .int v6), (7, .int v7)] → K_60 v0 v1 v3 v4 v5 v6 v7 σ = some (r, τ) → W p l e rm_X12_worlds s m args below meth c H locs 0 0 (ZI below s args D cA base ad σ0 r τ) (F0 m 60 ls [])) : ∀ f : Nat, ∀ (v0 : Nat) (v1 : Int32) (v3 : Int32) (v4 : Int32) (v5 : Int32) (v6 : Int32) (v7 : Int32) (v8 : Int32) (σ : Hp) (H : Heap) (locs : List Loc) (ls : Array Slot), hT σ v0 12 → GW D cA base ad σ H → va_S (bA base) s.heap H locs → xT σ0 σ → lv_has ls 11 [(0, .ref (ad v0)), (1, .int v1), (3, .int v3), (4, .int v4), (5, .int v5), (6, .int v6), (7, .int v7), (8, .int v8)] → F_X12_worlds_77 n K_60 f v0 v1 v3 v4 v5 v6 v7 v8 σ = some (r, τ) → W p l e rm_X12_worlds s m args below meth c H locs 0 0 (ZI below s args D cA base ad σ0 r τ) (F0 m 77 ls []) := by
  intro f
  induction f with
  | zero => intro v0 v1 v3 v4 v5 v6 v7 v8 σ H locs ls h0 hG hS hE hl hF
            rw [F_X12_worlds_77] at hF; cases hF
  | succ f ih =>
    intro v0 v1 v3 v4 v5 v6 v7 v8 σ H locs ls hT_v0 hG hS hE hl hF
    rw [F_X12_worlds_77] at hF
    refine lv_iload X.1 X.2.1 dX12_worlds_77 (lv_at hl 7 rfl) ?_
    refine lv_aload_n X.1 X.2.1 dX12_worlds_79 rfl (lv_at hl 0 rfl) ?_
    obtain ⟨i14, hr, hF⟩ := b1_ex hF
    have hT_i14 : hT σ i14 13 := gw_T hG hT_v0 (by decide) hr
    refine gx_get 0 (v := .ref (ad i14)) X hG hT_v0.1 (hT_v0.eq (by decide)) (by decide) rfl inX12 (by decide) k_960 (fun _ h => h) (gx_rfv hr) dX12_worlds_80 ?_
    refine lv_iconst (v := 1) X.1 X.2.1 dX12_worlds_83 (by decide) ?_
    refine gx_iald X hG hT_i14 hF dX12_worlds_84 (fun hF => ?_)
    refine lv_icmp_ge (tgt := 175) X.1 X.2.1 dX12_worlds_85 (by decide) (fun hc => ?_) (fun hc => ?_)
    · replace hF := it_t hF hc
      exact w_X12_worlds_175 X n K_60 hK_60 v0 v1 v3 v4 v5 v6 v7 σ _ _ ls hT_v0 hG hS hE (lv_sub hl [0, 1, 2, 3, 4, 5, 6] rfl) hF
    · replace hF := it_f hF hc
      refine lv_aload_n X.1 X.2.1 dX12_worlds_88 rfl (lv_at hl 0 rfl) ?_
      obtain ⟨i15, hr, hF⟩ := b1_ex hF
      have hT_i15 : hT σ i15 13 := gw_T hG hT_v0 (by decide) hr
      refine gx_get 5 (v := .ref (ad i15)) X hG hT_v0.1 (hT_v0.eq (by decide)) (by decide) rfl inX12 (by decide) k_965 (fun _ h => h) (gx_rfv hr) dX12_worlds_89 ?_
      refine lv_bipush (v := 19) X.1 X.2.1 dX12_worlds_92 (by decide) ?_
      refine lv_iload X.1 X.2.1 dX12_worlds_94 (lv_at hl 7 rfl) ?_
      refine lv_iadd X.1 X.2.1 dX12_worlds_96 ?_
      refine lv_iconst (v := 0) X.1 X.2.1 dX12_worlds_97 (by decide) ?_
      refine gx_iast X hG hS hT_i15 hF dX12_worlds_98 (fun σ16 H locs hG hS hX hF => ?_)
      have hT_v0 := hX.T hT_v0
      replace hE := hE.trans hX
      refine lv_iconst (v := 0) X.1 X.2.1 dX12_worlds_99 (by decide) ?_
      refine lv_istore (lv' := [(9, .int 0), (0, .ref (ad v0)), (1, .int v1), (3, .int v3), (4, .int v4), (5, .int v5), (6, .int v6), (7, .int v7), (8, .int v8)]) X.1 X.2.1 dX12_worlds_100 hl (by decide) rfl (fun ls hl => ?_)
      exact w_X12_worlds_102 X n K_60 hK_60 (F_X12_worlds_77 n K_60 f) ih n v0 v1 v3 v4 v5 v6 v7 v8 0 σ16 _ _ ls hT_v0 hG hS hE (lv_sub hl [1, 2, 3, 4, 5, 6, 7, 8, 0] rfl) hF
theorem w_X12_worlds_60 {σ0 τ : Hp} {r : Int32} (X : SX D cA base p s m args meth c cX12_worlds 11 (some .int) RX12) (n : Nat)  : ∀ f : Nat, ∀ (v0 : Nat) (v1 : Int32) (v3 : Int32) (v4 : Int32) (v5 : Int32) (v6 : Int32) (v7 : Int32) (σ : Hp) (H : Heap) (locs : List Loc) (ls : Array Slot), hT σ v0 12 → GW D cA base ad σ H → va_S (bA base) s.heap H locs → xT σ0 σ → lv_has ls 11 [(0, .ref (ad v0)), (1, .int v1), (3, .int v3), (4, .int v4), (5, .int v5), (6, .int v6), (7, .int v7)] → F_X12_worlds_60 n  f v0 v1 v3 v4 v5 v6 v7 σ = some (r, τ) → W p l e rm_X12_worlds s m args below meth c H locs 0 0 (ZI below s args D cA base ad σ0 r τ) (F0 m 60 ls []) := by
  intro f
  induction f with
  | zero => intro v0 v1 v3 v4 v5 v6 v7 σ H locs ls h0 hG hS hE hl hF
            rw [F_X12_worlds_60] at hF; cases hF
  | succ f ih =>
    intro v0 v1 v3 v4 v5 v6 v7 σ H locs ls hT_v0 hG hS hE hl hF
    rw [F_X12_worlds_60] at hF
    refine lv_iload X.1 X.2.1 dX12_worlds_60 (lv_at hl 6 rfl) ?_
    refine lv_iload_n X.1 X.2.1 dX12_worlds_62 rfl (lv_at hl 1 rfl) ?_
    refine lv_icmp_ge (tgt := 313) X.1 X.2.1 dX12_worlds_63 (by decide) (fun hc => ?_) (fun hc => ?_)
    · replace hF := it_t hF hc
      refine lv_iload X.1 X.2.1 dX12_worlds_313 (lv_at hl 5 rfl) ?_
      exact gx_iret X hG hS hE hF dX12_worlds_315
    · replace hF := it_f hF hc
      refine lv_aload_n X.1 X.2.1 dX12_worlds_66 rfl (lv_at hl 0 rfl) ?_
      refine lv_aload_n X.1 X.2.1 dX12_worlds_67 rfl (lv_at hl 0 rfl) ?_
      obtain ⟨i17, hr, hF⟩ := b1_ex hF
      have hT_i17 : hT σ i17 13 := gw_T hG hT_v0 (by decide) hr
      refine gx_get 5 (v := .ref (ad i17)) X hG hT_v0.1 (hT_v0.eq (by decide)) (by decide) rfl inX12 (by decide) k_965 (fun _ h => h) (gx_rfv hr) dX12_worlds_68 ?_
      obtain ⟨σ18, hz, hF⟩ := b1_ex hF
      refine gx_rV (gx_runV (As := [.ref (ad i17)]) (rest := []) X hG hS hT_v0.1 (hT_v0.eq (by decide)) (by decide) rfl (c_X12_takesAll l D cA base ad σ n v0 i17 hT_v0 hT_i17 hz) k_1188 k_1185 k_1187 ks_34 k_4 (h_X12_takesAll) rfl rfl ⟨by decide, by decide⟩ rfl hl.1 rfl (Nat.le_of_ble_eq_true rfl) dX12_worlds_71 ⟨Nat.zero_le _, Nat.zero_le _⟩) hS (fun H locs hG hS hX => ?_)
      have hT_v0 := hX.T hT_v0
      replace hE := hE.trans hX
      refine lv_iconst (v := 0) X.1 X.2.1 dX12_worlds_74 (by decide) ?_
      refine lv_istore (lv' := [(8, .int 0), (0, .ref (ad v0)), (1, .int v1), (3, .int v3), (4, .int v4), (5, .int v5), (6, .int v6), (7, .int v7)]) X.1 X.2.1 dX12_worlds_75 hl (by decide) rfl (fun ls hl => ?_)
      exact w_X12_worlds_77 X n (F_X12_worlds_60 n  f) ih n v0 v1 v3 v4 v5 v6 v7 0 σ18 _ _ ls hT_v0 hG hS hE (lv_sub hl [1, 2, 3, 4, 5, 6, 7, 0] rfl) hF
theorem c_X12_worlds (l : Launch) (D : va_G) (cA : Nat → ClassId) (base : Nat) (ad : Nat → Nat) (σ : Hp) (n : Nat) (a0 : Nat) (a1 : Int32) (a2 : Int32) (a3 : Int32) (a4 : Int32) (hT_a0 : hT σ a0 12) {τ : Hp} {r : Int32} (hF : F_X12_worlds n a0 a1 a2 a3 a4 σ = some (r, τ)) : MI l yX12_worlds cX12_worlds 11 (some .int) rm_X12_worlds D cA base ad σ [.ref (ad a0), .int a1, .int a2, .int a3, .int a4] r τ := by
  refine Met.ofW (cc := cX12_worlds) (maxL := 11) (ret := (some .int)) (by decide) rfl ?_
  intro p e s m args below meth c s₁ B hml hv
  obtain ⟨rfl, hv⟩ := hv
  have X : SX D cA base p s m ([.ref (ad a0), .int a1, .int a2, .int a3, .int a4] : List Value).toArray meth c cX12_worlds 11 (some .int) RX12 := sx_of B hml hv
  have hG := hv.1
  have hS : va_S (bA base) s.heap s.heap [] := va_S.rf
  have hE := xT.rf σ
  have hl := lv_entry ([.ref (ad a0), .int a1, .int a2, .int a3, .int a4]) (n := 11) (Nat.le_of_ble_eq_true rfl)
  rw [lg_entry_eq]
  generalize (lg_sl ([.ref (ad a0), .int a1, .int a2, .int a3, .int a4]) ++ List.replicate (11 - (lg_sl ([.ref (ad a0), .int a1, .int a2, .int a3, .int a4])).length) Slot.unset).toArray = ls at hl ⊢
  have hl : lv_has ls 11 [(0, .ref (ad a0)), (1, .int a1), (2, .int a2), (3, .int a3), (4, .int a4)] := hl
  unfold F_X12_worlds at hF
  refine lv_iload_n X.1 X.2.1 dX12_worlds_0 rfl (lv_at hl 1 rfl) ?_
  refine lv_i2l X.1 X.2.1 dX12_worlds_1 rfl ?_
  refine lv_lconst (v := 1) X.1 X.2.1 dX12_worlds_2 (by decide) ?_
  refine lv_ldc2 (v := 30) X.1 X.2.1 X.2.2.2.2.2.1 (X.w k_1069) dX12_worlds_3 ?_
  obtain ⟨r20, σ19, hz, hF⟩ := b2_ex hF
  refine gx_rI (gx_runS (As := [.long a1.toInt64, .long 1, .long 30]) (rest := []) X hG hS (c_X12_isIn l D cA base ad σ n a1.toInt64 1 30 hz) k_1063 k_1061 k_1062 k_4 (h_X12_isIn.2) rfl rfl ⟨by decide, by decide⟩ rfl hl.1 rfl (Nat.le_of_ble_eq_true rfl) dX12_worlds_6 ⟨Nat.zero_le _, Nat.zero_le _⟩) hS (fun H locs hG hS hX => ?_)
  have hT_a0 := hX.T hT_a0
  replace hE := hE.trans hX
  refine lv_if_eq (tgt := 37) X.1 X.2.1 dX12_worlds_9 (by decide) (fun hc => ?_) (fun hc => ?_)
  · replace hF := it_t hF hc
    refine lv_iconst (v := (-1)) X.1 X.2.1 dX12_worlds_37 (by decide) ?_
    exact gx_iret X hG hS hE hF dX12_worlds_38
  · replace hF := it_f hF hc
    refine lv_iload_n X.1 X.2.1 dX12_worlds_12 rfl (lv_at hl 3 rfl) ?_
    refine lv_i2l X.1 X.2.1 dX12_worlds_13 rfl ?_
    refine lv_lconst (v := 0) X.1 X.2.1 dX12_worlds_14 (by decide) ?_
    refine lv_ldc2 (v := 100) X.1 X.2.1 X.2.2.2.2.2.1 (X.w k_1331) dX12_worlds_15 ?_
    obtain ⟨r22, σ21, hz, hF⟩ := b2_ex hF
    refine gx_rI (gx_runS (As := [.long a3.toInt64, .long 0, .long 100]) (rest := []) X hG hS (c_X12_isIn l D cA base ad σ19 n a3.toInt64 0 100 hz) k_1063 k_1061 k_1062 k_4 (h_X12_isIn.2) rfl rfl ⟨by decide, by decide⟩ rfl hl.1 rfl (Nat.le_of_ble_eq_true rfl) dX12_worlds_18 ⟨Nat.zero_le _, Nat.zero_le _⟩) hS (fun H locs hG hS hX => ?_)
    have hT_a0 := hX.T hT_a0
    replace hE := hE.trans hX
    refine lv_if_eq (tgt := 37) X.1 X.2.1 dX12_worlds_21 (by decide) (fun hc => ?_) (fun hc => ?_)
    · replace hF := it_t hF hc
      refine lv_iconst (v := (-1)) X.1 X.2.1 dX12_worlds_37 (by decide) ?_
      exact gx_iret X hG hS hE hF dX12_worlds_38
    · replace hF := it_f hF hc
      refine lv_iload X.1 X.2.1 dX12_worlds_24 (lv_at hl 4 rfl) ?_
      refine lv_i2l X.1 X.2.1 dX12_worlds_26 rfl ?_
      refine lv_lconst (v := 0) X.1 X.2.1 dX12_worlds_27 (by decide) ?_
      refine lv_ldc2 (v := 2) X.1 X.2.1 X.2.2.2.2.2.1 (X.w k_1291) dX12_worlds_28 ?_
      obtain ⟨r24, σ23, hz, hF⟩ := b2_ex hF
      refine gx_rI (gx_runS (As := [.long a4.toInt64, .long 0, .long 2]) (rest := []) X hG hS (c_X12_isIn l D cA base ad σ21 n a4.toInt64 0 2 hz) k_1063 k_1061 k_1062 k_4 (h_X12_isIn.2) rfl rfl ⟨by decide, by decide⟩ rfl hl.1 rfl (Nat.le_of_ble_eq_true rfl) dX12_worlds_31 ⟨Nat.zero_le _, Nat.zero_le _⟩) hS (fun H locs hG hS hX => ?_)
      have hT_a0 := hX.T hT_a0
      replace hE := hE.trans hX
      refine lv_if_ne (tgt := 39) X.1 X.2.1 dX12_worlds_34 (by decide) (fun hc => ?_) (fun hc => ?_)
      · replace hF := it_f hF hc
        refine lv_aload_n X.1 X.2.1 dX12_worlds_39 rfl (lv_at hl 0 rfl) ?_
        obtain ⟨i25, hr, hF⟩ := b1_ex hF
        have hT_i25 : hT σ23 i25 13 := gw_T hG hT_a0 (by decide) hr
        refine gx_get 0 (v := .ref (ad i25)) X hG hT_a0.1 (hT_a0.eq (by decide)) (by decide) rfl inX12 (by decide) k_960 (fun _ h => h) (gx_rfv hr) dX12_worlds_40 ?_
        refine lv_iconst (v := 1) X.1 X.2.1 dX12_worlds_43 (by decide) ?_
        refine gx_iald X hG hT_i25 hF dX12_worlds_44 (fun hF => ?_)
        refine lv_if_ne (tgt := 51) X.1 X.2.1 dX12_worlds_45 (by decide) (fun hc => ?_) (fun hc => ?_)
        · replace hF := it_f hF hc
          refine lv_iload_n X.1 X.2.1 dX12_worlds_51 rfl (lv_at hl 2 rfl) ?_
          refine lv_istore (lv' := [(5, .int a2), (0, .ref (ad a0)), (1, .int a1), (2, .int a2), (3, .int a3), (4, .int a4)]) X.1 X.2.1 dX12_worlds_52 hl (by decide) rfl (fun ls hl => ?_)
          refine lv_iconst (v := 0) X.1 X.2.1 dX12_worlds_54 (by decide) ?_
          refine lv_istore (lv' := [(6, .int 0), (5, .int a2), (0, .ref (ad a0)), (1, .int a1), (2, .int a2), (3, .int a3), (4, .int a4)]) X.1 X.2.1 dX12_worlds_55 hl (by decide) rfl (fun ls hl => ?_)
          refine lv_iconst (v := 0) X.1 X.2.1 dX12_worlds_57 (by decide) ?_
          refine lv_istore (lv' := [(7, .int 0), (6, .int 0), (5, .int a2), (0, .ref (ad a0)), (1, .int a1), (2, .int a2), (3, .int a3), (4, .int a4)]) X.1 X.2.1 dX12_worlds_58 hl (by decide) rfl (fun ls hl => ?_)
          exact w_X12_worlds_60 X n  n a0 a1 a3 a4 a2 0 0 σ23 _ _ ls hT_a0 hG hS hE (lv_sub hl [3, 4, 6, 7, 2, 1, 0] rfl) hF
        · replace hF := it_t hF hc
          refine lv_bipush (v := (-3)) X.1 X.2.1 dX12_worlds_48 (by decide) ?_
          exact gx_iret X hG hS hE hF dX12_worlds_50
      · replace hF := it_t hF hc
        refine lv_iconst (v := (-1)) X.1 X.2.1 dX12_worlds_37 (by decide) ?_
        exact gx_iret X hG hS hE hF dX12_worlds_38
theorem w_X12_image_79 {σ0 τ : Hp} {r : Int32} (X : SX D cA base p s m args meth c cX12_image 2 (some .int) RX12) (n : Nat)  : ∀ (v0 : Nat) (σ : Hp) (H : Heap) (locs : List Loc) (ls : Array Slot), hT σ v0 12 → GW D cA base ad σ H → va_S (bA base) s.heap H locs → xT σ0 σ → lv_has ls 2 [(0, .ref (ad v0))] → F_X12_image_79 n  v0 σ = some (r, τ) → W p l e rm_X12_image s m args below meth c H locs 0 0 (ZI below s args D cA base ad σ0 r τ) (F0 m 79 ls []) := by
  intro v0 σ H locs ls hT_v0 hG hS hE hl hF
  unfold F_X12_image_79 at hF
  refine lv_aload_n X.1 X.2.1 dX12_image_79 rfl (lv_at hl 0 rfl) ?_
  refine lv_iconst (v := 1) X.1 X.2.1 dX12_image_80 (by decide) ?_
  refine gx_putI 13  X hG hS hT_v0.1 (hT_v0.eq (by decide)) (by decide) rfl inX12 tyX12_ok nmX12 (by decide) k_973 (fun _ h => h) rfl rfl rfl rfl (Nat.le_of_ble_eq_true rfl) dX12_image_81 hF (fun σ1 H locs hG hS hX hF => ?_)
  have hT_v0 := hX.T hT_v0
  replace hE := hE.trans hX
  refine lv_aload_n X.1 X.2.1 dX12_image_84 rfl (lv_at hl 0 rfl) ?_
  obtain ⟨i2, hr, hF⟩ := b1_ex hF
  have hT_i2 : hT σ1 i2 13 := gw_T hG hT_v0 (by decide) hr
  refine gx_get 0 (v := .ref (ad i2)) X hG hT_v0.1 (hT_v0.eq (by decide)) (by decide) rfl inX12 (by decide) k_960 (fun _ h => h) (gx_rfv hr) dX12_image_85 ?_
  refine lv_iconst (v := 1) X.1 X.2.1 dX12_image_88 (by decide) ?_
  refine gx_iald X hG hT_i2 hF dX12_image_89 (fun hF => ?_)
  exact gx_iret X hG hS hE hF dX12_image_90
theorem w_X12_image_54 {σ0 τ : Hp} {r : Int32} (X : SX D cA base p s m args meth c cX12_image 2 (some .int) RX12) (n : Nat)  : ∀ f : Nat, ∀ (v0 : Nat) (v1 : Int32) (σ : Hp) (H : Heap) (locs : List Loc) (ls : Array Slot), hT σ v0 12 → GW D cA base ad σ H → va_S (bA base) s.heap H locs → xT σ0 σ → lv_has ls 2 [(0, .ref (ad v0)), (1, .int v1)] → F_X12_image_54 n  f v0 v1 σ = some (r, τ) → W p l e rm_X12_image s m args below meth c H locs 0 0 (ZI below s args D cA base ad σ0 r τ) (F0 m 54 ls []) := by
  intro f
  induction f with
  | zero => intro v0 v1 σ H locs ls h0 hG hS hE hl hF
            rw [F_X12_image_54] at hF; cases hF
  | succ f ih =>
    intro v0 v1 σ H locs ls hT_v0 hG hS hE hl hF
    rw [F_X12_image_54] at hF
    refine lv_iload_n X.1 X.2.1 dX12_image_54 rfl (lv_at hl 1 rfl) ?_
    refine lv_sipush (v := 600) X.1 X.2.1 dX12_image_55 (by decide) ?_
    refine lv_icmp_ge (tgt := 79) X.1 X.2.1 dX12_image_58 (by decide) (fun hc => ?_) (fun hc => ?_)
    · replace hF := it_t hF hc
      exact w_X12_image_79 X n  v0 σ _ _ ls hT_v0 hG hS hE (lv_sub hl [0] rfl) hF
    · replace hF := it_f hF hc
      refine lv_aload_n X.1 X.2.1 dX12_image_61 rfl (lv_at hl 0 rfl) ?_
      obtain ⟨i3, hr, hF⟩ := b1_ex hF
      have hT_i3 : hT σ i3 13 := gw_T hG hT_v0 (by decide) hr
      refine gx_get 3 (v := .ref (ad i3)) X hG hT_v0.1 (hT_v0.eq (by decide)) (by decide) rfl inX12 (by decide) k_963 (fun _ h => h) (gx_rfv hr) dX12_image_62 ?_
      refine lv_iload_n X.1 X.2.1 dX12_image_65 rfl (lv_at hl 1 rfl) ?_
      refine lv_aload_n X.1 X.2.1 dX12_image_66 rfl (lv_at hl 0 rfl) ?_
      obtain ⟨i4, hr, hF⟩ := b1_ex hF
      have hT_i4 : hT σ i4 13 := gw_T hG hT_v0 (by decide) hr
      refine gx_get 2 (v := .ref (ad i4)) X hG hT_v0.1 (hT_v0.eq (by decide)) (by decide) rfl inX12 (by decide) k_962 (fun _ h => h) (gx_rfv hr) dX12_image_67 ?_
      refine lv_iload_n X.1 X.2.1 dX12_image_70 rfl (lv_at hl 1 rfl) ?_
      refine gx_iald X hG hT_i4 hF dX12_image_71 (fun hF => ?_)
      refine gx_iast X hG hS hT_i3 hF dX12_image_72 (fun σ5 H locs hG hS hX hF => ?_)
      have hT_v0 := hX.T hT_v0
      replace hE := hE.trans hX
      refine lv_iinc (v := v1 + 1) (lv' := [(1, .int (v1 + 1)), (0, .ref (ad v0))]) X.1 X.2.1 dX12_image_73 hl (k := 1) rfl rfl (by decide) rfl (fun ls hl => ?_)
      refine lv_goto (tgt := 54) X.1 X.2.1 dX12_image_76 (by decide) ?_
      exact ih v0 (v1 + 1) σ5 _ _ ls hT_v0 hG hS hE (lv_sub hl [1, 0] rfl) hF
theorem w_X12_image_52 {σ0 τ : Hp} {r : Int32} (X : SX D cA base p s m args meth c cX12_image 2 (some .int) RX12) (n : Nat)  : ∀ (v0 : Nat) (σ : Hp) (H : Heap) (locs : List Loc) (ls : Array Slot), hT σ v0 12 → GW D cA base ad σ H → va_S (bA base) s.heap H locs → xT σ0 σ → lv_has ls 2 [(0, .ref (ad v0))] → F_X12_image_52 n  v0 σ = some (r, τ) → W p l e rm_X12_image s m args below meth c H locs 0 0 (ZI below s args D cA base ad σ0 r τ) (F0 m 52 ls []) := by
  intro v0 σ H locs ls hT_v0 hG hS hE hl hF
  unfold F_X12_image_52 at hF
  refine lv_iconst (v := 0) X.1 X.2.1 dX12_image_52 (by decide) ?_
  refine lv_istore_n (lv' := [(1, .int 0), (0, .ref (ad v0))]) X.1 X.2.1 dX12_image_53 rfl hl (by decide) rfl (fun ls hl => ?_)
  exact w_X12_image_54 X n  n v0 0 σ _ _ ls hT_v0 hG hS hE (lv_sub hl [1, 0] rfl) hF
theorem w_X12_image_28 {σ0 τ : Hp} {r : Int32} (X : SX D cA base p s m args meth c cX12_image 2 (some .int) RX12) (n : Nat)  : ∀ f : Nat, ∀ (v0 : Nat) (v1 : Int32) (σ : Hp) (H : Heap) (locs : List Loc) (ls : Array Slot), hT σ v0 12 → GW D cA base ad σ H → va_S (bA base) s.heap H locs → xT σ0 σ → lv_has ls 2 [(0, .ref (ad v0)), (1, .int v1)] → F_X12_image_28 n  f v0 v1 σ = some (r, τ) → W p l e rm_X12_image s m args below meth c H locs 0 0 (ZI below s args D cA base ad σ0 r τ) (F0 m 28 ls []) := by
  intro f
  induction f with
  | zero => intro v0 v1 σ H locs ls h0 hG hS hE hl hF
            rw [F_X12_image_28] at hF; cases hF
  | succ f ih =>
    intro v0 v1 σ H locs ls hT_v0 hG hS hE hl hF
    rw [F_X12_image_28] at hF
    refine lv_iload_n X.1 X.2.1 dX12_image_28 rfl (lv_at hl 1 rfl) ?_
    refine lv_bipush (v := 67) X.1 X.2.1 dX12_image_29 (by decide) ?_
    refine lv_icmp_ge (tgt := 52) X.1 X.2.1 dX12_image_31 (by decide) (fun hc => ?_) (fun hc => ?_)
    · replace hF := it_t hF hc
      exact w_X12_image_52 X n  v0 σ _ _ ls hT_v0 hG hS hE (lv_sub hl [0] rfl) hF
    · replace hF := it_f hF hc
      refine lv_aload_n X.1 X.2.1 dX12_image_34 rfl (lv_at hl 0 rfl) ?_
      obtain ⟨i6, hr, hF⟩ := b1_ex hF
      have hT_i6 : hT σ i6 13 := gw_T hG hT_v0 (by decide) hr
      refine gx_get 6 (v := .ref (ad i6)) X hG hT_v0.1 (hT_v0.eq (by decide)) (by decide) rfl inX12 (by decide) k_966 (fun _ h => h) (gx_rfv hr) dX12_image_35 ?_
      refine lv_iload_n X.1 X.2.1 dX12_image_38 rfl (lv_at hl 1 rfl) ?_
      refine lv_aload_n X.1 X.2.1 dX12_image_39 rfl (lv_at hl 0 rfl) ?_
      obtain ⟨i7, hr, hF⟩ := b1_ex hF
      have hT_i7 : hT σ i7 13 := gw_T hG hT_v0 (by decide) hr
      refine gx_get 4 (v := .ref (ad i7)) X hG hT_v0.1 (hT_v0.eq (by decide)) (by decide) rfl inX12 (by decide) k_964 (fun _ h => h) (gx_rfv hr) dX12_image_40 ?_
      refine lv_iload_n X.1 X.2.1 dX12_image_43 rfl (lv_at hl 1 rfl) ?_
      refine gx_iald X hG hT_i7 hF dX12_image_44 (fun hF => ?_)
      refine gx_iast X hG hS hT_i6 hF dX12_image_45 (fun σ8 H locs hG hS hX hF => ?_)
      have hT_v0 := hX.T hT_v0
      replace hE := hE.trans hX
      refine lv_iinc (v := v1 + 1) (lv' := [(1, .int (v1 + 1)), (0, .ref (ad v0))]) X.1 X.2.1 dX12_image_46 hl (k := 1) rfl rfl (by decide) rfl (fun ls hl => ?_)
      refine lv_goto (tgt := 28) X.1 X.2.1 dX12_image_49 (by decide) ?_
      exact ih v0 (v1 + 1) σ8 _ _ ls hT_v0 hG hS hE (lv_sub hl [1, 0] rfl) hF
theorem w_X12_image_26 {σ0 τ : Hp} {r : Int32} (X : SX D cA base p s m args meth c cX12_image 2 (some .int) RX12) (n : Nat)  : ∀ (v0 : Nat) (σ : Hp) (H : Heap) (locs : List Loc) (ls : Array Slot), hT σ v0 12 → GW D cA base ad σ H → va_S (bA base) s.heap H locs → xT σ0 σ → lv_has ls 2 [(0, .ref (ad v0))] → F_X12_image_26 n  v0 σ = some (r, τ) → W p l e rm_X12_image s m args below meth c H locs 0 0 (ZI below s args D cA base ad σ0 r τ) (F0 m 26 ls []) := by
  intro v0 σ H locs ls hT_v0 hG hS hE hl hF
  unfold F_X12_image_26 at hF
  refine lv_iconst (v := 0) X.1 X.2.1 dX12_image_26 (by decide) ?_
  refine lv_istore_n (lv' := [(1, .int 0), (0, .ref (ad v0))]) X.1 X.2.1 dX12_image_27 rfl hl (by decide) rfl (fun ls hl => ?_)
  exact w_X12_image_28 X n  n v0 0 σ _ _ ls hT_v0 hG hS hE (lv_sub hl [1, 0] rfl) hF
theorem w_X12_image_2 {σ0 τ : Hp} {r : Int32} (X : SX D cA base p s m args meth c cX12_image 2 (some .int) RX12) (n : Nat)  : ∀ f : Nat, ∀ (v0 : Nat) (v1 : Int32) (σ : Hp) (H : Heap) (locs : List Loc) (ls : Array Slot), hT σ v0 12 → GW D cA base ad σ H → va_S (bA base) s.heap H locs → xT σ0 σ → lv_has ls 2 [(0, .ref (ad v0)), (1, .int v1)] → F_X12_image_2 n  f v0 v1 σ = some (r, τ) → W p l e rm_X12_image s m args below meth c H locs 0 0 (ZI below s args D cA base ad σ0 r τ) (F0 m 2 ls []) := by
  intro f
  induction f with
  | zero => intro v0 v1 σ H locs ls h0 hG hS hE hl hF
            rw [F_X12_image_2] at hF; cases hF
  | succ f ih =>
    intro v0 v1 σ H locs ls hT_v0 hG hS hE hl hF
    rw [F_X12_image_2] at hF
    refine lv_iload_n X.1 X.2.1 dX12_image_2 rfl (lv_at hl 1 rfl) ?_
    refine lv_bipush (v := 109) X.1 X.2.1 dX12_image_3 (by decide) ?_
    refine lv_icmp_ge (tgt := 26) X.1 X.2.1 dX12_image_5 (by decide) (fun hc => ?_) (fun hc => ?_)
    · replace hF := it_t hF hc
      exact w_X12_image_26 X n  v0 σ _ _ ls hT_v0 hG hS hE (lv_sub hl [0] rfl) hF
    · replace hF := it_f hF hc
      refine lv_aload_n X.1 X.2.1 dX12_image_8 rfl (lv_at hl 0 rfl) ?_
      obtain ⟨i9, hr, hF⟩ := b1_ex hF
      have hT_i9 : hT σ i9 13 := gw_T hG hT_v0 (by decide) hr
      refine gx_get 1 (v := .ref (ad i9)) X hG hT_v0.1 (hT_v0.eq (by decide)) (by decide) rfl inX12 (by decide) k_961 (fun _ h => h) (gx_rfv hr) dX12_image_9 ?_
      refine lv_iload_n X.1 X.2.1 dX12_image_12 rfl (lv_at hl 1 rfl) ?_
      refine lv_aload_n X.1 X.2.1 dX12_image_13 rfl (lv_at hl 0 rfl) ?_
      obtain ⟨i10, hr, hF⟩ := b1_ex hF
      have hT_i10 : hT σ i10 13 := gw_T hG hT_v0 (by decide) hr
      refine gx_get 0 (v := .ref (ad i10)) X hG hT_v0.1 (hT_v0.eq (by decide)) (by decide) rfl inX12 (by decide) k_960 (fun _ h => h) (gx_rfv hr) dX12_image_14 ?_
      refine lv_iload_n X.1 X.2.1 dX12_image_17 rfl (lv_at hl 1 rfl) ?_
      refine gx_iald X hG hT_i10 hF dX12_image_18 (fun hF => ?_)
      refine gx_iast X hG hS hT_i9 hF dX12_image_19 (fun σ11 H locs hG hS hX hF => ?_)
      have hT_v0 := hX.T hT_v0
      replace hE := hE.trans hX
      refine lv_iinc (v := v1 + 1) (lv' := [(1, .int (v1 + 1)), (0, .ref (ad v0))]) X.1 X.2.1 dX12_image_20 hl (k := 1) rfl rfl (by decide) rfl (fun ls hl => ?_)
      refine lv_goto (tgt := 2) X.1 X.2.1 dX12_image_23 (by decide) ?_
      exact ih v0 (v1 + 1) σ11 _ _ ls hT_v0 hG hS hE (lv_sub hl [1, 0] rfl) hF
theorem c_X12_image (l : Launch) (D : va_G) (cA : Nat → ClassId) (base : Nat) (ad : Nat → Nat) (σ : Hp) (n : Nat) (a0 : Nat) (hT_a0 : hT σ a0 12) {τ : Hp} {r : Int32} (hF : F_X12_image n a0 σ = some (r, τ)) : MI l yX12_image cX12_image 2 (some .int) rm_X12_image D cA base ad σ [.ref (ad a0)] r τ := by
  refine Met.ofW (cc := cX12_image) (maxL := 2) (ret := (some .int)) (by decide) rfl ?_
  intro p e s m args below meth c s₁ B hml hv
  obtain ⟨rfl, hv⟩ := hv
  have X : SX D cA base p s m ([.ref (ad a0)] : List Value).toArray meth c cX12_image 2 (some .int) RX12 := sx_of B hml hv
  have hG := hv.1
  have hS : va_S (bA base) s.heap s.heap [] := va_S.rf
  have hE := xT.rf σ
  have hl := lv_entry ([.ref (ad a0)]) (n := 2) (Nat.le_of_ble_eq_true rfl)
  rw [lg_entry_eq]
  generalize (lg_sl ([.ref (ad a0)]) ++ List.replicate (2 - (lg_sl ([.ref (ad a0)])).length) Slot.unset).toArray = ls at hl ⊢
  have hl : lv_has ls 2 [(0, .ref (ad a0))] := hl
  unfold F_X12_image at hF
  refine lv_iconst (v := 0) X.1 X.2.1 dX12_image_0 (by decide) ?_
  refine lv_istore_n (lv' := [(1, .int 0), (0, .ref (ad a0))]) X.1 X.2.1 dX12_image_1 rfl hl (by decide) rfl (fun ls hl => ?_)
  exact w_X12_image_2 X n  n a0 0 σ _ _ ls hT_a0 hG hS hE (lv_sub hl [1, 0] rfl) hF
end W_model12
