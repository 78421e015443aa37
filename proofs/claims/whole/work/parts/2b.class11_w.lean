/-! class11: printed by wip/whole/gen.py -/
section W_class11
variable {p : Program} {l : Launch} {e : Env} {s : State} {m : MethodId} {args : Array Value} {below : List Frame} {meth : Method} {c : Code} {D : va_G} {cA : Nat → ClassId} {base : Nat} {ad : Nat → Nat}
abbrev rm_X11_worlds : Room := { frames := 6, cells := 0, slots := 0, locals := 151 }
theorem h_X11_worlds : yX11_worlds.cls = RX11 ∧ yX11_worlds.cls ≠ "java/lang/invoke/MethodHandle" ∧ yX11_worlds.cls ≠ "java/lang/invoke/VarHandle" ∧ (parseMethodDescriptor yX11_worlds.desc).map (fun d => d.parameters.length) = some 4 := by decide +kernel
def F_X11_worlds_123 (n : Nat) (K_68 : Nat → Int32 → Int32 → Int32 → Int32 → Int32 → Int32 → Hp → Option (Int32 × Hp)) (v0 : Nat) (v1 : Int32) (v3 : Int32) (v4 : Int32) (v5 : Int32) (v6 : Int32) (v7 : Int32) (σ : Hp) : Option (Int32 × Hp) := K_68 v0 v1 v3 v4 v5 v6 (v7 + 1) σ
def F_X11_worlds_120 (n : Nat) (K_68 : Nat → Int32 → Int32 → Int32 → Int32 → Int32 → Int32 → Hp → Option (Int32 × Hp)) (v0 : Nat) (v1 : Int32) (v3 : Int32) (v4 : Int32) (v5 : Int32) (v6 : Int32) (v7 : Int32) (σ : Hp) : Option (Int32 × Hp) := F_X11_worlds_123 n K_68 v0 v1 v3 v4 v5 (v6 + 1) v7 σ
def F_X11_worlds_68 (n : Nat)  : Nat → Nat → Int32 → Int32 → Int32 → Int32 → Int32 → Int32 → Hp → Option (Int32 × Hp)
  | 0, _, _, _, _, _, _, _, _ => none
  | f + 1, v0, v1, v3, v4, v5, v6, v7, σ => if v1 ≤ v7 then (some (v6, σ)) else (b1 (hR σ v0 1) fun (i1 : Nat) => b2 (F_X3_deal n i1 v5 v3 σ) fun (r3 : Int32) (σ2 : Hp) => b1 (hR σ2 v0 1) fun (i4 : Nat) => b2 (F_X3_runThrough n i4 σ2) fun (r6 : Int32) (σ5 : Hp) => if v4 = 0 then (b1 (hR σ5 v0 1) fun (i7 : Nat) => b2 (F_X3_knewAtFirst n i7 σ5) fun (r9 : Int32) (σ8 : Hp) => if r9 = 0 then (F_X11_worlds_123 n (F_X11_worlds_68 n  f) v0 v1 v3 v4 r3 v6 v7 σ8) else (F_X11_worlds_120 n (F_X11_worlds_68 n  f) v0 v1 v3 v4 r3 v6 v7 σ8)) else (if r6 = v4 then (F_X11_worlds_120 n (F_X11_worlds_68 n  f) v0 v1 v3 v4 r3 v6 v7 σ5) else (F_X11_worlds_123 n (F_X11_worlds_68 n  f) v0 v1 v3 v4 r3 v6 v7 σ5)))
def F_X11_worlds (n : Nat) (a0 : Nat) (a1 : Int32) (a2 : Int32) (a3 : Int32) (a4 : Int32) (σ : Hp) : Option (Int32 × Hp) := if a1 < 1 then (some ((-1), σ)) else (if 30 < a1 then (some ((-1), σ)) else (if a3 < 0 then (some ((-1), σ)) else (if 100 < a3 then (some ((-1), σ)) else (if a4 < 0 then (some ((-1), σ)) else (if a4 ≤ 2 then (b1 (hR σ a0 0) fun (i10 : Nat) => if (hI σ i10 2) = 0 then (some ((-3), σ)) else (b1 (hR σ a0 1) fun (i11 : Nat) => b1 (hR σ a0 0) fun (i12 : Nat) => b1 (F_X3_seatFrom n i11 i12 0 σ) fun (σ13 : Hp) => F_X11_worlds_68 n  n a0 a1 a3 a4 a2 0 0 σ13)) else (some ((-1), σ)))))))
abbrev rm_X3_becomeLike : Room := { frames := 3, cells := 0, slots := 0, locals := 67 }
theorem h_X3_becomeLike : yX3_becomeLike.cls = RX3 ∧ yX3_becomeLike.cls ≠ "java/lang/invoke/MethodHandle" ∧ yX3_becomeLike.cls ≠ "java/lang/invoke/VarHandle" ∧ (parseMethodDescriptor yX3_becomeLike.desc).map (fun d => d.parameters.length) = some 1 := by decide +kernel
def F_X3_becomeLike_53 (n : Nat)  (v0 : Nat) (v1 : Nat) (σ : Hp) : Option Hp := ck ((hI σ v1 8) = 0 ∨ (hI σ v1 8) = 1) (lt (pI σ v0 8 (hI σ v1 8)) fun (σ1 : Hp) => lt (pI σ1 v0 9 (hI σ1 v1 9)) fun (σ2 : Hp) => lt (pI σ2 v0 10 (hI σ2 v1 10)) fun (σ3 : Hp) => lt (pI σ3 v0 11 (hI σ3 v1 11)) fun (σ4 : Hp) => lt (pI σ4 v0 12 (hI σ4 v1 12)) fun (σ5 : Hp) => lt (pI σ5 v0 13 (hI σ5 v1 13)) fun (σ6 : Hp) => lt (pI σ6 v0 14 (hI σ6 v1 14)) fun (σ7 : Hp) => b1 (hR σ7 v1 15) fun (i8 : Nat) => b1 (hR σ7 v0 15) fun (i9 : Nat) => b1 (F_X11_copyAll n i8 i9 σ7) fun (σ10 : Hp) => b1 (hR σ10 v1 16) fun (i11 : Nat) => b1 (hR σ10 v0 16) fun (i12 : Nat) => b1 (F_X11_copyAll n i11 i12 σ10) fun (σ13 : Hp) => b1 (hR σ13 v1 17) fun (i14 : Nat) => b1 (hR σ13 v0 17) fun (i15 : Nat) => b1 (F_X11_copyAll n i14 i15 σ13) fun (σ16 : Hp) => b1 (hR σ16 v1 18) fun (i17 : Nat) => b1 (hR σ16 v0 18) fun (i18 : Nat) => b1 (F_X11_copyAll n i17 i18 σ16) fun (σ19 : Hp) => some σ19)
def F_X3_becomeLike_27 (n : Nat)  : Nat → Nat → Nat → Int32 → Hp → Option Hp
  | 0, _, _, _, _ => none
  | f + 1, v0, v1, v2, σ => b1 (hR σ v0 6) fun (i20 : Nat) => if (nI (hL σ i20)) ≤ v2 then (F_X3_becomeLike_53 n  v0 v1 σ) else (b1 (hR σ v0 6) fun (i21 : Nat) => b2 (F_X3_lawAt n v1 v2 σ) fun (r23 : Option Nat) (σ22 : Hp) => ck (¬ (v2 < 0 ∨ hL σ22 i21 ≤ v2.toNatClampNeg)) (lt (pR σ22 i21 v2.toNatClampNeg r23) fun (σ24 : Hp) => (F_X3_becomeLike_27 n  f) v0 v1 (v2 + 1) σ24))
def F_X3_becomeLike (n : Nat) (a0 : Nat) (a1 : Nat) (σ : Hp) : Option Hp := b1 (F_X3_seatFrom n a0 a1 0 σ) fun (σ25 : Hp) => b1 (hR σ25 a1 7) fun (i26 : Nat) => b1 (hR σ25 a0 7) fun (i27 : Nat) => b1 (F_X11_copyAll n i26 i27 σ25) fun (σ28 : Hp) => lt (pI σ28 a0 5 (hI σ28 a1 5)) fun (σ29 : Hp) => F_X3_becomeLike_27 n  n a0 a1 0 σ29
abbrev rm_X11_image : Room := { frames := 4, cells := 0, slots := 0, locals := 89 }
theorem h_X11_image : yX11_image.cls = RX11 ∧ yX11_image.cls ≠ "java/lang/invoke/MethodHandle" ∧ yX11_image.cls ≠ "java/lang/invoke/VarHandle" ∧ (parseMethodDescriptor yX11_image.desc).map (fun d => d.parameters.length) = some 0 := by decide +kernel
def F_X11_image (n : Nat) (a0 : Nat) (σ : Hp) : Option (Int32 × Hp) := b1 (hR σ a0 2) fun (i1 : Nat) => b1 (hR σ a0 0) fun (i2 : Nat) => b1 (F_X3_becomeLike n i1 i2 σ) fun (σ3 : Hp) => lt (pI σ3 a0 3 1) fun (σ4 : Hp) => b1 (hR σ4 a0 0) fun (i5 : Nat) => some (hI σ4 i5 2, σ4)
abbrev rm_X11_restore : Room := { frames := 4, cells := 0, slots := 0, locals := 89 }
theorem h_X11_restore : yX11_restore.cls = RX11 ∧ yX11_restore.cls ≠ "java/lang/invoke/MethodHandle" ∧ yX11_restore.cls ≠ "java/lang/invoke/VarHandle" ∧ (parseMethodDescriptor yX11_restore.desc).map (fun d => d.parameters.length) = some 0 := by decide +kernel
def F_X11_restore (n : Nat) (a0 : Nat) (σ : Hp) : Option (Int32 × Hp) := if (hI σ a0 3) = 0 then (some ((-3), σ)) else (b1 (hR σ a0 0) fun (i1 : Nat) => b1 (hR σ a0 2) fun (i2 : Nat) => b1 (F_X3_becomeLike n i1 i2 σ) fun (σ3 : Hp) => b1 (hR σ3 a0 0) fun (i4 : Nat) => some (hI σ3 i4 2, σ3))
abbrev rm_X11_count : Room := { frames := 2, cells := 0, slots := 0, locals := 44 }
theorem h_X11_count : yX11_count.cls = RX11 ∧ yX11_count.cls ≠ "java/lang/invoke/MethodHandle" ∧ yX11_count.cls ≠ "java/lang/invoke/VarHandle" ∧ (parseMethodDescriptor yX11_count.desc).map (fun d => d.parameters.length) = some 1 := by decide +kernel
def F_X11_count (n : Nat) (a0 : Nat) (a1 : Int32) (σ : Hp) : Option (Int32 × Hp) := if a1 = 0 then (b1 (hR σ a0 0) fun (i1 : Nat) => some (hI σ i1 0, σ)) else (if a1 = 1 then (b1 (hR σ a0 0) fun (i2 : Nat) => some (hI σ i2 2, σ)) else (if a1 = 2 then (b1 (hR σ a0 0) fun (i3 : Nat) => some (hI σ i3 5, σ)) else (if a1 = 3 then (b1 (hR σ a0 0) fun (i4 : Nat) => b2 (F_X3_weigh n i4 (-1) σ) fun (r6 : Int32) (σ5 : Hp) => some (r6, σ5)) else (if a1 = 4 then (b1 (hR σ a0 0) fun (i7 : Nat) => b2 (F_X3_toldToAll n i7 σ) fun (r9 : Int32) (σ8 : Hp) => some (r9, σ8)) else (some ((-1000000001), σ))))))
abbrev rm_X5_hold : Room := { frames := 0, cells := 0, slots := 0, locals := 0 }
theorem h_X5_hold : yX5_hold.cls = RX5 ∧ yX5_hold.cls ≠ "java/lang/invoke/MethodHandle" ∧ yX5_hold.cls ≠ "java/lang/invoke/VarHandle" ∧ (parseMethodDescriptor yX5_hold.desc).map (fun d => d.parameters.length) = some 2 := by decide +kernel
def F_X5_hold (n : Nat) (a0 : Nat) (a1 : Option Nat) (a2 : Int32) (σ : Hp) : Option Hp := lt (pR σ a0 0 a1) fun (σ1 : Hp) => lt (pI σ1 a0 1 a2) fun (σ2 : Hp) => lt (pI σ2 a0 2 (-1)) fun (σ3 : Hp) => some σ3
abbrev rm_X11_keep : Room := { frames := 2, cells := 0, slots := 0, locals := 42 }
theorem h_X11_keep : yX11_keep.cls = RX11 ∧ yX11_keep.cls ≠ "java/lang/invoke/MethodHandle" ∧ yX11_keep.cls ≠ "java/lang/invoke/VarHandle" ∧ (parseMethodDescriptor yX11_keep.desc).map (fun d => d.parameters.length) = some 3 := by decide +kernel
def F_X11_keep_52 (n : Nat)  (v0 : Nat) (v3 : Int32) (v4 : Nat) (v5 : Option Nat) (σ : Hp) : Option (Int32 × Hp) := b1 (hR σ v0 0) fun (i1 : Nat) => b1 (hR σ i1 4) fun (i2 : Nat) => b2 (F_X11_at n i2 v3 σ) fun (r4 : Int32) (σ3 : Hp) => b1 (F_X5_hold n v4 v5 r4 σ3) fun (σ5 : Hp) => some (0, σ5)
def F_X11_keep_24 (n : Nat)  (v0 : Nat) (v2 : Int32) (v3 : Int32) (v4 : Option Nat) (s0 : Option Nat) (σ : Hp) : Option (Int32 × Hp) := om v4 (some ((-1), σ)) (fun i6 => if v2 < 0 then (some ((-1), σ)) else (if 1 < v2 then (some ((-1), σ)) else (if v2 = 1 then (om s0 (some ((-1), σ)) (fun i7 => F_X11_keep_52 n  v0 v3 i6 (some i7) σ)) else (F_X11_keep_52 n  v0 v3 i6 s0 σ))))
def F_X11_keep (n : Nat) (a0 : Nat) (a1 : Int32) (a2 : Int32) (a3 : Int32) (σ : Hp) : Option (Int32 × Hp) := b2 (F_X11_shelfAt n a0 a1 σ) fun (r9 : Option Nat) (σ8 : Hp) => if a2 = 1 then (b1 (hR σ8 a0 0) fun (i10 : Nat) => b2 (F_X3_turnAt n i10 a3 σ8) fun (r12 : Option Nat) (σ11 : Hp) => F_X11_keep_24 n  a0 a2 a3 r9 r12 σ11) else (F_X11_keep_24 n  a0 a2 a3 r9 none σ8)
theorem w_X11_worlds_123 {σ0 τ : Hp} {r : Int32} (X : SX D cA base p s m args meth c cX11_worlds 9 (some .int) RX11) (n : Nat) (K_68 : Nat → Int32 → Int32 → Int32 → Int32 → Int32 → Int32 → Hp → Option (Int32 × Hp)) (hK_68 : ∀ (v0 : Nat) (v1 : Int32) (v3 : Int32) (v4 : Int32) (v5 : Int32) (v6 : Int32) (v7 : Int32) (σ : Hp) (H : Heap) (locs : List Loc) (ls : Array Slot), hT σ v0 11 → GW D cA base ad σ H → va_S (bA base) s.heap H locs → xT σ0 σ → lv_has ls 9 [(0, .ref (ad v0)), (1, .int v1), (3, .int v3), (4, .int v4), (5, .int v5), (6, .int v6), (7, .int v7)] → K_68 v0 v1 v3 v4 v5 v6 v7 σ = some (r, τ) → W p l e rm_X11_worlds s m args below meth c H locs 0 0 (ZI below s args D cA base ad σ0 r τ) (F0 m 68 ls [])) : ∀ (v0 : Nat) (v1 : Int32) (v3 : Int32) (v4 : Int32) (v5 : Int32) (v6 : Int32) (v7 : Int32) (σ : Hp) (H : Heap) (locs : List Loc) (ls : Array Slot), hT σ v0 11 → GW D cA base ad σ H → va_S (bA base) s.heap H locs → xT σ0 σ → lv_has ls 9 [(0, .ref (ad v0)), (1, .int v1), (3, .int v3), (4, .int v4), (5, .int v5), (6, .int v6), (7, .int v7)] → F_X11_worlds_123 n K_68 v0 v1 v3 v4 v5 v6 v7 σ = some (r, τ) → W p l e rm_X11_worlds s m args below meth c H locs 0 0 (ZI below s args D cA base ad σ0 r τ) (F0 m 123 ls []) := by
  intro v0 v1 v3 v4 v5 v6 v7 σ H locs ls hT_v0 hG hS hE hl hF
  unfold F_X11_worlds_123 at hF
  refine lv_iinc (v := v7 + 1) (lv' := [(7, .int (v7 + 1)), (0, .ref (ad v0)), (1, .int v1), (3, .int v3), (4, .int v4), (5, .int v5), (6, .int v6)]) X.1 X.2.1 dX11_worlds_123 hl (k := 6) rfl rfl (by decide) rfl (fun ls hl => ?_)
  refine lv_goto (tgt := 68) X.1 X.2.1 dX11_worlds_126 (by decide) ?_
  exact hK_68 v0 v1 v3 v4 v5 v6 (v7 + 1) σ _ _ ls hT_v0 hG hS hE (lv_sub hl [1, 2, 3, 4, 5, 6, 0] rfl) hF
theorem w_X11_worlds_120 {σ0 τ : Hp} {r : Int32} (X : SX D cA base p s m args meth c cX11_worlds 9 (some .int) RX11) (n : Nat) (K_68 : Nat → Int32 → Int32 → Int32 → Int32 → Int32 → Int32 → Hp → Option (Int32 × Hp)) (hK_68 : ∀ (v0 : Nat) (v1 : Int32) (v3 : Int32) (v4 : Int32) (v5 : Int32) (v6 : Int32) (v7 : Int32) (σ : Hp) (H : Heap) (locs : List Loc) (ls : Array Slot), hT σ v0 11 → GW D cA base ad σ H → va_S (bA base) s.heap H locs → xT σ0 σ → lv_has ls 9 [(0, .ref (ad v0)), (1, .int v1), (3, .int v3), (4, .int v4), (5, .int v5), (6, .int v6), (7, .int v7)] → K_68 v0 v1 v3 v4 v5 v6 v7 σ = some (r, τ) → W p l e rm_X11_worlds s m args below meth c H locs 0 0 (ZI below s args D cA base ad σ0 r τ) (F0 m 68 ls [])) : ∀ (v0 : Nat) (v1 : Int32) (v3 : Int32) (v4 : Int32) (v5 : Int32) (v6 : Int32) (v7 : Int32) (σ : Hp) (H : Heap) (locs : List Loc) (ls : Array Slot), hT σ v0 11 → GW D cA base ad σ H → va_S (bA base) s.heap H locs → xT σ0 σ → lv_has ls 9 [(0, .ref (ad v0)), (1, .int v1), (3, .int v3), (4, .int v4), (5, .int v5), (6, .int v6), (7, .int v7)] → F_X11_worlds_120 n K_68 v0 v1 v3 v4 v5 v6 v7 σ = some (r, τ) → W p l e rm_X11_worlds s m args below meth c H locs 0 0 (ZI below s args D cA base ad σ0 r τ) (F0 m 120 ls []) := by
  intro v0 v1 v3 v4 v5 v6 v7 σ H locs ls hT_v0 hG hS hE hl hF
  unfold F_X11_worlds_120 at hF
  refine lv_iinc (v := v6 + 1) (lv' := [(6, .int (v6 + 1)), (0, .ref (ad v0)), (1, .int v1), (3, .int v3), (4, .int v4), (5, .int v5), (7, .int v7)]) X.1 X.2.1 dX11_worlds_120 hl (k := 5) rfl rfl (by decide) rfl (fun ls hl => ?_)
  exact w_X11_worlds_123 X n K_68 hK_68 v0 v1 v3 v4 v5 (v6 + 1) v7 σ _ _ ls hT_v0 hG hS hE (lv_sub hl [1, 2, 3, 4, 5, 0, 6] rfl) hF
theorem w_X11_worlds_68 {σ0 τ : Hp} {r : Int32} (X : SX D cA base p s m args meth c cX11_worlds 9 (some .int) RX11) (n : Nat)  : ∀ f : Nat, ∀ (v0 : Nat) (v1 : Int32) (v3 : Int32) (v4 : Int32) (v5 : Int32) (v6 : Int32) (v7 : Int32) (σ : Hp) (H : Heap) (locs : List Loc) (ls : Array Slot), hT σ v0 11 → GW D cA base ad σ H → va_S (bA base) s.heap H locs → xT σ0 σ → lv_has ls 9 [(0, .ref (ad v0)), (1, .int v1), (3, .int v3), (4, .int v4), (5, .int v5), (6, .int v6), (7, .int v7)] → F_X11_worlds_68 n  f v0 v1 v3 v4 v5 v6 v7 σ = some (r, τ) → W p l e rm_X11_worlds s m args below meth c H locs 0 0 (ZI below s args D cA base ad σ0 r τ) (F0 m 68 ls []) := by
  intro f
  induction f with
  | zero => intro v0 v1 v3 v4 v5 v6 v7 σ H locs ls h0 hG hS hE hl hF
            rw [F_X11_worlds_68] at hF; cases hF
  | succ f ih =>
    intro v0 v1 v3 v4 v5 v6 v7 σ H locs ls hT_v0 hG hS hE hl hF
    rw [F_X11_worlds_68] at hF
    refine lv_iload X.1 X.2.1 dX11_worlds_68 (lv_at hl 6 rfl) ?_
    refine lv_iload_n X.1 X.2.1 dX11_worlds_70 rfl (lv_at hl 1 rfl) ?_
    refine lv_icmp_ge (tgt := 129) X.1 X.2.1 dX11_worlds_71 (by decide) (fun hc => ?_) (fun hc => ?_)
    · replace hF := it_t hF hc
      refine lv_iload X.1 X.2.1 dX11_worlds_129 (lv_at hl 5 rfl) ?_
      exact gx_iret X hG hS hE hF dX11_worlds_131
    · replace hF := it_f hF hc
      refine lv_aload_n X.1 X.2.1 dX11_worlds_74 rfl (lv_at hl 0 rfl) ?_
      obtain ⟨i1, hr, hF⟩ := b1_ex hF
      have hT_i1 : hT σ i1 3 := gw_T hG hT_v0 (by decide) hr
      refine gx_get 1 (v := .ref (ad i1)) X hG hT_v0.1 (hT_v0.eq (by decide)) (by decide) rfl inX11 (by decide) k_152 (fun _ h => h) (gx_rfv hr) dX11_worlds_75 ?_
      refine lv_iload X.1 X.2.1 dX11_worlds_78 (lv_at hl 4 rfl) ?_
      refine lv_iload_n X.1 X.2.1 dX11_worlds_80 rfl (lv_at hl 2 rfl) ?_
      obtain ⟨r3, σ2, hz, hF⟩ := b2_ex hF
      refine gx_rI (gx_runV (As := [.int v5, .int v3]) (rest := []) X hG hS hT_i1.1 (hT_i1.eq (by decide)) (by decide) rfl (c_X3_deal l D cA base ad σ n i1 v5 v3 hT_i1 hz) k_717 k_714 k_715 k_716 k_2 (h_X3_deal) rfl rfl ⟨by decide, by decide⟩ rfl hl.1 rfl (Nat.le_of_ble_eq_true rfl) dX11_worlds_81 ⟨Nat.zero_le _, Nat.zero_le _⟩) hS (fun H locs hG hS hX => ?_)
      have hT_v0 := hX.T hT_v0
      replace hE := hE.trans hX
      refine lv_istore (lv' := [(5, .int r3), (0, .ref (ad v0)), (1, .int v1), (3, .int v3), (4, .int v4), (6, .int v6), (7, .int v7)]) X.1 X.2.1 dX11_worlds_84 hl (by decide) rfl (fun ls hl => ?_)
      refine lv_aload_n X.1 X.2.1 dX11_worlds_86 rfl (lv_at hl 1 rfl) ?_
      obtain ⟨i4, hr, hF⟩ := b1_ex hF
      have hT_i4 : hT σ2 i4 3 := gw_T hG hT_v0 (by decide) hr
      refine gx_get 1 (v := .ref (ad i4)) X hG hT_v0.1 (hT_v0.eq (by decide)) (by decide) rfl inX11 (by decide) k_152 (fun _ h => h) (gx_rfv hr) dX11_worlds_87 ?_
      obtain ⟨r6, σ5, hz, hF⟩ := b2_ex hF
      refine gx_rI (gx_runV (As := []) (rest := []) X hG hS hT_i4.1 (hT_i4.eq (by decide)) (by decide) rfl (c_X3_runThrough l D cA base ad σ2 n i4 hT_i4 hz) k_652 k_649 k_650 k_651 k_2 (h_X3_runThrough) rfl rfl ⟨by decide, by decide⟩ rfl hl.1 rfl (Nat.le_of_ble_eq_true rfl) dX11_worlds_90 ⟨Nat.zero_le _, Nat.zero_le _⟩) hS (fun H locs hG hS hX => ?_)
      have hT_v0 := hX.T hT_v0
      replace hE := hE.trans hX
      refine lv_istore (lv' := [(8, .int r6), (5, .int r3), (0, .ref (ad v0)), (1, .int v1), (3, .int v3), (4, .int v4), (6, .int v6), (7, .int v7)]) X.1 X.2.1 dX11_worlds_93 hl (by decide) rfl (fun ls hl => ?_)
      refine lv_iload X.1 X.2.1 dX11_worlds_95 (lv_at hl 5 rfl) ?_
      refine lv_if_ne (tgt := 113) X.1 X.2.1 dX11_worlds_97 (by decide) (fun hc => ?_) (fun hc => ?_)
      · replace hF := it_f hF hc
        refine lv_iload X.1 X.2.1 dX11_worlds_113 (lv_at hl 0 rfl) ?_
        refine lv_iload X.1 X.2.1 dX11_worlds_115 (lv_at hl 5 rfl) ?_
        refine lv_icmp_ne (tgt := 123) X.1 X.2.1 dX11_worlds_117 (by decide) (fun hc => ?_) (fun hc => ?_)
        · replace hF := it_f hF hc
          exact w_X11_worlds_123 X n (F_X11_worlds_68 n  f) ih v0 v1 v3 v4 r3 v6 v7 σ5 _ _ ls hT_v0 hG hS hE (lv_sub hl [2, 3, 4, 5, 1, 6, 7] rfl) hF
        · replace hF := it_t hF hc
          exact w_X11_worlds_120 X n (F_X11_worlds_68 n  f) ih v0 v1 v3 v4 r3 v6 v7 σ5 _ _ ls hT_v0 hG hS hE (lv_sub hl [2, 3, 4, 5, 1, 6, 7] rfl) hF
      · replace hF := it_t hF hc
        refine lv_aload_n X.1 X.2.1 dX11_worlds_100 rfl (lv_at hl 2 rfl) ?_
        obtain ⟨i7, hr, hF⟩ := b1_ex hF
        have hT_i7 : hT σ5 i7 3 := gw_T hG hT_v0 (by decide) hr
        refine gx_get 1 (v := .ref (ad i7)) X hG hT_v0.1 (hT_v0.eq (by decide)) (by decide) rfl inX11 (by decide) k_152 (fun _ h => h) (gx_rfv hr) dX11_worlds_101 ?_
        obtain ⟨r9, σ8, hz, hF⟩ := b2_ex hF
        refine gx_rI (gx_runV (As := []) (rest := []) X hG hS hT_i7.1 (hT_i7.eq (by decide)) (by decide) rfl (c_X3_knewAtFirst l D cA base ad σ5 n i7 hT_i7 hz) k_724 k_721 k_722 k_723 k_2 (h_X3_knewAtFirst) rfl rfl ⟨by decide, by decide⟩ rfl hl.1 rfl (Nat.le_of_ble_eq_true rfl) dX11_worlds_104 ⟨Nat.zero_le _, Nat.zero_le _⟩) hS (fun H locs hG hS hX => ?_)
        have hT_v0 := hX.T hT_v0
        replace hE := hE.trans hX
        refine lv_if_eq (tgt := 123) X.1 X.2.1 dX11_worlds_107 (by decide) (fun hc => ?_) (fun hc => ?_)
        · replace hF := it_t hF hc
          exact w_X11_worlds_123 X n (F_X11_worlds_68 n  f) ih v0 v1 v3 v4 r3 v6 v7 σ8 _ _ ls hT_v0 hG hS hE (lv_sub hl [2, 3, 4, 5, 1, 6, 7] rfl) hF
        · replace hF := it_f hF hc
          refine lv_goto (tgt := 120) X.1 X.2.1 dX11_worlds_110 (by decide) ?_
          exact w_X11_worlds_120 X n (F_X11_worlds_68 n  f) ih v0 v1 v3 v4 r3 v6 v7 σ8 _ _ ls hT_v0 hG hS hE (lv_sub hl [2, 3, 4, 5, 1, 6, 7] rfl) hF
theorem c_X11_worlds (l : Launch) (D : va_G) (cA : Nat → ClassId) (base : Nat) (ad : Nat → Nat) (σ : Hp) (n : Nat) (a0 : Nat) (a1 : Int32) (a2 : Int32) (a3 : Int32) (a4 : Int32) (hT_a0 : hT σ a0 11) {τ : Hp} {r : Int32} (hF : F_X11_worlds n a0 a1 a2 a3 a4 σ = some (r, τ)) : MI l yX11_worlds cX11_worlds 9 (some .int) rm_X11_worlds D cA base ad σ [.ref (ad a0), .int a1, .int a2, .int a3, .int a4] r τ := by
  refine Met.ofW (cc := cX11_worlds) (maxL := 9) (ret := (some .int)) (by decide) rfl ?_
  intro p e s m args below meth c s₁ B hml hv
  obtain ⟨rfl, hv⟩ := hv
  have X : SX D cA base p s m ([.ref (ad a0), .int a1, .int a2, .int a3, .int a4] : List Value).toArray meth c cX11_worlds 9 (some .int) RX11 := sx_of B hml hv
  have hG := hv.1
  have hS : va_S (bA base) s.heap s.heap [] := va_S.rf
  have hE := xT.rf σ
  have hl := lv_entry ([.ref (ad a0), .int a1, .int a2, .int a3, .int a4]) (n := 9) (Nat.le_of_ble_eq_true rfl)
  rw [lg_entry_eq]
  generalize (lg_sl ([.ref (ad a0), .int a1, .int a2, .int a3, .int a4]) ++ List.replicate (9 - (lg_sl ([.ref (ad a0), .int a1, .int a2, .int a3, .int a4])).length) Slot.unset).toArray = ls at hl ⊢
  have hl : lv_has ls 9 [(0, .ref (ad a0)), (1, .int a1), (2, .int a2), (3, .int a3), (4, .int a4)] := hl
  unfold F_X11_worlds at hF
  refine lv_iload_n X.1 X.2.1 dX11_worlds_0 rfl (lv_at hl 1 rfl) ?_
  refine lv_iconst (v := 1) X.1 X.2.1 dX11_worlds_1 (by decide) ?_
  refine lv_icmp_lt (tgt := 32) X.1 X.2.1 dX11_worlds_2 (by decide) (fun hc => ?_) (fun hc => ?_)
  · replace hF := it_t hF hc
    refine lv_iconst (v := (-1)) X.1 X.2.1 dX11_worlds_32 (by decide) ?_
    exact gx_iret X hG hS hE hF dX11_worlds_33
  · replace hF := it_f hF hc
    refine lv_iload_n X.1 X.2.1 dX11_worlds_5 rfl (lv_at hl 1 rfl) ?_
    refine lv_bipush (v := 30) X.1 X.2.1 dX11_worlds_6 (by decide) ?_
    refine lv_icmp_gt (tgt := 32) X.1 X.2.1 dX11_worlds_8 (by decide) (fun hc => ?_) (fun hc => ?_)
    · replace hF := it_t hF hc
      refine lv_iconst (v := (-1)) X.1 X.2.1 dX11_worlds_32 (by decide) ?_
      exact gx_iret X hG hS hE hF dX11_worlds_33
    · replace hF := it_f hF hc
      refine lv_iload_n X.1 X.2.1 dX11_worlds_11 rfl (lv_at hl 3 rfl) ?_
      refine lv_if_lt (tgt := 32) X.1 X.2.1 dX11_worlds_12 (by decide) (fun hc => ?_) (fun hc => ?_)
      · replace hF := it_t hF hc
        refine lv_iconst (v := (-1)) X.1 X.2.1 dX11_worlds_32 (by decide) ?_
        exact gx_iret X hG hS hE hF dX11_worlds_33
      · replace hF := it_f hF hc
        refine lv_iload_n X.1 X.2.1 dX11_worlds_15 rfl (lv_at hl 3 rfl) ?_
        refine lv_bipush (v := 100) X.1 X.2.1 dX11_worlds_16 (by decide) ?_
        refine lv_icmp_gt (tgt := 32) X.1 X.2.1 dX11_worlds_18 (by decide) (fun hc => ?_) (fun hc => ?_)
        · replace hF := it_t hF hc
          refine lv_iconst (v := (-1)) X.1 X.2.1 dX11_worlds_32 (by decide) ?_
          exact gx_iret X hG hS hE hF dX11_worlds_33
        · replace hF := it_f hF hc
          refine lv_iload X.1 X.2.1 dX11_worlds_21 (lv_at hl 4 rfl) ?_
          refine lv_if_lt (tgt := 32) X.1 X.2.1 dX11_worlds_23 (by decide) (fun hc => ?_) (fun hc => ?_)
          · replace hF := it_t hF hc
            refine lv_iconst (v := (-1)) X.1 X.2.1 dX11_worlds_32 (by decide) ?_
            exact gx_iret X hG hS hE hF dX11_worlds_33
          · replace hF := it_f hF hc
            refine lv_iload X.1 X.2.1 dX11_worlds_26 (lv_at hl 4 rfl) ?_
            refine lv_iconst (v := 2) X.1 X.2.1 dX11_worlds_28 (by decide) ?_
            refine lv_icmp_le (tgt := 34) X.1 X.2.1 dX11_worlds_29 (by decide) (fun hc => ?_) (fun hc => ?_)
            · replace hF := it_t hF hc
              refine lv_aload_n X.1 X.2.1 dX11_worlds_34 rfl (lv_at hl 0 rfl) ?_
              obtain ⟨i10, hr, hF⟩ := b1_ex hF
              have hT_i10 : hT σ i10 3 := gw_T hG hT_a0 (by decide) hr
              refine gx_get 0 (v := .ref (ad i10)) X hG hT_a0.1 (hT_a0.eq (by decide)) (by decide) rfl inX11 (by decide) k_151 (fun _ h => h) (gx_rfv hr) dX11_worlds_35 ?_
              refine gx_getN 2 (v := .int (hI σ i10 2)) X hG hT_i10.1 (hT_i10.eq (by decide)) (by decide) rfl inX3 (by decide) q_49 (fun _ h => h) rfl dX11_worlds_38 ?_
              refine lv_if_ne (tgt := 47) X.1 X.2.1 dX11_worlds_41 (by decide) (fun hc => ?_) (fun hc => ?_)
              · replace hF := it_f hF hc
                refine lv_aload_n X.1 X.2.1 dX11_worlds_47 rfl (lv_at hl 0 rfl) ?_
                obtain ⟨i11, hr, hF⟩ := b1_ex hF
                have hT_i11 : hT σ i11 3 := gw_T hG hT_a0 (by decide) hr
                refine gx_get 1 (v := .ref (ad i11)) X hG hT_a0.1 (hT_a0.eq (by decide)) (by decide) rfl inX11 (by decide) k_152 (fun _ h => h) (gx_rfv hr) dX11_worlds_48 ?_
                refine lv_aload_n X.1 X.2.1 dX11_worlds_51 rfl (lv_at hl 0 rfl) ?_
                obtain ⟨i12, hr, hF⟩ := b1_ex hF
                have hT_i12 : hT σ i12 3 := gw_T hG hT_a0 (by decide) hr
                refine gx_get 0 (v := .ref (ad i12)) X hG hT_a0.1 (hT_a0.eq (by decide)) (by decide) rfl inX11 (by decide) k_151 (fun _ h => h) (gx_rfv hr) dX11_worlds_52 ?_
                refine lv_iconst (v := 0) X.1 X.2.1 dX11_worlds_55 (by decide) ?_
                obtain ⟨σ13, hz, hF⟩ := b1_ex hF
                refine gx_rV (gx_runV (As := [.ref (ad i12), .int 0]) (rest := []) X hG hS hT_i11.1 (hT_i11.eq (by decide)) (by decide) rfl (c_X3_seatFrom l D cA base ad σ n i11 i12 0 hT_i11 hT_i12 hz) k_646 k_643 k_644 k_645 k_2 (h_X3_seatFrom) rfl rfl ⟨by decide, by decide⟩ rfl hl.1 rfl (Nat.le_of_ble_eq_true rfl) dX11_worlds_56 ⟨Nat.zero_le _, Nat.zero_le _⟩) hS (fun H locs hG hS hX => ?_)
                have hT_a0 := hX.T hT_a0
                replace hE := hE.trans hX
                refine lv_iload_n X.1 X.2.1 dX11_worlds_59 rfl (lv_at hl 2 rfl) ?_
                refine lv_istore (lv' := [(5, .int a2), (0, .ref (ad a0)), (1, .int a1), (2, .int a2), (3, .int a3), (4, .int a4)]) X.1 X.2.1 dX11_worlds_60 hl (by decide) rfl (fun ls hl => ?_)
                refine lv_iconst (v := 0) X.1 X.2.1 dX11_worlds_62 (by decide) ?_
                refine lv_istore (lv' := [(6, .int 0), (5, .int a2), (0, .ref (ad a0)), (1, .int a1), (2, .int a2), (3, .int a3), (4, .int a4)]) X.1 X.2.1 dX11_worlds_63 hl (by decide) rfl (fun ls hl => ?_)
                refine lv_iconst (v := 0) X.1 X.2.1 dX11_worlds_65 (by decide) ?_
                refine lv_istore (lv' := [(7, .int 0), (6, .int 0), (5, .int a2), (0, .ref (ad a0)), (1, .int a1), (2, .int a2), (3, .int a3), (4, .int a4)]) X.1 X.2.1 dX11_worlds_66 hl (by decide) rfl (fun ls hl => ?_)
                exact w_X11_worlds_68 X n  n a0 a1 a3 a4 a2 0 0 σ13 _ _ ls hT_a0 hG hS hE (lv_sub hl [3, 4, 6, 7, 2, 1, 0] rfl) hF
              · replace hF := it_t hF hc
                refine lv_bipush (v := (-3)) X.1 X.2.1 dX11_worlds_44 (by decide) ?_
                exact gx_iret X hG hS hE hF dX11_worlds_46
            · replace hF := it_f hF hc
              refine lv_iconst (v := (-1)) X.1 X.2.1 dX11_worlds_32 (by decide) ?_
              exact gx_iret X hG hS hE hF dX11_worlds_33
theorem w_X3_becomeLike_53 {σ0 τ : Hp} (X : SX D cA base p s m args meth c cX3_becomeLike 3 none RX3) (n : Nat)  : ∀ (v0 : Nat) (v1 : Nat) (σ : Hp) (H : Heap) (locs : List Loc) (ls : Array Slot), hT σ v0 3 → hT σ v1 3 → GW D cA base ad σ H → va_S (bA base) s.heap H locs → xT σ0 σ → lv_has ls 3 [(0, .ref (ad v0)), (1, .ref (ad v1))] → F_X3_becomeLike_53 n  v0 v1 σ = some τ → W p l e rm_X3_becomeLike s m args below meth c H locs 0 0 (ZV below s args D cA base ad σ0 τ) (F0 m 53 ls []) := by
  intro v0 v1 σ H locs ls hT_v0 hT_v1 hG hS hE hl hF
  unfold F_X3_becomeLike_53 at hF
  refine lv_aload_n X.1 X.2.1 dX3_becomeLike_53 rfl (lv_at hl 0 rfl) ?_
  refine lv_aload_n X.1 X.2.1 dX3_becomeLike_54 rfl (lv_at hl 1 rfl) ?_
  refine gx_get 8 (v := .int (hI σ v1 8)) X hG hT_v1.1 (hT_v1.eq (by decide)) (by decide) rfl inX3 (by decide) k_59 (fun _ h => h) rfl dX3_becomeLike_55 ?_
  obtain ⟨hz01, hF⟩ := ck_ex hF
  refine gx_putI 8  X hG hS hT_v0.1 (hT_v0.eq (by decide)) (by decide) rfl inX3 tyX3_ok nmX3 (by decide) k_59 (fun _ h => h) rfl (nz_b hz01) (fz_b hz01) rfl (Nat.le_of_ble_eq_true rfl) dX3_becomeLike_58 hF (fun σ1 H locs hG hS hX hF => ?_)
  have hT_v0 := hX.T hT_v0
  have hT_v1 := hX.T hT_v1
  replace hE := hE.trans hX
  refine lv_aload_n X.1 X.2.1 dX3_becomeLike_61 rfl (lv_at hl 0 rfl) ?_
  refine lv_aload_n X.1 X.2.1 dX3_becomeLike_62 rfl (lv_at hl 1 rfl) ?_
  refine gx_get 9 (v := .int (hI σ1 v1 9)) X hG hT_v1.1 (hT_v1.eq (by decide)) (by decide) rfl inX3 (by decide) k_60 (fun _ h => h) rfl dX3_becomeLike_63 ?_
  refine gx_putI 9  X hG hS hT_v0.1 (hT_v0.eq (by decide)) (by decide) rfl inX3 tyX3_ok nmX3 (by decide) k_60 (fun _ h => h) rfl rfl rfl rfl (Nat.le_of_ble_eq_true rfl) dX3_becomeLike_66 hF (fun σ2 H locs hG hS hX hF => ?_)
  have hT_v0 := hX.T hT_v0
  have hT_v1 := hX.T hT_v1
  replace hE := hE.trans hX
  refine lv_aload_n X.1 X.2.1 dX3_becomeLike_69 rfl (lv_at hl 0 rfl) ?_
  refine lv_aload_n X.1 X.2.1 dX3_becomeLike_70 rfl (lv_at hl 1 rfl) ?_
  refine gx_get 10 (v := .int (hI σ2 v1 10)) X hG hT_v1.1 (hT_v1.eq (by decide)) (by decide) rfl inX3 (by decide) k_63 (fun _ h => h) rfl dX3_becomeLike_71 ?_
  refine gx_putI 10  X hG hS hT_v0.1 (hT_v0.eq (by decide)) (by decide) rfl inX3 tyX3_ok nmX3 (by decide) k_63 (fun _ h => h) rfl rfl rfl rfl (Nat.le_of_ble_eq_true rfl) dX3_becomeLike_74 hF (fun σ3 H locs hG hS hX hF => ?_)
  have hT_v0 := hX.T hT_v0
  have hT_v1 := hX.T hT_v1
  replace hE := hE.trans hX
  refine lv_aload_n X.1 X.2.1 dX3_becomeLike_77 rfl (lv_at hl 0 rfl) ?_
  refine lv_aload_n X.1 X.2.1 dX3_becomeLike_78 rfl (lv_at hl 1 rfl) ?_
  refine gx_get 11 (v := .int (hI σ3 v1 11)) X hG hT_v1.1 (hT_v1.eq (by decide)) (by decide) rfl inX3 (by decide) k_65 (fun _ h => h) rfl dX3_becomeLike_79 ?_
  refine gx_putI 11  X hG hS hT_v0.1 (hT_v0.eq (by decide)) (by decide) rfl inX3 tyX3_ok nmX3 (by decide) k_65 (fun _ h => h) rfl rfl rfl rfl (Nat.le_of_ble_eq_true rfl) dX3_becomeLike_82 hF (fun σ4 H locs hG hS hX hF => ?_)
  have hT_v0 := hX.T hT_v0
  have hT_v1 := hX.T hT_v1
  replace hE := hE.trans hX
  refine lv_aload_n X.1 X.2.1 dX3_becomeLike_85 rfl (lv_at hl 0 rfl) ?_
  refine lv_aload_n X.1 X.2.1 dX3_becomeLike_86 rfl (lv_at hl 1 rfl) ?_
  refine gx_get 12 (v := .int (hI σ4 v1 12)) X hG hT_v1.1 (hT_v1.eq (by decide)) (by decide) rfl inX3 (by decide) k_69 (fun _ h => h) rfl dX3_becomeLike_87 ?_
  refine gx_putI 12  X hG hS hT_v0.1 (hT_v0.eq (by decide)) (by decide) rfl inX3 tyX3_ok nmX3 (by decide) k_69 (fun _ h => h) rfl rfl rfl rfl (Nat.le_of_ble_eq_true rfl) dX3_becomeLike_90 hF (fun σ5 H locs hG hS hX hF => ?_)
  have hT_v0 := hX.T hT_v0
  have hT_v1 := hX.T hT_v1
  replace hE := hE.trans hX
  refine lv_aload_n X.1 X.2.1 dX3_becomeLike_93 rfl (lv_at hl 0 rfl) ?_
  refine lv_aload_n X.1 X.2.1 dX3_becomeLike_94 rfl (lv_at hl 1 rfl) ?_
  refine gx_get 13 (v := .int (hI σ5 v1 13)) X hG hT_v1.1 (hT_v1.eq (by decide)) (by decide) rfl inX3 (by decide) k_71 (fun _ h => h) rfl dX3_becomeLike_95 ?_
  refine gx_putI 13  X hG hS hT_v0.1 (hT_v0.eq (by decide)) (by decide) rfl inX3 tyX3_ok nmX3 (by decide) k_71 (fun _ h => h) rfl rfl rfl rfl (Nat.le_of_ble_eq_true rfl) dX3_becomeLike_98 hF (fun σ6 H locs hG hS hX hF => ?_)
  have hT_v0 := hX.T hT_v0
  have hT_v1 := hX.T hT_v1
  replace hE := hE.trans hX
  refine lv_aload_n X.1 X.2.1 dX3_becomeLike_101 rfl (lv_at hl 0 rfl) ?_
  refine lv_aload_n X.1 X.2.1 dX3_becomeLike_102 rfl (lv_at hl 1 rfl) ?_
  refine gx_get 14 (v := .int (hI σ6 v1 14)) X hG hT_v1.1 (hT_v1.eq (by decide)) (by decide) rfl inX3 (by decide) k_73 (fun _ h => h) rfl dX3_becomeLike_103 ?_
  refine gx_putI 14  X hG hS hT_v0.1 (hT_v0.eq (by decide)) (by decide) rfl inX3 tyX3_ok nmX3 (by decide) k_73 (fun _ h => h) rfl rfl rfl rfl (Nat.le_of_ble_eq_true rfl) dX3_becomeLike_106 hF (fun σ7 H locs hG hS hX hF => ?_)
  have hT_v0 := hX.T hT_v0
  have hT_v1 := hX.T hT_v1
  replace hE := hE.trans hX
  refine lv_aload_n X.1 X.2.1 dX3_becomeLike_109 rfl (lv_at hl 1 rfl) ?_
  obtain ⟨i8, hr, hF⟩ := b1_ex hF
  have hT_i8 : hT σ7 i8 13 := gw_T hG hT_v1 (by decide) hr
  refine gx_get 15 (v := .ref (ad i8)) X hG hT_v1.1 (hT_v1.eq (by decide)) (by decide) rfl inX3 (by decide) k_74 (fun _ h => h) (gx_rfv hr) dX3_becomeLike_110 ?_
  refine lv_aload_n X.1 X.2.1 dX3_becomeLike_113 rfl (lv_at hl 0 rfl) ?_
  obtain ⟨i9, hr, hF⟩ := b1_ex hF
  have hT_i9 : hT σ7 i9 13 := gw_T hG hT_v0 (by decide) hr
  refine gx_get 15 (v := .ref (ad i9)) X hG hT_v0.1 (hT_v0.eq (by decide)) (by decide) rfl inX3 (by decide) k_74 (fun _ h => h) (gx_rfv hr) dX3_becomeLike_114 ?_
  obtain ⟨σ10, hz, hF⟩ := b1_ex hF
  refine gx_rV (gx_runSN (As := [.ref (ad i8), .ref (ad i9)]) (rest := []) X hG hS (c_X11_copyAll l D cA base ad σ7 n i8 i9 hT_i8 hT_i9 hz) k_458 q_647 k_457 k_1 (h_X11_copyAll.2) rfl rfl ⟨by decide, by decide⟩ rfl hl.1 rfl (Nat.le_of_ble_eq_true rfl) dX3_becomeLike_117 ⟨Nat.zero_le _, Nat.zero_le _⟩) hS (fun H locs hG hS hX => ?_)
  have hT_v0 := hX.T hT_v0
  have hT_v1 := hX.T hT_v1
  replace hE := hE.trans hX
  refine lv_aload_n X.1 X.2.1 dX3_becomeLike_120 rfl (lv_at hl 1 rfl) ?_
  obtain ⟨i11, hr, hF⟩ := b1_ex hF
  have hT_i11 : hT σ10 i11 13 := gw_T hG hT_v1 (by decide) hr
  refine gx_get 16 (v := .ref (ad i11)) X hG hT_v1.1 (hT_v1.eq (by decide)) (by decide) rfl inX3 (by decide) k_76 (fun _ h => h) (gx_rfv hr) dX3_becomeLike_121 ?_
  refine lv_aload_n X.1 X.2.1 dX3_becomeLike_124 rfl (lv_at hl 0 rfl) ?_
  obtain ⟨i12, hr, hF⟩ := b1_ex hF
  have hT_i12 : hT σ10 i12 13 := gw_T hG hT_v0 (by decide) hr
  refine gx_get 16 (v := .ref (ad i12)) X hG hT_v0.1 (hT_v0.eq (by decide)) (by decide) rfl inX3 (by decide) k_76 (fun _ h => h) (gx_rfv hr) dX3_becomeLike_125 ?_
  obtain ⟨σ13, hz, hF⟩ := b1_ex hF
  refine gx_rV (gx_runSN (As := [.ref (ad i11), .ref (ad i12)]) (rest := []) X hG hS (c_X11_copyAll l D cA base ad σ10 n i11 i12 hT_i11 hT_i12 hz) k_458 q_647 k_457 k_1 (h_X11_copyAll.2) rfl rfl ⟨by decide, by decide⟩ rfl hl.1 rfl (Nat.le_of_ble_eq_true rfl) dX3_becomeLike_128 ⟨Nat.zero_le _, Nat.zero_le _⟩) hS (fun H locs hG hS hX => ?_)
  have hT_v0 := hX.T hT_v0
  have hT_v1 := hX.T hT_v1
  replace hE := hE.trans hX
  refine lv_aload_n X.1 X.2.1 dX3_becomeLike_131 rfl (lv_at hl 1 rfl) ?_
  obtain ⟨i14, hr, hF⟩ := b1_ex hF
  have hT_i14 : hT σ13 i14 13 := gw_T hG hT_v1 (by decide) hr
  refine gx_get 17 (v := .ref (ad i14)) X hG hT_v1.1 (hT_v1.eq (by decide)) (by decide) rfl inX3 (by decide) k_78 (fun _ h => h) (gx_rfv hr) dX3_becomeLike_132 ?_
  refine lv_aload_n X.1 X.2.1 dX3_becomeLike_135 rfl (lv_at hl 0 rfl) ?_
  obtain ⟨i15, hr, hF⟩ := b1_ex hF
  have hT_i15 : hT σ13 i15 13 := gw_T hG hT_v0 (by decide) hr
  refine gx_get 17 (v := .ref (ad i15)) X hG hT_v0.1 (hT_v0.eq (by decide)) (by decide) rfl inX3 (by decide) k_78 (fun _ h => h) (gx_rfv hr) dX3_becomeLike_136 ?_
  obtain ⟨σ16, hz, hF⟩ := b1_ex hF
  refine gx_rV (gx_runSN (As := [.ref (ad i14), .ref (ad i15)]) (rest := []) X hG hS (c_X11_copyAll l D cA base ad σ13 n i14 i15 hT_i14 hT_i15 hz) k_458 q_647 k_457 k_1 (h_X11_copyAll.2) rfl rfl ⟨by decide, by decide⟩ rfl hl.1 rfl (Nat.le_of_ble_eq_true rfl) dX3_becomeLike_139 ⟨Nat.zero_le _, Nat.zero_le _⟩) hS (fun H locs hG hS hX => ?_)
  have hT_v0 := hX.T hT_v0
  have hT_v1 := hX.T hT_v1
  replace hE := hE.trans hX
  refine lv_aload_n X.1 X.2.1 dX3_becomeLike_142 rfl (lv_at hl 1 rfl) ?_
  obtain ⟨i17, hr, hF⟩ := b1_ex hF
  have hT_i17 : hT σ16 i17 13 := gw_T hG hT_v1 (by decide) hr
  refine gx_get 18 (v := .ref (ad i17)) X hG hT_v1.1 (hT_v1.eq (by decide)) (by decide) rfl inX3 (by decide) k_81 (fun _ h => h) (gx_rfv hr) dX3_becomeLike_143 ?_
  refine lv_aload_n X.1 X.2.1 dX3_becomeLike_146 rfl (lv_at hl 0 rfl) ?_
  obtain ⟨i18, hr, hF⟩ := b1_ex hF
  have hT_i18 : hT σ16 i18 13 := gw_T hG hT_v0 (by decide) hr
  refine gx_get 18 (v := .ref (ad i18)) X hG hT_v0.1 (hT_v0.eq (by decide)) (by decide) rfl inX3 (by decide) k_81 (fun _ h => h) (gx_rfv hr) dX3_becomeLike_147 ?_
  obtain ⟨σ19, hz, hF⟩ := b1_ex hF
  refine gx_rV (gx_runSN (As := [.ref (ad i17), .ref (ad i18)]) (rest := []) X hG hS (c_X11_copyAll l D cA base ad σ16 n i17 i18 hT_i17 hT_i18 hz) k_458 q_647 k_457 k_1 (h_X11_copyAll.2) rfl rfl ⟨by decide, by decide⟩ rfl hl.1 rfl (Nat.le_of_ble_eq_true rfl) dX3_becomeLike_150 ⟨Nat.zero_le _, Nat.zero_le _⟩) hS (fun H locs hG hS hX => ?_)
  have hT_v0 := hX.T hT_v0
  have hT_v1 := hX.T hT_v1
  replace hE := hE.trans hX
  exact gx_vret X hG hS hE hF dX3_becomeLike_153
theorem w_X3_becomeLike_27 {σ0 τ : Hp} (X : SX D cA base p s m args meth c cX3_becomeLike 3 none RX3) (n : Nat)  : ∀ f : Nat, ∀ (v0 : Nat) (v1 : Nat) (v2 : Int32) (σ : Hp) (H : Heap) (locs : List Loc) (ls : Array Slot), hT σ v0 3 → hT σ v1 3 → GW D cA base ad σ H → va_S (bA base) s.heap H locs → xT σ0 σ → lv_has ls 3 [(0, .ref (ad v0)), (1, .ref (ad v1)), (2, .int v2)] → F_X3_becomeLike_27 n  f v0 v1 v2 σ = some τ → W p l e rm_X3_becomeLike s m args below meth c H locs 0 0 (ZV below s args D cA base ad σ0 τ) (F0 m 27 ls []) := by
  intro f
  induction f with
  | zero => intro v0 v1 v2 σ H locs ls h0 h1 hG hS hE hl hF
            rw [F_X3_becomeLike_27] at hF; cases hF
  | succ f ih =>
    intro v0 v1 v2 σ H locs ls hT_v0 hT_v1 hG hS hE hl hF
    rw [F_X3_becomeLike_27] at hF
    refine lv_iload_n X.1 X.2.1 dX3_becomeLike_27 rfl (lv_at hl 2 rfl) ?_
    refine lv_aload_n X.1 X.2.1 dX3_becomeLike_28 rfl (lv_at hl 0 rfl) ?_
    obtain ⟨i20, hr, hF⟩ := b1_ex hF
    have hT_i20 : hT σ i20 14 := gw_T hG hT_v0 (by decide) hr
    refine gx_get 6 (v := .ref (ad i20)) X hG hT_v0.1 (hT_v0.eq (by decide)) (by decide) rfl inX3 (by decide) k_55 (fun _ h => h) (gx_rfv hr) dX3_becomeLike_29 ?_
    refine gx_alen (t0 := 1) X hG hT_i20 (by decide) (by decide) rfl dX3_becomeLike_32 ?_
    refine lv_icmp_ge (tgt := 53) X.1 X.2.1 dX3_becomeLike_33 (by decide) (fun hc => ?_) (fun hc => ?_)
    · replace hF := it_t hF hc
      exact w_X3_becomeLike_53 X n  v0 v1 σ _ _ ls hT_v0 hT_v1 hG hS hE (lv_sub hl [0, 1] rfl) hF
    · replace hF := it_f hF hc
      refine lv_aload_n X.1 X.2.1 dX3_becomeLike_36 rfl (lv_at hl 0 rfl) ?_
      obtain ⟨i21, hr, hF⟩ := b1_ex hF
      have hT_i21 : hT σ i21 14 := gw_T hG hT_v0 (by decide) hr
      refine gx_get 6 (v := .ref (ad i21)) X hG hT_v0.1 (hT_v0.eq (by decide)) (by decide) rfl inX3 (by decide) k_55 (fun _ h => h) (gx_rfv hr) dX3_becomeLike_37 ?_
      refine lv_iload_n X.1 X.2.1 dX3_becomeLike_40 rfl (lv_at hl 2 rfl) ?_
      refine lv_aload_n X.1 X.2.1 dX3_becomeLike_41 rfl (lv_at hl 1 rfl) ?_
      refine lv_iload_n X.1 X.2.1 dX3_becomeLike_42 rfl (lv_at hl 2 rfl) ?_
      obtain ⟨r23, σ22, hz, hF⟩ := b2_ex hF
      refine gx_rQ (gx_runV (As := [.int v2]) (rest := [.int v2, .ref (ad i21)]) X hG hS hT_v1.1 (hT_v1.eq (by decide)) (by decide) rfl (c_X3_lawAt l D cA base ad σ n v1 v2 hT_v1 hz) k_188 k_734 k_186 k_187 k_2 (h_X3_lawAt) rfl rfl ⟨by decide, by decide⟩ rfl hl.1 rfl (Nat.le_of_ble_eq_true rfl) dX3_becomeLike_43 ⟨Nat.zero_le _, Nat.zero_le _⟩) hS (fun H locs hG hS hX hO_r23 => ?_)
      have hT_v0 := hX.T hT_v0
      have hT_v1 := hX.T hT_v1
      have hT_i21 := hX.T hT_i21
      replace hE := hE.trans hX
      refine gx_qast (t0 := 1) (ci := 1) (r := (RX1, TX1, 6)) (v := r23) X hG hS hT_i21 (by decide) (by decide) rfl rfl (by decide) hO_r23 rfl hF dX3_becomeLike_46 (fun σ24 H locs hG hS hX hF => ?_)
      have hT_v0 := hX.T hT_v0
      have hT_v1 := hX.T hT_v1
      replace hE := hE.trans hX
      refine lv_iinc (v := v2 + 1) (lv' := [(2, .int (v2 + 1)), (0, .ref (ad v0)), (1, .ref (ad v1))]) X.1 X.2.1 dX3_becomeLike_47 hl (k := 2) rfl rfl (by decide) rfl (fun ls hl => ?_)
      refine lv_goto (tgt := 27) X.1 X.2.1 dX3_becomeLike_50 (by decide) ?_
      exact ih v0 v1 (v2 + 1) σ24 _ _ ls hT_v0 hT_v1 hG hS hE (lv_sub hl [1, 2, 0] rfl) hF
theorem c_X3_becomeLike (l : Launch) (D : va_G) (cA : Nat → ClassId) (base : Nat) (ad : Nat → Nat) (σ : Hp) (n : Nat) (a0 : Nat) (a1 : Nat) (hT_a0 : hT σ a0 3) (hT_a1 : hT σ a1 3) {τ : Hp} (hF : F_X3_becomeLike n a0 a1 σ = some τ) : MV l yX3_becomeLike cX3_becomeLike 3 rm_X3_becomeLike D cA base ad σ [.ref (ad a0), .ref (ad a1)] τ := by
  refine Met.ofW (cc := cX3_becomeLike) (maxL := 3) (ret := none) (by decide) rfl ?_
  intro p e s m args below meth c s₁ B hml hv
  obtain ⟨rfl, hv⟩ := hv
  have X : SX D cA base p s m ([.ref (ad a0), .ref (ad a1)] : List Value).toArray meth c cX3_becomeLike 3 none RX3 := sx_of B hml hv
  have hG := hv.1
  have hS : va_S (bA base) s.heap s.heap [] := va_S.rf
  have hE := xT.rf σ
  have hl := lv_entry ([.ref (ad a0), .ref (ad a1)]) (n := 3) (Nat.le_of_ble_eq_true rfl)
  rw [lg_entry_eq]
  generalize (lg_sl ([.ref (ad a0), .ref (ad a1)]) ++ List.replicate (3 - (lg_sl ([.ref (ad a0), .ref (ad a1)])).length) Slot.unset).toArray = ls at hl ⊢
  have hl : lv_has ls 3 [(0, .ref (ad a0)), (1, .ref (ad a1))] := hl
  unfold F_X3_becomeLike at hF
  refine lv_aload_n X.1 X.2.1 dX3_becomeLike_0 rfl (lv_at hl 0 rfl) ?_
  refine lv_aload_n X.1 X.2.1 dX3_becomeLike_1 rfl (lv_at hl 1 rfl) ?_
  refine lv_iconst (v := 0) X.1 X.2.1 dX3_becomeLike_2 (by decide) ?_
  obtain ⟨σ25, hz, hF⟩ := b1_ex hF
  refine gx_rV (gx_runV (As := [.ref (ad a1), .int 0]) (rest := []) X hG hS hT_a0.1 (hT_a0.eq (by decide)) (by decide) rfl (c_X3_seatFrom l D cA base ad σ n a0 a1 0 hT_a0 hT_a1 hz) k_646 k_733 k_644 k_645 k_2 (h_X3_seatFrom) rfl rfl ⟨by decide, by decide⟩ rfl hl.1 rfl (Nat.le_of_ble_eq_true rfl) dX3_becomeLike_3 ⟨Nat.zero_le _, Nat.zero_le _⟩) hS (fun H locs hG hS hX => ?_)
  have hT_a0 := hX.T hT_a0
  have hT_a1 := hX.T hT_a1
  replace hE := hE.trans hX
  refine lv_aload_n X.1 X.2.1 dX3_becomeLike_6 rfl (lv_at hl 1 rfl) ?_
  obtain ⟨i26, hr, hF⟩ := b1_ex hF
  have hT_i26 : hT σ25 i26 13 := gw_T hG hT_a1 (by decide) hr
  refine gx_get 7 (v := .ref (ad i26)) X hG hT_a1.1 (hT_a1.eq (by decide)) (by decide) rfl inX3 (by decide) k_56 (fun _ h => h) (gx_rfv hr) dX3_becomeLike_7 ?_
  refine lv_aload_n X.1 X.2.1 dX3_becomeLike_10 rfl (lv_at hl 0 rfl) ?_
  obtain ⟨i27, hr, hF⟩ := b1_ex hF
  have hT_i27 : hT σ25 i27 13 := gw_T hG hT_a0 (by decide) hr
  refine gx_get 7 (v := .ref (ad i27)) X hG hT_a0.1 (hT_a0.eq (by decide)) (by decide) rfl inX3 (by decide) k_56 (fun _ h => h) (gx_rfv hr) dX3_becomeLike_11 ?_
  obtain ⟨σ28, hz, hF⟩ := b1_ex hF
  refine gx_rV (gx_runSN (As := [.ref (ad i26), .ref (ad i27)]) (rest := []) X hG hS (c_X11_copyAll l D cA base ad σ25 n i26 i27 hT_i26 hT_i27 hz) k_458 q_647 k_457 k_1 (h_X11_copyAll.2) rfl rfl ⟨by decide, by decide⟩ rfl hl.1 rfl (Nat.le_of_ble_eq_true rfl) dX3_becomeLike_14 ⟨Nat.zero_le _, Nat.zero_le _⟩) hS (fun H locs hG hS hX => ?_)
  have hT_a0 := hX.T hT_a0
  have hT_a1 := hX.T hT_a1
  replace hE := hE.trans hX
  refine lv_aload_n X.1 X.2.1 dX3_becomeLike_17 rfl (lv_at hl 0 rfl) ?_
  refine lv_aload_n X.1 X.2.1 dX3_becomeLike_18 rfl (lv_at hl 1 rfl) ?_
  refine gx_get 5 (v := .int (hI σ28 a1 5)) X hG hT_a1.1 (hT_a1.eq (by decide)) (by decide) rfl inX3 (by decide) k_54 (fun _ h => h) rfl dX3_becomeLike_19 ?_
  refine gx_putI 5  X hG hS hT_a0.1 (hT_a0.eq (by decide)) (by decide) rfl inX3 tyX3_ok nmX3 (by decide) k_54 (fun _ h => h) rfl rfl rfl rfl (Nat.le_of_ble_eq_true rfl) dX3_becomeLike_22 hF (fun σ29 H locs hG hS hX hF => ?_)
  have hT_a0 := hX.T hT_a0
  have hT_a1 := hX.T hT_a1
  replace hE := hE.trans hX
  refine lv_iconst (v := 0) X.1 X.2.1 dX3_becomeLike_25 (by decide) ?_
  refine lv_istore_n (lv' := [(2, .int 0), (0, .ref (ad a0)), (1, .ref (ad a1))]) X.1 X.2.1 dX3_becomeLike_26 rfl hl (by decide) rfl (fun ls hl => ?_)
  exact w_X3_becomeLike_27 X n  n a0 a1 0 σ29 _ _ ls hT_a0 hT_a1 hG hS hE (lv_sub hl [1, 2, 0] rfl) hF
theorem c_X11_image (l : Launch) (D : va_G) (cA : Nat → ClassId) (base : Nat) (ad : Nat → Nat) (σ : Hp) (n : Nat) (a0 : Nat) (hT_a0 : hT σ a0 11) {τ : Hp} {r : Int32} (hF : F_X11_image n a0 σ = some (r, τ)) : MI l yX11_image cX11_image 1 (some .int) rm_X11_image D cA base ad σ [.ref (ad a0)] r τ := by
  refine Met.ofW (cc := cX11_image) (maxL := 1) (ret := (some .int)) (by decide) rfl ?_
  intro p e s m args below meth c s₁ B hml hv
  obtain ⟨rfl, hv⟩ := hv
  have X : SX D cA base p s m ([.ref (ad a0)] : List Value).toArray meth c cX11_image 1 (some .int) RX11 := sx_of B hml hv
  have hG := hv.1
  have hS : va_S (bA base) s.heap s.heap [] := va_S.rf
  have hE := xT.rf σ
  have hl := lv_entry ([.ref (ad a0)]) (n := 1) (Nat.le_of_ble_eq_true rfl)
  rw [lg_entry_eq]
  generalize (lg_sl ([.ref (ad a0)]) ++ List.replicate (1 - (lg_sl ([.ref (ad a0)])).length) Slot.unset).toArray = ls at hl ⊢
  have hl : lv_has ls 1 [(0, .ref (ad a0))] := hl
  unfold F_X11_image at hF
  refine lv_aload_n X.1 X.2.1 dX11_image_0 rfl (lv_at hl 0 rfl) ?_
  obtain ⟨i1, hr, hF⟩ := b1_ex hF
  have hT_i1 : hT σ i1 3 := gw_T hG hT_a0 (by decide) hr
  refine gx_get 2 (v := .ref (ad i1)) X hG hT_a0.1 (hT_a0.eq (by decide)) (by decide) rfl inX11 (by decide) k_153 (fun _ h => h) (gx_rfv hr) dX11_image_1 ?_
  refine lv_aload_n X.1 X.2.1 dX11_image_4 rfl (lv_at hl 0 rfl) ?_
  obtain ⟨i2, hr, hF⟩ := b1_ex hF
  have hT_i2 : hT σ i2 3 := gw_T hG hT_a0 (by decide) hr
  refine gx_get 0 (v := .ref (ad i2)) X hG hT_a0.1 (hT_a0.eq (by decide)) (by decide) rfl inX11 (by decide) k_151 (fun _ h => h) (gx_rfv hr) dX11_image_5 ?_
  obtain ⟨σ3, hz, hF⟩ := b1_ex hF
  refine gx_rV (gx_runV (As := [.ref (ad i2)]) (rest := []) X hG hS hT_i1.1 (hT_i1.eq (by decide)) (by decide) rfl (c_X3_becomeLike l D cA base ad σ n i1 i2 hT_i1 hT_i2 hz) k_732 k_729 k_730 k_731 k_2 (h_X3_becomeLike) rfl rfl ⟨by decide, by decide⟩ rfl hl.1 rfl (Nat.le_of_ble_eq_true rfl) dX11_image_8 ⟨Nat.zero_le _, Nat.zero_le _⟩) hS (fun H locs hG hS hX => ?_)
  have hT_a0 := hX.T hT_a0
  replace hE := hE.trans hX
  refine lv_aload_n X.1 X.2.1 dX11_image_11 rfl (lv_at hl 0 rfl) ?_
  refine lv_iconst (v := 1) X.1 X.2.1 dX11_image_12 (by decide) ?_
  refine gx_putI 3  X hG hS hT_a0.1 (hT_a0.eq (by decide)) (by decide) rfl inX11 tyX11_ok nmX11 (by decide) k_154 (fun _ h => h) rfl rfl rfl rfl (Nat.le_of_ble_eq_true rfl) dX11_image_13 hF (fun σ4 H locs hG hS hX hF => ?_)
  have hT_a0 := hX.T hT_a0
  replace hE := hE.trans hX
  refine lv_aload_n X.1 X.2.1 dX11_image_16 rfl (lv_at hl 0 rfl) ?_
  obtain ⟨i5, hr, hF⟩ := b1_ex hF
  have hT_i5 : hT σ4 i5 3 := gw_T hG hT_a0 (by decide) hr
  refine gx_get 0 (v := .ref (ad i5)) X hG hT_a0.1 (hT_a0.eq (by decide)) (by decide) rfl inX11 (by decide) k_151 (fun _ h => h) (gx_rfv hr) dX11_image_17 ?_
  refine gx_getN 2 (v := .int (hI σ4 i5 2)) X hG hT_i5.1 (hT_i5.eq (by decide)) (by decide) rfl inX3 (by decide) q_49 (fun _ h => h) rfl dX11_image_20 ?_
  exact gx_iret X hG hS hE hF dX11_image_23
theorem c_X11_restore (l : Launch) (D : va_G) (cA : Nat → ClassId) (base : Nat) (ad : Nat → Nat) (σ : Hp) (n : Nat) (a0 : Nat) (hT_a0 : hT σ a0 11) {τ : Hp} {r : Int32} (hF : F_X11_restore n a0 σ = some (r, τ)) : MI l yX11_restore cX11_restore 1 (some .int) rm_X11_restore D cA base ad σ [.ref (ad a0)] r τ := by
  refine Met.ofW (cc := cX11_restore) (maxL := 1) (ret := (some .int)) (by decide) rfl ?_
  intro p e s m args below meth c s₁ B hml hv
  obtain ⟨rfl, hv⟩ := hv
  have X : SX D cA base p s m ([.ref (ad a0)] : List Value).toArray meth c cX11_restore 1 (some .int) RX11 := sx_of B hml hv
  have hG := hv.1
  have hS : va_S (bA base) s.heap s.heap [] := va_S.rf
  have hE := xT.rf σ
  have hl := lv_entry ([.ref (ad a0)]) (n := 1) (Nat.le_of_ble_eq_true rfl)
  rw [lg_entry_eq]
  generalize (lg_sl ([.ref (ad a0)]) ++ List.replicate (1 - (lg_sl ([.ref (ad a0)])).length) Slot.unset).toArray = ls at hl ⊢
  have hl : lv_has ls 1 [(0, .ref (ad a0))] := hl
  unfold F_X11_restore at hF
  refine lv_aload_n X.1 X.2.1 dX11_restore_0 rfl (lv_at hl 0 rfl) ?_
  refine gx_get 3 (v := .int (hI σ a0 3)) X hG hT_a0.1 (hT_a0.eq (by decide)) (by decide) rfl inX11 (by decide) k_154 (fun _ h => h) rfl dX11_restore_1 ?_
  refine lv_if_ne (tgt := 10) X.1 X.2.1 dX11_restore_4 (by decide) (fun hc => ?_) (fun hc => ?_)
  · replace hF := it_f hF hc
    refine lv_aload_n X.1 X.2.1 dX11_restore_10 rfl (lv_at hl 0 rfl) ?_
    obtain ⟨i1, hr, hF⟩ := b1_ex hF
    have hT_i1 : hT σ i1 3 := gw_T hG hT_a0 (by decide) hr
    refine gx_get 0 (v := .ref (ad i1)) X hG hT_a0.1 (hT_a0.eq (by decide)) (by decide) rfl inX11 (by decide) k_151 (fun _ h => h) (gx_rfv hr) dX11_restore_11 ?_
    refine lv_aload_n X.1 X.2.1 dX11_restore_14 rfl (lv_at hl 0 rfl) ?_
    obtain ⟨i2, hr, hF⟩ := b1_ex hF
    have hT_i2 : hT σ i2 3 := gw_T hG hT_a0 (by decide) hr
    refine gx_get 2 (v := .ref (ad i2)) X hG hT_a0.1 (hT_a0.eq (by decide)) (by decide) rfl inX11 (by decide) k_153 (fun _ h => h) (gx_rfv hr) dX11_restore_15 ?_
    obtain ⟨σ3, hz, hF⟩ := b1_ex hF
    refine gx_rV (gx_runV (As := [.ref (ad i2)]) (rest := []) X hG hS hT_i1.1 (hT_i1.eq (by decide)) (by decide) rfl (c_X3_becomeLike l D cA base ad σ n i1 i2 hT_i1 hT_i2 hz) k_732 k_729 k_730 k_731 k_2 (h_X3_becomeLike) rfl rfl ⟨by decide, by decide⟩ rfl hl.1 rfl (Nat.le_of_ble_eq_true rfl) dX11_restore_18 ⟨Nat.zero_le _, Nat.zero_le _⟩) hS (fun H locs hG hS hX => ?_)
    have hT_a0 := hX.T hT_a0
    replace hE := hE.trans hX
    refine lv_aload_n X.1 X.2.1 dX11_restore_21 rfl (lv_at hl 0 rfl) ?_
    obtain ⟨i4, hr, hF⟩ := b1_ex hF
    have hT_i4 : hT σ3 i4 3 := gw_T hG hT_a0 (by decide) hr
    refine gx_get 0 (v := .ref (ad i4)) X hG hT_a0.1 (hT_a0.eq (by decide)) (by decide) rfl inX11 (by decide) k_151 (fun _ h => h) (gx_rfv hr) dX11_restore_22 ?_
    refine gx_getN 2 (v := .int (hI σ3 i4 2)) X hG hT_i4.1 (hT_i4.eq (by decide)) (by decide) rfl inX3 (by decide) q_49 (fun _ h => h) rfl dX11_restore_25 ?_
    exact gx_iret X hG hS hE hF dX11_restore_28
  · replace hF := it_t hF hc
    refine lv_bipush (v := (-3)) X.1 X.2.1 dX11_restore_7 (by decide) ?_
    exact gx_iret X hG hS hE hF dX11_restore_9
theorem c_X11_count (l : Launch) (D : va_G) (cA : Nat → ClassId) (base : Nat) (ad : Nat → Nat) (σ : Hp) (n : Nat) (a0 : Nat) (a1 : Int32) (hT_a0 : hT σ a0 11) {τ : Hp} {r : Int32} (hF : F_X11_count n a0 a1 σ = some (r, τ)) : MI l yX11_count cX11_count 2 (some .int) rm_X11_count D cA base ad σ [.ref (ad a0), .int a1] r τ := by
  refine Met.ofW (cc := cX11_count) (maxL := 2) (ret := (some .int)) (by decide) rfl ?_
  intro p e s m args below meth c s₁ B hml hv
  obtain ⟨rfl, hv⟩ := hv
  have X : SX D cA base p s m ([.ref (ad a0), .int a1] : List Value).toArray meth c cX11_count 2 (some .int) RX11 := sx_of B hml hv
  have hG := hv.1
  have hS : va_S (bA base) s.heap s.heap [] := va_S.rf
  have hE := xT.rf σ
  have hl := lv_entry ([.ref (ad a0), .int a1]) (n := 2) (Nat.le_of_ble_eq_true rfl)
  rw [lg_entry_eq]
  generalize (lg_sl ([.ref (ad a0), .int a1]) ++ List.replicate (2 - (lg_sl ([.ref (ad a0), .int a1])).length) Slot.unset).toArray = ls at hl ⊢
  have hl : lv_has ls 2 [(0, .ref (ad a0)), (1, .int a1)] := hl
  unfold F_X11_count at hF
  refine lv_iload_n X.1 X.2.1 dX11_count_0 rfl (lv_at hl 1 rfl) ?_
  by_cases hc0 : a1 = 0
  · replace hF := it_t hF hc0
    refine lv_tableIn (tgt := 36) X.1 X.2.1 dX11_count_1 (by rw [hc0]; decide) (by rw [hc0]; decide) (by rw [hc0]; rfl) (by decide) ?_
    refine lv_aload_n X.1 X.2.1 dX11_count_36 rfl (lv_at hl 0 rfl) ?_
    obtain ⟨i1, hr, hF⟩ := b1_ex hF
    have hT_i1 : hT σ i1 3 := gw_T hG hT_a0 (by decide) hr
    refine gx_get 0 (v := .ref (ad i1)) X hG hT_a0.1 (hT_a0.eq (by decide)) (by decide) rfl inX11 (by decide) k_151 (fun _ h => h) (gx_rfv hr) dX11_count_37 ?_
    refine gx_getN 0 (v := .int (hI σ i1 0)) X hG hT_i1.1 (hT_i1.eq (by decide)) (by decide) rfl inX3 (by decide) q_40 (fun _ h => h) rfl dX11_count_40 ?_
    exact gx_iret X hG hS hE hF dX11_count_43
  replace hF := it_f hF hc0
  by_cases hc1 : a1 = 1
  · replace hF := it_t hF hc1
    refine lv_tableIn (tgt := 44) X.1 X.2.1 dX11_count_1 (by rw [hc1]; decide) (by rw [hc1]; decide) (by rw [hc1]; rfl) (by decide) ?_
    refine lv_aload_n X.1 X.2.1 dX11_count_44 rfl (lv_at hl 0 rfl) ?_
    obtain ⟨i2, hr, hF⟩ := b1_ex hF
    have hT_i2 : hT σ i2 3 := gw_T hG hT_a0 (by decide) hr
    refine gx_get 0 (v := .ref (ad i2)) X hG hT_a0.1 (hT_a0.eq (by decide)) (by decide) rfl inX11 (by decide) k_151 (fun _ h => h) (gx_rfv hr) dX11_count_45 ?_
    refine gx_getN 2 (v := .int (hI σ i2 2)) X hG hT_i2.1 (hT_i2.eq (by decide)) (by decide) rfl inX3 (by decide) q_49 (fun _ h => h) rfl dX11_count_48 ?_
    exact gx_iret X hG hS hE hF dX11_count_51
  replace hF := it_f hF hc1
  by_cases hc2 : a1 = 2
  · replace hF := it_t hF hc2
    refine lv_tableIn (tgt := 52) X.1 X.2.1 dX11_count_1 (by rw [hc2]; decide) (by rw [hc2]; decide) (by rw [hc2]; rfl) (by decide) ?_
    refine lv_aload_n X.1 X.2.1 dX11_count_52 rfl (lv_at hl 0 rfl) ?_
    obtain ⟨i3, hr, hF⟩ := b1_ex hF
    have hT_i3 : hT σ i3 3 := gw_T hG hT_a0 (by decide) hr
    refine gx_get 0 (v := .ref (ad i3)) X hG hT_a0.1 (hT_a0.eq (by decide)) (by decide) rfl inX11 (by decide) k_151 (fun _ h => h) (gx_rfv hr) dX11_count_53 ?_
    refine gx_getN 5 (v := .int (hI σ i3 5)) X hG hT_i3.1 (hT_i3.eq (by decide)) (by decide) rfl inX3 (by decide) q_53 (fun _ h => h) rfl dX11_count_56 ?_
    exact gx_iret X hG hS hE hF dX11_count_59
  replace hF := it_f hF hc2
  by_cases hc3 : a1 = 3
  · replace hF := it_t hF hc3
    refine lv_tableIn (tgt := 60) X.1 X.2.1 dX11_count_1 (by rw [hc3]; decide) (by rw [hc3]; decide) (by rw [hc3]; rfl) (by decide) ?_
    refine lv_aload_n X.1 X.2.1 dX11_count_60 rfl (lv_at hl 0 rfl) ?_
    obtain ⟨i4, hr, hF⟩ := b1_ex hF
    have hT_i4 : hT σ i4 3 := gw_T hG hT_a0 (by decide) hr
    refine gx_get 0 (v := .ref (ad i4)) X hG hT_a0.1 (hT_a0.eq (by decide)) (by decide) rfl inX11 (by decide) k_151 (fun _ h => h) (gx_rfv hr) dX11_count_61 ?_
    refine lv_iconst (v := (-1)) X.1 X.2.1 dX11_count_64 (by decide) ?_
    obtain ⟨r6, σ5, hz, hF⟩ := b2_ex hF
    refine gx_rI (gx_runV (As := [.int (-1)]) (rest := []) X hG hS hT_i4.1 (hT_i4.eq (by decide)) (by decide) rfl (c_X3_weigh l D cA base ad σ n i4 (-1) hT_i4 hz) k_366 k_743 k_364 k_365 k_2 (h_X3_weigh) rfl rfl ⟨by decide, by decide⟩ rfl hl.1 rfl (Nat.le_of_ble_eq_true rfl) dX11_count_65 ⟨Nat.zero_le _, Nat.zero_le _⟩) hS (fun H locs hG hS hX => ?_)
    have hT_a0 := hX.T hT_a0
    replace hE := hE.trans hX
    exact gx_iret X hG hS hE hF dX11_count_68
  replace hF := it_f hF hc3
  by_cases hc4 : a1 = 4
  · replace hF := it_t hF hc4
    refine lv_tableIn (tgt := 69) X.1 X.2.1 dX11_count_1 (by rw [hc4]; decide) (by rw [hc4]; decide) (by rw [hc4]; rfl) (by decide) ?_
    refine lv_aload_n X.1 X.2.1 dX11_count_69 rfl (lv_at hl 0 rfl) ?_
    obtain ⟨i7, hr, hF⟩ := b1_ex hF
    have hT_i7 : hT σ i7 3 := gw_T hG hT_a0 (by decide) hr
    refine gx_get 0 (v := .ref (ad i7)) X hG hT_a0.1 (hT_a0.eq (by decide)) (by decide) rfl inX11 (by decide) k_151 (fun _ h => h) (gx_rfv hr) dX11_count_70 ?_
    obtain ⟨r9, σ8, hz, hF⟩ := b2_ex hF
    refine gx_rI (gx_runV (As := []) (rest := []) X hG hS hT_i7.1 (hT_i7.eq (by decide)) (by decide) rfl (c_X3_toldToAll l D cA base ad σ n i7 hT_i7 hz) k_359 k_744 k_357 k_358 k_2 (h_X3_toldToAll) rfl rfl ⟨by decide, by decide⟩ rfl hl.1 rfl (Nat.le_of_ble_eq_true rfl) dX11_count_73 ⟨Nat.zero_le _, Nat.zero_le _⟩) hS (fun H locs hG hS hX => ?_)
    have hT_a0 := hX.T hT_a0
    replace hE := hE.trans hX
    exact gx_iret X hG hS hE hF dX11_count_76
  replace hF := it_f hF hc4
  have hz0 := ne_lit hc0 (z := 0) (by decide)
  have hz1 := ne_lit hc1 (z := 1) (by decide)
  have hz2 := ne_lit hc2 (z := 2) (by decide)
  have hz3 := ne_lit hc3 (z := 3) (by decide)
  have hz4 := ne_lit hc4 (z := 4) (by decide)
  refine lv_tableOut (tgt := 77) X.1 X.2.1 dX11_count_1 (by omega) (by decide) ?_
  refine lv_ldc (v := (-1000000001)) X.1 X.2.1 X.2.2.2.2.2.1 (X.w k_385) dX11_count_77 ?_
  exact gx_iret X hG hS hE hF dX11_count_79
theorem c_X5_hold (l : Launch) (D : va_G) (cA : Nat → ClassId) (base : Nat) (ad : Nat → Nat) (σ : Hp) (n : Nat) (a0 : Nat) (a1 : Option Nat) (a2 : Int32) (hT_a0 : hT σ a0 5) (hO_a1 : oT σ a1 100) {τ : Hp} (hF : F_X5_hold n a0 a1 a2 σ = some τ) : MV l yX5_hold cX5_hold 3 rm_X5_hold D cA base ad σ [.ref (ad a0), va_rf (Option.map ad a1), .int a2] τ := by
  refine Met.ofW (cc := cX5_hold) (maxL := 3) (ret := none) (by decide) rfl ?_
  intro p e s m args below meth c s₁ B hml hv
  obtain ⟨rfl, hv⟩ := hv
  have X : SX D cA base p s m ([.ref (ad a0), va_rf (Option.map ad a1), .int a2] : List Value).toArray meth c cX5_hold 3 none RX5 := sx_of B hml hv
  have hG := hv.1
  have hS : va_S (bA base) s.heap s.heap [] := va_S.rf
  have hE := xT.rf σ
  have hl : lv_has ((lg_sl ([.ref (ad a0), va_rf (Option.map ad a1), .int a2]) ++ List.replicate (3 - (lg_sl ([.ref (ad a0), va_rf (Option.map ad a1), .int a2])).length) Slot.unset).toArray) 3 (lv_args 0 ([.ref (ad a0), va_rf (Option.map ad a1), .int a2])) := by cases a1 <;> exact lv_entry _ (Nat.le_of_ble_eq_true rfl)
  rw [lg_entry_eq]
  generalize (lg_sl ([.ref (ad a0), va_rf (Option.map ad a1), .int a2]) ++ List.replicate (3 - (lg_sl ([.ref (ad a0), va_rf (Option.map ad a1), .int a2])).length) Slot.unset).toArray = ls at hl ⊢
  have hl : lv_has ls 3 [(0, .ref (ad a0)), (1, va_rf (Option.map ad a1)), (2, .int a2)] := by cases a1 <;> exact hl
  unfold F_X5_hold at hF
  refine lv_aload_n X.1 X.2.1 dX5_hold_0 rfl (lv_at hl 0 rfl) ?_
  refine gx_aload_n X.1 X.2.1 dX5_hold_1 rfl (lv_at hl 1 rfl) ?_
  refine gx_putR 0 (x := a1) X hG hS hT_a0.1 (hT_a0.eq (by decide)) (by decide) rfl inX5 tyX5_ok nmX5 (by decide) k_130 (fun _ h => h) rfl (gx_nar _) (gx_fit _) rfl hO_a1 (Nat.le_of_ble_eq_true rfl) dX5_hold_2 hF (fun σ1 H locs hG hS hX hF => ?_)
  have hT_a0 := hX.T hT_a0
  have hO_a1 := hX.O hO_a1
  replace hE := hE.trans hX
  refine lv_aload_n X.1 X.2.1 dX5_hold_5 rfl (lv_at hl 0 rfl) ?_
  refine lv_iload_n X.1 X.2.1 dX5_hold_6 rfl (lv_at hl 2 rfl) ?_
  refine gx_putI 1  X hG hS hT_a0.1 (hT_a0.eq (by decide)) (by decide) rfl inX5 tyX5_ok nmX5 (by decide) k_132 (fun _ h => h) rfl rfl rfl rfl (Nat.le_of_ble_eq_true rfl) dX5_hold_7 hF (fun σ2 H locs hG hS hX hF => ?_)
  have hT_a0 := hX.T hT_a0
  have hO_a1 := hX.O hO_a1
  replace hE := hE.trans hX
  refine lv_aload_n X.1 X.2.1 dX5_hold_10 rfl (lv_at hl 0 rfl) ?_
  refine lv_iconst (v := (-1)) X.1 X.2.1 dX5_hold_11 (by decide) ?_
  refine gx_putI 2  X hG hS hT_a0.1 (hT_a0.eq (by decide)) (by decide) rfl inX5 tyX5_ok nmX5 (by decide) k_134 (fun _ h => h) rfl rfl rfl rfl (Nat.le_of_ble_eq_true rfl) dX5_hold_12 hF (fun σ3 H locs hG hS hX hF => ?_)
  have hT_a0 := hX.T hT_a0
  have hO_a1 := hX.O hO_a1
  replace hE := hE.trans hX
  exact gx_vret X hG hS hE hF dX5_hold_15
theorem w_X11_keep_52 {σ0 τ : Hp} {r : Int32} (X : SX D cA base p s m args meth c cX11_keep 6 (some .int) RX11) (n : Nat)  : ∀ (v0 : Nat) (v3 : Int32) (v4 : Nat) (v5 : Option Nat) (σ : Hp) (H : Heap) (locs : List Loc) (ls : Array Slot), hT σ v0 11 → hT σ v4 5 → oT σ v5 100 → GW D cA base ad σ H → va_S (bA base) s.heap H locs → xT σ0 σ → lv_has ls 6 [(0, .ref (ad v0)), (3, .int v3), (4, .ref (ad v4)), (5, va_rf (Option.map ad v5))] → F_X11_keep_52 n  v0 v3 v4 v5 σ = some (r, τ) → W p l e rm_X11_keep s m args below meth c H locs 0 0 (ZI below s args D cA base ad σ0 r τ) (F0 m 52 ls []) := by
  intro v0 v3 v4 v5 σ H locs ls hT_v0 hT_v4 hO_v5 hG hS hE hl hF
  unfold F_X11_keep_52 at hF
  refine lv_aload X.1 X.2.1 dX11_keep_52 (lv_at hl 2 rfl) ?_
  refine gx_aload X.1 X.2.1 dX11_keep_54 (lv_at hl 3 rfl) ?_
  refine lv_aload_n X.1 X.2.1 dX11_keep_56 rfl (lv_at hl 0 rfl) ?_
  obtain ⟨i1, hr, hF⟩ := b1_ex hF
  have hT_i1 : hT σ i1 3 := gw_T hG hT_v0 (by decide) hr
  refine gx_get 0 (v := .ref (ad i1)) X hG hT_v0.1 (hT_v0.eq (by decide)) (by decide) rfl inX11 (by decide) k_151 (fun _ h => h) (gx_rfv hr) dX11_keep_57 ?_
  obtain ⟨i2, hr, hF⟩ := b1_ex hF
  have hT_i2 : hT σ i2 13 := gw_T hG hT_i1 (by decide) hr
  refine gx_getN 4 (v := .ref (ad i2)) X hG hT_i1.1 (hT_i1.eq (by decide)) (by decide) rfl inX3 (by decide) q_52 (fun _ h => h) (gx_rfv hr) dX11_keep_60 ?_
  refine lv_iload_n X.1 X.2.1 dX11_keep_63 rfl (lv_at hl 1 rfl) ?_
  obtain ⟨r4, σ3, hz, hF⟩ := b2_ex hF
  refine gx_rI (gx_runS (As := [.ref (ad i2), .int v3]) (rest := [va_rf (Option.map ad v5), .ref (ad v4)]) X hG hS (c_X11_at l D cA base ad σ n i2 v3 hT_i2 hz) k_362 k_375 k_361 k_1 (h_X11_at.2) rfl rfl ⟨by decide, by decide⟩ rfl hl.1 rfl (by cases v5 <;> exact Nat.le_of_ble_eq_true rfl) dX11_keep_64 ⟨Nat.zero_le _, Nat.zero_le _⟩) hS (fun H locs hG hS hX => ?_)
  have hT_v0 := hX.T hT_v0
  have hT_v4 := hX.T hT_v4
  have hO_v5 := hX.O hO_v5
  replace hE := hE.trans hX
  obtain ⟨σ5, hz, hF⟩ := b1_ex hF
  refine gx_rV (gx_runV (As := [va_rf (Option.map ad v5), .int r4]) (rest := []) X hG hS hT_v4.1 (hT_v4.eq (by decide)) (by decide) rfl (c_X5_hold l D cA base ad σ3 n v4 v5 r4 hT_v4 hO_v5 hz) k_752 k_749 k_750 k_751 k_3 (h_X5_hold) rfl rfl ⟨by decide, by decide⟩ rfl hl.1 rfl (Nat.le_of_ble_eq_true rfl) dX11_keep_67 ⟨Nat.zero_le _, Nat.zero_le _⟩) hS (fun H locs hG hS hX => ?_)
  have hT_v0 := hX.T hT_v0
  have hT_v4 := hX.T hT_v4
  have hO_v5 := hX.O hO_v5
  replace hE := hE.trans hX
  refine lv_iconst (v := 0) X.1 X.2.1 dX11_keep_70 (by decide) ?_
  exact gx_iret X hG hS hE hF dX11_keep_71
theorem w_X11_keep_24 {σ0 τ : Hp} {r : Int32} (X : SX D cA base p s m args meth c cX11_keep 6 (some .int) RX11) (n : Nat)  : ∀ (v0 : Nat) (v2 : Int32) (v3 : Int32) (v4 : Option Nat) (s0 : Option Nat) (σ : Hp) (H : Heap) (locs : List Loc) (ls : Array Slot), hT σ v0 11 → oT σ v4 5 → oT σ s0 100 → GW D cA base ad σ H → va_S (bA base) s.heap H locs → xT σ0 σ → lv_has ls 6 [(0, .ref (ad v0)), (2, .int v2), (3, .int v3), (4, va_rf (Option.map ad v4))] → F_X11_keep_24 n  v0 v2 v3 v4 s0 σ = some (r, τ) → W p l e rm_X11_keep s m args below meth c H locs 0 0 (ZI below s args D cA base ad σ0 r τ) (F0 m 24 ls [va_rf (Option.map ad s0)]) := by
  intro v0 v2 v3 v4 s0 σ H locs ls hT_v0 hO_v4 hO_s0 hG hS hE hl hF
  unfold F_X11_keep_24 at hF
  refine gx_astore (lv' := [(5, va_rf (Option.map ad s0)), (0, .ref (ad v0)), (2, .int v2), (3, .int v3), (4, va_rf (Option.map ad v4))]) X.1 X.2.1 dX11_keep_24 hl (by decide) (by cases s0 <;> cases v4 <;> rfl) (fun ls hl => ?_)
  refine gx_aload X.1 X.2.1 dX11_keep_26 (lv_at hl 4 rfl) ?_
  refine gx_ifnull (tgt := 50) X.1 X.2.1 dX11_keep_28 (by decide) hF (fun hr hF2i6 => ?_) (fun i6 hr hF2i6 => ?_)
  · subst hr
    have hF := hF2i6
    have hl : lv_has ls 6 [(5, va_rf (Option.map ad s0)), (0, .ref (ad v0)), (2, .int v2), (3, .int v3), (4, .null)] := hl
    refine lv_iconst (v := (-1)) X.1 X.2.1 dX11_keep_50 (by decide) ?_
    exact gx_iret X hG hS hE hF dX11_keep_51
  · subst hr
    have hF := hF2i6
    have hT_i6 := hO_v4 i6 rfl
    have hl : lv_has ls 6 [(5, va_rf (Option.map ad s0)), (0, .ref (ad v0)), (2, .int v2), (3, .int v3), (4, .ref (ad i6))] := hl
    refine lv_iload_n X.1 X.2.1 dX11_keep_31 rfl (lv_at hl 2 rfl) ?_
    refine lv_if_lt (tgt := 50) X.1 X.2.1 dX11_keep_32 (by decide) (fun hc => ?_) (fun hc => ?_)
    · replace hF := it_t hF hc
      refine lv_iconst (v := (-1)) X.1 X.2.1 dX11_keep_50 (by decide) ?_
      exact gx_iret X hG hS hE hF dX11_keep_51
    · replace hF := it_f hF hc
      refine lv_iload_n X.1 X.2.1 dX11_keep_35 rfl (lv_at hl 2 rfl) ?_
      refine lv_iconst (v := 1) X.1 X.2.1 dX11_keep_36 (by decide) ?_
      refine lv_icmp_gt (tgt := 50) X.1 X.2.1 dX11_keep_37 (by decide) (fun hc => ?_) (fun hc => ?_)
      · replace hF := it_t hF hc
        refine lv_iconst (v := (-1)) X.1 X.2.1 dX11_keep_50 (by decide) ?_
        exact gx_iret X hG hS hE hF dX11_keep_51
      · replace hF := it_f hF hc
        refine lv_iload_n X.1 X.2.1 dX11_keep_40 rfl (lv_at hl 2 rfl) ?_
        refine lv_iconst (v := 1) X.1 X.2.1 dX11_keep_41 (by decide) ?_
        refine lv_icmp_ne (tgt := 52) X.1 X.2.1 dX11_keep_42 (by decide) (fun hc => ?_) (fun hc => ?_)
        · replace hF := it_f hF hc
          exact w_X11_keep_52 X n  v0 v3 i6 s0 σ _ _ ls hT_v0 hT_i6 hO_s0 hG hS hE (lv_sub hl [1, 3, 4, 0] rfl) hF
        · replace hF := it_t hF hc
          refine gx_aload X.1 X.2.1 dX11_keep_45 (lv_at hl 0 rfl) ?_
          refine gx_ifnonnull (tgt := 52) X.1 X.2.1 dX11_keep_47 (by decide) hF (fun hr hF2i7 => ?_) (fun i7 hr hF2i7 => ?_)
          · subst hr
            have hF := hF2i7
            have hl : lv_has ls 6 [(5, .null), (0, .ref (ad v0)), (2, .int v2), (3, .int v3), (4, .ref (ad i6))] := hl
            refine lv_iconst (v := (-1)) X.1 X.2.1 dX11_keep_50 (by decide) ?_
            exact gx_iret X hG hS hE hF dX11_keep_51
          · subst hr
            have hF := hF2i7
            have hT_i7 := hO_s0 i7 rfl
            have hl : lv_has ls 6 [(5, .ref (ad i7)), (0, .ref (ad v0)), (2, .int v2), (3, .int v3), (4, .ref (ad i6))] := hl
            exact w_X11_keep_52 X n  v0 v3 i6 (some i7) σ _ _ ls hT_v0 hT_i6 (oT.some hT_i7) hG hS hE (lv_sub hl [1, 3, 4, 0] rfl) hF
theorem c_X11_keep (l : Launch) (D : va_G) (cA : Nat → ClassId) (base : Nat) (ad : Nat → Nat) (σ : Hp) (n : Nat) (a0 : Nat) (a1 : Int32) (a2 : Int32) (a3 : Int32) (hT_a0 : hT σ a0 11) {τ : Hp} {r : Int32} (hF : F_X11_keep n a0 a1 a2 a3 σ = some (r, τ)) : MI l yX11_keep cX11_keep 6 (some .int) rm_X11_keep D cA base ad σ [.ref (ad a0), .int a1, .int a2, .int a3] r τ := by
  refine Met.ofW (cc := cX11_keep) (maxL := 6) (ret := (some .int)) (by decide) rfl ?_
  intro p e s m args below meth c s₁ B hml hv
  obtain ⟨rfl, hv⟩ := hv
  have X : SX D cA base p s m ([.ref (ad a0), .int a1, .int a2, .int a3] : List Value).toArray meth c cX11_keep 6 (some .int) RX11 := sx_of B hml hv
  have hG := hv.1
  have hS : va_S (bA base) s.heap s.heap [] := va_S.rf
  have hE := xT.rf σ
  have hl := lv_entry ([.ref (ad a0), .int a1, .int a2, .int a3]) (n := 6) (Nat.le_of_ble_eq_true rfl)
  rw [lg_entry_eq]
  generalize (lg_sl ([.ref (ad a0), .int a1, .int a2, .int a3]) ++ List.replicate (6 - (lg_sl ([.ref (ad a0), .int a1, .int a2, .int a3])).length) Slot.unset).toArray = ls at hl ⊢
  have hl : lv_has ls 6 [(0, .ref (ad a0)), (1, .int a1), (2, .int a2), (3, .int a3)] := hl
  unfold F_X11_keep at hF
  refine lv_aload_n X.1 X.2.1 dX11_keep_0 rfl (lv_at hl 0 rfl) ?_
  refine lv_iload_n X.1 X.2.1 dX11_keep_1 rfl (lv_at hl 1 rfl) ?_
  obtain ⟨r9, σ8, hz, hF⟩ := b2_ex hF
  refine gx_rQ (gx_runV (As := [.int a1]) (rest := []) X hG hS hT_a0.1 (hT_a0.eq (by decide)) (by decide) rfl (c_X11_shelfAt l D cA base ad σ n a0 a1 hT_a0 hz) k_435 k_432 k_434 ks_1 k_1 (h_X11_shelfAt) rfl rfl ⟨by decide, by decide⟩ rfl hl.1 rfl (Nat.le_of_ble_eq_true rfl) dX11_keep_2 ⟨Nat.zero_le _, Nat.zero_le _⟩) hS (fun H locs hG hS hX hO_r9 => ?_)
  have hT_a0 := hX.T hT_a0
  replace hE := hE.trans hX
  refine gx_astore (lv' := [(4, va_rf (Option.map ad r9)), (0, .ref (ad a0)), (1, .int a1), (2, .int a2), (3, .int a3)]) X.1 X.2.1 dX11_keep_5 hl (by decide) (by cases r9 <;> rfl) (fun ls hl => ?_)
  refine lv_iload_n X.1 X.2.1 dX11_keep_7 rfl (lv_at hl 3 rfl) ?_
  refine lv_iconst (v := 1) X.1 X.2.1 dX11_keep_8 (by decide) ?_
  refine lv_icmp_ne (tgt := 23) X.1 X.2.1 dX11_keep_9 (by decide) (fun hc => ?_) (fun hc => ?_)
  · replace hF := it_f hF hc
    refine lv_null X.1 X.2.1 dX11_keep_23 ?_
    exact w_X11_keep_24 X n  a0 a2 a3 r9 none σ8 _ _ ls hT_a0 hO_r9 oT.none hG hS hE (lv_sub hl [1, 3, 4, 0] rfl) hF
  · replace hF := it_t hF hc
    refine lv_aload_n X.1 X.2.1 dX11_keep_12 rfl (lv_at hl 1 rfl) ?_
    obtain ⟨i10, hr, hF⟩ := b1_ex hF
    have hT_i10 : hT σ8 i10 3 := gw_T hG hT_a0 (by decide) hr
    refine gx_get 0 (v := .ref (ad i10)) X hG hT_a0.1 (hT_a0.eq (by decide)) (by decide) rfl inX11 (by decide) k_151 (fun _ h => h) (gx_rfv hr) dX11_keep_13 ?_
    refine lv_iload_n X.1 X.2.1 dX11_keep_16 rfl (lv_at hl 4 rfl) ?_
    obtain ⟨r12, σ11, hz, hF⟩ := b2_ex hF
    refine gx_rQ (gx_runV (As := [.int a3]) (rest := []) X hG hS hT_i10.1 (hT_i10.eq (by decide)) (by decide) rfl (c_X3_turnAt l D cA base ad σ8 n i10 a3 hT_i10 hz) k_383 k_380 k_381 k_382 k_2 (h_X3_turnAt) rfl rfl ⟨by decide, by decide⟩ rfl hl.1 rfl (Nat.le_of_ble_eq_true rfl) dX11_keep_17 ⟨Nat.zero_le _, Nat.zero_le _⟩) hS (fun H locs hG hS hX hO_r12 => ?_)
    have hT_a0 := hX.T hT_a0
    have hO_r9 := hX.O hO_r9
    replace hE := hE.trans hX
    refine lv_goto (tgt := 24) X.1 X.2.1 dX11_keep_20 (by decide) ?_
    exact w_X11_keep_24 X n  a0 a2 a3 r9 r12 σ11 _ _ ls hT_a0 hO_r9 hO_r12 hG hS hE (lv_sub hl [1, 3, 4, 0] rfl) hF
end W_class11
