/-! class9: printed by wip/whole/gen.py -/
section W_class9
variable {p : Program} {l : Launch} {e : Env} {s : State} {m : MethodId} {args : Array Value} {below : List Frame} {meth : Method} {c : Code} {D : va_G} {cA : Nat → ClassId} {base : Nat} {ad : Nat → Nat}
abbrev rm_X3_becomeLike : Room := { frames := 3, cells := 0, slots := 0, locals := 67 }
theorem h_X3_becomeLike : yX3_becomeLike.cls = RX3 ∧ yX3_becomeLike.cls ≠ "java/lang/invoke/MethodHandle" ∧ yX3_becomeLike.cls ≠ "java/lang/invoke/VarHandle" ∧ (parseMethodDescriptor yX3_becomeLike.desc).map (fun d => d.parameters.length) = some 1 := by decide +kernel
def F_X3_becomeLike_53 (n : Nat)  (v0 : Nat) (v1 : Nat) (σ : Hp) : Option Hp := ck ((hI σ v1 8) = 0 ∨ (hI σ v1 8) = 1) (lt (pI σ v0 8 (hI σ v1 8)) fun (σ1 : Hp) => lt (pI σ1 v0 9 (hI σ1 v1 9)) fun (σ2 : Hp) => lt (pI σ2 v0 10 (hI σ2 v1 10)) fun (σ3 : Hp) => lt (pI σ3 v0 11 (hI σ3 v1 11)) fun (σ4 : Hp) => lt (pI σ4 v0 12 (hI σ4 v1 12)) fun (σ5 : Hp) => lt (pI σ5 v0 13 (hI σ5 v1 13)) fun (σ6 : Hp) => lt (pI σ6 v0 14 (hI σ6 v1 14)) fun (σ7 : Hp) => b1 (hR σ7 v1 15) fun (i8 : Nat) => b1 (hR σ7 v0 15) fun (i9 : Nat) => b1 (F_X11_copyAll n i8 i9 σ7) fun (σ10 : Hp) => b1 (hR σ10 v1 16) fun (i11 : Nat) => b1 (hR σ10 v0 16) fun (i12 : Nat) => b1 (F_X11_copyAll n i11 i12 σ10) fun (σ13 : Hp) => b1 (hR σ13 v1 17) fun (i14 : Nat) => b1 (hR σ13 v0 17) fun (i15 : Nat) => b1 (F_X11_copyAll n i14 i15 σ13) fun (σ16 : Hp) => b1 (hR σ16 v1 18) fun (i17 : Nat) => b1 (hR σ16 v0 18) fun (i18 : Nat) => b1 (F_X11_copyAll n i17 i18 σ16) fun (σ19 : Hp) => some σ19)
def F_X3_becomeLike_27 (n : Nat)  : Nat → Nat → Nat → Int32 → Hp → Option Hp
  | 0, _, _, _, _ => none
  | f + 1, v0, v1, v2, σ => b1 (hR σ v0 6) fun (i20 : Nat) => if (nI (hL σ i20)) ≤ v2 then (F_X3_becomeLike_53 n  v0 v1 σ) else (b1 (hR σ v0 6) fun (i21 : Nat) => b2 (F_X3_lawAt n v1 v2 σ) fun (r23 : Option Nat) (σ22 : Hp) => ck (¬ (v2 < 0 ∨ hL σ22 i21 ≤ v2.toNatClampNeg)) (lt (pR σ22 i21 v2.toNatClampNeg r23) fun (σ24 : Hp) => (F_X3_becomeLike_27 n  f) v0 v1 (v2 + 1) σ24))
def F_X3_becomeLike (n : Nat) (a0 : Nat) (a1 : Nat) (σ : Hp) : Option Hp := b1 (F_X3_seatFrom n a0 a1 0 σ) fun (σ25 : Hp) => b1 (hR σ25 a1 7) fun (i26 : Nat) => b1 (hR σ25 a0 7) fun (i27 : Nat) => b1 (F_X11_copyAll n i26 i27 σ25) fun (σ28 : Hp) => lt (pI σ28 a0 5 (hI σ28 a1 5)) fun (σ29 : Hp) => F_X3_becomeLike_27 n  n a0 a1 0 σ29
abbrev rm_X11_image : Room := { frames := 4, cells := 0, slots := 0, locals := 89 }
theorem h_X11_image : yX11_image.cls = RX11 ∧ yX11_image.cls ≠ "java/lang/invoke/MethodHandle" ∧ yX11_image.cls ≠ "java/lang/invoke/VarHandle" ∧ (parseMethodDescriptor yX11_image.desc).map (fun d => d.parameters.length) = some 0 := by decide +kernel
def F_X11_image (n : Nat) (a0 : Nat) (σ : Hp) : Option (Int32 × Hp) := b1 (hR σ a0 2) fun (i1 : Nat) => b1 (hR σ a0 0) fun (i2 : Nat) => b1 (F_X3_becomeLike n i1 i2 σ) fun (σ3 : Hp) => lt (pI σ3 a0 3 1) fun (σ4 : Hp) => b1 (hR σ4 a0 0) fun (i5 : Nat) => some (hI σ4 i5 2, σ4)
abbrev rm_X11_restore : Room := { frames := 4, cells := 0, slots := 0, locals := 89 }
theorem h_X11_restore : yX11_restore.cls = RX11 ∧ yX11_restore.cls ≠ "java/lang/invoke/MethodHandle" ∧ yX11_restore.cls ≠ "java/lang/invoke/VarHandle" ∧ (parseMethodDescriptor yX11_restore.desc).map (fun d => d.parameters.length) = some 0 := by decide +kernel
def F_X11_restore (n : Nat) (a0 : Nat) (σ : Hp) : Option (Int32 × Hp) := if (hI σ a0 3) = 0 then (some ((-3), σ)) else (b1 (hR σ a0 0) fun (i1 : Nat) => b1 (hR σ a0 2) fun (i2 : Nat) => b1 (F_X3_becomeLike n i1 i2 σ) fun (σ3 : Hp) => b1 (hR σ3 a0 0) fun (i4 : Nat) => some (hI σ3 i4 2, σ3))
abbrev rm_X11_count : Room := { frames := 2, cells := 0, slots := 0, locals := 44 }
theorem h_X11_count : yX11_count.cls = RX11 ∧ yX11_count.cls ≠ "java/lang/invoke/MethodHandle" ∧ yX11_count.cls ≠ "java/lang/invoke/VarHandle" ∧ (parseMethodDescriptor yX11_count.desc).map (fun d => d.parameters.length) = some 1 := by decide +kernel
def F_X11_count (n : Nat) (a0 : Nat) (a1 : Int32) (σ : Hp) : Option (Int32 × Hp) := if a1 = 0 then (b1 (hR σ a0 0) fun (i1 : Nat) => some (hI σ i1 0, σ)) else (if a1 = 1 then (b1 (hR σ a0 0) fun (i2 : Nat) => some (hI σ i2 2, σ)) else (if a1 = 2 then (b1 (hR σ a0 0) fun (i3 : Nat) => some (hI σ i3 5, σ)) else (if a1 = 3 then (b1 (hR σ a0 0) fun (i4 : Nat) => b2 (F_X3_weigh n i4 (-1) σ) fun (r6 : Int32) (σ5 : Hp) => some (r6, σ5)) else (if a1 = 4 then (b1 (hR σ a0 0) fun (i7 : Nat) => b2 (F_X3_toldToAll n i7 σ) fun (r9 : Int32) (σ8 : Hp) => some (r9, σ8)) else (some ((-1000000001), σ))))))
abbrev rm_X5_hold : Room := { frames := 0, cells := 0, slots := 0, locals := 0 }
theorem h_X5_hold : yX5_hold.cls = RX5 ∧ yX5_hold.cls ≠ "java/lang/invoke/MethodHandle" ∧ yX5_hold.cls ≠ "java/lang/invoke/VarHandle" ∧ (parseMethodDescriptor yX5_hold.desc).map (fun d => d.parameters.length) = some 2 := by decide +kernel
def F_X5_hold (n : Nat) (a0 : Nat) (a1 : Option Nat) (a2 : Int32) (σ : Hp) : Option Hp := lt (pR σ a0 0 a1) fun (σ1 : Hp) => lt (pI σ1 a0 1 a2) fun (σ2 : Hp) => lt (pI σ2 a0 2 (-1)) fun (σ3 : Hp) => some σ3
abbrev rm_X11_keep : Room := { frames := 2, cells := 0, slots := 0, locals := 42 }
theorem h_X11_keep : yX11_keep.cls = RX11 ∧ yX11_keep.cls ≠ "java/lang/invoke/MethodHandle" ∧ yX11_keep.cls ≠ "java/lang/invoke/VarHandle" ∧ (parseMethodDescriptor yX11_keep.desc).map (fun d => d.parameters.length) = some 3 := by decide +kernel
def F_X11_keep_52 (n : Nat)  (v0 : Nat) (v3 : Int32) (v4 : Nat) (v5 : Option Nat) (σ : Hp) : Option (Int32 × Hp) := b1 (hR σ v0 0) fun (i1 : Nat) => b1 (hR σ i1 4) fun (i2 : Nat) => b2 (F_X11_at n i2 v3 σ) fun (r4 : Int32) (σ3 : Hp) => b1 (F_X5_hold n v4 v5 r4 σ3) fun (σ5 : Hp) => some (0, σ5)
def F_X11_keep_24 (n : Nat)  (v0 : Nat) (v2 : Int32) (v3 : Int32) (v4 : Option Nat) (s0 : Option Nat) (σ : Hp) : Option (Int32 × Hp) := om v4 (some ((-1), σ)) (fun i6 => if v2 < 0 then (some ((-1), σ)) else (if 1 < v2 then (some ((-1), σ)) else (if v2 = 1 then (om s0 (some ((-1), σ)) (fun i7 => F_X11_keep_52 n  v0 v3 i6 (some i7) σ)) else (F_X11_keep_52 n  v0 v3 i6 s0 σ))))
def F_X11_keep (n : Nat) (a0 : Nat) (a1 : Int32) (a2 : Int32) (a3 : Int32) (σ : Hp) : Option (Int32 × Hp) := b2 (F_X11_shelfAt n a0 a1 σ) fun (r9 : Option Nat) (σ8 : Hp) => if a2 = 1 then (b1 (hR σ8 a0 0) fun (i10 : Nat) => b2 (F_X3_turnAt n i10 a3 σ8) fun (r12 : Option Nat) (σ11 : Hp) => F_X11_keep_24 n  a0 a2 a3 r9 r12 σ11) else (F_X11_keep_24 n  a0 a2 a3 r9 none σ8)
abbrev rm_X5_holdRow : Room := { frames := 0, cells := 0, slots := 0, locals := 0 }
theorem h_X5_holdRow : yX5_holdRow.cls = RX5 ∧ yX5_holdRow.cls ≠ "java/lang/invoke/MethodHandle" ∧ yX5_holdRow.cls ≠ "java/lang/invoke/VarHandle" ∧ (parseMethodDescriptor yX5_holdRow.desc).map (fun d => d.parameters.length) = some 2 := by decide +kernel
def F_X5_holdRow_17 (n : Nat)  : Nat → Nat → Int32 → Hp → Option Hp
  | 0, _, _, _ => none
  | f + 1, v0, v3, σ => b1 (hR σ v0 4) fun (i1 : Nat) => if (nI (hL σ i1)) ≤ v3 then (some σ) else (b1 (hR σ v0 4) fun (i2 : Nat) => ck (¬ (v3 < 0 ∨ hL σ i2 ≤ v3.toNatClampNeg)) (lt (pI σ i2 v3.toNatClampNeg 0) fun (σ3 : Hp) => (F_X5_holdRow_17 n  f) v0 (v3 + 1) σ3))
def F_X5_holdRow (n : Nat) (a0 : Nat) (a1 : Int32) (a2 : Int32) (σ : Hp) : Option Hp := lt (pR σ a0 0 none) fun (σ4 : Hp) => lt (pI σ4 a0 2 a1) fun (σ5 : Hp) => lt (pI σ5 a0 3 a2) fun (σ6 : Hp) => F_X5_holdRow_17 n  n a0 0 σ6
abbrev rm_X11_row : Room := { frames := 1, cells := 0, slots := 0, locals := 23 }
theorem h_X11_row : yX11_row.cls = RX11 ∧ yX11_row.cls ≠ "java/lang/invoke/MethodHandle" ∧ yX11_row.cls ≠ "java/lang/invoke/VarHandle" ∧ (parseMethodDescriptor yX11_row.desc).map (fun d => d.parameters.length) = some 3 := by decide +kernel
def F_X11_row (n : Nat) (a0 : Nat) (a1 : Int32) (a2 : Int32) (a3 : Int32) (σ : Hp) : Option (Int32 × Hp) := b2 (F_X11_shelfAt n a0 a1 σ) fun (r2 : Option Nat) (σ1 : Hp) => om r2 (some ((-1), σ1)) (fun i3 => if a2 < 0 then (some ((-1), σ1)) else (if 2 < a2 then (some ((-1), σ1)) else (if a3 ≤ 100 then (if 0 ≤ a3 then (b1 (F_X5_holdRow n i3 a2 a3 σ1) fun (σ4 : Hp) => some (0, σ4)) else (some ((-14), σ1))) else (some ((-1), σ1)))))
abbrev rm_X5_hasPlaces : Room := { frames := 0, cells := 0, slots := 0, locals := 0 }
theorem h_X5_hasPlaces : yX5_hasPlaces.cls = RX5 ∧ yX5_hasPlaces.cls ≠ "java/lang/invoke/MethodHandle" ∧ yX5_hasPlaces.cls ≠ "java/lang/invoke/VarHandle" ∧ (parseMethodDescriptor yX5_hasPlaces.desc).map (fun d => d.parameters.length) = some 2 := by decide +kernel
def F_X5_hasPlaces (n : Nat) (a0 : Nat) (a1 : Int32) (a2 : Int32) (σ : Hp) : Option (Int32 × Hp) := if a1 < 0 then (some (0, σ)) else (if a2 < 0 then (some (0, σ)) else (if (hI σ a0 3) < a2 then (some (0, σ)) else (if ((hI σ a0 3) - a2) < a1 then (some (0, σ)) else (some (1, σ)))))
abbrev rm_X5_lowestBits : Room := { frames := 0, cells := 0, slots := 0, locals := 0 }
theorem h_X5_lowestBits : yX5_lowestBits.cls = RX5 ∧ yX5_lowestBits.cls ≠ "java/lang/invoke/MethodHandle" ∧ yX5_lowestBits.cls ≠ "java/lang/invoke/VarHandle" ∧ (parseMethodDescriptor yX5_lowestBits.desc).map (fun d => d.parameters.length) = some 1 := by decide +kernel
def F_X5_lowestBits (n : Nat) (a0 : Nat) (a1 : Int32) (σ : Hp) : Option (Int32 × Hp) := if (hI σ a0 2) = 0 then (some (a1.toInt8.toInt32, σ)) else (if (hI σ a0 2) = 1 then (some (a1.toInt16.toInt32, σ)) else (some (a1, σ)))
theorem w_X3_becomeLike_53 {σ0 τ : Hp} (X : SX D cA base p s m args meth c cX3_becomeLike 3 none RX3) (n : Nat)  : ∀ (v0 : Nat) (v1 : Nat) (σ : Hp) (H : Heap) (locs : List Loc) (ls : Array Slot), hT σ v0 3 → hT σ v1 3 → GW D cA base ad σ H → va_S (bA base) s.heap H locs → xT σ0 σ → lv_has ls 3 [(0, .ref (ad v0)), (1, .ref (ad v1))] → F_X3_becomeLike_53 n  v0 v1 σ = some τ → W p l e rm_X3_becomeLike s m args below meth c H locs 0 0 (ZV below s args D cA base ad σ0 τ) (F0 m 53 ls []) := by
  intro v0 v1 σ H locs ls hT_v0 hT_v1 hG hS hE hl hF
  unfold F_X3_becomeLike_53 at hF
  refine lv_aload_n X.1 X.2.1 dX3_becomeLike_53 rfl (lv_at hl 0 rfl) ?_
  refine lv_aload_n X.1 X.2.1 dX3_becomeLike_54 rfl (lv_at hl 1 rfl) ?_
  refine gx_get 8 (v := .int (hI σ v1 8)) X hG hT_v1.1 (hT_v1.eq (by decide)) (by decide) rfl inX3 (by decide) k_59 (fun _ h => h) rfl dX3_becomeLike_55 ?_
  obtain ⟨hz01, hF⟩ := ck_ex hF
  refine gx_putI 8  X hG hS hT_v0.1 (hT_v0.eq (by decide)) (by decide) rfl inX3 tyX3_ok nmX3 (by decide) k_59 (fun _ h => h) rfl (nz_b hz01) (fz_b hz01) rfl (Nat.le_of_ble_eq_true rfl) dX3_becomeLike_58 hF (fun σ1 H locs hG hS hX hF => ?_)
  have hT_v0 := hX.T hT_v0
  have hT_v1 := hX.T hT_v1
  replace hE := hE.trans hX
  refine lv_aload_n X.1 X.2.1 dX3_becomeLike_61 rfl (lv_at hl 0 rfl) ?_
  refine lv_aload_n X.1 X.2.1 dX3_becomeLike_62 rfl (lv_at hl 1 rfl) ?_
  refine gx_get 9 (v := .int (hI σ1 v1 9)) X hG hT_v1.1 (hT_v1.eq (by decide)) (by decide) rfl inX3 (by decide) k_60 (fun _ h => h) rfl dX3_becomeLike_63 ?_
  refine gx_putI 9  X hG hS hT_v0.1 (hT_v0.eq (by decide)) (by decide) rfl inX3 tyX3_ok nmX3 (by decide) k_60 (fun _ h => h) rfl rfl rfl rfl (Nat.le_of_ble_eq_true rfl) dX3_becomeLike_66 hF (fun σ2 H locs hG hS hX hF => ?_)
  have hT_v0 := hX.T hT_v0
  have hT_v1 := hX.T hT_v1
  replace hE := hE.trans hX
  refine lv_aload_n X.1 X.2.1 dX3_becomeLike_69 rfl (lv_at hl 0 rfl) ?_
  refine lv_aload_n X.1 X.2.1 dX3_becomeLike_70 rfl (lv_at hl 1 rfl) ?_
  refine gx_get 10 (v := .int (hI σ2 v1 10)) X hG hT_v1.1 (hT_v1.eq (by decide)) (by decide) rfl inX3 (by decide) k_63 (fun _ h => h) rfl dX3_becomeLike_71 ?_
  refine gx_putI 10  X hG hS hT_v0.1 (hT_v0.eq (by decide)) (by decide) rfl inX3 tyX3_ok nmX3 (by decide) k_63 (fun _ h => h) rfl rfl rfl rfl (Nat.le_of_ble_eq_true rfl) dX3_becomeLike_74 hF (fun σ3 H locs hG hS hX hF => ?_)
  have hT_v0 := hX.T hT_v0
  have hT_v1 := hX.T hT_v1
  replace hE := hE.trans hX
  refine lv_aload_n X.1 X.2.1 dX3_becomeLike_77 rfl (lv_at hl 0 rfl) ?_
  refine lv_aload_n X.1 X.2.1 dX3_becomeLike_78 rfl (lv_at hl 1 rfl) ?_
  refine gx_get 11 (v := .int (hI σ3 v1 11)) X hG hT_v1.1 (hT_v1.eq (by decide)) (by decide) rfl inX3 (by decide) k_65 (fun _ h => h) rfl dX3_becomeLike_79 ?_
  refine gx_putI 11  X hG hS hT_v0.1 (hT_v0.eq (by decide)) (by decide) rfl inX3 tyX3_ok nmX3 (by decide) k_65 (fun _ h => h) rfl rfl rfl rfl (Nat.le_of_ble_eq_true rfl) dX3_becomeLike_82 hF (fun σ4 H locs hG hS hX hF => ?_)
  have hT_v0 := hX.T hT_v0
  have hT_v1 := hX.T hT_v1
  replace hE := hE.trans hX
  refine lv_aload_n X.1 X.2.1 dX3_becomeLike_85 rfl (lv_at hl 0 rfl) ?_
  refine lv_aload_n X.1 X.2.1 dX3_becomeLike_86 rfl (lv_at hl 1 rfl) ?_
  refine gx_get 12 (v := .int (hI σ4 v1 12)) X hG hT_v1.1 (hT_v1.eq (by decide)) (by decide) rfl inX3 (by decide) k_69 (fun _ h => h) rfl dX3_becomeLike_87 ?_
  refine gx_putI 12  X hG hS hT_v0.1 (hT_v0.eq (by decide)) (by decide) rfl inX3 tyX3_ok nmX3 (by decide) k_69 (fun _ h => h) rfl rfl rfl rfl (Nat.le_of_ble_eq_true rfl) dX3_becomeLike_90 hF (fun σ5 H locs hG hS hX hF => ?_)
  have hT_v0 := hX.T hT_v0
  have hT_v1 := hX.T hT_v1
  replace hE := hE.trans hX
  refine lv_aload_n X.1 X.2.1 dX3_becomeLike_93 rfl (lv_at hl 0 rfl) ?_
  refine lv_aload_n X.1 X.2.1 dX3_becomeLike_94 rfl (lv_at hl 1 rfl) ?_
  refine gx_get 13 (v := .int (hI σ5 v1 13)) X hG hT_v1.1 (hT_v1.eq (by decide)) (by decide) rfl inX3 (by decide) k_71 (fun _ h => h) rfl dX3_becomeLike_95 ?_
  refine gx_putI 13  X hG hS hT_v0.1 (hT_v0.eq (by decide)) (by decide) rfl inX3 tyX3_ok nmX3 (by decide) k_71 (fun _ h => h) rfl rfl rfl rfl (Nat.le_of_ble_eq_true rfl) dX3_becomeLike_98 hF (fun σ6 H locs hG hS hX hF => ?_)
  have hT_v0 := hX.T hT_v0
  have hT_v1 := hX.T hT_v1
  replace hE := hE.trans hX
  refine lv_aload_n X.1 X.2.1 dX3_becomeLike_101 rfl (lv_at hl 0 rfl) ?_
  refine lv_aload_n X.1 X.2.1 dX3_becomeLike_102 rfl (lv_at hl 1 rfl) ?_
  refine gx_get 14 (v := .int (hI σ6 v1 14)) X hG hT_v1.1 (hT_v1.eq (by decide)) (by decide) rfl inX3 (by decide) k_73 (fun _ h => h) rfl dX3_becomeLike_103 ?_
  refine gx_putI 14  X hG hS hT_v0.1 (hT_v0.eq (by decide)) (by decide) rfl inX3 tyX3_ok nmX3 (by decide) k_73 (fun _ h => h) rfl rfl rfl rfl (Nat.le_of_ble_eq_true rfl) dX3_becomeLike_106 hF (fun σ7 H locs hG hS hX hF => ?_)
  have hT_v0 := hX.T hT_v0
  have hT_v1 := hX.T hT_v1
  replace hE := hE.trans hX
  refine lv_aload_n X.1 X.2.1 dX3_becomeLike_109 rfl (lv_at hl 1 rfl) ?_
  obtain ⟨i8, hr, hF⟩ := b1_ex hF
  have hT_i8 : hT σ7 i8 13 := gw_T hG hT_v1 (by decide) hr
  refine gx_get 15 (v := .ref (ad i8)) X hG hT_v1.1 (hT_v1.eq (by decide)) (by decide) rfl inX3 (by decide) k_74 (fun _ h => h) (gx_rfv hr) dX3_becomeLike_110 ?_
  refine lv_aload_n X.1 X.2.1 dX3_becomeLike_113 rfl (lv_at hl 0 rfl) ?_
  obtain ⟨i9, hr, hF⟩ := b1_ex hF
  have hT_i9 : hT σ7 i9 13 := gw_T hG hT_v0 (by decide) hr
  refine gx_get 15 (v := .ref (ad i9)) X hG hT_v0.1 (hT_v0.eq (by decide)) (by decide) rfl inX3 (by decide) k_74 (fun _ h => h) (gx_rfv hr) dX3_becomeLike_114 ?_
  obtain ⟨σ10, hz, hF⟩ := b1_ex hF
  refine gx_rV (gx_runSN (As := [.ref (ad i8), .ref (ad i9)]) (rest := []) X hG hS (c_X11_copyAll l D cA base ad σ7 n i8 i9 hT_i8 hT_i9 hz) k_458 q_647 k_457 k_1 (h_X11_copyAll.2) rfl rfl ⟨by decide, by decide⟩ rfl hl.1 rfl (Nat.le_of_ble_eq_true rfl) dX3_becomeLike_117 ⟨Nat.zero_le _, Nat.zero_le _⟩) hS (fun H locs hG hS hX => ?_)
  have hT_v0 := hX.T hT_v0
  have hT_v1 := hX.T hT_v1
  replace hE := hE.trans hX
  refine lv_aload_n X.1 X.2.1 dX3_becomeLike_120 rfl (lv_at hl 1 rfl) ?_
  obtain ⟨i11, hr, hF⟩ := b1_ex hF
  have hT_i11 : hT σ10 i11 13 := gw_T hG hT_v1 (by decide) hr
  refine gx_get 16 (v := .ref (ad i11)) X hG hT_v1.1 (hT_v1.eq (by decide)) (by decide) rfl inX3 (by decide) k_76 (fun _ h => h) (gx_rfv hr) dX3_becomeLike_121 ?_
  refine lv_aload_n X.1 X.2.1 dX3_becomeLike_124 rfl (lv_at hl 0 rfl) ?_
  obtain ⟨i12, hr, hF⟩ := b1_ex hF
  have hT_i12 : hT σ10 i12 13 := gw_T hG hT_v0 (by decide) hr
  refine gx_get 16 (v := .ref (ad i12)) X hG hT_v0.1 (hT_v0.eq (by decide)) (by decide) rfl inX3 (by decide) k_76 (fun _ h => h) (gx_rfv hr) dX3_becomeLike_125 ?_
  obtain ⟨σ13, hz, hF⟩ := b1_ex hF
  refine gx_rV (gx_runSN (As := [.ref (ad i11), .ref (ad i12)]) (rest := []) X hG hS (c_X11_copyAll l D cA base ad σ10 n i11 i12 hT_i11 hT_i12 hz) k_458 q_647 k_457 k_1 (h_X11_copyAll.2) rfl rfl ⟨by decide, by decide⟩ rfl hl.1 rfl (Nat.le_of_ble_eq_true rfl) dX3_becomeLike_128 ⟨Nat.zero_le _, Nat.zero_le _⟩) hS (fun H locs hG hS hX => ?_)
  have hT_v0 := hX.T hT_v0
  have hT_v1 := hX.T hT_v1
  replace hE := hE.trans hX
  refine lv_aload_n X.1 X.2.1 dX3_becomeLike_131 rfl (lv_at hl 1 rfl) ?_
  obtain ⟨i14, hr, hF⟩ := b1_ex hF
  have hT_i14 : hT σ13 i14 13 := gw_T hG hT_v1 (by decide) hr
  refine gx_get 17 (v := .ref (ad i14)) X hG hT_v1.1 (hT_v1.eq (by decide)) (by decide) rfl inX3 (by decide) k_78 (fun _ h => h) (gx_rfv hr) dX3_becomeLike_132 ?_
  refine lv_aload_n X.1 X.2.1 dX3_becomeLike_135 rfl (lv_at hl 0 rfl) ?_
  obtain ⟨i15, hr, hF⟩ := b1_ex hF
  have hT_i15 : hT σ13 i15 13 := gw_T hG hT_v0 (by decide) hr
  refine gx_get 17 (v := .ref (ad i15)) X hG hT_v0.1 (hT_v0.eq (by decide)) (by decide) rfl inX3 (by decide) k_78 (fun _ h => h) (gx_rfv hr) dX3_becomeLike_136 ?_
  obtain ⟨σ16, hz, hF⟩ := b1_ex hF
  refine gx_rV (gx_runSN (As := [.ref (ad i14), .ref (ad i15)]) (rest := []) X hG hS (c_X11_copyAll l D cA base ad σ13 n i14 i15 hT_i14 hT_i15 hz) k_458 q_647 k_457 k_1 (h_X11_copyAll.2) rfl rfl ⟨by decide, by decide⟩ rfl hl.1 rfl (Nat.le_of_ble_eq_true rfl) dX3_becomeLike_139 ⟨Nat.zero_le _, Nat.zero_le _⟩) hS (fun H locs hG hS hX => ?_)
  have hT_v0 := hX.T hT_v0
  have hT_v1 := hX.T hT_v1
  replace hE := hE.trans hX
  refine lv_aload_n X.1 X.2.1 dX3_becomeLike_142 rfl (lv_at hl 1 rfl) ?_
  obtain ⟨i17, hr, hF⟩ := b1_ex hF
  have hT_i17 : hT σ16 i17 13 := gw_T hG hT_v1 (by decide) hr
  refine gx_get 18 (v := .ref (ad i17)) X hG hT_v1.1 (hT_v1.eq (by decide)) (by decide) rfl inX3 (by decide) k_81 (fun _ h => h) (gx_rfv hr) dX3_becomeLike_143 ?_
  refine lv_aload_n X.1 X.2.1 dX3_becomeLike_146 rfl (lv_at hl 0 rfl) ?_
  obtain ⟨i18, hr, hF⟩ := b1_ex hF
  have hT_i18 : hT σ16 i18 13 := gw_T hG hT_v0 (by decide) hr
  refine gx_get 18 (v := .ref (ad i18)) X hG hT_v0.1 (hT_v0.eq (by decide)) (by decide) rfl inX3 (by decide) k_81 (fun _ h => h) (gx_rfv hr) dX3_becomeLike_147 ?_
  obtain ⟨σ19, hz, hF⟩ := b1_ex hF
  refine gx_rV (gx_runSN (As := [.ref (ad i17), .ref (ad i18)]) (rest := []) X hG hS (c_X11_copyAll l D cA base ad σ16 n i17 i18 hT_i17 hT_i18 hz) k_458 q_647 k_457 k_1 (h_X11_copyAll.2) rfl rfl ⟨by decide, by decide⟩ rfl hl.1 rfl (Nat.le_of_ble_eq_true rfl) dX3_becomeLike_150 ⟨Nat.zero_le _, Nat.zero_le _⟩) hS (fun H locs hG hS hX => ?_)
  have hT_v0 := hX.T hT_v0
  have hT_v1 := hX.T hT_v1
  replace hE := hE.trans hX
  exact gx_vret X hG hS hE hF dX3_becomeLike_153
theorem w_X3_becomeLike_27 {σ0 τ : Hp} (X : SX D cA base p s m args meth c cX3_becomeLike 3 none RX3) (n : Nat)  : ∀ f : Nat, ∀ (v0 : Nat) (v1 : Nat) (v2 : Int32) (σ : Hp) (H : Heap) (locs : List Loc) (ls : Array Slot), hT σ v0 3 → hT σ v1 3 → GW D cA base ad σ H → va_S (bA base) s.heap H locs → xT σ0 σ → lv_has ls 3 [(0, .ref (ad v0)), (1, .ref (ad v1)), (2, .int v2)] → F_X3_becomeLike_27 n  f v0 v1 v2 σ = some τ → W p l e rm_X3_becomeLike s m args below meth c H locs 0 0 (ZV below s args D cA base ad σ0 τ) (F0 m 27 ls []) := by
  intro f
  induction f with
  | zero => intro v0 v1 v2 σ H locs ls h0 h1 hG hS hE hl hF
            rw [F_X3_becomeLike_27] at hF; cases hF
  | succ f ih =>
    intro v0 v1 v2 σ H locs ls hT_v0 hT_v1 hG hS hE hl hF
    rw [F_X3_becomeLike_27] at hF
    refine lv_iload_n X.1 X.2.1 dX3_becomeLike_27 rfl (lv_at hl 2 rfl) ?_
    refine lv_aload_n X.1 X.2.1 dX3_becomeLike_28 rfl (lv_at hl 0 rfl) ?_
    obtain ⟨i20, hr, hF⟩ := b1_ex hF
    have hT_i20 : hT σ i20 14 := gw_T hG hT_v0 (by decide) hr
    refine gx_get 6 (v := .ref (ad i20)) X hG hT_v0.1 (hT_v0.eq (by decide)) (by decide) rfl inX3 (by decide) k_55 (fun _ h => h) (gx_rfv hr) dX3_becomeLike_29 ?_
    refine gx_alen (t0 := 1) X hG hT_i20 (by decide) (by decide) rfl dX3_becomeLike_32 ?_
    refine lv_icmp_ge (tgt := 53) X.1 X.2.1 dX3_becomeLike_33 (by decide) (fun hc => ?_) (fun hc => ?_)
    · replace hF := it_t hF hc
      exact w_X3_becomeLike_53 X n  v0 v1 σ _ _ ls hT_v0 hT_v1 hG hS hE (lv_sub hl [0, 1] rfl) hF
    · replace hF := it_f hF hc
      refine lv_aload_n X.1 X.2.1 dX3_becomeLike_36 rfl (lv_at hl 0 rfl) ?_
      obtain ⟨i21, hr, hF⟩ := b1_ex hF
      have hT_i21 : hT σ i21 14 := gw_T hG hT_v0 (by decide) hr
      refine gx_get 6 (v := .ref (ad i21)) X hG hT_v0.1 (hT_v0.eq (by decide)) (by decide) rfl inX3 (by decide) k_55 (fun _ h => h) (gx_rfv hr) dX3_becomeLike_37 ?_
      refine lv_iload_n X.1 X.2.1 dX3_becomeLike_40 rfl (lv_at hl 2 rfl) ?_
      refine lv_aload_n X.1 X.2.1 dX3_becomeLike_41 rfl (lv_at hl 1 rfl) ?_
      refine lv_iload_n X.1 X.2.1 dX3_becomeLike_42 rfl (lv_at hl 2 rfl) ?_
      obtain ⟨r23, σ22, hz, hF⟩ := b2_ex hF
      refine gx_rQ (gx_runV (As := [.int v2]) (rest := [.int v2, .ref (ad i21)]) X hG hS hT_v1.1 (hT_v1.eq (by decide)) (by decide) rfl (c_X3_lawAt l D cA base ad σ n v1 v2 hT_v1 hz) k_188 k_734 k_186 k_187 k_2 (h_X3_lawAt) rfl rfl ⟨by decide, by decide⟩ rfl hl.1 rfl (Nat.le_of_ble_eq_true rfl) dX3_becomeLike_43 ⟨Nat.zero_le _, Nat.zero_le _⟩) hS (fun H locs hG hS hX hO_r23 => ?_)
      have hT_v0 := hX.T hT_v0
      have hT_v1 := hX.T hT_v1
      have hT_i21 := hX.T hT_i21
      replace hE := hE.trans hX
      refine gx_qast (t0 := 1) (ci := 1) (r := (RX1, TX1, 6)) (v := r23) X hG hS hT_i21 (by decide) (by decide) rfl rfl (by decide) hO_r23 rfl hF dX3_becomeLike_46 (fun σ24 H locs hG hS hX hF => ?_)
      have hT_v0 := hX.T hT_v0
      have hT_v1 := hX.T hT_v1
      replace hE := hE.trans hX
      refine lv_iinc (v := v2 + 1) (lv' := [(2, .int (v2 + 1)), (0, .ref (ad v0)), (1, .ref (ad v1))]) X.1 X.2.1 dX3_becomeLike_47 hl (k := 2) rfl rfl (by decide) rfl (fun ls hl => ?_)
      refine lv_goto (tgt := 27) X.1 X.2.1 dX3_becomeLike_50 (by decide) ?_
      exact ih v0 v1 (v2 + 1) σ24 _ _ ls hT_v0 hT_v1 hG hS hE (lv_sub hl [1, 2, 0] rfl) hF
theorem c_X3_becomeLike (l : Launch) (D : va_G) (cA : Nat → ClassId) (base : Nat) (ad : Nat → Nat) (σ : Hp) (n : Nat) (a0 : Nat) (a1 : Nat) (hT_a0 : hT σ a0 3) (hT_a1 : hT σ a1 3) {τ : Hp} (hF : F_X3_becomeLike n a0 a1 σ = some τ) : MV l yX3_becomeLike cX3_becomeLike 3 rm_X3_becomeLike D cA base ad σ [.ref (ad a0), .ref (ad a1)] τ := by
  refine Met.ofW (cc := cX3_becomeLike) (maxL := 3) (ret := none) (by decide) rfl ?_
  intro p e s m args below meth c s₁ B hml hv
  obtain ⟨rfl, hv⟩ := hv
  have X : SX D cA base p s m ([.ref (ad a0), .ref (ad a1)] : List Value).toArray meth c cX3_becomeLike 3 none RX3 := sx_of B hml hv
  have hG := hv.1
  have hS : va_S (bA base) s.heap s.heap [] := va_S.rf
  have hE := xT.rf σ
  have hl := lv_entry ([.ref (ad a0), .ref (ad a1)]) (n := 3) (Nat.le_of_ble_eq_true rfl)
  rw [lg_entry_eq]
  generalize (lg_sl ([.ref (ad a0), .ref (ad a1)]) ++ List.replicate (3 - (lg_sl ([.ref (ad a0), .ref (ad a1)])).length) Slot.unset).toArray = ls at hl ⊢
  have hl : lv_has ls 3 [(0, .ref (ad a0)), (1, .ref (ad a1))] := hl
  unfold F_X3_becomeLike at hF
  refine lv_aload_n X.1 X.2.1 dX3_becomeLike_0 rfl (lv_at hl 0 rfl) ?_
  refine lv_aload_n X.1 X.2.1 dX3_becomeLike_1 rfl (lv_at hl 1 rfl) ?_
  refine lv_iconst (v := 0) X.1 X.2.1 dX3_becomeLike_2 (by decide) ?_
  obtain ⟨σ25, hz, hF⟩ := b1_ex hF
  refine gx_rV (gx_runV (As := [.ref (ad a1), .int 0]) (rest := []) X hG hS hT_a0.1 (hT_a0.eq (by decide)) (by decide) rfl (c_X3_seatFrom l D cA base ad σ n a0 a1 0 hT_a0 hT_a1 hz) k_646 k_733 k_644 k_645 k_2 (h_X3_seatFrom) rfl rfl ⟨by decide, by decide⟩ rfl hl.1 rfl (Nat.le_of_ble_eq_true rfl) dX3_becomeLike_3 ⟨Nat.zero_le _, Nat.zero_le _⟩) hS (fun H locs hG hS hX => ?_)
  have hT_a0 := hX.T hT_a0
  have hT_a1 := hX.T hT_a1
  replace hE := hE.trans hX
  refine lv_aload_n X.1 X.2.1 dX3_becomeLike_6 rfl (lv_at hl 1 rfl) ?_
  obtain ⟨i26, hr, hF⟩ := b1_ex hF
  have hT_i26 : hT σ25 i26 13 := gw_T hG hT_a1 (by decide) hr
  refine gx_get 7 (v := .ref (ad i26)) X hG hT_a1.1 (hT_a1.eq (by decide)) (by decide) rfl inX3 (by decide) k_56 (fun _ h => h) (gx_rfv hr) dX3_becomeLike_7 ?_
  refine lv_aload_n X.1 X.2.1 dX3_becomeLike_10 rfl (lv_at hl 0 rfl) ?_
  obtain ⟨i27, hr, hF⟩ := b1_ex hF
  have hT_i27 : hT σ25 i27 13 := gw_T hG hT_a0 (by decide) hr
  refine gx_get 7 (v := .ref (ad i27)) X hG hT_a0.1 (hT_a0.eq (by decide)) (by decide) rfl inX3 (by decide) k_56 (fun _ h => h) (gx_rfv hr) dX3_becomeLike_11 ?_
  obtain ⟨σ28, hz, hF⟩ := b1_ex hF
  refine gx_rV (gx_runSN (As := [.ref (ad i26), .ref (ad i27)]) (rest := []) X hG hS (c_X11_copyAll l D cA base ad σ25 n i26 i27 hT_i26 hT_i27 hz) k_458 q_647 k_457 k_1 (h_X11_copyAll.2) rfl rfl ⟨by decide, by decide⟩ rfl hl.1 rfl (Nat.le_of_ble_eq_true rfl) dX3_becomeLike_14 ⟨Nat.zero_le _, Nat.zero_le _⟩) hS (fun H locs hG hS hX => ?_)
  have hT_a0 := hX.T hT_a0
  have hT_a1 := hX.T hT_a1
  replace hE := hE.trans hX
  refine lv_aload_n X.1 X.2.1 dX3_becomeLike_17 rfl (lv_at hl 0 rfl) ?_
  refine lv_aload_n X.1 X.2.1 dX3_becomeLike_18 rfl (lv_at hl 1 rfl) ?_
  refine gx_get 5 (v := .int (hI σ28 a1 5)) X hG hT_a1.1 (hT_a1.eq (by decide)) (by decide) rfl inX3 (by decide) k_54 (fun _ h => h) rfl dX3_becomeLike_19 ?_
  refine gx_putI 5  X hG hS hT_a0.1 (hT_a0.eq (by decide)) (by decide) rfl inX3 tyX3_ok nmX3 (by decide) k_54 (fun _ h => h) rfl rfl rfl rfl (Nat.le_of_ble_eq_true rfl) dX3_becomeLike_22 hF (fun σ29 H locs hG hS hX hF => ?_)
  have hT_a0 := hX.T hT_a0
  have hT_a1 := hX.T hT_a1
  replace hE := hE.trans hX
  refine lv_iconst (v := 0) X.1 X.2.1 dX3_becomeLike_25 (by decide) ?_
  refine lv_istore_n (lv' := [(2, .int 0), (0, .ref (ad a0)), (1, .ref (ad a1))]) X.1 X.2.1 dX3_becomeLike_26 rfl hl (by decide) rfl (fun ls hl => ?_)
  exact w_X3_becomeLike_27 X n  n a0 a1 0 σ29 _ _ ls hT_a0 hT_a1 hG hS hE (lv_sub hl [1, 2, 0] rfl) hF
theorem c_X11_image (l : Launch) (D : va_G) (cA : Nat → ClassId) (base : Nat) (ad : Nat → Nat) (σ : Hp) (n : Nat) (a0 : Nat) (hT_a0 : hT σ a0 11) {τ : Hp} {r : Int32} (hF : F_X11_image n a0 σ = some (r, τ)) : MI l yX11_image cX11_image 1 (some .int) rm_X11_image D cA base ad σ [.ref (ad a0)] r τ := by
  refine Met.ofW (cc := cX11_image) (maxL := 1) (ret := (some .int)) (by decide) rfl ?_
  intro p e s m args below meth c s₁ B hml hv
  obtain ⟨rfl, hv⟩ := hv
  have X : SX D cA base p s m ([.ref (ad a0)] : List Value).toArray meth c cX11_image 1 (some .int) RX11 := sx_of B hml hv
  have hG := hv.1
  have hS : va_S (bA base) s.heap s.heap [] := va_S.rf
  have hE := xT.rf σ
  have hl := lv_entry ([.ref (ad a0)]) (n := 1) (Nat.le_of_ble_eq_true rfl)
  rw [lg_entry_eq]
  generalize (lg_sl ([.ref (ad a0)]) ++ List.replicate (1 - (lg_sl ([.ref (ad a0)])).length) Slot.unset).toArray = ls at hl ⊢
  have hl : lv_has ls 1 [(0, .ref (ad a0))] := hl
  unfold F_X11_image at hF
  refine lv_aload_n X.1 X.2.1 dX11_image_0 rfl (lv_at hl 0 rfl) ?_
  obtain ⟨i1, hr, hF⟩ := b1_ex hF
  have hT_i1 : hT σ i1 3 := gw_T hG hT_a0 (by decide) hr
  refine gx_get 2 (v := .ref (ad i1)) X hG hT_a0.1 (hT_a0.eq (by decide)) (by decide) rfl inX11 (by decide) k_153 (fun _ h => h) (gx_rfv hr) dX11_image_1 ?_
  refine lv_aload_n X.1 X.2.1 dX11_image_4 rfl (lv_at hl 0 rfl) ?_
  obtain ⟨i2, hr, hF⟩ := b1_ex hF
  have hT_i2 : hT σ i2 3 := gw_T hG hT_a0 (by decide) hr
  refine gx_get 0 (v := .ref (ad i2)) X hG hT_a0.1 (hT_a0.eq (by decide)) (by decide) rfl inX11 (by decide) k_151 (fun _ h => h) (gx_rfv hr) dX11_image_5 ?_
  obtain ⟨σ3, hz, hF⟩ := b1_ex hF
  refine gx_rV (gx_runV (As := [.ref (ad i2)]) (rest := []) X hG hS hT_i1.1 (hT_i1.eq (by decide)) (by decide) rfl (c_X3_becomeLike l D cA base ad σ n i1 i2 hT_i1 hT_i2 hz) k_732 k_729 k_730 k_731 k_2 (h_X3_becomeLike) rfl rfl ⟨by decide, by decide⟩ rfl hl.1 rfl (Nat.le_of_ble_eq_true rfl) dX11_image_8 ⟨Nat.zero_le _, Nat.zero_le _⟩) hS (fun H locs hG hS hX => ?_)
  have hT_a0 := hX.T hT_a0
  replace hE := hE.trans hX
  refine lv_aload_n X.1 X.2.1 dX11_image_11 rfl (lv_at hl 0 rfl) ?_
  refine lv_iconst (v := 1) X.1 X.2.1 dX11_image_12 (by decide) ?_
  refine gx_putI 3  X hG hS hT_a0.1 (hT_a0.eq (by decide)) (by decide) rfl inX11 tyX11_ok nmX11 (by decide) k_154 (fun _ h => h) rfl rfl rfl rfl (Nat.le_of_ble_eq_true rfl) dX11_image_13 hF (fun σ4 H locs hG hS hX hF => ?_)
  have hT_a0 := hX.T hT_a0
  replace hE := hE.trans hX
  refine lv_aload_n X.1 X.2.1 dX11_image_16 rfl (lv_at hl 0 rfl) ?_
  obtain ⟨i5, hr, hF⟩ := b1_ex hF
  have hT_i5 : hT σ4 i5 3 := gw_T hG hT_a0 (by decide) hr
  refine gx_get 0 (v := .ref (ad i5)) X hG hT_a0.1 (hT_a0.eq (by decide)) (by decide) rfl inX11 (by decide) k_151 (fun _ h => h) (gx_rfv hr) dX11_image_17 ?_
  refine gx_getN 2 (v := .int (hI σ4 i5 2)) X hG hT_i5.1 (hT_i5.eq (by decide)) (by decide) rfl inX3 (by decide) q_49 (fun _ h => h) rfl dX11_image_20 ?_
  exact gx_iret X hG hS hE hF dX11_image_23
theorem c_X11_restore (l : Launch) (D : va_G) (cA : Nat → ClassId) (base : Nat) (ad : Nat → Nat) (σ : Hp) (n : Nat) (a0 : Nat) (hT_a0 : hT σ a0 11) {τ : Hp} {r : Int32} (hF : F_X11_restore n a0 σ = some (r, τ)) : MI l yX11_restore cX11_restore 1 (some .int) rm_X11_restore D cA base ad σ [.ref (ad a0)] r τ := by
  refine Met.ofW (cc := cX11_restore) (maxL := 1) (ret := (some .int)) (by decide) rfl ?_
  intro p e s m args below meth c s₁ B hml hv
  obtain ⟨rfl, hv⟩ := hv
  have X : SX D cA base p s m ([.ref (ad a0)] : List Value).toArray meth c cX11_restore 1 (some .int) RX11 := sx_of B hml hv
  have hG := hv.1
  have hS : va_S (bA base) s.heap s.heap [] := va_S.rf
  have hE := xT.rf σ
  have hl := lv_entry ([.ref (ad a0)]) (n := 1) (Nat.le_of_ble_eq_true rfl)
  rw [lg_entry_eq]
  generalize (lg_sl ([.ref (ad a0)]) ++ List.replicate (1 - (lg_sl ([.ref (ad a0)])).length) Slot.unset).toArray = ls at hl ⊢
  have hl : lv_has ls 1 [(0, .ref (ad a0))] := hl
  unfold F_X11_restore at hF
  refine lv_aload_n X.1 X.2.1 dX11_restore_0 rfl (lv_at hl 0 rfl) ?_
  refine gx_get 3 (v := .int (hI σ a0 3)) X hG hT_a0.1 (hT_a0.eq (by decide)) (by decide) rfl inX11 (by decide) k_154 (fun _ h => h) rfl dX11_restore_1 ?_
  refine lv_if_ne (tgt := 10) X.1 X.2.1 dX11_restore_4 (by decide) (fun hc => ?_) (fun hc => ?_)
  · replace hF := it_f hF hc
    refine lv_aload_n X.1 X.2.1 dX11_restore_10 rfl (lv_at hl 0 rfl) ?_
    obtain ⟨i1, hr, hF⟩ := b1_ex hF
    have hT_i1 : hT σ i1 3 := gw_T hG hT_a0 (by decide) hr
    refine gx_get 0 (v := .ref (ad i1)) X hG hT_a0.1 (hT_a0.eq (by decide)) (by decide) rfl inX11 (by decide) k_151 (fun _ h => h) (gx_rfv hr) dX11_restore_11 ?_
    refine lv_aload_n X.1 X.2.1 dX11_restore_14 rfl (lv_at hl 0 rfl) ?_
    obtain ⟨i2, hr, hF⟩ := b1_ex hF
    have hT_i2 : hT σ i2 3 := gw_T hG hT_a0 (by decide) hr
    refine gx_get 2 (v := .ref (ad i2)) X hG hT_a0.1 (hT_a0.eq (by decide)) (by decide) rfl inX11 (by decide) k_153 (fun _ h => h) (gx_rfv hr) dX11_restore_15 ?_
    obtain ⟨σ3, hz, hF⟩ := b1_ex hF
    refine gx_rV (gx_runV (As := [.ref (ad i2)]) (rest := []) X hG hS hT_i1.1 (hT_i1.eq (by decide)) (by decide) rfl (c_X3_becomeLike l D cA base ad σ n i1 i2 hT_i1 hT_i2 hz) k_732 k_729 k_730 k_731 k_2 (h_X3_becomeLike) rfl rfl ⟨by decide, by decide⟩ rfl hl.1 rfl (Nat.le_of_ble_eq_true rfl) dX11_restore_18 ⟨Nat.zero_le _, Nat.zero_le _⟩) hS (fun H locs hG hS hX => ?_)
    have hT_a0 := hX.T hT_a0
    replace hE := hE.trans hX
    refine lv_aload_n X.1 X.2.1 dX11_restore_21 rfl (lv_at hl 0 rfl) ?_
    obtain ⟨i4, hr, hF⟩ := b1_ex hF
    have hT_i4 : hT σ3 i4 3 := gw_T hG hT_a0 (by decide) hr
    refine gx_get 0 (v := .ref (ad i4)) X hG hT_a0.1 (hT_a0.eq (by decide)) (by decide) rfl inX11 (by decide) k_151 (fun _ h => h) (gx_rfv hr) dX11_restore_22 ?_
    refine gx_getN 2 (v := .int (hI σ3 i4 2)) X hG hT_i4.1 (hT_i4.eq (by decide)) (by decide) rfl inX3 (by decide) q_49 (fun _ h => h) rfl dX11_restore_25 ?_
    exact gx_iret X hG hS hE hF dX11_restore_28
  · replace hF := it_t hF hc
    refine lv_bipush (v := (-3)) X.1 X.2.1 dX11_restore_7 (by decide) ?_
    exact gx_iret X hG hS hE hF dX11_restore_9
theorem c_X11_count (l : Launch) (D : va_G) (cA : Nat → ClassId) (base : Nat) (ad : Nat → Nat) (σ : Hp) (n : Nat) (a0 : Nat) (a1 : Int32) (hT_a0 : hT σ a0 11) {τ : Hp} {r : Int32} (hF : F_X11_count n a0 a1 σ = some (r, τ)) : MI l yX11_count cX11_count 2 (some .int) rm_X11_count D cA base ad σ [.ref (ad a0), .int a1] r τ := by
  refine Met.ofW (cc := cX11_count) (maxL := 2) (ret := (some .int)) (by decide) rfl ?_
  intro p e s m args below meth c s₁ B hml hv
  obtain ⟨rfl, hv⟩ := hv
  have X : SX D cA base p s m ([.ref (ad a0), .int a1] : List Value).toArray meth c cX11_count 2 (some .int) RX11 := sx_of B hml hv
  have hG := hv.1
  have hS : va_S (bA base) s.heap s.heap [] := va_S.rf
  have hE := xT.rf σ
  have hl := lv_entry ([.ref (ad a0), .int a1]) (n := 2) (Nat.le_of_ble_eq_true rfl)
  rw [lg_entry_eq]
  generalize (lg_sl ([.ref (ad a0), .int a1]) ++ List.replicate (2 - (lg_sl ([.ref (ad a0), .int a1])).length) Slot.unset).toArray = ls at hl ⊢
  have hl : lv_has ls 2 [(0, .ref (ad a0)), (1, .int a1)] := hl
  unfold F_X11_count at hF
  refine lv_iload_n X.1 X.2.1 dX11_count_0 rfl (lv_at hl 1 rfl) ?_
  by_cases hc0 : a1 = 0
  · replace hF := it_t hF hc0
    refine lv_tableIn (tgt := 36) X.1 X.2.1 dX11_count_1 (by rw [hc0]; decide) (by rw [hc0]; decide) (by rw [hc0]; rfl) (by decide) ?_
    refine lv_aload_n X.1 X.2.1 dX11_count_36 rfl (lv_at hl 0 rfl) ?_
    obtain ⟨i1, hr, hF⟩ := b1_ex hF
    have hT_i1 : hT σ i1 3 := gw_T hG hT_a0 (by decide) hr
    refine gx_get 0 (v := .ref (ad i1)) X hG hT_a0.1 (hT_a0.eq (by decide)) (by decide) rfl inX11 (by decide) k_151 (fun _ h => h) (gx_rfv hr) dX11_count_37 ?_
    refine gx_getN 0 (v := .int (hI σ i1 0)) X hG hT_i1.1 (hT_i1.eq (by decide)) (by decide) rfl inX3 (by decide) q_40 (fun _ h => h) rfl dX11_count_40 ?_
    exact gx_iret X hG hS hE hF dX11_count_43
  replace hF := it_f hF hc0
  by_cases hc1 : a1 = 1
  · replace hF := it_t hF hc1
    refine lv_tableIn (tgt := 44) X.1 X.2.1 dX11_count_1 (by rw [hc1]; decide) (by rw [hc1]; decide) (by rw [hc1]; rfl) (by decide) ?_
    refine lv_aload_n X.1 X.2.1 dX11_count_44 rfl (lv_at hl 0 rfl) ?_
    obtain ⟨i2, hr, hF⟩ := b1_ex hF
    have hT_i2 : hT σ i2 3 := gw_T hG hT_a0 (by decide) hr
    refine gx_get 0 (v := .ref (ad i2)) X hG hT_a0.1 (hT_a0.eq (by decide)) (by decide) rfl inX11 (by decide) k_151 (fun _ h => h) (gx_rfv hr) dX11_count_45 ?_
    refine gx_getN 2 (v := .int (hI σ i2 2)) X hG hT_i2.1 (hT_i2.eq (by decide)) (by decide) rfl inX3 (by decide) q_49 (fun _ h => h) rfl dX11_count_48 ?_
    exact gx_iret X hG hS hE hF dX11_count_51
  replace hF := it_f hF hc1
  by_cases hc2 : a1 = 2
  · replace hF := it_t hF hc2
    refine lv_tableIn (tgt := 52) X.1 X.2.1 dX11_count_1 (by rw [hc2]; decide) (by rw [hc2]; decide) (by rw [hc2]; rfl) (by decide) ?_
    refine lv_aload_n X.1 X.2.1 dX11_count_52 rfl (lv_at hl 0 rfl) ?_
    obtain ⟨i3, hr, hF⟩ := b1_ex hF
    have hT_i3 : hT σ i3 3 := gw_T hG hT_a0 (by decide) hr
    refine gx_get 0 (v := .ref (ad i3)) X hG hT_a0.1 (hT_a0.eq (by decide)) (by decide) rfl inX11 (by decide) k_151 (fun _ h => h) (gx_rfv hr) dX11_count_53 ?_
    refine gx_getN 5 (v := .int (hI σ i3 5)) X hG hT_i3.1 (hT_i3.eq (by decide)) (by decide) rfl inX3 (by decide) q_53 (fun _ h => h) rfl dX11_count_56 ?_
    exact gx_iret X hG hS hE hF dX11_count_59
  replace hF := it_f hF hc2
  by_cases hc3 : a1 = 3
  · replace hF := it_t hF hc3
    refine lv_tableIn (tgt := 60) X.1 X.2.1 dX11_count_1 (by rw [hc3]; decide) (by rw [hc3]; decide) (by rw [hc3]; rfl) (by decide) ?_
    refine lv_aload_n X.1 X.2.1 dX11_count_60 rfl (lv_at hl 0 rfl) ?_
    obtain ⟨i4, hr, hF⟩ := b1_ex hF
    have hT_i4 : hT σ i4 3 := gw_T hG hT_a0 (by decide) hr
    refine gx_get 0 (v := .ref (ad i4)) X hG hT_a0.1 (hT_a0.eq (by decide)) (by decide) rfl inX11 (by decide) k_151 (fun _ h => h) (gx_rfv hr) dX11_count_61 ?_
    refine lv_iconst (v := (-1)) X.1 X.2.1 dX11_count_64 (by decide) ?_
    obtain ⟨r6, σ5, hz, hF⟩ := b2_ex hF
    refine gx_rI (gx_runV (As := [.int (-1)]) (rest := []) X hG hS hT_i4.1 (hT_i4.eq (by decide)) (by decide) rfl (c_X3_weigh l D cA base ad σ n i4 (-1) hT_i4 hz) k_366 k_743 k_364 k_365 k_2 (h_X3_weigh) rfl rfl ⟨by decide, by decide⟩ rfl hl.1 rfl (Nat.le_of_ble_eq_true rfl) dX11_count_65 ⟨Nat.zero_le _, Nat.zero_le _⟩) hS (fun H locs hG hS hX => ?_)
    have hT_a0 := hX.T hT_a0
    replace hE := hE.trans hX
    exact gx_iret X hG hS hE hF dX11_count_68
  replace hF := it_f hF hc3
  by_cases hc4 : a1 = 4
  · replace hF := it_t hF hc4
    refine lv_tableIn (tgt := 69) X.1 X.2.1 dX11_count_1 (by rw [hc4]; decide) (by rw [hc4]; decide) (by rw [hc4]; rfl) (by decide) ?_
    refine lv_aload_n X.1 X.2.1 dX11_count_69 rfl (lv_at hl 0 rfl) ?_
    obtain ⟨i7, hr, hF⟩ := b1_ex hF
    have hT_i7 : hT σ i7 3 := gw_T hG hT_a0 (by decide) hr
    refine gx_get 0 (v := .ref (ad i7)) X hG hT_a0.1 (hT_a0.eq (by decide)) (by decide) rfl inX11 (by decide) k_151 (fun _ h => h) (gx_rfv hr) dX11_count_70 ?_
    obtain ⟨r9, σ8, hz, hF⟩ := b2_ex hF
    refine gx_rI (gx_runV (As := []) (rest := []) X hG hS hT_i7.1 (hT_i7.eq (by decide)) (by decide) rfl (c_X3_toldToAll l D cA base ad σ n i7 hT_i7 hz) k_359 k_744 k_357 k_358 k_2 (h_X3_toldToAll) rfl rfl ⟨by decide, by decide⟩ rfl hl.1 rfl (Nat.le_of_ble_eq_true rfl) dX11_count_73 ⟨Nat.zero_le _, Nat.zero_le _⟩) hS (fun H locs hG hS hX => ?_)
    have hT_a0 := hX.T hT_a0
    replace hE := hE.trans hX
    exact gx_iret X hG hS hE hF dX11_count_76
  replace hF := it_f hF hc4
  have hz0 := ne_lit hc0 (z := 0) (by decide)
  have hz1 := ne_lit hc1 (z := 1) (by decide)
  have hz2 := ne_lit hc2 (z := 2) (by decide)
  have hz3 := ne_lit hc3 (z := 3) (by decide)
  have hz4 := ne_lit hc4 (z := 4) (by decide)
  refine lv_tableOut (tgt := 77) X.1 X.2.1 dX11_count_1 (by omega) (by decide) ?_
  refine lv_ldc (v := (-1000000001)) X.1 X.2.1 X.2.2.2.2.2.1 (X.w k_385) dX11_count_77 ?_
  exact gx_iret X hG hS hE hF dX11_count_79
theorem c_X5_hold (l : Launch) (D : va_G) (cA : Nat → ClassId) (base : Nat) (ad : Nat → Nat) (σ : Hp) (n : Nat) (a0 : Nat) (a1 : Option Nat) (a2 : Int32) (hT_a0 : hT σ a0 5) (hO_a1 : oT σ a1 100) {τ : Hp} (hF : F_X5_hold n a0 a1 a2 σ = some τ) : MV l yX5_hold cX5_hold 3 rm_X5_hold D cA base ad σ [.ref (ad a0), va_rf (Option.map ad a1), .int a2] τ := by
  refine Met.ofW (cc := cX5_hold) (maxL := 3) (ret := none) (by decide) rfl ?_
  intro p e s m args below meth c s₁ B hml hv
  obtain ⟨rfl, hv⟩ := hv
  have X : SX D cA base p s m ([.ref (ad a0), va_rf (Option.map ad a1), .int a2] : List Value).toArray meth c cX5_hold 3 none RX5 := sx_of B hml hv
  have hG := hv.1
  have hS : va_S (bA base) s.heap s.heap [] := va_S.rf
  have hE := xT.rf σ
  have hl : lv_has ((lg_sl ([.ref (ad a0), va_rf (Option.map ad a1), .int a2]) ++ List.replicate (3 - (lg_sl ([.ref (ad a0), va_rf (Option.map ad a1), .int a2])).length) Slot.unset).toArray) 3 (lv_args 0 ([.ref (ad a0), va_rf (Option.map ad a1), .int a2])) := by cases a1 <;> exact lv_entry _ (Nat.le_of_ble_eq_true rfl)
  rw [lg_entry_eq]
  generalize (lg_sl ([.ref (ad a0), va_rf (Option.map ad a1), .int a2]) ++ List.replicate (3 - (lg_sl ([.ref (ad a0), va_rf (Option.map ad a1), .int a2])).length) Slot.unset).toArray = ls at hl ⊢
  have hl : lv_has ls 3 [(0, .ref (ad a0)), (1, va_rf (Option.map ad a1)), (2, .int a2)] := by cases a1 <;> exact hl
  unfold F_X5_hold at hF
  refine lv_aload_n X.1 X.2.1 dX5_hold_0 rfl (lv_at hl 0 rfl) ?_
  refine gx_aload_n X.1 X.2.1 dX5_hold_1 rfl (lv_at hl 1 rfl) ?_
  refine gx_putR 0 (x := a1) X hG hS hT_a0.1 (hT_a0.eq (by decide)) (by decide) rfl inX5 tyX5_ok nmX5 (by decide) k_130 (fun _ h => h) rfl (gx_nar _) (gx_fit _) rfl hO_a1 (Nat.le_of_ble_eq_true rfl) dX5_hold_2 hF (fun σ1 H locs hG hS hX hF => ?_)
  have hT_a0 := hX.T hT_a0
  have hO_a1 := hX.O hO_a1
  replace hE := hE.trans hX
  refine lv_aload_n X.1 X.2.1 dX5_hold_5 rfl (lv_at hl 0 rfl) ?_
  refine lv_iload_n X.1 X.2.1 dX5_hold_6 rfl (lv_at hl 2 rfl) ?_
  refine gx_putI 1  X hG hS hT_a0.1 (hT_a0.eq (by decide)) (by decide) rfl inX5 tyX5_ok nmX5 (by decide) k_132 (fun _ h => h) rfl rfl rfl rfl (Nat.le_of_ble_eq_true rfl) dX5_hold_7 hF (fun σ2 H locs hG hS hX hF => ?_)
  have hT_a0 := hX.T hT_a0
  have hO_a1 := hX.O hO_a1
  replace hE := hE.trans hX
  refine lv_aload_n X.1 X.2.1 dX5_hold_10 rfl (lv_at hl 0 rfl) ?_
  refine lv_iconst (v := (-1)) X.1 X.2.1 dX5_hold_11 (by decide) ?_
  refine gx_putI 2  X hG hS hT_a0.1 (hT_a0.eq (by decide)) (by decide) rfl inX5 tyX5_ok nmX5 (by decide) k_134 (fun _ h => h) rfl rfl rfl rfl (Nat.le_of_ble_eq_true rfl) dX5_hold_12 hF (fun σ3 H locs hG hS hX hF => ?_)
  have hT_a0 := hX.T hT_a0
  have hO_a1 := hX.O hO_a1
  replace hE := hE.trans hX
  exact gx_vret X hG hS hE hF dX5_hold_15
theorem w_X11_keep_52 {σ0 τ : Hp} {r : Int32} (X : SX D cA base p s m args meth c cX11_keep 6 (some .int) RX11) (n : Nat)  : ∀ (v0 : Nat) (v3 : Int32) (v4 : Nat) (v5 : Option Nat) (σ : Hp) (H : Heap) (locs : List Loc) (ls : Array Slot), hT σ v0 11 → hT σ v4 5 → oT σ v5 100 → GW D cA base ad σ H → va_S (bA base) s.heap H locs → xT σ0 σ → lv_has ls 6 [(0, .ref (ad v0)), (3, .int v3), (4, .ref (ad v4)), (5, va_rf (Option.map ad v5))] → F_X11_keep_52 n  v0 v3 v4 v5 σ = some (r, τ) → W p l e rm_X11_keep s m args below meth c H locs 0 0 (ZI below s args D cA base ad σ0 r τ) (F0 m 52 ls []) := by
  intro v0 v3 v4 v5 σ H locs ls hT_v0 hT_v4 hO_v5 hG hS hE hl hF
  unfold F_X11_keep_52 at hF
  refine lv_aload X.1 X.2.1 dX11_keep_52 (lv_at hl 2 rfl) ?_
  refine gx_aload X.1 X.2.1 dX11_keep_54 (lv_at hl 3 rfl) ?_
  refine lv_aload_n X.1 X.2.1 dX11_keep_56 rfl (lv_at hl 0 rfl) ?_
  obtain ⟨i1, hr, hF⟩ := b1_ex hF
  have hT_i1 : hT σ i1 3 := gw_T hG hT_v0 (by decide) hr
  refine gx_get 0 (v := .ref (ad i1)) X hG hT_v0.1 (hT_v0.eq (by decide)) (by decide) rfl inX11 (by decide) k_151 (fun _ h => h) (gx_rfv hr) dX11_keep_57 ?_
  obtain ⟨i2, hr, hF⟩ := b1_ex hF
  have hT_i2 : hT σ i2 13 := gw_T hG hT_i1 (by decide) hr
  refine gx_getN 4 (v := .ref (ad i2)) X hG hT_i1.1 (hT_i1.eq (by decide)) (by decide) rfl inX3 (by decide) q_52 (fun _ h => h) (gx_rfv hr) dX11_keep_60 ?_
  refine lv_iload_n X.1 X.2.1 dX11_keep_63 rfl (lv_at hl 1 rfl) ?_
  obtain ⟨r4, σ3, hz, hF⟩ := b2_ex hF
  refine gx_rI (gx_runS (As := [.ref (ad i2), .int v3]) (rest := [va_rf (Option.map ad v5), .ref (ad v4)]) X hG hS (c_X11_at l D cA base ad σ n i2 v3 hT_i2 hz) k_362 k_375 k_361 k_1 (h_X11_at.2) rfl rfl ⟨by decide, by decide⟩ rfl hl.1 rfl (by cases v5 <;> exact Nat.le_of_ble_eq_true rfl) dX11_keep_64 ⟨Nat.zero_le _, Nat.zero_le _⟩) hS (fun H locs hG hS hX => ?_)
  have hT_v0 := hX.T hT_v0
  have hT_v4 := hX.T hT_v4
  have hO_v5 := hX.O hO_v5
  replace hE := hE.trans hX
  obtain ⟨σ5, hz, hF⟩ := b1_ex hF
  refine gx_rV (gx_runV (As := [va_rf (Option.map ad v5), .int r4]) (rest := []) X hG hS hT_v4.1 (hT_v4.eq (by decide)) (by decide) rfl (c_X5_hold l D cA base ad σ3 n v4 v5 r4 hT_v4 hO_v5 hz) k_752 k_749 k_750 k_751 k_3 (h_X5_hold) rfl rfl ⟨by decide, by decide⟩ rfl hl.1 rfl (Nat.le_of_ble_eq_true rfl) dX11_keep_67 ⟨Nat.zero_le _, Nat.zero_le _⟩) hS (fun H locs hG hS hX => ?_)
  have hT_v0 := hX.T hT_v0
  have hT_v4 := hX.T hT_v4
  have hO_v5 := hX.O hO_v5
  replace hE := hE.trans hX
  refine lv_iconst (v := 0) X.1 X.2.1 dX11_keep_70 (by decide) ?_
  exact gx_iret X hG hS hE hF dX11_keep_71
theorem w_X11_keep_24 {σ0 τ : Hp} {r : Int32} (X : SX D cA base p s m args meth c cX11_keep 6 (some .int) RX11) (n : Nat)  : ∀ (v0 : Nat) (v2 : Int32) (v3 : Int32) (v4 : Option Nat) (s0 : Option Nat) (σ : Hp) (H : Heap) (locs : List Loc) (ls : Array Slot), hT σ v0 11 → oT σ v4 5 → oT σ s0 100 → GW D cA base ad σ H → va_S (bA base) s.heap H locs → xT σ0 σ → lv_has ls 6 [(0, .ref (ad v0)), (2, .int v2), (3, .int v3), (4, va_rf (Option.map ad v4))] → F_X11_keep_24 n  v0 v2 v3 v4 s0 σ = some (r, τ) → W p l e rm_X11_keep s m args below meth c H locs 0 0 (ZI below s args D cA base ad σ0 r τ) (F0 m 24 ls [va_rf (Option.map ad s0)]) := by
  intro v0 v2 v3 v4 s0 σ H locs ls hT_v0 hO_v4 hO_s0 hG hS hE hl hF
  unfold F_X11_keep_24 at hF
  refine gx_astore (lv' := [(5, va_rf (Option.map ad s0)), (0, .ref (ad v0)), (2, .int v2), (3, .int v3), (4, va_rf (Option.map ad v4))]) X.1 X.2.1 dX11_keep_24 hl (by decide) (by cases s0 <;> cases v4 <;> rfl) (fun ls hl => ?_)
  refine gx_aload X.1 X.2.1 dX11_keep_26 (lv_at hl 4 rfl) ?_
  refine gx_ifnull (tgt := 50) X.1 X.2.1 dX11_keep_28 (by decide) hF (fun hr hF2i6 => ?_) (fun i6 hr hF2i6 => ?_)
  · subst hr
    have hF := hF2i6
    have hl : lv_has ls 6 [(5, va_rf (Option.map ad s0)), (0, .ref (ad v0)), (2, .int v2), (3, .int v3), (4, .null)] := hl
    refine lv_iconst (v := (-1)) X.1 X.2.1 dX11_keep_50 (by decide) ?_
    exact gx_iret X hG hS hE hF dX11_keep_51
  · subst hr
    have hF := hF2i6
    have hT_i6 := hO_v4 i6 rfl
    have hl : lv_has ls 6 [(5, va_rf (Option.map ad s0)), (0, .ref (ad v0)), (2, .int v2), (3, .int v3), (4, .ref (ad i6))] := hl
    refine lv_iload_n X.1 X.2.1 dX11_keep_31 rfl (lv_at hl 2 rfl) ?_
    refine lv_if_lt (tgt := 50) X.1 X.2.1 dX11_keep_32 (by decide) (fun hc => ?_) (fun hc => ?_)
    · replace hF := it_t hF hc
      refine lv_iconst (v := (-1)) X.1 X.2.1 dX11_keep_50 (by decide) ?_
      exact gx_iret X hG hS hE hF dX11_keep_51
    · replace hF := it_f hF hc
      refine lv_iload_n X.1 X.2.1 dX11_keep_35 rfl (lv_at hl 2 rfl) ?_
      refine lv_iconst (v := 1) X.1 X.2.1 dX11_keep_36 (by decide) ?_
      refine lv_icmp_gt (tgt := 50) X.1 X.2.1 dX11_keep_37 (by decide) (fun hc => ?_) (fun hc => ?_)
      · replace hF := it_t hF hc
        refine lv_iconst (v := (-1)) X.1 X.2.1 dX11_keep_50 (by decide) ?_
        exact gx_iret X hG hS hE hF dX11_keep_51
      · replace hF := it_f hF hc
        refine lv_iload_n X.1 X.2.1 dX11_keep_40 rfl (lv_at hl 2 rfl) ?_
        refine lv_iconst (v := 1) X.1 X.2.1 dX11_keep_41 (by decide) ?_
        refine lv_icmp_ne (tgt := 52) X.1 X.2.1 dX11_keep_42 (by decide) (fun hc => ?_) (fun hc => ?_)
        · replace hF := it_f hF hc
          exact w_X11_keep_52 X n  v0 v3 i6 s0 σ _ _ ls hT_v0 hT_i6 hO_s0 hG hS hE (lv_sub hl [1, 3, 4, 0] rfl) hF
        · replace hF := it_t hF hc
          refine gx_aload X.1 X.2.1 dX11_keep_45 (lv_at hl 0 rfl) ?_
          refine gx_ifnonnull (tgt := 52) X.1 X.2.1 dX11_keep_47 (by decide) hF (fun hr hF2i7 => ?_) (fun i7 hr hF2i7 => ?_)
          · subst hr
            have hF := hF2i7
            have hl : lv_has ls 6 [(5, .null), (0, .ref (ad v0)), (2, .int v2), (3, .int v3), (4, .ref (ad i6))] := hl
            refine lv_iconst (v := (-1)) X.1 X.2.1 dX11_keep_50 (by decide) ?_
            exact gx_iret X hG hS hE hF dX11_keep_51
          · subst hr
            have hF := hF2i7
            have hT_i7 := hO_s0 i7 rfl
            have hl : lv_has ls 6 [(5, .ref (ad i7)), (0, .ref (ad v0)), (2, .int v2), (3, .int v3), (4, .ref (ad i6))] := hl
            exact w_X11_keep_52 X n  v0 v3 i6 (some i7) σ _ _ ls hT_v0 hT_i6 (oT.some hT_i7) hG hS hE (lv_sub hl [1, 3, 4, 0] rfl) hF
theorem c_X11_keep (l : Launch) (D : va_G) (cA : Nat → ClassId) (base : Nat) (ad : Nat → Nat) (σ : Hp) (n : Nat) (a0 : Nat) (a1 : Int32) (a2 : Int32) (a3 : Int32) (hT_a0 : hT σ a0 11) {τ : Hp} {r : Int32} (hF : F_X11_keep n a0 a1 a2 a3 σ = some (r, τ)) : MI l yX11_keep cX11_keep 6 (some .int) rm_X11_keep D cA base ad σ [.ref (ad a0), .int a1, .int a2, .int a3] r τ := by
  refine Met.ofW (cc := cX11_keep) (maxL := 6) (ret := (some .int)) (by decide) rfl ?_
  intro p e s m args below meth c s₁ B hml hv
  obtain ⟨rfl, hv⟩ := hv
  have X : SX D cA base p s m ([.ref (ad a0), .int a1, .int a2, .int a3] : List Value).toArray meth c cX11_keep 6 (some .int) RX11 := sx_of B hml hv
  have hG := hv.1
  have hS : va_S (bA base) s.heap s.heap [] := va_S.rf
  have hE := xT.rf σ
  have hl := lv_entry ([.ref (ad a0), .int a1, .int a2, .int a3]) (n := 6) (Nat.le_of_ble_eq_true rfl)
  rw [lg_entry_eq]
  generalize (lg_sl ([.ref (ad a0), .int a1, .int a2, .int a3]) ++ List.replicate (6 - (lg_sl ([.ref (ad a0), .int a1, .int a2, .int a3])).length) Slot.unset).toArray = ls at hl ⊢
  have hl : lv_has ls 6 [(0, .ref (ad a0)), (1, .int a1), (2, .int a2), (3, .int a3)] := hl
  unfold F_X11_keep at hF
  refine lv_aload_n X.1 X.2.1 dX11_keep_0 rfl (lv_at hl 0 rfl) ?_
  refine lv_iload_n X.1 X.2.1 dX11_keep_1 rfl (lv_at hl 1 rfl) ?_
  obtain ⟨r9, σ8, hz, hF⟩ := b2_ex hF
  refine gx_rQ (gx_runV (As := [.int a1]) (rest := []) X hG hS hT_a0.1 (hT_a0.eq (by decide)) (by decide) rfl (c_X11_shelfAt l D cA base ad σ n a0 a1 hT_a0 hz) k_435 k_432 k_434 ks_1 k_1 (h_X11_shelfAt) rfl rfl ⟨by decide, by decide⟩ rfl hl.1 rfl (Nat.le_of_ble_eq_true rfl) dX11_keep_2 ⟨Nat.zero_le _, Nat.zero_le _⟩) hS (fun H locs hG hS hX hO_r9 => ?_)
  have hT_a0 := hX.T hT_a0
  replace hE := hE.trans hX
  refine gx_astore (lv' := [(4, va_rf (Option.map ad r9)), (0, .ref (ad a0)), (1, .int a1), (2, .int a2), (3, .int a3)]) X.1 X.2.1 dX11_keep_5 hl (by decide) (by cases r9 <;> rfl) (fun ls hl => ?_)
  refine lv_iload_n X.1 X.2.1 dX11_keep_7 rfl (lv_at hl 3 rfl) ?_
  refine lv_iconst (v := 1) X.1 X.2.1 dX11_keep_8 (by decide) ?_
  refine lv_icmp_ne (tgt := 23) X.1 X.2.1 dX11_keep_9 (by decide) (fun hc => ?_) (fun hc => ?_)
  · replace hF := it_f hF hc
    refine lv_null X.1 X.2.1 dX11_keep_23 ?_
    exact w_X11_keep_24 X n  a0 a2 a3 r9 none σ8 _ _ ls hT_a0 hO_r9 oT.none hG hS hE (lv_sub hl [1, 3, 4, 0] rfl) hF
  · replace hF := it_t hF hc
    refine lv_aload_n X.1 X.2.1 dX11_keep_12 rfl (lv_at hl 1 rfl) ?_
    obtain ⟨i10, hr, hF⟩ := b1_ex hF
    have hT_i10 : hT σ8 i10 3 := gw_T hG hT_a0 (by decide) hr
    refine gx_get 0 (v := .ref (ad i10)) X hG hT_a0.1 (hT_a0.eq (by decide)) (by decide) rfl inX11 (by decide) k_151 (fun _ h => h) (gx_rfv hr) dX11_keep_13 ?_
    refine lv_iload_n X.1 X.2.1 dX11_keep_16 rfl (lv_at hl 4 rfl) ?_
    obtain ⟨r12, σ11, hz, hF⟩ := b2_ex hF
    refine gx_rQ (gx_runV (As := [.int a3]) (rest := []) X hG hS hT_i10.1 (hT_i10.eq (by decide)) (by decide) rfl (c_X3_turnAt l D cA base ad σ8 n i10 a3 hT_i10 hz) k_383 k_380 k_381 k_382 k_2 (h_X3_turnAt) rfl rfl ⟨by decide, by decide⟩ rfl hl.1 rfl (Nat.le_of_ble_eq_true rfl) dX11_keep_17 ⟨Nat.zero_le _, Nat.zero_le _⟩) hS (fun H locs hG hS hX hO_r12 => ?_)
    have hT_a0 := hX.T hT_a0
    have hO_r9 := hX.O hO_r9
    replace hE := hE.trans hX
    refine lv_goto (tgt := 24) X.1 X.2.1 dX11_keep_20 (by decide) ?_
    exact w_X11_keep_24 X n  a0 a2 a3 r9 r12 σ11 _ _ ls hT_a0 hO_r9 hO_r12 hG hS hE (lv_sub hl [1, 3, 4, 0] rfl) hF
theorem w_X5_holdRow_17 {σ0 τ : Hp} (X : SX D cA base p s m args meth c cX5_holdRow 4 none RX5) (n : Nat)  : ∀ f : Nat, ∀ (v0 : Nat) (v3 : Int32) (σ : Hp) (H : Heap) (locs : List Loc) (ls : Array Slot), hT σ v0 5 → GW D cA base ad σ H → va_S (bA base) s.heap H locs → xT σ0 σ → lv_has ls 4 [(0, .ref (ad v0)), (3, .int v3)] → F_X5_holdRow_17 n  f v0 v3 σ = some τ → W p l e rm_X5_holdRow s m args below meth c H locs 0 0 (ZV below s args D cA base ad σ0 τ) (F0 m 17 ls []) := by
  intro f
  induction f with
  | zero => intro v0 v3 σ H locs ls h0 hG hS hE hl hF
            rw [F_X5_holdRow_17] at hF; cases hF
  | succ f ih =>
    intro v0 v3 σ H locs ls hT_v0 hG hS hE hl hF
    rw [F_X5_holdRow_17] at hF
    refine lv_iload_n X.1 X.2.1 dX5_holdRow_17 rfl (lv_at hl 1 rfl) ?_
    refine lv_aload_n X.1 X.2.1 dX5_holdRow_18 rfl (lv_at hl 0 rfl) ?_
    obtain ⟨i1, hr, hF⟩ := b1_ex hF
    have hT_i1 : hT σ i1 13 := gw_T hG hT_v0 (by decide) hr
    refine gx_get 4 (v := .ref (ad i1)) X hG hT_v0.1 (hT_v0.eq (by decide)) (by decide) rfl inX5 (by decide) k_138 (fun _ h => h) (gx_rfv hr) dX5_holdRow_19 ?_
    refine gx_alen (t0 := 0) X hG hT_i1 (by decide) (by decide) rfl dX5_holdRow_22 ?_
    refine lv_icmp_ge (tgt := 39) X.1 X.2.1 dX5_holdRow_23 (by decide) (fun hc => ?_) (fun hc => ?_)
    · replace hF := it_t hF hc
      exact gx_vret X hG hS hE hF dX5_holdRow_39
    · replace hF := it_f hF hc
      refine lv_aload_n X.1 X.2.1 dX5_holdRow_26 rfl (lv_at hl 0 rfl) ?_
      obtain ⟨i2, hr, hF⟩ := b1_ex hF
      have hT_i2 : hT σ i2 13 := gw_T hG hT_v0 (by decide) hr
      refine gx_get 4 (v := .ref (ad i2)) X hG hT_v0.1 (hT_v0.eq (by decide)) (by decide) rfl inX5 (by decide) k_138 (fun _ h => h) (gx_rfv hr) dX5_holdRow_27 ?_
      refine lv_iload_n X.1 X.2.1 dX5_holdRow_30 rfl (lv_at hl 1 rfl) ?_
      refine lv_iconst (v := 0) X.1 X.2.1 dX5_holdRow_31 (by decide) ?_
      refine gx_iast X hG hS hT_i2 hF dX5_holdRow_32 (fun σ3 H locs hG hS hX hF => ?_)
      have hT_v0 := hX.T hT_v0
      replace hE := hE.trans hX
      refine lv_iinc (v := v3 + 1) (lv' := [(3, .int (v3 + 1)), (0, .ref (ad v0))]) X.1 X.2.1 dX5_holdRow_33 hl (k := 1) rfl rfl (by decide) rfl (fun ls hl => ?_)
      refine lv_goto (tgt := 17) X.1 X.2.1 dX5_holdRow_36 (by decide) ?_
      exact ih v0 (v3 + 1) σ3 _ _ ls hT_v0 hG hS hE (lv_sub hl [1, 0] rfl) hF
theorem c_X5_holdRow (l : Launch) (D : va_G) (cA : Nat → ClassId) (base : Nat) (ad : Nat → Nat) (σ : Hp) (n : Nat) (a0 : Nat) (a1 : Int32) (a2 : Int32) (hT_a0 : hT σ a0 5) {τ : Hp} (hF : F_X5_holdRow n a0 a1 a2 σ = some τ) : MV l yX5_holdRow cX5_holdRow 4 rm_X5_holdRow D cA base ad σ [.ref (ad a0), .int a1, .int a2] τ := by
  refine Met.ofW (cc := cX5_holdRow) (maxL := 4) (ret := none) (by decide) rfl ?_
  intro p e s m args below meth c s₁ B hml hv
  obtain ⟨rfl, hv⟩ := hv
  have X : SX D cA base p s m ([.ref (ad a0), .int a1, .int a2] : List Value).toArray meth c cX5_holdRow 4 none RX5 := sx_of B hml hv
  have hG := hv.1
  have hS : va_S (bA base) s.heap s.heap [] := va_S.rf
  have hE := xT.rf σ
  have hl := lv_entry ([.ref (ad a0), .int a1, .int a2]) (n := 4) (Nat.le_of_ble_eq_true rfl)
  rw [lg_entry_eq]
  generalize (lg_sl ([.ref (ad a0), .int a1, .int a2]) ++ List.replicate (4 - (lg_sl ([.ref (ad a0), .int a1, .int a2])).length) Slot.unset).toArray = ls at hl ⊢
  have hl : lv_has ls 4 [(0, .ref (ad a0)), (1, .int a1), (2, .int a2)] := hl
  unfold F_X5_holdRow at hF
  refine lv_aload_n X.1 X.2.1 dX5_holdRow_0 rfl (lv_at hl 0 rfl) ?_
  refine lv_null X.1 X.2.1 dX5_holdRow_1 ?_
  refine gx_putR 0 (x := none) X hG hS hT_a0.1 (hT_a0.eq (by decide)) (by decide) rfl inX5 tyX5_ok nmX5 (by decide) k_130 (fun _ h => h) rfl (gx_nar _) (gx_fit _) rfl oT.none (Nat.le_of_ble_eq_true rfl) dX5_holdRow_2 hF (fun σ4 H locs hG hS hX hF => ?_)
  have hT_a0 := hX.T hT_a0
  replace hE := hE.trans hX
  refine lv_aload_n X.1 X.2.1 dX5_holdRow_5 rfl (lv_at hl 0 rfl) ?_
  refine lv_iload_n X.1 X.2.1 dX5_holdRow_6 rfl (lv_at hl 1 rfl) ?_
  refine gx_putI 2  X hG hS hT_a0.1 (hT_a0.eq (by decide)) (by decide) rfl inX5 tyX5_ok nmX5 (by decide) k_134 (fun _ h => h) rfl rfl rfl rfl (Nat.le_of_ble_eq_true rfl) dX5_holdRow_7 hF (fun σ5 H locs hG hS hX hF => ?_)
  have hT_a0 := hX.T hT_a0
  replace hE := hE.trans hX
  refine lv_aload_n X.1 X.2.1 dX5_holdRow_10 rfl (lv_at hl 0 rfl) ?_
  refine lv_iload_n X.1 X.2.1 dX5_holdRow_11 rfl (lv_at hl 2 rfl) ?_
  refine gx_putI 3  X hG hS hT_a0.1 (hT_a0.eq (by decide)) (by decide) rfl inX5 tyX5_ok nmX5 (by decide) k_136 (fun _ h => h) rfl rfl rfl rfl (Nat.le_of_ble_eq_true rfl) dX5_holdRow_12 hF (fun σ6 H locs hG hS hX hF => ?_)
  have hT_a0 := hX.T hT_a0
  replace hE := hE.trans hX
  refine lv_iconst (v := 0) X.1 X.2.1 dX5_holdRow_15 (by decide) ?_
  refine lv_istore_n (lv' := [(3, .int 0), (0, .ref (ad a0)), (1, .int a1), (2, .int a2)]) X.1 X.2.1 dX5_holdRow_16 rfl hl (by decide) rfl (fun ls hl => ?_)
  exact w_X5_holdRow_17 X n  n a0 0 σ6 _ _ ls hT_a0 hG hS hE (lv_sub hl [1, 0] rfl) hF
theorem c_X11_row (l : Launch) (D : va_G) (cA : Nat → ClassId) (base : Nat) (ad : Nat → Nat) (σ : Hp) (n : Nat) (a0 : Nat) (a1 : Int32) (a2 : Int32) (a3 : Int32) (hT_a0 : hT σ a0 11) {τ : Hp} {r : Int32} (hF : F_X11_row n a0 a1 a2 a3 σ = some (r, τ)) : MI l yX11_row cX11_row 5 (some .int) rm_X11_row D cA base ad σ [.ref (ad a0), .int a1, .int a2, .int a3] r τ := by
  refine Met.ofW (cc := cX11_row) (maxL := 5) (ret := (some .int)) (by decide) rfl ?_
  intro p e s m args below meth c s₁ B hml hv
  obtain ⟨rfl, hv⟩ := hv
  have X : SX D cA base p s m ([.ref (ad a0), .int a1, .int a2, .int a3] : List Value).toArray meth c cX11_row 5 (some .int) RX11 := sx_of B hml hv
  have hG := hv.1
  have hS : va_S (bA base) s.heap s.heap [] := va_S.rf
  have hE := xT.rf σ
  have hl := lv_entry ([.ref (ad a0), .int a1, .int a2, .int a3]) (n := 5) (Nat.le_of_ble_eq_true rfl)
  rw [lg_entry_eq]
  generalize (lg_sl ([.ref (ad a0), .int a1, .int a2, .int a3]) ++ List.replicate (5 - (lg_sl ([.ref (ad a0), .int a1, .int a2, .int a3])).length) Slot.unset).toArray = ls at hl ⊢
  have hl : lv_has ls 5 [(0, .ref (ad a0)), (1, .int a1), (2, .int a2), (3, .int a3)] := hl
  unfold F_X11_row at hF
  refine lv_aload_n X.1 X.2.1 dX11_row_0 rfl (lv_at hl 0 rfl) ?_
  refine lv_iload_n X.1 X.2.1 dX11_row_1 rfl (lv_at hl 1 rfl) ?_
  obtain ⟨r2, σ1, hz, hF⟩ := b2_ex hF
  refine gx_rQ (gx_runV (As := [.int a1]) (rest := []) X hG hS hT_a0.1 (hT_a0.eq (by decide)) (by decide) rfl (c_X11_shelfAt l D cA base ad σ n a0 a1 hT_a0 hz) k_435 k_432 k_434 ks_1 k_1 (h_X11_shelfAt) rfl rfl ⟨by decide, by decide⟩ rfl hl.1 rfl (Nat.le_of_ble_eq_true rfl) dX11_row_2 ⟨Nat.zero_le _, Nat.zero_le _⟩) hS (fun H locs hG hS hX hO_r2 => ?_)
  have hT_a0 := hX.T hT_a0
  replace hE := hE.trans hX
  refine gx_astore (lv' := [(4, va_rf (Option.map ad r2)), (0, .ref (ad a0)), (1, .int a1), (2, .int a2), (3, .int a3)]) X.1 X.2.1 dX11_row_5 hl (by decide) (by cases r2 <;> rfl) (fun ls hl => ?_)
  refine gx_aload X.1 X.2.1 dX11_row_7 (lv_at hl 0 rfl) ?_
  refine gx_ifnull (tgt := 27) X.1 X.2.1 dX11_row_9 (by decide) hF (fun hr hF2i3 => ?_) (fun i3 hr hF2i3 => ?_)
  · subst hr
    have hF := hF2i3
    have hl : lv_has ls 5 [(4, .null), (0, .ref (ad a0)), (1, .int a1), (2, .int a2), (3, .int a3)] := hl
    refine lv_iconst (v := (-1)) X.1 X.2.1 dX11_row_27 (by decide) ?_
    exact gx_iret X hG hS hE hF dX11_row_28
  · subst hr
    have hF := hF2i3
    have hT_i3 := hO_r2 i3 rfl
    have hl : lv_has ls 5 [(4, .ref (ad i3)), (0, .ref (ad a0)), (1, .int a1), (2, .int a2), (3, .int a3)] := hl
    refine lv_iload_n X.1 X.2.1 dX11_row_12 rfl (lv_at hl 3 rfl) ?_
    refine lv_if_lt (tgt := 27) X.1 X.2.1 dX11_row_13 (by decide) (fun hc => ?_) (fun hc => ?_)
    · replace hF := it_t hF hc
      refine lv_iconst (v := (-1)) X.1 X.2.1 dX11_row_27 (by decide) ?_
      exact gx_iret X hG hS hE hF dX11_row_28
    · replace hF := it_f hF hc
      refine lv_iload_n X.1 X.2.1 dX11_row_16 rfl (lv_at hl 3 rfl) ?_
      refine lv_iconst (v := 2) X.1 X.2.1 dX11_row_17 (by decide) ?_
      refine lv_icmp_gt (tgt := 27) X.1 X.2.1 dX11_row_18 (by decide) (fun hc => ?_) (fun hc => ?_)
      · replace hF := it_t hF hc
        refine lv_iconst (v := (-1)) X.1 X.2.1 dX11_row_27 (by decide) ?_
        exact gx_iret X hG hS hE hF dX11_row_28
      · replace hF := it_f hF hc
        refine lv_iload_n X.1 X.2.1 dX11_row_21 rfl (lv_at hl 4 rfl) ?_
        refine lv_bipush (v := 100) X.1 X.2.1 dX11_row_22 (by decide) ?_
        refine lv_icmp_le (tgt := 29) X.1 X.2.1 dX11_row_24 (by decide) (fun hc => ?_) (fun hc => ?_)
        · replace hF := it_t hF hc
          refine lv_iload_n X.1 X.2.1 dX11_row_29 rfl (lv_at hl 4 rfl) ?_
          refine lv_if_ge (tgt := 36) X.1 X.2.1 dX11_row_30 (by decide) (fun hc => ?_) (fun hc => ?_)
          · replace hF := it_t hF hc
            refine lv_aload X.1 X.2.1 dX11_row_36 (lv_at hl 0 rfl) ?_
            refine lv_iload_n X.1 X.2.1 dX11_row_38 rfl (lv_at hl 3 rfl) ?_
            refine lv_iload_n X.1 X.2.1 dX11_row_39 rfl (lv_at hl 4 rfl) ?_
            obtain ⟨σ4, hz, hF⟩ := b1_ex hF
            refine gx_rV (gx_runV (As := [.int a2, .int a3]) (rest := []) X hG hS hT_i3.1 (hT_i3.eq (by decide)) (by decide) rfl (c_X5_holdRow l D cA base ad σ1 n i3 a2 a3 hT_i3 hz) k_760 k_757 k_758 k_759 k_3 (h_X5_holdRow) rfl rfl ⟨by decide, by decide⟩ rfl hl.1 rfl (Nat.le_of_ble_eq_true rfl) dX11_row_40 ⟨Nat.zero_le _, Nat.zero_le _⟩) hS (fun H locs hG hS hX => ?_)
            have hT_a0 := hX.T hT_a0
            have hT_i3 := hX.T hT_i3
            replace hE := hE.trans hX
            refine lv_iconst (v := 0) X.1 X.2.1 dX11_row_43 (by decide) ?_
            exact gx_iret X hG hS hE hF dX11_row_44
          · replace hF := it_f hF hc
            refine lv_bipush (v := (-14)) X.1 X.2.1 dX11_row_33 (by decide) ?_
            exact gx_iret X hG hS hE hF dX11_row_35
        · replace hF := it_f hF hc
          refine lv_iconst (v := (-1)) X.1 X.2.1 dX11_row_27 (by decide) ?_
          exact gx_iret X hG hS hE hF dX11_row_28
theorem c_X5_hasPlaces (l : Launch) (D : va_G) (cA : Nat → ClassId) (base : Nat) (ad : Nat → Nat) (σ : Hp) (n : Nat) (a0 : Nat) (a1 : Int32) (a2 : Int32) (hT_a0 : hT σ a0 5) {τ : Hp} {r : Int32} (hF : F_X5_hasPlaces n a0 a1 a2 σ = some (r, τ)) : MI l yX5_hasPlaces cX5_hasPlaces 3 (some .boolean) rm_X5_hasPlaces D cA base ad σ [.ref (ad a0), .int a1, .int a2] r τ := by
  refine Met.ofW (cc := cX5_hasPlaces) (maxL := 3) (ret := (some .boolean)) (by decide) rfl ?_
  intro p e s m args below meth c s₁ B hml hv
  obtain ⟨rfl, hv⟩ := hv
  have X : SX D cA base p s m ([.ref (ad a0), .int a1, .int a2] : List Value).toArray meth c cX5_hasPlaces 3 (some .boolean) RX5 := sx_of B hml hv
  have hG := hv.1
  have hS : va_S (bA base) s.heap s.heap [] := va_S.rf
  have hE := xT.rf σ
  have hl := lv_entry ([.ref (ad a0), .int a1, .int a2]) (n := 3) (Nat.le_of_ble_eq_true rfl)
  rw [lg_entry_eq]
  generalize (lg_sl ([.ref (ad a0), .int a1, .int a2]) ++ List.replicate (3 - (lg_sl ([.ref (ad a0), .int a1, .int a2])).length) Slot.unset).toArray = ls at hl ⊢
  have hl : lv_has ls 3 [(0, .ref (ad a0)), (1, .int a1), (2, .int a2)] := hl
  unfold F_X5_hasPlaces at hF
  refine lv_iload_n X.1 X.2.1 dX5_hasPlaces_0 rfl (lv_at hl 1 rfl) ?_
  refine lv_if_lt (tgt := 30) X.1 X.2.1 dX5_hasPlaces_1 (by decide) (fun hc => ?_) (fun hc => ?_)
  · replace hF := it_t hF hc
    refine lv_iconst (v := 0) X.1 X.2.1 dX5_hasPlaces_30 (by decide) ?_
    exact gx_zret X hG hS hE hF rfl dX5_hasPlaces_31
  · replace hF := it_f hF hc
    refine lv_iload_n X.1 X.2.1 dX5_hasPlaces_4 rfl (lv_at hl 2 rfl) ?_
    refine lv_if_lt (tgt := 30) X.1 X.2.1 dX5_hasPlaces_5 (by decide) (fun hc => ?_) (fun hc => ?_)
    · replace hF := it_t hF hc
      refine lv_iconst (v := 0) X.1 X.2.1 dX5_hasPlaces_30 (by decide) ?_
      exact gx_zret X hG hS hE hF rfl dX5_hasPlaces_31
    · replace hF := it_f hF hc
      refine lv_iload_n X.1 X.2.1 dX5_hasPlaces_8 rfl (lv_at hl 2 rfl) ?_
      refine lv_aload_n X.1 X.2.1 dX5_hasPlaces_9 rfl (lv_at hl 0 rfl) ?_
      refine gx_get 3 (v := .int (hI σ a0 3)) X hG hT_a0.1 (hT_a0.eq (by decide)) (by decide) rfl inX5 (by decide) k_136 (fun _ h => h) rfl dX5_hasPlaces_10 ?_
      refine lv_icmp_gt (tgt := 30) X.1 X.2.1 dX5_hasPlaces_13 (by decide) (fun hc => ?_) (fun hc => ?_)
      · replace hF := it_t hF hc
        refine lv_iconst (v := 0) X.1 X.2.1 dX5_hasPlaces_30 (by decide) ?_
        exact gx_zret X hG hS hE hF rfl dX5_hasPlaces_31
      · replace hF := it_f hF hc
        refine lv_iload_n X.1 X.2.1 dX5_hasPlaces_16 rfl (lv_at hl 1 rfl) ?_
        refine lv_aload_n X.1 X.2.1 dX5_hasPlaces_17 rfl (lv_at hl 0 rfl) ?_
        refine gx_get 3 (v := .int (hI σ a0 3)) X hG hT_a0.1 (hT_a0.eq (by decide)) (by decide) rfl inX5 (by decide) k_136 (fun _ h => h) rfl dX5_hasPlaces_18 ?_
        refine lv_iload_n X.1 X.2.1 dX5_hasPlaces_21 rfl (lv_at hl 2 rfl) ?_
        refine lv_isub X.1 X.2.1 dX5_hasPlaces_22 ?_
        refine lv_icmp_gt (tgt := 30) X.1 X.2.1 dX5_hasPlaces_23 (by decide) (fun hc => ?_) (fun hc => ?_)
        · replace hF := it_t hF hc
          refine lv_iconst (v := 0) X.1 X.2.1 dX5_hasPlaces_30 (by decide) ?_
          exact gx_zret X hG hS hE hF rfl dX5_hasPlaces_31
        · replace hF := it_f hF hc
          refine lv_iconst (v := 1) X.1 X.2.1 dX5_hasPlaces_26 (by decide) ?_
          refine lv_goto (tgt := 31) X.1 X.2.1 dX5_hasPlaces_27 (by decide) ?_
          exact gx_zret X hG hS hE hF rfl dX5_hasPlaces_31
theorem c_X5_lowestBits (l : Launch) (D : va_G) (cA : Nat → ClassId) (base : Nat) (ad : Nat → Nat) (σ : Hp) (n : Nat) (a0 : Nat) (a1 : Int32) (hT_a0 : hT σ a0 5) {τ : Hp} {r : Int32} (hF : F_X5_lowestBits n a0 a1 σ = some (r, τ)) : MI l yX5_lowestBits cX5_lowestBits 2 (some .int) rm_X5_lowestBits D cA base ad σ [.ref (ad a0), .int a1] r τ := by
  refine Met.ofW (cc := cX5_lowestBits) (maxL := 2) (ret := (some .int)) (by decide) rfl ?_
  intro p e s m args below meth c s₁ B hml hv
  obtain ⟨rfl, hv⟩ := hv
  have X : SX D cA base p s m ([.ref (ad a0), .int a1] : List Value).toArray meth c cX5_lowestBits 2 (some .int) RX5 := sx_of B hml hv
  have hG := hv.1
  have hS : va_S (bA base) s.heap s.heap [] := va_S.rf
  have hE := xT.rf σ
  have hl := lv_entry ([.ref (ad a0), .int a1]) (n := 2) (Nat.le_of_ble_eq_true rfl)
  rw [lg_entry_eq]
  generalize (lg_sl ([.ref (ad a0), .int a1]) ++ List.replicate (2 - (lg_sl ([.ref (ad a0), .int a1])).length) Slot.unset).toArray = ls at hl ⊢
  have hl : lv_has ls 2 [(0, .ref (ad a0)), (1, .int a1)] := hl
  unfold F_X5_lowestBits at hF
  refine lv_aload_n X.1 X.2.1 dX5_lowestBits_0 rfl (lv_at hl 0 rfl) ?_
  refine gx_get 2 (v := .int (hI σ a0 2)) X hG hT_a0.1 (hT_a0.eq (by decide)) (by decide) rfl inX5 (by decide) k_134 (fun _ h => h) rfl dX5_lowestBits_1 ?_
  by_cases hc0 : (hI σ a0 2) = 0
  · replace hF := it_t hF hc0
    refine lv_lookup (tgt := 32) (off := 28) X.1 X.2.1 dX5_lowestBits_4 (by decide) (by rw [hc0]; decide) (by decide) ?_
    refine lv_iload_n X.1 X.2.1 dX5_lowestBits_32 rfl (lv_at hl 1 rfl) ?_
    refine lv_i2b X.1 X.2.1 dX5_lowestBits_33 rfl ?_
    exact gx_iret X hG hS hE hF dX5_lowestBits_34
  replace hF := it_f hF hc0
  by_cases hc1 : (hI σ a0 2) = 1
  · replace hF := it_t hF hc1
    refine lv_lookup (tgt := 35) (off := 31) X.1 X.2.1 dX5_lowestBits_4 (by decide) (by rw [hc1]; decide) (by decide) ?_
    refine lv_iload_n X.1 X.2.1 dX5_lowestBits_35 rfl (lv_at hl 1 rfl) ?_
    refine lv_i2s X.1 X.2.1 dX5_lowestBits_36 rfl ?_
    exact gx_iret X hG hS hE hF dX5_lowestBits_37
  replace hF := it_f hF hc1
  have hz0 := ne_lit hc0 (z := 0) (by decide)
  have hz1 := ne_lit hc1 (z := 1) (by decide)
  refine lv_lookup (tgt := 38) (off := 34) X.1 X.2.1 dX5_lowestBits_4 (by decide) (by simp [Op.lookupswitch.offset, hz0, hz0.symm, hz1, hz1.symm]) (by decide) ?_
  refine lv_iload_n X.1 X.2.1 dX5_lowestBits_38 rfl (lv_at hl 1 rfl) ?_
  exact gx_iret X hG hS hE hF dX5_lowestBits_39
end W_class9
