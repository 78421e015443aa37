/-! model8: printed by wip/whole/gen.py -/
section W_model8
variable {p : Program} {l : Launch} {e : Env} {s : State} {m : MethodId} {args : Array Value} {below : List Frame} {meth : Method} {c : Code} {D : va_G} {cA : Nat → ClassId} {base : Nat} {ad : Nat → Nat}
abbrev rm_X12_neededNow : Room := { frames := 1, cells := 0, slots := 0, locals := 21 }
theorem h_X12_neededNow : yX12_neededNow.cls = RX12 ∧ yX12_neededNow.cls ≠ "java/lang/invoke/MethodHandle" ∧ yX12_neededNow.cls ≠ "java/lang/invoke/VarHandle" ∧ (parseMethodDescriptor yX12_neededNow.desc).map (fun d => d.parameters.length) = some 0 := by decide +kernel
def F_X12_neededNow (n : Nat) (a0 : Nat) (σ : Hp) : Option (Int32 × Hp) := b1 (hR σ a0 0) fun (i1 : Nat) => ck (¬ ((3 : Int32) < 0 ∨ hL σ i1 ≤ (3 : Int32).toNatClampNeg)) (b1 (hR σ a0 0) fun (i2 : Nat) => ck (¬ ((1 : Int32) < 0 ∨ hL σ i2 ≤ (1 : Int32).toNatClampNeg)) (b2 (F_X12_lesser n (hI σ i1 (3 : Int32).toNatClampNeg) (hI σ i2 (1 : Int32).toNatClampNeg) σ) fun (r4 : Int32) (σ3 : Hp) => some (r4, σ3)))
abbrev rm_X12_begin : Room := { frames := 35, cells := 0, slots := 0, locals := 829 }
theorem h_X12_begin : yX12_begin.cls = RX12 ∧ yX12_begin.cls ≠ "java/lang/invoke/MethodHandle" ∧ yX12_begin.cls ≠ "java/lang/invoke/VarHandle" ∧ (parseMethodDescriptor yX12_begin.desc).map (fun d => d.parameters.length) = some 0 := by decide +kernel
def F_X12_begin_50 (n : Nat)  (v0 : Nat) (s0 : Int32) (s1 : Int32) (s2 : Nat) (s3 : Nat) (σ : Hp) : Option (Int32 × Hp) := b1 (F_X12_begins n s3 s2 s1 s0 σ) fun (σ1 : Hp) => b1 (hR σ1 v0 4) fun (i2 : Nat) => ck (¬ ((1 : Int32) < 0 ∨ hL σ1 i2 ≤ (1 : Int32).toNatClampNeg)) (some (hI σ1 i2 (1 : Int32).toNatClampNeg, σ1))
def F_X12_begin (n : Nat) (a0 : Nat) (σ : Hp) : Option (Int32 × Hp) := b1 (hR σ a0 0) fun (i3 : Nat) => ck (¬ ((1 : Int32) < 0 ∨ hL σ i3 ≤ (1 : Int32).toNatClampNeg)) (if (hI σ i3 (1 : Int32).toNatClampNeg) = 0 then (some ((-3), σ)) else (b1 (hR σ a0 4) fun (i4 : Nat) => b1 (F_X12_takesAll n a0 i4 σ) fun (σ5 : Hp) => b1 (hR σ5 a0 4) fun (i6 : Nat) => b1 (hR σ5 a0 0) fun (i7 : Nat) => ck (¬ ((1 : Int32) < 0 ∨ hL σ5 i7 ≤ (1 : Int32).toNatClampNeg)) (b2 (F_X12_leaderOf n a0 (hI σ5 i7 (1 : Int32).toNatClampNeg) σ5) fun (r9 : Int32) (σ8 : Hp) => b1 (hR σ8 a0 0) fun (i10 : Nat) => ck (¬ ((5 : Int32) < 0 ∨ hL σ8 i10 ≤ (5 : Int32).toNatClampNeg)) (if (hI σ8 i10 (5 : Int32).toNatClampNeg) = 1 then (F_X12_begin_50 n  a0 1 r9 i6 a0 σ8) else (F_X12_begin_50 n  a0 0 r9 i6 a0 σ8)))))
abbrev rm_X12_go : Room := { frames := 36, cells := 0, slots := 0, locals := 853 }
theorem h_X12_go : yX12_go.cls = RX12 ∧ yX12_go.cls ≠ "java/lang/invoke/MethodHandle" ∧ yX12_go.cls ≠ "java/lang/invoke/VarHandle" ∧ (parseMethodDescriptor yX12_go.desc).map (fun d => d.parameters.length) = some 1 := by decide +kernel
def F_X12_go_62 (n : Nat)  (v0 : Nat) (σ : Hp) : Option (Int32 × Hp) := b1 (hR σ v0 4) fun (i1 : Nat) => b2 (F_X12_neededNow n v0 σ) fun (r3 : Int32) (σ2 : Hp) => b2 (F_X12_endOf n v0 i1 r3 σ2) fun (r5 : Int32) (σ4 : Hp) => some (r5, σ4)
def F_X12_go_26 (n : Nat)  : Nat → Nat → Int32 → Int32 → Hp → Option (Int32 × Hp)
  | 0, _, _, _, _ => none
  | f + 1, v0, v1, v2, σ => if v1 ≤ v2 then (F_X12_go_62 n  v0 σ) else (b1 (hR σ v0 4) fun (i6 : Nat) => b2 (F_X12_neededNow n v0 σ) fun (r8 : Int32) (σ7 : Hp) => b2 (F_X12_endOf n v0 i6 r8 σ7) fun (r10 : Int32) (σ9 : Hp) => if r10 = (-4) then (b1 (hR σ9 v0 4) fun (i11 : Nat) => b1 (F_X12_turn n v0 i11 σ9) fun (σ12 : Hp) => (F_X12_go_26 n  f) v0 v1 (v2 + 1) σ12) else (F_X12_go_62 n  v0 σ9))
def F_X12_go (n : Nat) (a0 : Nat) (a1 : Int32) (σ : Hp) : Option (Int32 × Hp) := b2 (F_X12_isIn n a1.toInt64 1 60 σ) fun (r14 : Int32) (σ13 : Hp) => if r14 = 0 then (some ((-1), σ13)) else (b2 (F_X12_hasBegun n a0 σ13) fun (r16 : Int32) (σ15 : Hp) => if r16 = 0 then (some ((-3), σ15)) else (F_X12_go_26 n  n a0 a1 0 σ15))
abbrev rm_X12_talk : Room := { frames := 2, cells := 0, slots := 0, locals := 41 }
theorem h_X12_talk : yX12_talk.cls = RX12 ∧ yX12_talk.cls ≠ "java/lang/invoke/MethodHandle" ∧ yX12_talk.cls ≠ "java/lang/invoke/VarHandle" ∧ (parseMethodDescriptor yX12_talk.desc).map (fun d => d.parameters.length) = some 1 := by decide +kernel
def F_X12_talk (n : Nat) (a0 : Nat) (a1 : Int32) (σ : Hp) : Option (Int32 × Hp) := b2 (F_X12_isIn n a1.toInt64 0 5 σ) fun (r2 : Int32) (σ1 : Hp) => if r2 = 0 then (some ((-1), σ1)) else (b2 (F_X12_hasBegun n a0 σ1) fun (r4 : Int32) (σ3 : Hp) => if r4 = 0 then (some ((-3), σ3)) else (if 4 ≤ a1 then (if a1 = 4 then (b1 (hR σ3 a0 4) fun (i10 : Nat) => b2 (F_X12_allHold n a0 i10 σ3) fun (r12 : Int32) (σ11 : Hp) => some (r12, σ11)) else (b1 (hR σ3 a0 4) fun (i5 : Nat) => b2 (F_X12_neededNow n a0 σ3) fun (r7 : Int32) (σ6 : Hp) => b2 (F_X12_endOf n a0 i5 r7 σ6) fun (r9 : Int32) (σ8 : Hp) => some (r9, σ8))) else (b1 (hR σ3 a0 4) fun (i13 : Nat) => ck (¬ (a1 < 0 ∨ hL σ3 i13 ≤ a1.toNatClampNeg)) (some (hI σ3 i13 a1.toNatClampNeg, σ3)))))
abbrev rm_X12_slipsOf : Room := { frames := 0, cells := 0, slots := 0, locals := 0 }
theorem h_X12_slipsOf : yX12_slipsOf.cls = RX12 ∧ yX12_slipsOf.cls ≠ "java/lang/invoke/MethodHandle" ∧ yX12_slipsOf.cls ≠ "java/lang/invoke/VarHandle" ∧ (parseMethodDescriptor yX12_slipsOf.desc).map (fun d => d.parameters.length) = some 1 := by decide +kernel
def F_X12_slipsOf_4 (n : Nat)  : Nat → Nat → Int32 → Int32 → Hp → Option (Int32 × Hp)
  | 0, _, _, _, _ => none
  | f + 1, v1, v2, v3, σ => ck (¬ ((5 : Int32) < 0 ∨ hL σ v1 ≤ (5 : Int32).toNatClampNeg)) (if (hI σ v1 (5 : Int32).toNatClampNeg) ≤ v3 then (some (v2, σ)) else (ck (¬ ((43 + v3) < 0 ∨ hL σ v1 ≤ (43 + v3).toNatClampNeg)) (lt (v2 ||| ((hI σ v1 (43 + v3).toNatClampNeg) <<< (v3 &&& 31))) fun (x1 : Int32) => (F_X12_slipsOf_4 n  f) v1 x1 (v3 + 1) σ)))
def F_X12_slipsOf (n : Nat) (a0 : Nat) (a1 : Nat) (σ : Hp) : Option (Int32 × Hp) := F_X12_slipsOf_4 n  n a1 0 0 σ
abbrev rm_X12_marks : Room := { frames := 1, cells := 0, slots := 0, locals := 23 }
theorem h_X12_marks : yX12_marks.cls = RX12 ∧ yX12_marks.cls ≠ "java/lang/invoke/MethodHandle" ∧ yX12_marks.cls ≠ "java/lang/invoke/VarHandle" ∧ (parseMethodDescriptor yX12_marks.desc).map (fun d => d.parameters.length) = some 1 := by decide +kernel
def F_X12_marks_46 (n : Nat) (K_11 : Nat → Int32 → Int32 → Int32 → Hp → Option Hp) (v0 : Nat) (v1 : Int32) (v2 : Int32) (v3 : Int32) (σ : Hp) : Option Hp := K_11 v0 v1 v2 (v3 + 1) σ
def F_X12_marks_11 (n : Nat)  : Nat → Nat → Int32 → Int32 → Int32 → Hp → Option Hp
  | 0, _, _, _, _, _ => none
  | f + 1, v0, v1, v2, v3, σ => b1 (hR σ v0 0) fun (i1 : Nat) => ck (¬ ((0 : Int32) < 0 ∨ hL σ i1 ≤ (0 : Int32).toNatClampNeg)) (if (hI σ i1 (0 : Int32).toNatClampNeg) ≤ v3 then (some σ) else (if ((v2 >>> (v3 &&& 31)) &&& 1) = 1 then (b1 (hR σ v0 29) fun (i2 : Nat) => ck (¬ (v3 < 0 ∨ hL σ i2 ≤ v3.toNatClampNeg)) (if 0 ≤ (hI σ i2 v3.toNatClampNeg) then (F_X12_marks_46 n (F_X12_marks_11 n  f) v0 v1 v2 v3 σ) else (b1 (hR σ v0 29) fun (i3 : Nat) => ck (¬ (v3 < 0 ∨ hL σ i3 ≤ v3.toNatClampNeg)) (lt (pI σ i3 v3.toNatClampNeg v1) fun (σ4 : Hp) => F_X12_marks_46 n (F_X12_marks_11 n  f) v0 v1 v2 v3 σ4)))) else (F_X12_marks_46 n (F_X12_marks_11 n  f) v0 v1 v2 v3 σ)))
def F_X12_marks (n : Nat) (a0 : Nat) (a1 : Int32) (σ : Hp) : Option Hp := b1 (hR σ a0 5) fun (i5 : Nat) => b2 (F_X12_allHold n a0 i5 σ) fun (r7 : Int32) (σ6 : Hp) => F_X12_marks_11 n  n a0 a1 r7 0 σ6
abbrev rm_X12_runs : Room := { frames := 36, cells := 0, slots := 0, locals := 853 }
theorem h_X12_runs : yX12_runs.cls = RX12 ∧ yX12_runs.cls ≠ "java/lang/invoke/MethodHandle" ∧ yX12_runs.cls ≠ "java/lang/invoke/VarHandle" ∧ (parseMethodDescriptor yX12_runs.desc).map (fun d => d.parameters.length) = some 3 := by decide +kernel
def F_X12_runs_90 (n : Nat)  : Nat → Nat → Int32 → Int32 → Hp → Option (Int32 × Hp)
  | 0, _, _, _, _ => none
  | f + 1, v0, v2, v4, σ => if v4 = (-4) then (b1 (hR σ v0 5) fun (i1 : Nat) => ck (¬ ((0 : Int32) < 0 ∨ hL σ i1 ≤ (0 : Int32).toNatClampNeg)) (b1 (hR σ v0 5) fun (i2 : Nat) => b1 (F_X12_turn n v0 i2 σ) fun (σ3 : Hp) => b1 (F_X12_marks n v0 (hI σ i1 (0 : Int32).toNatClampNeg) σ3) fun (σ4 : Hp) => b1 (hR σ4 v0 5) fun (i5 : Nat) => b2 (F_X12_endOf n v0 i5 v2 σ4) fun (r7 : Int32) (σ6 : Hp) => (F_X12_runs_90 n  f) v0 v2 r7 σ6)) else (some (v4, σ))
def F_X12_runs_74 (n : Nat)  (v0 : Nat) (v2 : Int32) (σ : Hp) : Option (Int32 × Hp) := b1 (F_X12_marks n v0 0 σ) fun (σ8 : Hp) => b1 (hR σ8 v0 5) fun (i9 : Nat) => b2 (F_X12_endOf n v0 i9 v2 σ8) fun (r11 : Int32) (σ10 : Hp) => F_X12_runs_90 n  n v0 v2 r11 σ10
def F_X12_runs_35 (n : Nat)  : Nat → Nat → Int32 → Int32 → Hp → Option (Int32 × Hp)
  | 0, _, _, _, _ => none
  | f + 1, v0, v2, v4, σ => if 12 ≤ v4 then (F_X12_runs_74 n  v0 v2 σ) else (b1 (hR σ v0 28) fun (i12 : Nat) => b1 (hR σ v0 5) fun (i13 : Nat) => ck (¬ ((31 + v4) < 0 ∨ hL σ i13 ≤ (31 + v4).toNatClampNeg)) (ck (¬ (v4 < 0 ∨ hL σ i12 ≤ v4.toNatClampNeg)) (lt (pI σ i12 v4.toNatClampNeg (hI σ i13 (31 + v4).toNatClampNeg)) fun (σ14 : Hp) => b1 (hR σ14 v0 29) fun (i15 : Nat) => ck (¬ (v4 < 0 ∨ hL σ14 i15 ≤ v4.toNatClampNeg)) (lt (pI σ14 i15 v4.toNatClampNeg (-4)) fun (σ16 : Hp) => (F_X12_runs_35 n  f) v0 v2 (v4 + 1) σ16))))
def F_X12_runs (n : Nat) (a0 : Nat) (a1 : Int32) (a2 : Int32) (a3 : Int32) (σ : Hp) : Option (Int32 × Hp) := b1 (hR σ a0 5) fun (i17 : Nat) => b1 (F_X12_begins n a0 i17 a1 a3 σ) fun (σ18 : Hp) => b1 (hR σ18 a0 5) fun (i19 : Nat) => ck (¬ ((1 : Int32) < 0 ∨ hL σ18 i19 ≤ (1 : Int32).toNatClampNeg)) (lt (pI σ18 a0 26 (hI σ18 i19 (1 : Int32).toNatClampNeg)) fun (σ20 : Hp) => b1 (hR σ20 a0 5) fun (i21 : Nat) => b2 (F_X12_slipsOf n a0 i21 σ20) fun (r23 : Int32) (σ22 : Hp) => lt (pI σ22 a0 27 r23) fun (σ24 : Hp) => F_X12_runs_35 n  n a0 a2 0 σ24)
theorem c_X12_neededNow (l : Launch) (D : va_G) (cA : Nat → ClassId) (base : Nat) (ad : Nat → Nat) (σ : Hp) (n : Nat) (a0 : Nat) (hT_a0 : hT σ a0 12) {τ : Hp} {r : Int32} (hF : F_X12_neededNow n a0 σ = some (r, τ)) : MI l yX12_neededNow cX12_neededNow 1 (some .int) rm_X12_neededNow D cA base ad σ [.ref (ad a0)] r τ := by
  refine Met.ofW (cc := cX12_neededNow) (maxL := 1) (ret := (some .int)) (by decide) rfl ?_
  intro p e s m args below meth c s₁ B hml hv
  obtain ⟨rfl, hv⟩ := hv
  have X : SX D cA base p s m ([.ref (ad a0)] : List Value).toArray meth c cX12_neededNow 1 (some .int) RX12 := sx_of B hml hv
  have hG := hv.1
  have hS : va_S (bA base) s.heap s.heap [] := va_S.rf
  have hE := xT.rf σ
  have hl := lv_entry ([.ref (ad a0)]) (n := 1) (Nat.le_of_ble_eq_true rfl)
  rw [lg_entry_eq]
  generalize (lg_sl ([.ref (ad a0)]) ++ List.replicate (1 - (lg_sl ([.ref (ad a0)])).length) Slot.unset).toArray = ls at hl ⊢
  have hl : lv_has ls 1 [(0, .ref (ad a0))] := hl
  unfold F_X12_neededNow at hF
  refine lv_aload_n X.1 X.2.1 dX12_neededNow_0 rfl (lv_at hl 0 rfl) ?_
  obtain ⟨i1, hr, hF⟩ := b1_ex hF
  have hT_i1 : hT σ i1 13 := gw_T hG hT_a0 (by decide) hr
  refine gx_get 0 (v := .ref (ad i1)) X hG hT_a0.1 (hT_a0.eq (by decide)) (by decide) rfl inX12 (by decide) k_960 (fun _ h => h) (gx_rfv hr) dX12_neededNow_1 ?_
  refine lv_iconst (v := 3) X.1 X.2.1 dX12_neededNow_4 (by decide) ?_
  refine gx_iald X hG hT_i1 hF dX12_neededNow_5 (fun hF => ?_)
  refine lv_aload_n X.1 X.2.1 dX12_neededNow_6 rfl (lv_at hl 0 rfl) ?_
  obtain ⟨i2, hr, hF⟩ := b1_ex hF
  have hT_i2 : hT σ i2 13 := gw_T hG hT_a0 (by decide) hr
  refine gx_get 0 (v := .ref (ad i2)) X hG hT_a0.1 (hT_a0.eq (by decide)) (by decide) rfl inX12 (by decide) k_960 (fun _ h => h) (gx_rfv hr) dX12_neededNow_7 ?_
  refine lv_iconst (v := 1) X.1 X.2.1 dX12_neededNow_10 (by decide) ?_
  refine gx_iald X hG hT_i2 hF dX12_neededNow_11 (fun hF => ?_)
  obtain ⟨r4, σ3, hz, hF⟩ := b2_ex hF
  refine gx_rI (gx_runS (As := [.int (hI σ i1 (3 : Int32).toNatClampNeg), .int (hI σ i2 (1 : Int32).toNatClampNeg)]) (rest := []) X hG hS (c_X12_lesser l D cA base ad σ n (hI σ i1 (3 : Int32).toNatClampNeg) (hI σ i2 (1 : Int32).toNatClampNeg) hz) k_1220 k_1218 k_1219 k_4 (h_X12_lesser.2) rfl rfl ⟨by decide, by decide⟩ rfl hl.1 rfl (Nat.le_of_ble_eq_true rfl) dX12_neededNow_12 ⟨Nat.zero_le _, Nat.zero_le _⟩) hS (fun H locs hG hS hX => ?_)
  have hT_a0 := hX.T hT_a0
  replace hE := hE.trans hX
  exact gx_iret X hG hS hE hF dX12_neededNow_15
theorem w_X12_begin_50 {σ0 τ : Hp} {r : Int32} (X : SX D cA base p s m args meth c cX12_begin 1 (some .int) RX12) (n : Nat)  : ∀ (v0 : Nat) (s0 : Int32) (s1 : Int32) (s2 : Nat) (s3 : Nat) (σ : Hp) (H : Heap) (locs : List Loc) (ls : Array Slot), hT σ v0 12 → hT σ s2 13 → hT σ s3 12 → GW D cA base ad σ H → va_S (bA base) s.heap H locs → xT σ0 σ → lv_has ls 1 [(0, .ref (ad v0))] → F_X12_begin_50 n  v0 s0 s1 s2 s3 σ = some (r, τ) → W p l e rm_X12_begin s m args below meth c H locs 0 0 (ZI below s args D cA base ad σ0 r τ) (F0 m 50 ls [.int s0, .int s1, .ref (ad s2), .ref (ad s3)]) := by
  intro v0 s0 s1 s2 s3 σ H locs ls hT_v0 hT_s2 hT_s3 hG hS hE hl hF
  unfold F_X12_begin_50 at hF
  obtain ⟨σ1, hz, hF⟩ := b1_ex hF
  refine gx_rV (gx_runV (As := [.ref (ad s2), .int s1, .int s0]) (rest := []) X hG hS hT_s3.1 (hT_s3.eq (by decide)) (by decide) rfl (c_X12_begins l D cA base ad σ n s3 s2 s1 s0 hT_s3 hT_s2 hz) k_1196 k_1193 k_1195 ks_36 k_4 (h_X12_begins) rfl rfl ⟨by decide, by decide⟩ rfl hl.1 rfl (Nat.le_of_ble_eq_true rfl) dX12_begin_50 ⟨Nat.zero_le _, Nat.zero_le _⟩) hS (fun H locs hG hS hX => ?_)
  have hT_v0 := hX.T hT_v0
  replace hE := hE.trans hX
  refine lv_aload_n X.1 X.2.1 dX12_begin_53 rfl (lv_at hl 0 rfl) ?_
  obtain ⟨i2, hr, hF⟩ := b1_ex hF
  have hT_i2 : hT σ1 i2 13 := gw_T hG hT_v0 (by decide) hr
  refine gx_get 4 (v := .ref (ad i2)) X hG hT_v0.1 (hT_v0.eq (by decide)) (by decide) rfl inX12 (by decide) k_964 (fun _ h => h) (gx_rfv hr) dX12_begin_54 ?_
  refine lv_iconst (v := 1) X.1 X.2.1 dX12_begin_57 (by decide) ?_
  refine gx_iald X hG hT_i2 hF dX12_begin_58 (fun hF => ?_)
  exact gx_iret X hG hS hE hF dX12_begin_59
theorem c_X12_begin (l : Launch) (D : va_G) (cA : Nat → ClassId) (base : Nat) (ad : Nat → Nat) (σ : Hp) (n : Nat) (a0 : Nat) (hT_a0 : hT σ a0 12) {τ : Hp} {r : Int32} (hF : F_X12_begin n a0 σ = some (r, τ)) : MI l yX12_begin cX12_begin 1 (some .int) rm_X12_begin D cA base ad σ [.ref (ad a0)] r τ := by
  refine Met.ofW (cc := cX12_begin) (maxL := 1) (ret := (some .int)) (by decide) rfl ?_
  intro p e s m args below meth c s₁ B hml hv
  obtain ⟨rfl, hv⟩ := hv
  have X : SX D cA base p s m ([.ref (ad a0)] : List Value).toArray meth c cX12_begin 1 (some .int) RX12 := sx_of B hml hv
  have hG := hv.1
  have hS : va_S (bA base) s.heap s.heap [] := va_S.rf
  have hE := xT.rf σ
  have hl := lv_entry ([.ref (ad a0)]) (n := 1) (Nat.le_of_ble_eq_true rfl)
  rw [lg_entry_eq]
  generalize (lg_sl ([.ref (ad a0)]) ++ List.replicate (1 - (lg_sl ([.ref (ad a0)])).length) Slot.unset).toArray = ls at hl ⊢
  have hl : lv_has ls 1 [(0, .ref (ad a0))] := hl
  unfold F_X12_begin at hF
  refine lv_aload_n X.1 X.2.1 dX12_begin_0 rfl (lv_at hl 0 rfl) ?_
  obtain ⟨i3, hr, hF⟩ := b1_ex hF
  have hT_i3 : hT σ i3 13 := gw_T hG hT_a0 (by decide) hr
  refine gx_get 0 (v := .ref (ad i3)) X hG hT_a0.1 (hT_a0.eq (by decide)) (by decide) rfl inX12 (by decide) k_960 (fun _ h => h) (gx_rfv hr) dX12_begin_1 ?_
  refine lv_iconst (v := 1) X.1 X.2.1 dX12_begin_4 (by decide) ?_
  refine gx_iald X hG hT_i3 hF dX12_begin_5 (fun hF => ?_)
  refine lv_if_ne (tgt := 12) X.1 X.2.1 dX12_begin_6 (by decide) (fun hc => ?_) (fun hc => ?_)
  · replace hF := it_f hF hc
    refine lv_aload_n X.1 X.2.1 dX12_begin_12 rfl (lv_at hl 0 rfl) ?_
    refine lv_aload_n X.1 X.2.1 dX12_begin_13 rfl (lv_at hl 0 rfl) ?_
    obtain ⟨i4, hr, hF⟩ := b1_ex hF
    have hT_i4 : hT σ i4 13 := gw_T hG hT_a0 (by decide) hr
    refine gx_get 4 (v := .ref (ad i4)) X hG hT_a0.1 (hT_a0.eq (by decide)) (by decide) rfl inX12 (by decide) k_964 (fun _ h => h) (gx_rfv hr) dX12_begin_14 ?_
    obtain ⟨σ5, hz, hF⟩ := b1_ex hF
    refine gx_rV (gx_runV (As := [.ref (ad i4)]) (rest := []) X hG hS hT_a0.1 (hT_a0.eq (by decide)) (by decide) rfl (c_X12_takesAll l D cA base ad σ n a0 i4 hT_a0 hT_i4 hz) k_1188 k_1185 k_1187 ks_34 k_4 (h_X12_takesAll) rfl rfl ⟨by decide, by decide⟩ rfl hl.1 rfl (Nat.le_of_ble_eq_true rfl) dX12_begin_17 ⟨Nat.zero_le _, Nat.zero_le _⟩) hS (fun H locs hG hS hX => ?_)
    have hT_a0 := hX.T hT_a0
    replace hE := hE.trans hX
    refine lv_aload_n X.1 X.2.1 dX12_begin_20 rfl (lv_at hl 0 rfl) ?_
    refine lv_aload_n X.1 X.2.1 dX12_begin_21 rfl (lv_at hl 0 rfl) ?_
    obtain ⟨i6, hr, hF⟩ := b1_ex hF
    have hT_i6 : hT σ5 i6 13 := gw_T hG hT_a0 (by decide) hr
    refine gx_get 4 (v := .ref (ad i6)) X hG hT_a0.1 (hT_a0.eq (by decide)) (by decide) rfl inX12 (by decide) k_964 (fun _ h => h) (gx_rfv hr) dX12_begin_22 ?_
    refine lv_aload_n X.1 X.2.1 dX12_begin_25 rfl (lv_at hl 0 rfl) ?_
    refine lv_aload_n X.1 X.2.1 dX12_begin_26 rfl (lv_at hl 0 rfl) ?_
    obtain ⟨i7, hr, hF⟩ := b1_ex hF
    have hT_i7 : hT σ5 i7 13 := gw_T hG hT_a0 (by decide) hr
    refine gx_get 0 (v := .ref (ad i7)) X hG hT_a0.1 (hT_a0.eq (by decide)) (by decide) rfl inX12 (by decide) k_960 (fun _ h => h) (gx_rfv hr) dX12_begin_27 ?_
    refine lv_iconst (v := 1) X.1 X.2.1 dX12_begin_30 (by decide) ?_
    refine gx_iald X hG hT_i7 hF dX12_begin_31 (fun hF => ?_)
    obtain ⟨r9, σ8, hz, hF⟩ := b2_ex hF
    refine gx_rI (gx_runV (As := [.int (hI σ5 i7 (1 : Int32).toNatClampNeg)]) (rest := [.ref (ad i6), .ref (ad a0)]) X hG hS hT_a0.1 (hT_a0.eq (by decide)) (by decide) rfl (c_X12_leaderOf l D cA base ad σ5 n a0 (hI σ5 i7 (1 : Int32).toNatClampNeg) hT_a0 hz) k_1192 k_1189 k_1191 ks_35 k_4 (h_X12_leaderOf) rfl rfl ⟨by decide, by decide⟩ rfl hl.1 rfl (Nat.le_of_ble_eq_true rfl) dX12_begin_32 ⟨Nat.zero_le _, Nat.zero_le _⟩) hS (fun H locs hG hS hX => ?_)
    have hT_a0 := hX.T hT_a0
    have hT_i6 := hX.T hT_i6
    replace hE := hE.trans hX
    refine lv_aload_n X.1 X.2.1 dX12_begin_35 rfl (lv_at hl 0 rfl) ?_
    obtain ⟨i10, hr, hF⟩ := b1_ex hF
    have hT_i10 : hT σ8 i10 13 := gw_T hG hT_a0 (by decide) hr
    refine gx_get 0 (v := .ref (ad i10)) X hG hT_a0.1 (hT_a0.eq (by decide)) (by decide) rfl inX12 (by decide) k_960 (fun _ h => h) (gx_rfv hr) dX12_begin_36 ?_
    refine lv_iconst (v := 5) X.1 X.2.1 dX12_begin_39 (by decide) ?_
    refine gx_iald X hG hT_i10 hF dX12_begin_40 (fun hF => ?_)
    refine lv_iconst (v := 1) X.1 X.2.1 dX12_begin_41 (by decide) ?_
    refine lv_icmp_ne (tgt := 49) X.1 X.2.1 dX12_begin_42 (by decide) (fun hc => ?_) (fun hc => ?_)
    · replace hF := it_f hF hc
      refine lv_iconst (v := 0) X.1 X.2.1 dX12_begin_49 (by decide) ?_
      exact w_X12_begin_50 X n  a0 0 r9 i6 a0 σ8 _ _ ls hT_a0 hT_i6 hT_a0 hG hS hE (lv_sub hl [0] rfl) hF
    · replace hF := it_t hF hc
      refine lv_iconst (v := 1) X.1 X.2.1 dX12_begin_45 (by decide) ?_
      refine lv_goto (tgt := 50) X.1 X.2.1 dX12_begin_46 (by decide) ?_
      exact w_X12_begin_50 X n  a0 1 r9 i6 a0 σ8 _ _ ls hT_a0 hT_i6 hT_a0 hG hS hE (lv_sub hl [0] rfl) hF
  · replace hF := it_t hF hc
    refine lv_bipush (v := (-3)) X.1 X.2.1 dX12_begin_9 (by decide) ?_
    exact gx_iret X hG hS hE hF dX12_begin_11
theorem w_X12_go_62 {σ0 τ : Hp} {r : Int32} (X : SX D cA base p s m args meth c cX12_go 3 (some .int) RX12) (n : Nat)  : ∀ (v0 : Nat) (σ : Hp) (H : Heap) (locs : List Loc) (ls : Array Slot), hT σ v0 12 → GW D cA base ad σ H → va_S (bA base) s.heap H locs → xT σ0 σ → lv_has ls 3 [(0, .ref (ad v0))] → F_X12_go_62 n  v0 σ = some (r, τ) → W p l e rm_X12_go s m args below meth c H locs 0 0 (ZI below s args D cA base ad σ0 r τ) (F0 m 62 ls []) := by
  intro v0 σ H locs ls hT_v0 hG hS hE hl hF
  unfold F_X12_go_62 at hF
  refine lv_aload_n X.1 X.2.1 dX12_go_62 rfl (lv_at hl 0 rfl) ?_
  refine lv_aload_n X.1 X.2.1 dX12_go_63 rfl (lv_at hl 0 rfl) ?_
  obtain ⟨i1, hr, hF⟩ := b1_ex hF
  have hT_i1 : hT σ i1 13 := gw_T hG hT_v0 (by decide) hr
  refine gx_get 4 (v := .ref (ad i1)) X hG hT_v0.1 (hT_v0.eq (by decide)) (by decide) rfl inX12 (by decide) k_964 (fun _ h => h) (gx_rfv hr) dX12_go_64 ?_
  refine lv_aload_n X.1 X.2.1 dX12_go_67 rfl (lv_at hl 0 rfl) ?_
  obtain ⟨r3, σ2, hz, hF⟩ := b2_ex hF
  refine gx_rI (gx_runV (As := []) (rest := [.ref (ad i1), .ref (ad v0)]) X hG hS hT_v0.1 (hT_v0.eq (by decide)) (by decide) rfl (c_X12_neededNow l D cA base ad σ n v0 hT_v0 hz) k_1217 k_1214 k_1216 ks_40 k_4 (h_X12_neededNow) rfl rfl ⟨by decide, by decide⟩ rfl hl.1 rfl (Nat.le_of_ble_eq_true rfl) dX12_go_68 ⟨Nat.zero_le _, Nat.zero_le _⟩) hS (fun H locs hG hS hX => ?_)
  have hT_v0 := hX.T hT_v0
  have hT_i1 := hX.T hT_i1
  replace hE := hE.trans hX
  obtain ⟨r5, σ4, hz, hF⟩ := b2_ex hF
  refine gx_rI (gx_runV (As := [.ref (ad i1), .int r3]) (rest := []) X hG hS hT_v0.1 (hT_v0.eq (by decide)) (by decide) rfl (c_X12_endOf l D cA base ad σ2 n v0 i1 r3 hT_v0 hT_i1 hz) k_1224 k_1221 k_1223 ks_41 k_4 (h_X12_endOf) rfl rfl ⟨by decide, by decide⟩ rfl hl.1 rfl (Nat.le_of_ble_eq_true rfl) dX12_go_71 ⟨Nat.zero_le _, Nat.zero_le _⟩) hS (fun H locs hG hS hX => ?_)
  have hT_v0 := hX.T hT_v0
  replace hE := hE.trans hX
  exact gx_iret X hG hS hE hF dX12_go_74
theorem w_X12_go_26 {σ0 τ : Hp} {r : Int32} (X : SX D cA base p s m args meth c cX12_go 3 (some .int) RX12) (n : Nat)  : ∀ f : Nat, ∀ (v0 : Nat) (v1 : Int32) (v2 : Int32) (σ : Hp) (H : Heap) (locs : List Loc) (ls : Array Slot), hT σ v0 12 → GW D cA base ad σ H → va_S (bA base) s.heap H locs → xT σ0 σ → lv_has ls 3 [(0, .ref (ad v0)), (1, .int v1), (2, .int v2)] → F_X12_go_26 n  f v0 v1 v2 σ = some (r, τ) → W p l e rm_X12_go s m args below meth c H locs 0 0 (ZI below s args D cA base ad σ0 r τ) (F0 m 26 ls []) := by
  intro f
  induction f with
  | zero => intro v0 v1 v2 σ H locs ls h0 hG hS hE hl hF
            rw [F_X12_go_26] at hF; cases hF
  | succ f ih =>
    intro v0 v1 v2 σ H locs ls hT_v0 hG hS hE hl hF
    rw [F_X12_go_26] at hF
    refine lv_iload_n X.1 X.2.1 dX12_go_26 rfl (lv_at hl 2 rfl) ?_
    refine lv_iload_n X.1 X.2.1 dX12_go_27 rfl (lv_at hl 1 rfl) ?_
    refine lv_icmp_ge (tgt := 62) X.1 X.2.1 dX12_go_28 (by decide) (fun hc => ?_) (fun hc => ?_)
    · replace hF := it_t hF hc
      exact w_X12_go_62 X n  v0 σ _ _ ls hT_v0 hG hS hE (lv_sub hl [0] rfl) hF
    · replace hF := it_f hF hc
      refine lv_aload_n X.1 X.2.1 dX12_go_31 rfl (lv_at hl 0 rfl) ?_
      refine lv_aload_n X.1 X.2.1 dX12_go_32 rfl (lv_at hl 0 rfl) ?_
      obtain ⟨i6, hr, hF⟩ := b1_ex hF
      have hT_i6 : hT σ i6 13 := gw_T hG hT_v0 (by decide) hr
      refine gx_get 4 (v := .ref (ad i6)) X hG hT_v0.1 (hT_v0.eq (by decide)) (by decide) rfl inX12 (by decide) k_964 (fun _ h => h) (gx_rfv hr) dX12_go_33 ?_
      refine lv_aload_n X.1 X.2.1 dX12_go_36 rfl (lv_at hl 0 rfl) ?_
      obtain ⟨r8, σ7, hz, hF⟩ := b2_ex hF
      refine gx_rI (gx_runV (As := []) (rest := [.ref (ad i6), .ref (ad v0)]) X hG hS hT_v0.1 (hT_v0.eq (by decide)) (by decide) rfl (c_X12_neededNow l D cA base ad σ n v0 hT_v0 hz) k_1217 k_1214 k_1216 ks_40 k_4 (h_X12_neededNow) rfl rfl ⟨by decide, by decide⟩ rfl hl.1 rfl (Nat.le_of_ble_eq_true rfl) dX12_go_37 ⟨Nat.zero_le _, Nat.zero_le _⟩) hS (fun H locs hG hS hX => ?_)
      have hT_v0 := hX.T hT_v0
      have hT_i6 := hX.T hT_i6
      replace hE := hE.trans hX
      obtain ⟨r10, σ9, hz, hF⟩ := b2_ex hF
      refine gx_rI (gx_runV (As := [.ref (ad i6), .int r8]) (rest := []) X hG hS hT_v0.1 (hT_v0.eq (by decide)) (by decide) rfl (c_X12_endOf l D cA base ad σ7 n v0 i6 r8 hT_v0 hT_i6 hz) k_1224 k_1221 k_1223 ks_41 k_4 (h_X12_endOf) rfl rfl ⟨by decide, by decide⟩ rfl hl.1 rfl (Nat.le_of_ble_eq_true rfl) dX12_go_40 ⟨Nat.zero_le _, Nat.zero_le _⟩) hS (fun H locs hG hS hX => ?_)
      have hT_v0 := hX.T hT_v0
      replace hE := hE.trans hX
      refine lv_bipush (v := (-4)) X.1 X.2.1 dX12_go_43 (by decide) ?_
      refine lv_icmp_ne (tgt := 62) X.1 X.2.1 dX12_go_45 (by decide) (fun hc => ?_) (fun hc => ?_)
      · replace hF := it_f hF hc
        exact w_X12_go_62 X n  v0 σ9 _ _ ls hT_v0 hG hS hE (lv_sub hl [0] rfl) hF
      · replace hF := it_t hF hc
        refine lv_aload_n X.1 X.2.1 dX12_go_48 rfl (lv_at hl 0 rfl) ?_
        refine lv_aload_n X.1 X.2.1 dX12_go_49 rfl (lv_at hl 0 rfl) ?_
        obtain ⟨i11, hr, hF⟩ := b1_ex hF
        have hT_i11 : hT σ9 i11 13 := gw_T hG hT_v0 (by decide) hr
        refine gx_get 4 (v := .ref (ad i11)) X hG hT_v0.1 (hT_v0.eq (by decide)) (by decide) rfl inX12 (by decide) k_964 (fun _ h => h) (gx_rfv hr) dX12_go_50 ?_
        obtain ⟨σ12, hz, hF⟩ := b1_ex hF
        refine gx_rV (gx_runV (As := [.ref (ad i11)]) (rest := []) X hG hS hT_v0.1 (hT_v0.eq (by decide)) (by decide) rfl (c_X12_turn l D cA base ad σ9 n v0 i11 hT_v0 hT_i11 hz) k_1228 k_1225 k_1227 ks_42 k_4 (h_X12_turn) rfl rfl ⟨by decide, by decide⟩ rfl hl.1 rfl (Nat.le_of_ble_eq_true rfl) dX12_go_53 ⟨Nat.zero_le _, Nat.zero_le _⟩) hS (fun H locs hG hS hX => ?_)
        have hT_v0 := hX.T hT_v0
        replace hE := hE.trans hX
        refine lv_iinc (v := v2 + 1) (lv' := [(2, .int (v2 + 1)), (0, .ref (ad v0)), (1, .int v1)]) X.1 X.2.1 dX12_go_56 hl (k := 2) rfl rfl (by decide) rfl (fun ls hl => ?_)
        refine lv_goto (tgt := 26) X.1 X.2.1 dX12_go_59 (by decide) ?_
        exact ih v0 v1 (v2 + 1) σ12 _ _ ls hT_v0 hG hS hE (lv_sub hl [1, 2, 0] rfl) hF
theorem c_X12_go (l : Launch) (D : va_G) (cA : Nat → ClassId) (base : Nat) (ad : Nat → Nat) (σ : Hp) (n : Nat) (a0 : Nat) (a1 : Int32) (hT_a0 : hT σ a0 12) {τ : Hp} {r : Int32} (hF : F_X12_go n a0 a1 σ = some (r, τ)) : MI l yX12_go cX12_go 3 (some .int) rm_X12_go D cA base ad σ [.ref (ad a0), .int a1] r τ := by
  refine Met.ofW (cc := cX12_go) (maxL := 3) (ret := (some .int)) (by decide) rfl ?_
  intro p e s m args below meth c s₁ B hml hv
  obtain ⟨rfl, hv⟩ := hv
  have X : SX D cA base p s m ([.ref (ad a0), .int a1] : List Value).toArray meth c cX12_go 3 (some .int) RX12 := sx_of B hml hv
  have hG := hv.1
  have hS : va_S (bA base) s.heap s.heap [] := va_S.rf
  have hE := xT.rf σ
  have hl := lv_entry ([.ref (ad a0), .int a1]) (n := 3) (Nat.le_of_ble_eq_true rfl)
  rw [lg_entry_eq]
  generalize (lg_sl ([.ref (ad a0), .int a1]) ++ List.replicate (3 - (lg_sl ([.ref (ad a0), .int a1])).length) Slot.unset).toArray = ls at hl ⊢
  have hl : lv_has ls 3 [(0, .ref (ad a0)), (1, .int a1)] := hl
  unfold F_X12_go at hF
  refine lv_iload_n X.1 X.2.1 dX12_go_0 rfl (lv_at hl 1 rfl) ?_
  refine lv_i2l X.1 X.2.1 dX12_go_1 rfl ?_
  refine lv_lconst (v := 1) X.1 X.2.1 dX12_go_2 (by decide) ?_
  refine lv_ldc2 (v := 60) X.1 X.2.1 X.2.2.2.2.2.1 (X.w k_1213) dX12_go_3 ?_
  obtain ⟨r14, σ13, hz, hF⟩ := b2_ex hF
  refine gx_rI (gx_runS (As := [.long a1.toInt64, .long 1, .long 60]) (rest := []) X hG hS (c_X12_isIn l D cA base ad σ n a1.toInt64 1 60 hz) k_1063 k_1061 k_1062 k_4 (h_X12_isIn.2) rfl rfl ⟨by decide, by decide⟩ rfl hl.1 rfl (Nat.le_of_ble_eq_true rfl) dX12_go_6 ⟨Nat.zero_le _, Nat.zero_le _⟩) hS (fun H locs hG hS hX => ?_)
  have hT_a0 := hX.T hT_a0
  replace hE := hE.trans hX
  refine lv_if_ne (tgt := 14) X.1 X.2.1 dX12_go_9 (by decide) (fun hc => ?_) (fun hc => ?_)
  · replace hF := it_f hF hc
    refine lv_aload_n X.1 X.2.1 dX12_go_14 rfl (lv_at hl 0 rfl) ?_
    obtain ⟨r16, σ15, hz, hF⟩ := b2_ex hF
    refine gx_rI (gx_runV (As := []) (rest := []) X hG hS hT_a0.1 (hT_a0.eq (by decide)) (by decide) rfl (c_X12_hasBegun l D cA base ad σ13 n a0 hT_a0 hz) k_1103 k_1100 k_1102 ks_20 k_4 (h_X12_hasBegun) rfl rfl ⟨by decide, by decide⟩ rfl hl.1 rfl (Nat.le_of_ble_eq_true rfl) dX12_go_15 ⟨Nat.zero_le _, Nat.zero_le _⟩) hS (fun H locs hG hS hX => ?_)
    have hT_a0 := hX.T hT_a0
    replace hE := hE.trans hX
    refine lv_if_ne (tgt := 24) X.1 X.2.1 dX12_go_18 (by decide) (fun hc => ?_) (fun hc => ?_)
    · replace hF := it_f hF hc
      refine lv_iconst (v := 0) X.1 X.2.1 dX12_go_24 (by decide) ?_
      refine lv_istore_n (lv' := [(2, .int 0), (0, .ref (ad a0)), (1, .int a1)]) X.1 X.2.1 dX12_go_25 rfl hl (by decide) rfl (fun ls hl => ?_)
      exact w_X12_go_26 X n  n a0 a1 0 σ15 _ _ ls hT_a0 hG hS hE (lv_sub hl [1, 2, 0] rfl) hF
    · replace hF := it_t hF hc
      refine lv_bipush (v := (-3)) X.1 X.2.1 dX12_go_21 (by decide) ?_
      exact gx_iret X hG hS hE hF dX12_go_23
  · replace hF := it_t hF hc
    refine lv_iconst (v := (-1)) X.1 X.2.1 dX12_go_12 (by decide) ?_
    exact gx_iret X hG hS hE hF dX12_go_13
theorem c_X12_talk (l : Launch) (D : va_G) (cA : Nat → ClassId) (base : Nat) (ad : Nat → Nat) (σ : Hp) (n : Nat) (a0 : Nat) (a1 : Int32) (hT_a0 : hT σ a0 12) {τ : Hp} {r : Int32} (hF : F_X12_talk n a0 a1 σ = some (r, τ)) : MI l yX12_talk cX12_talk 2 (some .int) rm_X12_talk D cA base ad σ [.ref (ad a0), .int a1] r τ := by
  refine Met.ofW (cc := cX12_talk) (maxL := 2) (ret := (some .int)) (by decide) rfl ?_
  intro p e s m args below meth c s₁ B hml hv
  obtain ⟨rfl, hv⟩ := hv
  have X : SX D cA base p s m ([.ref (ad a0), .int a1] : List Value).toArray meth c cX12_talk 2 (some .int) RX12 := sx_of B hml hv
  have hG := hv.1
  have hS : va_S (bA base) s.heap s.heap [] := va_S.rf
  have hE := xT.rf σ
  have hl := lv_entry ([.ref (ad a0), .int a1]) (n := 2) (Nat.le_of_ble_eq_true rfl)
  rw [lg_entry_eq]
  generalize (lg_sl ([.ref (ad a0), .int a1]) ++ List.replicate (2 - (lg_sl ([.ref (ad a0), .int a1])).length) Slot.unset).toArray = ls at hl ⊢
  have hl : lv_has ls 2 [(0, .ref (ad a0)), (1, .int a1)] := hl
  unfold F_X12_talk at hF
  refine lv_iload_n X.1 X.2.1 dX12_talk_0 rfl (lv_at hl 1 rfl) ?_
  refine lv_i2l X.1 X.2.1 dX12_talk_1 rfl ?_
  refine lv_lconst (v := 0) X.1 X.2.1 dX12_talk_2 (by decide) ?_
  refine lv_ldc2 (v := 5) X.1 X.2.1 X.2.2.2.2.2.1 (X.w k_1249) dX12_talk_3 ?_
  obtain ⟨r2, σ1, hz, hF⟩ := b2_ex hF
  refine gx_rI (gx_runS (As := [.long a1.toInt64, .long 0, .long 5]) (rest := []) X hG hS (c_X12_isIn l D cA base ad σ n a1.toInt64 0 5 hz) k_1063 k_1061 k_1062 k_4 (h_X12_isIn.2) rfl rfl ⟨by decide, by decide⟩ rfl hl.1 rfl (Nat.le_of_ble_eq_true rfl) dX12_talk_6 ⟨Nat.zero_le _, Nat.zero_le _⟩) hS (fun H locs hG hS hX => ?_)
  have hT_a0 := hX.T hT_a0
  replace hE := hE.trans hX
  refine lv_if_ne (tgt := 14) X.1 X.2.1 dX12_talk_9 (by decide) (fun hc => ?_) (fun hc => ?_)
  · replace hF := it_f hF hc
    refine lv_aload_n X.1 X.2.1 dX12_talk_14 rfl (lv_at hl 0 rfl) ?_
    obtain ⟨r4, σ3, hz, hF⟩ := b2_ex hF
    refine gx_rI (gx_runV (As := []) (rest := []) X hG hS hT_a0.1 (hT_a0.eq (by decide)) (by decide) rfl (c_X12_hasBegun l D cA base ad σ1 n a0 hT_a0 hz) k_1103 k_1100 k_1102 ks_20 k_4 (h_X12_hasBegun) rfl rfl ⟨by decide, by decide⟩ rfl hl.1 rfl (Nat.le_of_ble_eq_true rfl) dX12_talk_15 ⟨Nat.zero_le _, Nat.zero_le _⟩) hS (fun H locs hG hS hX => ?_)
    have hT_a0 := hX.T hT_a0
    replace hE := hE.trans hX
    refine lv_if_ne (tgt := 24) X.1 X.2.1 dX12_talk_18 (by decide) (fun hc => ?_) (fun hc => ?_)
    · replace hF := it_f hF hc
      refine lv_iload_n X.1 X.2.1 dX12_talk_24 rfl (lv_at hl 1 rfl) ?_
      refine lv_iconst (v := 4) X.1 X.2.1 dX12_talk_25 (by decide) ?_
      refine lv_icmp_ge (tgt := 38) X.1 X.2.1 dX12_talk_26 (by decide) (fun hc => ?_) (fun hc => ?_)
      · replace hF := it_t hF hc
        refine lv_iload_n X.1 X.2.1 dX12_talk_38 rfl (lv_at hl 1 rfl) ?_
        refine lv_iconst (v := 4) X.1 X.2.1 dX12_talk_39 (by decide) ?_
        refine lv_icmp_ne (tgt := 54) X.1 X.2.1 dX12_talk_40 (by decide) (fun hc => ?_) (fun hc => ?_)
        · replace hF := it_f hF hc
          refine lv_aload_n X.1 X.2.1 dX12_talk_54 rfl (lv_at hl 0 rfl) ?_
          refine lv_aload_n X.1 X.2.1 dX12_talk_55 rfl (lv_at hl 0 rfl) ?_
          obtain ⟨i5, hr, hF⟩ := b1_ex hF
          have hT_i5 : hT σ3 i5 13 := gw_T hG hT_a0 (by decide) hr
          refine gx_get 4 (v := .ref (ad i5)) X hG hT_a0.1 (hT_a0.eq (by decide)) (by decide) rfl inX12 (by decide) k_964 (fun _ h => h) (gx_rfv hr) dX12_talk_56 ?_
          refine lv_aload_n X.1 X.2.1 dX12_talk_59 rfl (lv_at hl 0 rfl) ?_
          obtain ⟨r7, σ6, hz, hF⟩ := b2_ex hF
          refine gx_rI (gx_runV (As := []) (rest := [.ref (ad i5), .ref (ad a0)]) X hG hS hT_a0.1 (hT_a0.eq (by decide)) (by decide) rfl (c_X12_neededNow l D cA base ad σ3 n a0 hT_a0 hz) k_1217 k_1214 k_1216 ks_40 k_4 (h_X12_neededNow) rfl rfl ⟨by decide, by decide⟩ rfl hl.1 rfl (Nat.le_of_ble_eq_true rfl) dX12_talk_60 ⟨Nat.zero_le _, Nat.zero_le _⟩) hS (fun H locs hG hS hX => ?_)
          have hT_a0 := hX.T hT_a0
          have hT_i5 := hX.T hT_i5
          replace hE := hE.trans hX
          obtain ⟨r9, σ8, hz, hF⟩ := b2_ex hF
          refine gx_rI (gx_runV (As := [.ref (ad i5), .int r7]) (rest := []) X hG hS hT_a0.1 (hT_a0.eq (by decide)) (by decide) rfl (c_X12_endOf l D cA base ad σ6 n a0 i5 r7 hT_a0 hT_i5 hz) k_1224 k_1221 k_1223 ks_41 k_4 (h_X12_endOf) rfl rfl ⟨by decide, by decide⟩ rfl hl.1 rfl (Nat.le_of_ble_eq_true rfl) dX12_talk_63 ⟨Nat.zero_le _, Nat.zero_le _⟩) hS (fun H locs hG hS hX => ?_)
          have hT_a0 := hX.T hT_a0
          replace hE := hE.trans hX
          exact gx_iret X hG hS hE hF dX12_talk_66
        · replace hF := it_t hF hc
          refine lv_aload_n X.1 X.2.1 dX12_talk_43 rfl (lv_at hl 0 rfl) ?_
          refine lv_aload_n X.1 X.2.1 dX12_talk_44 rfl (lv_at hl 0 rfl) ?_
          obtain ⟨i10, hr, hF⟩ := b1_ex hF
          have hT_i10 : hT σ3 i10 13 := gw_T hG hT_a0 (by decide) hr
          refine gx_get 4 (v := .ref (ad i10)) X hG hT_a0.1 (hT_a0.eq (by decide)) (by decide) rfl inX12 (by decide) k_964 (fun _ h => h) (gx_rfv hr) dX12_talk_45 ?_
          obtain ⟨r12, σ11, hz, hF⟩ := b2_ex hF
          refine gx_rI (gx_runV (As := [.ref (ad i10)]) (rest := []) X hG hS hT_a0.1 (hT_a0.eq (by decide)) (by decide) rfl (c_X12_allHold l D cA base ad σ3 n a0 i10 hT_a0 hT_i10 hz) k_1240 k_1237 k_1239 ks_45 k_4 (h_X12_allHold) rfl rfl ⟨by decide, by decide⟩ rfl hl.1 rfl (Nat.le_of_ble_eq_true rfl) dX12_talk_48 ⟨Nat.zero_le _, Nat.zero_le _⟩) hS (fun H locs hG hS hX => ?_)
          have hT_a0 := hX.T hT_a0
          replace hE := hE.trans hX
          refine lv_goto (tgt := 66) X.1 X.2.1 dX12_talk_51 (by decide) ?_
          exact gx_iret X hG hS hE hF dX12_talk_66
      · replace hF := it_f hF hc
        refine lv_aload_n X.1 X.2.1 dX12_talk_29 rfl (lv_at hl 0 rfl) ?_
        obtain ⟨i13, hr, hF⟩ := b1_ex hF
        have hT_i13 : hT σ3 i13 13 := gw_T hG hT_a0 (by decide) hr
        refine gx_get 4 (v := .ref (ad i13)) X hG hT_a0.1 (hT_a0.eq (by decide)) (by decide) rfl inX12 (by decide) k_964 (fun _ h => h) (gx_rfv hr) dX12_talk_30 ?_
        refine lv_iload_n X.1 X.2.1 dX12_talk_33 rfl (lv_at hl 1 rfl) ?_
        refine gx_iald X hG hT_i13 hF dX12_talk_34 (fun hF => ?_)
        refine lv_goto (tgt := 66) X.1 X.2.1 dX12_talk_35 (by decide) ?_
        exact gx_iret X hG hS hE hF dX12_talk_66
    · replace hF := it_t hF hc
      refine lv_bipush (v := (-3)) X.1 X.2.1 dX12_talk_21 (by decide) ?_
      exact gx_iret X hG hS hE hF dX12_talk_23
  · replace hF := it_t hF hc
    refine lv_iconst (v := (-1)) X.1 X.2.1 dX12_talk_12 (by decide) ?_
    exact gx_iret X hG hS hE hF dX12_talk_13
theorem w_X12_slipsOf_4 {σ0 τ : Hp} {r : Int32} (X : SX D cA base p s m args meth c cX12_slipsOf 4 (some .int) RX12) (n : Nat)  : ∀ f : Nat, ∀ (v1 : Nat) (v2 : Int32) (v3 : Int32) (σ : Hp) (H : Heap) (locs : List Loc) (ls : Array Slot), hT σ v1 13 → GW D cA base ad σ H → va_S (bA base) s.heap H locs → xT σ0 σ → lv_has ls 4 [(1, .ref (ad v1)), (2, .int v2), (3, .int v3)] → F_X12_slipsOf_4 n  f v1 v2 v3 σ = some (r, τ) → W p l e rm_X12_slipsOf s m args below meth c H locs 0 0 (ZI below s args D cA base ad σ0 r τ) (F0 m 4 ls []) := by
  intro f
  induction f with
  | zero => intro v1 v2 v3 σ H locs ls h0 hG hS hE hl hF
            rw [F_X12_slipsOf_4] at hF; cases hF
  | succ f ih =>
    intro v1 v2 v3 σ H locs ls hT_v1 hG hS hE hl hF
    rw [F_X12_slipsOf_4] at hF
    refine lv_iload_n X.1 X.2.1 dX12_slipsOf_4 rfl (lv_at hl 2 rfl) ?_
    refine lv_aload_n X.1 X.2.1 dX12_slipsOf_5 rfl (lv_at hl 0 rfl) ?_
    refine lv_iconst (v := 5) X.1 X.2.1 dX12_slipsOf_6 (by decide) ?_
    refine gx_iald X hG hT_v1 hF dX12_slipsOf_7 (fun hF => ?_)
    refine lv_icmp_ge (tgt := 28) X.1 X.2.1 dX12_slipsOf_8 (by decide) (fun hc => ?_) (fun hc => ?_)
    · replace hF := it_t hF hc
      refine lv_iload_n X.1 X.2.1 dX12_slipsOf_28 rfl (lv_at hl 1 rfl) ?_
      exact gx_iret X hG hS hE hF dX12_slipsOf_29
    · replace hF := it_f hF hc
      refine lv_iload_n X.1 X.2.1 dX12_slipsOf_11 rfl (lv_at hl 1 rfl) ?_
      refine lv_aload_n X.1 X.2.1 dX12_slipsOf_12 rfl (lv_at hl 0 rfl) ?_
      refine lv_bipush (v := 43) X.1 X.2.1 dX12_slipsOf_13 (by decide) ?_
      refine lv_iload_n X.1 X.2.1 dX12_slipsOf_15 rfl (lv_at hl 2 rfl) ?_
      refine lv_iadd X.1 X.2.1 dX12_slipsOf_16 ?_
      refine gx_iald X hG hT_v1 hF dX12_slipsOf_17 (fun hF => ?_)
      refine lv_iload_n X.1 X.2.1 dX12_slipsOf_18 rfl (lv_at hl 2 rfl) ?_
      refine lv_ishl X.1 X.2.1 dX12_slipsOf_19 ?_
      refine lv_ior X.1 X.2.1 dX12_slipsOf_20 ?_
      refine lv_topi (fun x1 ex1 => ?_)
      replace hF := lt_nm hF ex1
      refine lv_istore_n (lv' := [(2, .int x1), (1, .ref (ad v1)), (3, .int v3)]) X.1 X.2.1 dX12_slipsOf_21 rfl hl (by decide) rfl (fun ls hl => ?_)
      refine lv_iinc (v := v3 + 1) (lv' := [(3, .int (v3 + 1)), (2, .int x1), (1, .ref (ad v1))]) X.1 X.2.1 dX12_slipsOf_22 hl (k := 2) rfl rfl (by decide) rfl (fun ls hl => ?_)
      refine lv_goto (tgt := 4) X.1 X.2.1 dX12_slipsOf_25 (by decide) ?_
      exact ih v1 x1 (v3 + 1) σ _ _ ls hT_v1 hG hS hE (lv_sub hl [2, 1, 0] rfl) hF
theorem c_X12_slipsOf (l : Launch) (D : va_G) (cA : Nat → ClassId) (base : Nat) (ad : Nat → Nat) (σ : Hp) (n : Nat) (a0 : Nat) (a1 : Nat) (hT_a0 : hT σ a0 12) (hT_a1 : hT σ a1 13) {τ : Hp} {r : Int32} (hF : F_X12_slipsOf n a0 a1 σ = some (r, τ)) : MI l yX12_slipsOf cX12_slipsOf 4 (some .int) rm_X12_slipsOf D cA base ad σ [.ref (ad a0), .ref (ad a1)] r τ := by
  refine Met.ofW (cc := cX12_slipsOf) (maxL := 4) (ret := (some .int)) (by decide) rfl ?_
  intro p e s m args below meth c s₁ B hml hv
  obtain ⟨rfl, hv⟩ := hv
  have X : SX D cA base p s m ([.ref (ad a0), .ref (ad a1)] : List Value).toArray meth c cX12_slipsOf 4 (some .int) RX12 := sx_of B hml hv
  have hG := hv.1
  have hS : va_S (bA base) s.heap s.heap [] := va_S.rf
  have hE := xT.rf σ
  have hl := lv_entry ([.ref (ad a0), .ref (ad a1)]) (n := 4) (Nat.le_of_ble_eq_true rfl)
  rw [lg_entry_eq]
  generalize (lg_sl ([.ref (ad a0), .ref (ad a1)]) ++ List.replicate (4 - (lg_sl ([.ref (ad a0), .ref (ad a1)])).length) Slot.unset).toArray = ls at hl ⊢
  have hl : lv_has ls 4 [(0, .ref (ad a0)), (1, .ref (ad a1))] := hl
  unfold F_X12_slipsOf at hF
  refine lv_iconst (v := 0) X.1 X.2.1 dX12_slipsOf_0 (by decide) ?_
  refine lv_istore_n (lv' := [(2, .int 0), (0, .ref (ad a0)), (1, .ref (ad a1))]) X.1 X.2.1 dX12_slipsOf_1 rfl hl (by decide) rfl (fun ls hl => ?_)
  refine lv_iconst (v := 0) X.1 X.2.1 dX12_slipsOf_2 (by decide) ?_
  refine lv_istore_n (lv' := [(3, .int 0), (2, .int 0), (0, .ref (ad a0)), (1, .ref (ad a1))]) X.1 X.2.1 dX12_slipsOf_3 rfl hl (by decide) rfl (fun ls hl => ?_)
  exact w_X12_slipsOf_4 X n  n a1 0 0 σ _ _ ls hT_a1 hG hS hE (lv_sub hl [3, 1, 0] rfl) hF
theorem w_X12_marks_46 {σ0 τ : Hp} (X : SX D cA base p s m args meth c cX12_marks 4 none RX12) (n : Nat) (K_11 : Nat → Int32 → Int32 → Int32 → Hp → Option Hp) (hK_11 : ∀ (v0 : Nat) (v1 : Int32) (v2 : Int32) (v3 : Int32) (σ : Hp) (H : Heap) (locs : List Loc) (ls : Array Slot), hT σ v0 12 → GW D cA base ad σ H → va_S (bA base) s.heap H locs → xT σ0 σ → lv_has ls 4 [(0, .ref (ad v0)), (1, .int v1), (2, .int v2), (3, .int v3)] → K_11 v0 v1 v2 v3 σ = some τ → W p l e rm_X12_marks s m args below meth c H locs 0 0 (ZV below s args D cA base ad σ0 τ) (F0 m 11 ls [])) : ∀ (v0 : Nat) (v1 : Int32) (v2 : Int32) (v3 : Int32) (σ : Hp) (H : Heap) (locs : List Loc) (ls : Array Slot), hT σ v0 12 → GW D cA base ad σ H → va_S (bA base) s.heap H locs → xT σ0 σ → lv_has ls 4 [(0, .ref (ad v0)), (1, .int v1), (2, .int v2), (3, .int v3)] → F_X12_marks_46 n K_11 v0 v1 v2 v3 σ = some τ → W p l e rm_X12_marks s m args below meth c H locs 0 0 (ZV below s args D cA base ad σ0 τ) (F0 m 46 ls []) := by
  intro v0 v1 v2 v3 σ H locs ls hT_v0 hG hS hE hl hF
  unfold F_X12_marks_46 at hF
  refine lv_iinc (v := v3 + 1) (lv' := [(3, .int (v3 + 1)), (0, .ref (ad v0)), (1, .int v1), (2, .int v2)]) X.1 X.2.1 dX12_marks_46 hl (k := 3) rfl rfl (by decide) rfl (fun ls hl => ?_)
  refine lv_goto (tgt := 11) X.1 X.2.1 dX12_marks_49 (by decide) ?_
  exact hK_11 v0 v1 v2 (v3 + 1) σ _ _ ls hT_v0 hG hS hE (lv_sub hl [1, 2, 3, 0] rfl) hF
theorem w_X12_marks_11 {σ0 τ : Hp} (X : SX D cA base p s m args meth c cX12_marks 4 none RX12) (n : Nat)  : ∀ f : Nat, ∀ (v0 : Nat) (v1 : Int32) (v2 : Int32) (v3 : Int32) (σ : Hp) (H : Heap) (locs : List Loc) (ls : Array Slot), hT σ v0 12 → GW D cA base ad σ H → va_S (bA base) s.heap H locs → xT σ0 σ → lv_has ls 4 [(0, .ref (ad v0)), (1, .int v1), (2, .int v2), (3, .int v3)] → F_X12_marks_11 n  f v0 v1 v2 v3 σ = some τ → W p l e rm_X12_marks s m args below meth c H locs 0 0 (ZV below s args D cA base ad σ0 τ) (F0 m 11 ls []) := by
  intro f
  induction f with
  | zero => intro v0 v1 v2 v3 σ H locs ls h0 hG hS hE hl hF
            rw [F_X12_marks_11] at hF; cases hF
  | succ f ih =>
    intro v0 v1 v2 v3 σ H locs ls hT_v0 hG hS hE hl hF
    rw [F_X12_marks_11] at hF
    refine lv_iload_n X.1 X.2.1 dX12_marks_11 rfl (lv_at hl 3 rfl) ?_
    refine lv_aload_n X.1 X.2.1 dX12_marks_12 rfl (lv_at hl 0 rfl) ?_
    obtain ⟨i1, hr, hF⟩ := b1_ex hF
    have hT_i1 : hT σ i1 13 := gw_T hG hT_v0 (by decide) hr
    refine gx_get 0 (v := .ref (ad i1)) X hG hT_v0.1 (hT_v0.eq (by decide)) (by decide) rfl inX12 (by decide) k_960 (fun _ h => h) (gx_rfv hr) dX12_marks_13 ?_
    refine lv_iconst (v := 0) X.1 X.2.1 dX12_marks_16 (by decide) ?_
    refine gx_iald X hG hT_i1 hF dX12_marks_17 (fun hF => ?_)
    refine lv_icmp_ge (tgt := 52) X.1 X.2.1 dX12_marks_18 (by decide) (fun hc => ?_) (fun hc => ?_)
    · replace hF := it_t hF hc
      exact gx_vret X hG hS hE hF dX12_marks_52
    · replace hF := it_f hF hc
      refine lv_iload_n X.1 X.2.1 dX12_marks_21 rfl (lv_at hl 2 rfl) ?_
      refine lv_iload_n X.1 X.2.1 dX12_marks_22 rfl (lv_at hl 3 rfl) ?_
      refine lv_ishr X.1 X.2.1 dX12_marks_23 ?_
      refine lv_iconst (v := 1) X.1 X.2.1 dX12_marks_24 (by decide) ?_
      refine lv_iand X.1 X.2.1 dX12_marks_25 ?_
      refine lv_iconst (v := 1) X.1 X.2.1 dX12_marks_26 (by decide) ?_
      refine lv_icmp_ne (tgt := 46) X.1 X.2.1 dX12_marks_27 (by decide) (fun hc => ?_) (fun hc => ?_)
      · replace hF := it_f hF hc
        exact w_X12_marks_46 X n (F_X12_marks_11 n  f) ih v0 v1 v2 v3 σ _ _ ls hT_v0 hG hS hE (lv_sub hl [0, 1, 2, 3] rfl) hF
      · replace hF := it_t hF hc
        refine lv_aload_n X.1 X.2.1 dX12_marks_30 rfl (lv_at hl 0 rfl) ?_
        obtain ⟨i2, hr, hF⟩ := b1_ex hF
        have hT_i2 : hT σ i2 13 := gw_T hG hT_v0 (by decide) hr
        refine gx_get 29 (v := .ref (ad i2)) X hG hT_v0.1 (hT_v0.eq (by decide)) (by decide) rfl inX12 (by decide) k_989 (fun _ h => h) (gx_rfv hr) dX12_marks_31 ?_
        refine lv_iload_n X.1 X.2.1 dX12_marks_34 rfl (lv_at hl 3 rfl) ?_
        refine gx_iald X hG hT_i2 hF dX12_marks_35 (fun hF => ?_)
        refine lv_if_ge (tgt := 46) X.1 X.2.1 dX12_marks_36 (by decide) (fun hc => ?_) (fun hc => ?_)
        · replace hF := it_t hF hc
          exact w_X12_marks_46 X n (F_X12_marks_11 n  f) ih v0 v1 v2 v3 σ _ _ ls hT_v0 hG hS hE (lv_sub hl [0, 1, 2, 3] rfl) hF
        · replace hF := it_f hF hc
          refine lv_aload_n X.1 X.2.1 dX12_marks_39 rfl (lv_at hl 0 rfl) ?_
          obtain ⟨i3, hr, hF⟩ := b1_ex hF
          have hT_i3 : hT σ i3 13 := gw_T hG hT_v0 (by decide) hr
          refine gx_get 29 (v := .ref (ad i3)) X hG hT_v0.1 (hT_v0.eq (by decide)) (by decide) rfl inX12 (by decide) k_989 (fun _ h => h) (gx_rfv hr) dX12_marks_40 ?_
          refine lv_iload_n X.1 X.2.1 dX12_marks_43 rfl (lv_at hl 3 rfl) ?_
          refine lv_iload_n X.1 X.2.1 dX12_marks_44 rfl (lv_at hl 1 rfl) ?_
          refine gx_iast X hG hS hT_i3 hF dX12_marks_45 (fun σ4 H locs hG hS hX hF => ?_)
          have hT_v0 := hX.T hT_v0
          replace hE := hE.trans hX
          exact w_X12_marks_46 X n (F_X12_marks_11 n  f) ih v0 v1 v2 v3 σ4 _ _ ls hT_v0 hG hS hE (lv_sub hl [0, 1, 2, 3] rfl) hF
theorem c_X12_marks (l : Launch) (D : va_G) (cA : Nat → ClassId) (base : Nat) (ad : Nat → Nat) (σ : Hp) (n : Nat) (a0 : Nat) (a1 : Int32) (hT_a0 : hT σ a0 12) {τ : Hp} (hF : F_X12_marks n a0 a1 σ = some τ) : MV l yX12_marks cX12_marks 4 rm_X12_marks D cA base ad σ [.ref (ad a0), .int a1] τ := by
  refine Met.ofW (cc := cX12_marks) (maxL := 4) (ret := none) (by decide) rfl ?_
  intro p e s m args below meth c s₁ B hml hv
  obtain ⟨rfl, hv⟩ := hv
  have X : SX D cA base p s m ([.ref (ad a0), .int a1] : List Value).toArray meth c cX12_marks 4 none RX12 := sx_of B hml hv
  have hG := hv.1
  have hS : va_S (bA base) s.heap s.heap [] := va_S.rf
  have hE := xT.rf σ
  have hl := lv_entry ([.ref (ad a0), .int a1]) (n := 4) (Nat.le_of_ble_eq_true rfl)
  rw [lg_entry_eq]
  generalize (lg_sl ([.ref (ad a0), .int a1]) ++ List.replicate (4 - (lg_sl ([.ref (ad a0), .int a1])).length) Slot.unset).toArray = ls at hl ⊢
  have hl : lv_has ls 4 [(0, .ref (ad a0)), (1, .int a1)] := hl
  unfold F_X12_marks at hF
  refine lv_aload_n X.1 X.2.1 dX12_marks_0 rfl (lv_at hl 0 rfl) ?_
  refine lv_aload_n X.1 X.2.1 dX12_marks_1 rfl (lv_at hl 0 rfl) ?_
  obtain ⟨i5, hr, hF⟩ := b1_ex hF
  have hT_i5 : hT σ i5 13 := gw_T hG hT_a0 (by decide) hr
  refine gx_get 5 (v := .ref (ad i5)) X hG hT_a0.1 (hT_a0.eq (by decide)) (by decide) rfl inX12 (by decide) k_965 (fun _ h => h) (gx_rfv hr) dX12_marks_2 ?_
  obtain ⟨r7, σ6, hz, hF⟩ := b2_ex hF
  refine gx_rI (gx_runV (As := [.ref (ad i5)]) (rest := []) X hG hS hT_a0.1 (hT_a0.eq (by decide)) (by decide) rfl (c_X12_allHold l D cA base ad σ n a0 i5 hT_a0 hT_i5 hz) k_1240 k_1237 k_1239 ks_45 k_4 (h_X12_allHold) rfl rfl ⟨by decide, by decide⟩ rfl hl.1 rfl (Nat.le_of_ble_eq_true rfl) dX12_marks_5 ⟨Nat.zero_le _, Nat.zero_le _⟩) hS (fun H locs hG hS hX => ?_)
  have hT_a0 := hX.T hT_a0
  replace hE := hE.trans hX
  refine lv_istore_n (lv' := [(2, .int r7), (0, .ref (ad a0)), (1, .int a1)]) X.1 X.2.1 dX12_marks_8 rfl hl (by decide) rfl (fun ls hl => ?_)
  refine lv_iconst (v := 0) X.1 X.2.1 dX12_marks_9 (by decide) ?_
  refine lv_istore_n (lv' := [(3, .int 0), (2, .int r7), (0, .ref (ad a0)), (1, .int a1)]) X.1 X.2.1 dX12_marks_10 rfl hl (by decide) rfl (fun ls hl => ?_)
  exact w_X12_marks_11 X n  n a0 a1 r7 0 σ6 _ _ ls hT_a0 hG hS hE (lv_sub hl [2, 3, 1, 0] rfl) hF
theorem w_X12_runs_90 {σ0 τ : Hp} {r : Int32} (X : SX D cA base p s m args meth c cX12_runs 6 (some .int) RX12) (n : Nat)  : ∀ f : Nat, ∀ (v0 : Nat) (v2 : Int32) (v4 : Int32) (σ : Hp) (H : Heap) (locs : List Loc) (ls : Array Slot), hT σ v0 12 → GW D cA base ad σ H → va_S (bA base) s.heap H locs → xT σ0 σ → lv_has ls 6 [(0, .ref (ad v0)), (2, .int v2), (4, .int v4)] → F_X12_runs_90 n  f v0 v2 v4 σ = some (r, τ) → W p l e rm_X12_runs s m args below meth c H locs 0 0 (ZI below s args D cA base ad σ0 r τ) (F0 m 90 ls []) := by
  intro f
  induction f with
  | zero => intro v0 v2 v4 σ H locs ls h0 hG hS hE hl hF
            rw [F_X12_runs_90] at hF; cases hF
  | succ f ih =>
    intro v0 v2 v4 σ H locs ls hT_v0 hG hS hE hl hF
    rw [F_X12_runs_90] at hF
    refine lv_iload X.1 X.2.1 dX12_runs_90 (lv_at hl 2 rfl) ?_
    refine lv_bipush (v := (-4)) X.1 X.2.1 dX12_runs_92 (by decide) ?_
    refine lv_icmp_ne (tgt := 133) X.1 X.2.1 dX12_runs_94 (by decide) (fun hc => ?_) (fun hc => ?_)
    · replace hF := it_f hF hc
      refine lv_iload X.1 X.2.1 dX12_runs_133 (lv_at hl 2 rfl) ?_
      exact gx_iret X hG hS hE hF dX12_runs_135
    · replace hF := it_t hF hc
      refine lv_aload_n X.1 X.2.1 dX12_runs_97 rfl (lv_at hl 0 rfl) ?_
      obtain ⟨i1, hr, hF⟩ := b1_ex hF
      have hT_i1 : hT σ i1 13 := gw_T hG hT_v0 (by decide) hr
      refine gx_get 5 (v := .ref (ad i1)) X hG hT_v0.1 (hT_v0.eq (by decide)) (by decide) rfl inX12 (by decide) k_965 (fun _ h => h) (gx_rfv hr) dX12_runs_98 ?_
      refine lv_iconst (v := 0) X.1 X.2.1 dX12_runs_101 (by decide) ?_
      refine gx_iald X hG hT_i1 hF dX12_runs_102 (fun hF => ?_)
      refine lv_istore (lv' := [(5, .int (hI σ i1 (0 : Int32).toNatClampNeg)), (0, .ref (ad v0)), (2, .int v2), (4, .int v4)]) X.1 X.2.1 dX12_runs_103 hl (by decide) rfl (fun ls hl => ?_)
      refine lv_aload_n X.1 X.2.1 dX12_runs_105 rfl (lv_at hl 1 rfl) ?_
      refine lv_aload_n X.1 X.2.1 dX12_runs_106 rfl (lv_at hl 1 rfl) ?_
      obtain ⟨i2, hr, hF⟩ := b1_ex hF
      have hT_i2 : hT σ i2 13 := gw_T hG hT_v0 (by decide) hr
      refine gx_get 5 (v := .ref (ad i2)) X hG hT_v0.1 (hT_v0.eq (by decide)) (by decide) rfl inX12 (by decide) k_965 (fun _ h => h) (gx_rfv hr) dX12_runs_107 ?_
      obtain ⟨σ3, hz, hF⟩ := b1_ex hF
      refine gx_rV (gx_runV (As := [.ref (ad i2)]) (rest := []) X hG hS hT_v0.1 (hT_v0.eq (by decide)) (by decide) rfl (c_X12_turn l D cA base ad σ n v0 i2 hT_v0 hT_i2 hz) k_1228 k_1225 k_1227 ks_42 k_4 (h_X12_turn) rfl rfl ⟨by decide, by decide⟩ rfl hl.1 rfl (Nat.le_of_ble_eq_true rfl) dX12_runs_110 ⟨Nat.zero_le _, Nat.zero_le _⟩) hS (fun H locs hG hS hX => ?_)
      have hT_v0 := hX.T hT_v0
      replace hE := hE.trans hX
      refine lv_aload_n X.1 X.2.1 dX12_runs_113 rfl (lv_at hl 1 rfl) ?_
      refine lv_iload X.1 X.2.1 dX12_runs_114 (lv_at hl 0 rfl) ?_
      obtain ⟨σ4, hz, hF⟩ := b1_ex hF
      refine gx_rV (gx_runV (As := [.int (hI σ i1 (0 : Int32).toNatClampNeg)]) (rest := []) X hG hS hT_v0.1 (hT_v0.eq (by decide)) (by decide) rfl (c_X12_marks l D cA base ad σ3 n v0 (hI σ i1 (0 : Int32).toNatClampNeg) hT_v0 hz) k_1282 k_1279 k_1281 ks_52 k_4 (h_X12_marks) rfl rfl ⟨by decide, by decide⟩ rfl hl.1 rfl (Nat.le_of_ble_eq_true rfl) dX12_runs_116 ⟨Nat.zero_le _, Nat.zero_le _⟩) hS (fun H locs hG hS hX => ?_)
      have hT_v0 := hX.T hT_v0
      replace hE := hE.trans hX
      refine lv_aload_n X.1 X.2.1 dX12_runs_119 rfl (lv_at hl 1 rfl) ?_
      refine lv_aload_n X.1 X.2.1 dX12_runs_120 rfl (lv_at hl 1 rfl) ?_
      obtain ⟨i5, hr, hF⟩ := b1_ex hF
      have hT_i5 : hT σ4 i5 13 := gw_T hG hT_v0 (by decide) hr
      refine gx_get 5 (v := .ref (ad i5)) X hG hT_v0.1 (hT_v0.eq (by decide)) (by decide) rfl inX12 (by decide) k_965 (fun _ h => h) (gx_rfv hr) dX12_runs_121 ?_
      refine lv_iload_n X.1 X.2.1 dX12_runs_124 rfl (lv_at hl 2 rfl) ?_
      obtain ⟨r7, σ6, hz, hF⟩ := b2_ex hF
      refine gx_rI (gx_runV (As := [.ref (ad i5), .int v2]) (rest := []) X hG hS hT_v0.1 (hT_v0.eq (by decide)) (by decide) rfl (c_X12_endOf l D cA base ad σ4 n v0 i5 v2 hT_v0 hT_i5 hz) k_1224 k_1221 k_1223 ks_41 k_4 (h_X12_endOf) rfl rfl ⟨by decide, by decide⟩ rfl hl.1 rfl (Nat.le_of_ble_eq_true rfl) dX12_runs_125 ⟨Nat.zero_le _, Nat.zero_le _⟩) hS (fun H locs hG hS hX => ?_)
      have hT_v0 := hX.T hT_v0
      replace hE := hE.trans hX
      refine lv_istore (lv' := [(4, .int r7), (5, .int (hI σ i1 (0 : Int32).toNatClampNeg)), (0, .ref (ad v0)), (2, .int v2)]) X.1 X.2.1 dX12_runs_128 hl (by decide) rfl (fun ls hl => ?_)
      refine lv_goto (tgt := 90) X.1 X.2.1 dX12_runs_130 (by decide) ?_
      exact ih v0 v2 r7 σ6 _ _ ls hT_v0 hG hS hE (lv_sub hl [2, 3, 0] rfl) hF
theorem w_X12_runs_74 {σ0 τ : Hp} {r : Int32} (X : SX D cA base p s m args meth c cX12_runs 6 (some .int) RX12) (n : Nat)  : ∀ (v0 : Nat) (v2 : Int32) (σ : Hp) (H : Heap) (locs : List Loc) (ls : Array Slot), hT σ v0 12 → GW D cA base ad σ H → va_S (bA base) s.heap H locs → xT σ0 σ → lv_has ls 6 [(0, .ref (ad v0)), (2, .int v2)] → F_X12_runs_74 n  v0 v2 σ = some (r, τ) → W p l e rm_X12_runs s m args below meth c H locs 0 0 (ZI below s args D cA base ad σ0 r τ) (F0 m 74 ls []) := by
  intro v0 v2 σ H locs ls hT_v0 hG hS hE hl hF
  unfold F_X12_runs_74 at hF
  refine lv_aload_n X.1 X.2.1 dX12_runs_74 rfl (lv_at hl 0 rfl) ?_
  refine lv_iconst (v := 0) X.1 X.2.1 dX12_runs_75 (by decide) ?_
  obtain ⟨σ8, hz, hF⟩ := b1_ex hF
  refine gx_rV (gx_runV (As := [.int 0]) (rest := []) X hG hS hT_v0.1 (hT_v0.eq (by decide)) (by decide) rfl (c_X12_marks l D cA base ad σ n v0 0 hT_v0 hz) k_1282 k_1279 k_1281 ks_52 k_4 (h_X12_marks) rfl rfl ⟨by decide, by decide⟩ rfl hl.1 rfl (Nat.le_of_ble_eq_true rfl) dX12_runs_76 ⟨Nat.zero_le _, Nat.zero_le _⟩) hS (fun H locs hG hS hX => ?_)
  have hT_v0 := hX.T hT_v0
  replace hE := hE.trans hX
  refine lv_aload_n X.1 X.2.1 dX12_runs_79 rfl (lv_at hl 0 rfl) ?_
  refine lv_aload_n X.1 X.2.1 dX12_runs_80 rfl (lv_at hl 0 rfl) ?_
  obtain ⟨i9, hr, hF⟩ := b1_ex hF
  have hT_i9 : hT σ8 i9 13 := gw_T hG hT_v0 (by decide) hr
  refine gx_get 5 (v := .ref (ad i9)) X hG hT_v0.1 (hT_v0.eq (by decide)) (by decide) rfl inX12 (by decide) k_965 (fun _ h => h) (gx_rfv hr) dX12_runs_81 ?_
  refine lv_iload_n X.1 X.2.1 dX12_runs_84 rfl (lv_at hl 1 rfl) ?_
  obtain ⟨r11, σ10, hz, hF⟩ := b2_ex hF
  refine gx_rI (gx_runV (As := [.ref (ad i9), .int v2]) (rest := []) X hG hS hT_v0.1 (hT_v0.eq (by decide)) (by decide) rfl (c_X12_endOf l D cA base ad σ8 n v0 i9 v2 hT_v0 hT_i9 hz) k_1224 k_1221 k_1223 ks_41 k_4 (h_X12_endOf) rfl rfl ⟨by decide, by decide⟩ rfl hl.1 rfl (Nat.le_of_ble_eq_true rfl) dX12_runs_85 ⟨Nat.zero_le _, Nat.zero_le _⟩) hS (fun H locs hG hS hX => ?_)
  have hT_v0 := hX.T hT_v0
  replace hE := hE.trans hX
  refine lv_istore (lv' := [(4, .int r11), (0, .ref (ad v0)), (2, .int v2)]) X.1 X.2.1 dX12_runs_88 hl (by decide) rfl (fun ls hl => ?_)
  exact w_X12_runs_90 X n  n v0 v2 r11 σ10 _ _ ls hT_v0 hG hS hE (lv_sub hl [1, 2, 0] rfl) hF
theorem w_X12_runs_35 {σ0 τ : Hp} {r : Int32} (X : SX D cA base p s m args meth c cX12_runs 6 (some .int) RX12) (n : Nat)  : ∀ f : Nat, ∀ (v0 : Nat) (v2 : Int32) (v4 : Int32) (σ : Hp) (H : Heap) (locs : List Loc) (ls : Array Slot), hT σ v0 12 → GW D cA base ad σ H → va_S (bA base) s.heap H locs → xT σ0 σ → lv_has ls 6 [(0, .ref (ad v0)), (2, .int v2), (4, .int v4)] → F_X12_runs_35 n  f v0 v2 v4 σ = some (r, τ) → W p l e rm_X12_runs s m args below meth c H locs 0 0 (ZI below s args D cA base ad σ0 r τ) (F0 m 35 ls []) := by
  intro f
  induction f with
  | zero => intro v0 v2 v4 σ H locs ls h0 hG hS hE hl hF
            rw [F_X12_runs_35] at hF; cases hF
  | succ f ih =>
    intro v0 v2 v4 σ H locs ls hT_v0 hG hS hE hl hF
    rw [F_X12_runs_35] at hF
    refine lv_iload X.1 X.2.1 dX12_runs_35 (lv_at hl 2 rfl) ?_
    refine lv_bipush (v := 12) X.1 X.2.1 dX12_runs_37 (by decide) ?_
    refine lv_icmp_ge (tgt := 74) X.1 X.2.1 dX12_runs_39 (by decide) (fun hc => ?_) (fun hc => ?_)
    · replace hF := it_t hF hc
      exact w_X12_runs_74 X n  v0 v2 σ _ _ ls hT_v0 hG hS hE (lv_sub hl [0, 1] rfl) hF
    · replace hF := it_f hF hc
      refine lv_aload_n X.1 X.2.1 dX12_runs_42 rfl (lv_at hl 0 rfl) ?_
      obtain ⟨i12, hr, hF⟩ := b1_ex hF
      have hT_i12 : hT σ i12 13 := gw_T hG hT_v0 (by decide) hr
      refine gx_get 28 (v := .ref (ad i12)) X hG hT_v0.1 (hT_v0.eq (by decide)) (by decide) rfl inX12 (by decide) k_988 (fun _ h => h) (gx_rfv hr) dX12_runs_43 ?_
      refine lv_iload X.1 X.2.1 dX12_runs_46 (lv_at hl 2 rfl) ?_
      refine lv_aload_n X.1 X.2.1 dX12_runs_48 rfl (lv_at hl 0 rfl) ?_
      obtain ⟨i13, hr, hF⟩ := b1_ex hF
      have hT_i13 : hT σ i13 13 := gw_T hG hT_v0 (by decide) hr
      refine gx_get 5 (v := .ref (ad i13)) X hG hT_v0.1 (hT_v0.eq (by decide)) (by decide) rfl inX12 (by decide) k_965 (fun _ h => h) (gx_rfv hr) dX12_runs_49 ?_
      refine lv_bipush (v := 31) X.1 X.2.1 dX12_runs_52 (by decide) ?_
      refine lv_iload X.1 X.2.1 dX12_runs_54 (lv_at hl 2 rfl) ?_
      refine lv_iadd X.1 X.2.1 dX12_runs_56 ?_
      refine gx_iald X hG hT_i13 hF dX12_runs_57 (fun hF => ?_)
      refine gx_iast X hG hS hT_i12 hF dX12_runs_58 (fun σ14 H locs hG hS hX hF => ?_)
      have hT_v0 := hX.T hT_v0
      replace hE := hE.trans hX
      refine lv_aload_n X.1 X.2.1 dX12_runs_59 rfl (lv_at hl 0 rfl) ?_
      obtain ⟨i15, hr, hF⟩ := b1_ex hF
      have hT_i15 : hT σ14 i15 13 := gw_T hG hT_v0 (by decide) hr
      refine gx_get 29 (v := .ref (ad i15)) X hG hT_v0.1 (hT_v0.eq (by decide)) (by decide) rfl inX12 (by decide) k_989 (fun _ h => h) (gx_rfv hr) dX12_runs_60 ?_
      refine lv_iload X.1 X.2.1 dX12_runs_63 (lv_at hl 2 rfl) ?_
      refine lv_bipush (v := (-4)) X.1 X.2.1 dX12_runs_65 (by decide) ?_
      refine gx_iast X hG hS hT_i15 hF dX12_runs_67 (fun σ16 H locs hG hS hX hF => ?_)
      have hT_v0 := hX.T hT_v0
      replace hE := hE.trans hX
      refine lv_iinc (v := v4 + 1) (lv' := [(4, .int (v4 + 1)), (0, .ref (ad v0)), (2, .int v2)]) X.1 X.2.1 dX12_runs_68 hl (k := 2) rfl rfl (by decide) rfl (fun ls hl => ?_)
      refine lv_goto (tgt := 35) X.1 X.2.1 dX12_runs_71 (by decide) ?_
      exact ih v0 v2 (v4 + 1) σ16 _ _ ls hT_v0 hG hS hE (lv_sub hl [1, 2, 0] rfl) hF
theorem c_X12_runs (l : Launch) (D : va_G) (cA : Nat → ClassId) (base : Nat) (ad : Nat → Nat) (σ : Hp) (n : Nat) (a0 : Nat) (a1 : Int32) (a2 : Int32) (a3 : Int32) (hT_a0 : hT σ a0 12) {τ : Hp} {r : Int32} (hF : F_X12_runs n a0 a1 a2 a3 σ = some (r, τ)) : MI l yX12_runs cX12_runs 6 (some .int) rm_X12_runs D cA base ad σ [.ref (ad a0), .int a1, .int a2, .int a3] r τ := by
  refine Met.ofW (cc := cX12_runs) (maxL := 6) (ret := (some .int)) (by decide) rfl ?_
  intro p e s m args below meth c s₁ B hml hv
  obtain ⟨rfl, hv⟩ := hv
  have X : SX D cA base p s m ([.ref (ad a0), .int a1, .int a2, .int a3] : List Value).toArray meth c cX12_runs 6 (some .int) RX12 := sx_of B hml hv
  have hG := hv.1
  have hS : va_S (bA base) s.heap s.heap [] := va_S.rf
  have hE := xT.rf σ
  have hl := lv_entry ([.ref (ad a0), .int a1, .int a2, .int a3]) (n := 6) (Nat.le_of_ble_eq_true rfl)
  rw [lg_entry_eq]
  generalize (lg_sl ([.ref (ad a0), .int a1, .int a2, .int a3]) ++ List.replicate (6 - (lg_sl ([.ref (ad a0), .int a1, .int a2, .int a3])).length) Slot.unset).toArray = ls at hl ⊢
  have hl : lv_has ls 6 [(0, .ref (ad a0)), (1, .int a1), (2, .int a2), (3, .int a3)] := hl
  unfold F_X12_runs at hF
  refine lv_aload_n X.1 X.2.1 dX12_runs_0 rfl (lv_at hl 0 rfl) ?_
  refine lv_aload_n X.1 X.2.1 dX12_runs_1 rfl (lv_at hl 0 rfl) ?_
  obtain ⟨i17, hr, hF⟩ := b1_ex hF
  have hT_i17 : hT σ i17 13 := gw_T hG hT_a0 (by decide) hr
  refine gx_get 5 (v := .ref (ad i17)) X hG hT_a0.1 (hT_a0.eq (by decide)) (by decide) rfl inX12 (by decide) k_965 (fun _ h => h) (gx_rfv hr) dX12_runs_2 ?_
  refine lv_iload_n X.1 X.2.1 dX12_runs_5 rfl (lv_at hl 1 rfl) ?_
  refine lv_iload_n X.1 X.2.1 dX12_runs_6 rfl (lv_at hl 3 rfl) ?_
  obtain ⟨σ18, hz, hF⟩ := b1_ex hF
  refine gx_rV (gx_runV (As := [.ref (ad i17), .int a1, .int a3]) (rest := []) X hG hS hT_a0.1 (hT_a0.eq (by decide)) (by decide) rfl (c_X12_begins l D cA base ad σ n a0 i17 a1 a3 hT_a0 hT_i17 hz) k_1196 k_1193 k_1195 ks_36 k_4 (h_X12_begins) rfl rfl ⟨by decide, by decide⟩ rfl hl.1 rfl (Nat.le_of_ble_eq_true rfl) dX12_runs_7 ⟨Nat.zero_le _, Nat.zero_le _⟩) hS (fun H locs hG hS hX => ?_)
  have hT_a0 := hX.T hT_a0
  replace hE := hE.trans hX
  refine lv_aload_n X.1 X.2.1 dX12_runs_10 rfl (lv_at hl 0 rfl) ?_
  refine lv_aload_n X.1 X.2.1 dX12_runs_11 rfl (lv_at hl 0 rfl) ?_
  obtain ⟨i19, hr, hF⟩ := b1_ex hF
  have hT_i19 : hT σ18 i19 13 := gw_T hG hT_a0 (by decide) hr
  refine gx_get 5 (v := .ref (ad i19)) X hG hT_a0.1 (hT_a0.eq (by decide)) (by decide) rfl inX12 (by decide) k_965 (fun _ h => h) (gx_rfv hr) dX12_runs_12 ?_
  refine lv_iconst (v := 1) X.1 X.2.1 dX12_runs_15 (by decide) ?_
  refine gx_iald X hG hT_i19 hF dX12_runs_16 (fun hF => ?_)
  refine gx_putI 26  X hG hS hT_a0.1 (hT_a0.eq (by decide)) (by decide) rfl inX12 tyX12_ok nmX12 (by decide) k_986 (fun _ h => h) rfl rfl rfl rfl (Nat.le_of_ble_eq_true rfl) dX12_runs_17 hF (fun σ20 H locs hG hS hX hF => ?_)
  have hT_a0 := hX.T hT_a0
  replace hE := hE.trans hX
  refine lv_aload_n X.1 X.2.1 dX12_runs_20 rfl (lv_at hl 0 rfl) ?_
  refine lv_aload_n X.1 X.2.1 dX12_runs_21 rfl (lv_at hl 0 rfl) ?_
  refine lv_aload_n X.1 X.2.1 dX12_runs_22 rfl (lv_at hl 0 rfl) ?_
  obtain ⟨i21, hr, hF⟩ := b1_ex hF
  have hT_i21 : hT σ20 i21 13 := gw_T hG hT_a0 (by decide) hr
  refine gx_get 5 (v := .ref (ad i21)) X hG hT_a0.1 (hT_a0.eq (by decide)) (by decide) rfl inX12 (by decide) k_965 (fun _ h => h) (gx_rfv hr) dX12_runs_23 ?_
  obtain ⟨r23, σ22, hz, hF⟩ := b2_ex hF
  refine gx_rI (gx_runV (As := [.ref (ad i21)]) (rest := [.ref (ad a0)]) X hG hS hT_a0.1 (hT_a0.eq (by decide)) (by decide) rfl (c_X12_slipsOf l D cA base ad σ20 n a0 i21 hT_a0 hT_i21 hz) k_1278 k_1275 k_1277 ks_51 k_4 (h_X12_slipsOf) rfl rfl ⟨by decide, by decide⟩ rfl hl.1 rfl (Nat.le_of_ble_eq_true rfl) dX12_runs_26 ⟨Nat.zero_le _, Nat.zero_le _⟩) hS (fun H locs hG hS hX => ?_)
  have hT_a0 := hX.T hT_a0
  replace hE := hE.trans hX
  refine gx_putI 27  X hG hS hT_a0.1 (hT_a0.eq (by decide)) (by decide) rfl inX12 tyX12_ok nmX12 (by decide) k_987 (fun _ h => h) rfl rfl rfl rfl (Nat.le_of_ble_eq_true rfl) dX12_runs_29 hF (fun σ24 H locs hG hS hX hF => ?_)
  have hT_a0 := hX.T hT_a0
  replace hE := hE.trans hX
  refine lv_iconst (v := 0) X.1 X.2.1 dX12_runs_32 (by decide) ?_
  refine lv_istore (lv' := [(4, .int 0), (0, .ref (ad a0)), (1, .int a1), (2, .int a2), (3, .int a3)]) X.1 X.2.1 dX12_runs_33 hl (by decide) rfl (fun ls hl => ?_)
  exact w_X12_runs_35 X n  n a0 a2 0 σ24 _ _ ls hT_a0 hG hS hE (lv_sub hl [1, 3, 0] rfl) hF
end W_model8
