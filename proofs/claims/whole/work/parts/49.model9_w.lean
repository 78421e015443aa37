/-! model9: printed by wip/whole/gen.py -/
section W_model9
variable {p : Program} {l : Launch} {e : Env} {s : State} {m : MethodId} {args : Array Value} {below : List Frame} {meth : Method} {c : Code} {D : va_G} {cA : Nat → ClassId} {base : Nat} {ad : Nat → Nat}
abbrev rm_X12_runAll : Room := { frames := 37, cells := 0, slots := 0, locals := 878 }
theorem h_X12_runAll : yX12_runAll.cls = RX12 ∧ yX12_runAll.cls ≠ "java/lang/invoke/MethodHandle" ∧ yX12_runAll.cls ≠ "java/lang/invoke/VarHandle" ∧ (parseMethodDescriptor yX12_runAll.desc).map (fun d => d.parameters.length) = some 1 := by decide +kernel
def F_X12_runAll_44 (n : Nat)  (s0 : Int32) (s1 : Int32) (s2 : Int32) (s3 : Nat) (σ : Hp) : Option (Int32 × Hp) := b2 (F_X12_runs n s3 s2 s1 s0 σ) fun (r2 : Int32) (σ1 : Hp) => some (r2, σ1)
def F_X12_runAll (n : Nat) (a0 : Nat) (a1 : Int32) (σ : Hp) : Option (Int32 × Hp) := b1 (hR σ a0 5) fun (i3 : Nat) => b1 (F_X12_takesAll n a0 i3 σ) fun (σ4 : Hp) => b1 (hR σ4 a0 0) fun (i5 : Nat) => ck (¬ ((1 : Int32) < 0 ∨ hL σ4 i5 ≤ (1 : Int32).toNatClampNeg)) (b2 (F_X12_leaderOf n a0 (hI σ4 i5 (1 : Int32).toNatClampNeg) σ4) fun (r7 : Int32) (σ6 : Hp) => b1 (hR σ6 a0 0) fun (i8 : Nat) => ck (¬ ((1 : Int32) < 0 ∨ hL σ6 i8 ≤ (1 : Int32).toNatClampNeg)) (b2 (F_X12_lesser n a1 (hI σ6 i8 (1 : Int32).toNatClampNeg) σ6) fun (r10 : Int32) (σ9 : Hp) => b1 (hR σ9 a0 0) fun (i11 : Nat) => ck (¬ ((5 : Int32) < 0 ∨ hL σ9 i11 ≤ (5 : Int32).toNatClampNeg)) (if (hI σ9 i11 (5 : Int32).toNatClampNeg) = 1 then (F_X12_runAll_44 n  1 r10 r7 a0 σ9) else (F_X12_runAll_44 n  0 r10 r7 a0 σ9))))
abbrev rm_X12_runNow : Room := { frames := 38, cells := 0, slots := 0, locals := 899 }
theorem h_X12_runNow : yX12_runNow.cls = RX12 ∧ yX12_runNow.cls ≠ "java/lang/invoke/MethodHandle" ∧ yX12_runNow.cls ≠ "java/lang/invoke/VarHandle" ∧ (parseMethodDescriptor yX12_runNow.desc).map (fun d => d.parameters.length) = some 0 := by decide +kernel
def F_X12_runNow (n : Nat) (a0 : Nat) (σ : Hp) : Option (Int32 × Hp) := b1 (hR σ a0 0) fun (i1 : Nat) => ck (¬ ((3 : Int32) < 0 ∨ hL σ i1 ≤ (3 : Int32).toNatClampNeg)) (b2 (F_X12_runAll n a0 (hI σ i1 (3 : Int32).toNatClampNeg) σ) fun (r3 : Int32) (σ2 : Hp) => some (r3, σ2))
abbrev rm_X12_run : Room := { frames := 39, cells := 0, slots := 0, locals := 919 }
theorem h_X12_run : yX12_run.cls = RX12 ∧ yX12_run.cls ≠ "java/lang/invoke/MethodHandle" ∧ yX12_run.cls ≠ "java/lang/invoke/VarHandle" ∧ (parseMethodDescriptor yX12_run.desc).map (fun d => d.parameters.length) = some 1 := by decide +kernel
def F_X12_run (n : Nat) (a0 : Nat) (a1 : Int32) (σ : Hp) : Option (Int32 × Hp) := b2 (F_X12_isIn n a1.toInt64 0 4 σ) fun (r2 : Int32) (σ1 : Hp) => if r2 = 0 then (some ((-1), σ1)) else (b1 (hR σ1 a0 0) fun (i3 : Nat) => ck (¬ ((1 : Int32) < 0 ∨ hL σ1 i3 ≤ (1 : Int32).toNatClampNeg)) (if (hI σ1 i3 (1 : Int32).toNatClampNeg) = 0 then (some ((-3), σ1)) else (b2 (F_X12_runNow n a0 σ1) fun (r5 : Int32) (σ4 : Hp) => if a1 = 0 then (some (r5, σ4)) else (if a1 = 1 then (b1 (hR σ4 a0 5) fun (i7 : Nat) => ck (¬ ((0 : Int32) < 0 ∨ hL σ4 i7 ≤ (0 : Int32).toNatClampNeg)) (some (hI σ4 i7 (0 : Int32).toNatClampNeg, σ4))) else (if a1 = 2 then (b1 (hR σ4 a0 5) fun (i8 : Nat) => ck (¬ ((3 : Int32) < 0 ∨ hL σ4 i8 ≤ (3 : Int32).toNatClampNeg)) (some (hI σ4 i8 (3 : Int32).toNatClampNeg, σ4))) else (if a1 = 3 then (some (hI σ4 a0 26, σ4)) else (b1 (hR σ4 a0 5) fun (i6 : Nat) => ck (¬ ((1 : Int32) < 0 ∨ hL σ4 i6 ≤ (1 : Int32).toNatClampNeg)) (some (hI σ4 i6 (1 : Int32).toNatClampNeg, σ4)))))))))
abbrev rm_X12_slips : Room := { frames := 39, cells := 0, slots := 0, locals := 919 }
theorem h_X12_slips : yX12_slips.cls = RX12 ∧ yX12_slips.cls ≠ "java/lang/invoke/MethodHandle" ∧ yX12_slips.cls ≠ "java/lang/invoke/VarHandle" ∧ (parseMethodDescriptor yX12_slips.desc).map (fun d => d.parameters.length) = some 1 := by decide +kernel
def F_X12_slips (n : Nat) (a0 : Nat) (a1 : Int32) (σ : Hp) : Option (Int32 × Hp) := b1 (hR σ a0 0) fun (i1 : Nat) => ck (¬ ((1 : Int32) < 0 ∨ hL σ i1 ≤ (1 : Int32).toNatClampNeg)) (if (hI σ i1 (1 : Int32).toNatClampNeg) = 0 then (some ((-3), σ)) else (b2 (F_X12_runNow n a0 σ) fun (r3 : Int32) (σ2 : Hp) => if a1 = 0 then (b1 (hR σ2 a0 5) fun (i4 : Nat) => b2 (F_X12_slipsOf n a0 i4 σ2) fun (r6 : Int32) (σ5 : Hp) => some (r6, σ5)) else (some (hI σ2 a0 27, σ2))))
abbrev rm_X12_moved : Room := { frames := 39, cells := 0, slots := 0, locals := 919 }
theorem h_X12_moved : yX12_moved.cls = RX12 ∧ yX12_moved.cls ≠ "java/lang/invoke/MethodHandle" ∧ yX12_moved.cls ≠ "java/lang/invoke/VarHandle" ∧ (parseMethodDescriptor yX12_moved.desc).map (fun d => d.parameters.length) = some 2 := by decide +kernel
def F_X12_moved (n : Nat) (a0 : Nat) (a1 : Int32) (a2 : Int32) (σ : Hp) : Option (Int32 × Hp) := b2 (F_X12_isJuror n a0 a1 σ) fun (r2 : Int32) (σ1 : Hp) => if r2 = 0 then (some ((-1000000001), σ1)) else (b2 (F_X12_isIn n a2.toInt64 0 2 σ1) fun (r4 : Int32) (σ3 : Hp) => if r4 = 0 then (some ((-1000000001), σ3)) else (b2 (F_X12_runNow n a0 σ3) fun (r6 : Int32) (σ5 : Hp) => if a2 = 0 then (b1 (hR σ5 a0 5) fun (i10 : Nat) => ck (¬ ((19 + a1) < 0 ∨ hL σ5 i10 ≤ (19 + a1).toNatClampNeg)) (b2 (F_X12_speaksOf n a0 (hI σ5 i10 (19 + a1).toNatClampNeg) σ5) fun (r12 : Int32) (σ11 : Hp) => b2 (F_X12_get n a0 a1 6 σ11) fun (r14 : Int32) (σ13 : Hp) => b2 (F_X12_speaksOf n a0 r14 σ13) fun (r16 : Int32) (σ15 : Hp) => some (r12 - r16, σ15))) else (if a2 = 1 then (b1 (hR σ5 a0 5) fun (i8 : Nat) => ck (¬ ((31 + a1) < 0 ∨ hL σ5 i8 ≤ (31 + a1).toNatClampNeg)) (b1 (hR σ5 a0 28) fun (i9 : Nat) => ck (¬ (a1 < 0 ∨ hL σ5 i9 ≤ a1.toNatClampNeg)) (some ((hI σ5 i8 (31 + a1).toNatClampNeg) - (hI σ5 i9 a1.toNatClampNeg), σ5)))) else (b1 (hR σ5 a0 5) fun (i7 : Nat) => ck (¬ ((55 + a1) < 0 ∨ hL σ5 i7 ≤ (55 + a1).toNatClampNeg)) (if (hI σ5 i7 (55 + a1).toNatClampNeg) ≤ 0 then (some (0, σ5)) else (some (1, σ5)))))))
abbrev rm_X12_out : Room := { frames := 39, cells := 0, slots := 0, locals := 919 }
theorem h_X12_out : yX12_out.cls = RX12 ∧ yX12_out.cls ≠ "java/lang/invoke/MethodHandle" ∧ yX12_out.cls ≠ "java/lang/invoke/VarHandle" ∧ (parseMethodDescriptor yX12_out.desc).map (fun d => d.parameters.length) = some 1 := by decide +kernel
def F_X12_out (n : Nat) (a0 : Nat) (a1 : Int32) (σ : Hp) : Option (Int32 × Hp) := b1 (hR σ a0 0) fun (i1 : Nat) => ck (¬ ((0 : Int32) < 0 ∨ hL σ i1 ≤ (0 : Int32).toNatClampNeg)) (b2 (F_X12_isIn n a1.toInt64 0 (((hI σ i1 (0 : Int32).toNatClampNeg) - 1).toInt64) σ) fun (r3 : Int32) (σ2 : Hp) => if r3 = 0 then (some ((-1), σ2)) else (b1 (hR σ2 a0 0) fun (i4 : Nat) => ck (¬ ((1 : Int32) < 0 ∨ hL σ2 i4 ≤ (1 : Int32).toNatClampNeg)) (if (hI σ2 i4 (1 : Int32).toNatClampNeg) = 0 then (some ((-3), σ2)) else (b2 (F_X12_runNow n a0 σ2) fun (r6 : Int32) (σ5 : Hp) => b1 (hR σ5 a0 29) fun (i7 : Nat) => ck (¬ (a1 < 0 ∨ hL σ5 i7 ≤ a1.toNatClampNeg)) (some (hI σ5 i7 a1.toNatClampNeg, σ5))))))
abbrev rm_X12_one : Room := { frames := 1, cells := 0, slots := 0, locals := 22 }
theorem h_X12_one : yX12_one.cls = RX12 ∧ yX12_one.cls ≠ "java/lang/invoke/MethodHandle" ∧ yX12_one.cls ≠ "java/lang/invoke/VarHandle" ∧ (parseMethodDescriptor yX12_one.desc).map (fun d => d.parameters.length) = some 0 := by decide +kernel
def F_X12_one_44 (n : Nat)  (v1 : Int32) (v2 : Int32) (σ : Hp) : Option (Int32 × Hp) := some (v1 &&& (v2 ^^^ (-1)), σ)
def F_X12_one_6 (n : Nat)  : Nat → Nat → Int32 → Int32 → Int32 → Hp → Option (Int32 × Hp)
  | 0, _, _, _, _, _ => none
  | f + 1, v0, v1, v2, v3, σ => b1 (hR σ v0 0) fun (i1 : Nat) => ck (¬ ((1 : Int32) < 0 ∨ hL σ i1 ≤ (1 : Int32).toNatClampNeg)) (if (hI σ i1 (1 : Int32).toNatClampNeg) ≤ v3 then (F_X12_one_44 n  v1 v2 σ) else (b2 (F_X12_get n v0 v3 6 σ) fun (r3 : Int32) (σ2 : Hp) => b2 (F_X12_get n v0 v3 6 σ2) fun (r5 : Int32) (σ4 : Hp) => (F_X12_one_6 n  f) v0 (v1 ||| r5) (v2 ||| (v1 &&& r3)) (v3 + 1) σ4))
def F_X12_one (n : Nat) (a0 : Nat) (σ : Hp) : Option (Int32 × Hp) := F_X12_one_6 n  n a0 0 0 0 σ
theorem w_X12_runAll_44 {σ0 τ : Hp} {r : Int32} (X : SX D cA base p s m args meth c cX12_runAll 2 (some .int) RX12) (n : Nat)  : ∀ (s0 : Int32) (s1 : Int32) (s2 : Int32) (s3 : Nat) (σ : Hp) (H : Heap) (locs : List Loc) (ls : Array Slot), hT σ s3 12 → GW D cA base ad σ H → va_S (bA base) s.heap H locs → xT σ0 σ → lv_has ls 2 [] → F_X12_runAll_44 n  s0 s1 s2 s3 σ = some (r, τ) → W p l e rm_X12_runAll s m args below meth c H locs 0 0 (ZI below s args D cA base ad σ0 r τ) (F0 m 44 ls [.int s0, .int s1, .int s2, .ref (ad s3)]) := by
  intro s0 s1 s2 s3 σ H locs ls hT_s3 hG hS hE hl hF
  unfold F_X12_runAll_44 at hF
  obtain ⟨r2, σ1, hz, hF⟩ := b2_ex hF
  refine gx_rI (gx_runV (As := [.int s2, .int s1, .int s0]) (rest := []) X hG hS hT_s3.1 (hT_s3.eq (by decide)) (by decide) rfl (c_X12_runs l D cA base ad σ n s3 s2 s1 s0 hT_s3 hz) k_1274 k_1271 k_1273 ks_50 k_4 (h_X12_runs) rfl rfl ⟨by decide, by decide⟩ rfl hl.1 rfl (Nat.le_of_ble_eq_true rfl) dX12_runAll_44 ⟨Nat.zero_le _, Nat.zero_le _⟩) hS (fun H locs hG hS hX => ?_)
  replace hE := hE.trans hX
  exact gx_iret X hG hS hE hF dX12_runAll_47
theorem c_X12_runAll (l : Launch) (D : va_G) (cA : Nat → ClassId) (base : Nat) (ad : Nat → Nat) (σ : Hp) (n : Nat) (a0 : Nat) (a1 : Int32) (hT_a0 : hT σ a0 12) {τ : Hp} {r : Int32} (hF : F_X12_runAll n a0 a1 σ = some (r, τ)) : MI l yX12_runAll cX12_runAll 2 (some .int) rm_X12_runAll D cA base ad σ [.ref (ad a0), .int a1] r τ := by
  refine Met.ofW (cc := cX12_runAll) (maxL := 2) (ret := (some .int)) (by decide) rfl ?_
  intro p e s m args below meth c s₁ B hml hv
  obtain ⟨rfl, hv⟩ := hv
  have X : SX D cA base p s m ([.ref (ad a0), .int a1] : List Value).toArray meth c cX12_runAll 2 (some .int) RX12 := sx_of B hml hv
  have hG := hv.1
  have hS : va_S (bA base) s.heap s.heap [] := va_S.rf
  have hE := xT.rf σ
  have hl := lv_entry ([.ref (ad a0), .int a1]) (n := 2) (Nat.le_of_ble_eq_true rfl)
  rw [lg_entry_eq]
  generalize (lg_sl ([.ref (ad a0), .int a1]) ++ List.replicate (2 - (lg_sl ([.ref (ad a0), .int a1])).length) Slot.unset).toArray = ls at hl ⊢
  have hl : lv_has ls 2 [(0, .ref (ad a0)), (1, .int a1)] := hl
  unfold F_X12_runAll at hF
  refine lv_aload_n X.1 X.2.1 dX12_runAll_0 rfl (lv_at hl 0 rfl) ?_
  refine lv_aload_n X.1 X.2.1 dX12_runAll_1 rfl (lv_at hl 0 rfl) ?_
  obtain ⟨i3, hr, hF⟩ := b1_ex hF
  have hT_i3 : hT σ i3 13 := gw_T hG hT_a0 (by decide) hr
  refine gx_get 5 (v := .ref (ad i3)) X hG hT_a0.1 (hT_a0.eq (by decide)) (by decide) rfl inX12 (by decide) k_965 (fun _ h => h) (gx_rfv hr) dX12_runAll_2 ?_
  obtain ⟨σ4, hz, hF⟩ := b1_ex hF
  refine gx_rV (gx_runV (As := [.ref (ad i3)]) (rest := []) X hG hS hT_a0.1 (hT_a0.eq (by decide)) (by decide) rfl (c_X12_takesAll l D cA base ad σ n a0 i3 hT_a0 hT_i3 hz) k_1188 k_1185 k_1187 ks_34 k_4 (h_X12_takesAll) rfl rfl ⟨by decide, by decide⟩ rfl hl.1 rfl (Nat.le_of_ble_eq_true rfl) dX12_runAll_5 ⟨Nat.zero_le _, Nat.zero_le _⟩) hS (fun H locs hG hS hX => ?_)
  have hT_a0 := hX.T hT_a0
  replace hE := hE.trans hX
  refine lv_aload_n X.1 X.2.1 dX12_runAll_8 rfl (lv_at hl 0 rfl) ?_
  refine lv_aload_n X.1 X.2.1 dX12_runAll_9 rfl (lv_at hl 0 rfl) ?_
  refine lv_aload_n X.1 X.2.1 dX12_runAll_10 rfl (lv_at hl 0 rfl) ?_
  obtain ⟨i5, hr, hF⟩ := b1_ex hF
  have hT_i5 : hT σ4 i5 13 := gw_T hG hT_a0 (by decide) hr
  refine gx_get 0 (v := .ref (ad i5)) X hG hT_a0.1 (hT_a0.eq (by decide)) (by decide) rfl inX12 (by decide) k_960 (fun _ h => h) (gx_rfv hr) dX12_runAll_11 ?_
  refine lv_iconst (v := 1) X.1 X.2.1 dX12_runAll_14 (by decide) ?_
  refine gx_iald X hG hT_i5 hF dX12_runAll_15 (fun hF => ?_)
  obtain ⟨r7, σ6, hz, hF⟩ := b2_ex hF
  refine gx_rI (gx_runV (As := [.int (hI σ4 i5 (1 : Int32).toNatClampNeg)]) (rest := [.ref (ad a0)]) X hG hS hT_a0.1 (hT_a0.eq (by decide)) (by decide) rfl (c_X12_leaderOf l D cA base ad σ4 n a0 (hI σ4 i5 (1 : Int32).toNatClampNeg) hT_a0 hz) k_1192 k_1189 k_1191 ks_35 k_4 (h_X12_leaderOf) rfl rfl ⟨by decide, by decide⟩ rfl hl.1 rfl (Nat.le_of_ble_eq_true rfl) dX12_runAll_16 ⟨Nat.zero_le _, Nat.zero_le _⟩) hS (fun H locs hG hS hX => ?_)
  have hT_a0 := hX.T hT_a0
  replace hE := hE.trans hX
  refine lv_iload_n X.1 X.2.1 dX12_runAll_19 rfl (lv_at hl 1 rfl) ?_
  refine lv_aload_n X.1 X.2.1 dX12_runAll_20 rfl (lv_at hl 0 rfl) ?_
  obtain ⟨i8, hr, hF⟩ := b1_ex hF
  have hT_i8 : hT σ6 i8 13 := gw_T hG hT_a0 (by decide) hr
  refine gx_get 0 (v := .ref (ad i8)) X hG hT_a0.1 (hT_a0.eq (by decide)) (by decide) rfl inX12 (by decide) k_960 (fun _ h => h) (gx_rfv hr) dX12_runAll_21 ?_
  refine lv_iconst (v := 1) X.1 X.2.1 dX12_runAll_24 (by decide) ?_
  refine gx_iald X hG hT_i8 hF dX12_runAll_25 (fun hF => ?_)
  obtain ⟨r10, σ9, hz, hF⟩ := b2_ex hF
  refine gx_rI (gx_runS (As := [.int a1, .int (hI σ6 i8 (1 : Int32).toNatClampNeg)]) (rest := [.int r7, .ref (ad a0)]) X hG hS (c_X12_lesser l D cA base ad σ6 n a1 (hI σ6 i8 (1 : Int32).toNatClampNeg) hz) k_1220 k_1218 k_1219 k_4 (h_X12_lesser.2) rfl rfl ⟨by decide, by decide⟩ rfl hl.1 rfl (Nat.le_of_ble_eq_true rfl) dX12_runAll_26 ⟨Nat.zero_le _, Nat.zero_le _⟩) hS (fun H locs hG hS hX => ?_)
  have hT_a0 := hX.T hT_a0
  replace hE := hE.trans hX
  refine lv_aload_n X.1 X.2.1 dX12_runAll_29 rfl (lv_at hl 0 rfl) ?_
  obtain ⟨i11, hr, hF⟩ := b1_ex hF
  have hT_i11 : hT σ9 i11 13 := gw_T hG hT_a0 (by decide) hr
  refine gx_get 0 (v := .ref (ad i11)) X hG hT_a0.1 (hT_a0.eq (by decide)) (by decide) rfl inX12 (by decide) k_960 (fun _ h => h) (gx_rfv hr) dX12_runAll_30 ?_
  refine lv_iconst (v := 5) X.1 X.2.1 dX12_runAll_33 (by decide) ?_
  refine gx_iald X hG hT_i11 hF dX12_runAll_34 (fun hF => ?_)
  refine lv_iconst (v := 1) X.1 X.2.1 dX12_runAll_35 (by decide) ?_
  refine lv_icmp_ne (tgt := 43) X.1 X.2.1 dX12_runAll_36 (by decide) (fun hc => ?_) (fun hc => ?_)
  · replace hF := it_f hF hc
    refine lv_iconst (v := 0) X.1 X.2.1 dX12_runAll_43 (by decide) ?_
    exact w_X12_runAll_44 X n  0 r10 r7 a0 σ9 _ _ ls hT_a0 hG hS hE (lv_sub hl [] rfl) hF
  · replace hF := it_t hF hc
    refine lv_iconst (v := 1) X.1 X.2.1 dX12_runAll_39 (by decide) ?_
    refine lv_goto (tgt := 44) X.1 X.2.1 dX12_runAll_40 (by decide) ?_
    exact w_X12_runAll_44 X n  1 r10 r7 a0 σ9 _ _ ls hT_a0 hG hS hE (lv_sub hl [] rfl) hF
theorem c_X12_runNow (l : Launch) (D : va_G) (cA : Nat → ClassId) (base : Nat) (ad : Nat → Nat) (σ : Hp) (n : Nat) (a0 : Nat) (hT_a0 : hT σ a0 12) {τ : Hp} {r : Int32} (hF : F_X12_runNow n a0 σ = some (r, τ)) : MI l yX12_runNow cX12_runNow 1 (some .int) rm_X12_runNow D cA base ad σ [.ref (ad a0)] r τ := by
  refine Met.ofW (cc := cX12_runNow) (maxL := 1) (ret := (some .int)) (by decide) rfl ?_
  intro p e s m args below meth c s₁ B hml hv
  obtain ⟨rfl, hv⟩ := hv
  have X : SX D cA base p s m ([.ref (ad a0)] : List Value).toArray meth c cX12_runNow 1 (some .int) RX12 := sx_of B hml hv
  have hG := hv.1
  have hS : va_S (bA base) s.heap s.heap [] := va_S.rf
  have hE := xT.rf σ
  have hl := lv_entry ([.ref (ad a0)]) (n := 1) (Nat.le_of_ble_eq_true rfl)
  rw [lg_entry_eq]
  generalize (lg_sl ([.ref (ad a0)]) ++ List.replicate (1 - (lg_sl ([.ref (ad a0)])).length) Slot.unset).toArray = ls at hl ⊢
  have hl : lv_has ls 1 [(0, .ref (ad a0))] := hl
  unfold F_X12_runNow at hF
  refine lv_aload_n X.1 X.2.1 dX12_runNow_0 rfl (lv_at hl 0 rfl) ?_
  refine lv_aload_n X.1 X.2.1 dX12_runNow_1 rfl (lv_at hl 0 rfl) ?_
  obtain ⟨i1, hr, hF⟩ := b1_ex hF
  have hT_i1 : hT σ i1 13 := gw_T hG hT_a0 (by decide) hr
  refine gx_get 0 (v := .ref (ad i1)) X hG hT_a0.1 (hT_a0.eq (by decide)) (by decide) rfl inX12 (by decide) k_960 (fun _ h => h) (gx_rfv hr) dX12_runNow_2 ?_
  refine lv_iconst (v := 3) X.1 X.2.1 dX12_runNow_5 (by decide) ?_
  refine gx_iald X hG hT_i1 hF dX12_runNow_6 (fun hF => ?_)
  obtain ⟨r3, σ2, hz, hF⟩ := b2_ex hF
  refine gx_rI (gx_runV (As := [.int (hI σ i1 (3 : Int32).toNatClampNeg)]) (rest := []) X hG hS hT_a0.1 (hT_a0.eq (by decide)) (by decide) rfl (c_X12_runAll l D cA base ad σ n a0 (hI σ i1 (3 : Int32).toNatClampNeg) hT_a0 hz) k_1270 k_1267 k_1269 ks_49 k_4 (h_X12_runAll) rfl rfl ⟨by decide, by decide⟩ rfl hl.1 rfl (Nat.le_of_ble_eq_true rfl) dX12_runNow_7 ⟨Nat.zero_le _, Nat.zero_le _⟩) hS (fun H locs hG hS hX => ?_)
  have hT_a0 := hX.T hT_a0
  replace hE := hE.trans hX
  exact gx_iret X hG hS hE hF dX12_runNow_10
theorem c_X12_run (l : Launch) (D : va_G) (cA : Nat → ClassId) (base : Nat) (ad : Nat → Nat) (σ : Hp) (n : Nat) (a0 : Nat) (a1 : Int32) (hT_a0 : hT σ a0 12) {τ : Hp} {r : Int32} (hF : F_X12_run n a0 a1 σ = some (r, τ)) : MI l yX12_run cX12_run 3 (some .int) rm_X12_run D cA base ad σ [.ref (ad a0), .int a1] r τ := by
  refine Met.ofW (cc := cX12_run) (maxL := 3) (ret := (some .int)) (by decide) rfl ?_
  intro p e s m args below meth c s₁ B hml hv
  obtain ⟨rfl, hv⟩ := hv
  have X : SX D cA base p s m ([.ref (ad a0), .int a1] : List Value).toArray meth c cX12_run 3 (some .int) RX12 := sx_of B hml hv
  have hG := hv.1
  have hS : va_S (bA base) s.heap s.heap [] := va_S.rf
  have hE := xT.rf σ
  have hl := lv_entry ([.ref (ad a0), .int a1]) (n := 3) (Nat.le_of_ble_eq_true rfl)
  rw [lg_entry_eq]
  generalize (lg_sl ([.ref (ad a0), .int a1]) ++ List.replicate (3 - (lg_sl ([.ref (ad a0), .int a1])).length) Slot.unset).toArray = ls at hl ⊢
  have hl : lv_has ls 3 [(0, .ref (ad a0)), (1, .int a1)] := hl
  unfold F_X12_run at hF
  refine lv_iload_n X.1 X.2.1 dX12_run_0 rfl (lv_at hl 1 rfl) ?_
  refine lv_i2l X.1 X.2.1 dX12_run_1 rfl ?_
  refine lv_lconst (v := 0) X.1 X.2.1 dX12_run_2 (by decide) ?_
  refine lv_ldc2 (v := 4) X.1 X.2.1 X.2.2.2.2.2.1 (X.w k_1262) dX12_run_3 ?_
  obtain ⟨r2, σ1, hz, hF⟩ := b2_ex hF
  refine gx_rI (gx_runS (As := [.long a1.toInt64, .long 0, .long 4]) (rest := []) X hG hS (c_X12_isIn l D cA base ad σ n a1.toInt64 0 4 hz) k_1063 k_1061 k_1062 k_4 (h_X12_isIn.2) rfl rfl ⟨by decide, by decide⟩ rfl hl.1 rfl (Nat.le_of_ble_eq_true rfl) dX12_run_6 ⟨Nat.zero_le _, Nat.zero_le _⟩) hS (fun H locs hG hS hX => ?_)
  have hT_a0 := hX.T hT_a0
  replace hE := hE.trans hX
  refine lv_if_ne (tgt := 14) X.1 X.2.1 dX12_run_9 (by decide) (fun hc => ?_) (fun hc => ?_)
  · replace hF := it_f hF hc
    refine lv_aload_n X.1 X.2.1 dX12_run_14 rfl (lv_at hl 0 rfl) ?_
    obtain ⟨i3, hr, hF⟩ := b1_ex hF
    have hT_i3 : hT σ1 i3 13 := gw_T hG hT_a0 (by decide) hr
    refine gx_get 0 (v := .ref (ad i3)) X hG hT_a0.1 (hT_a0.eq (by decide)) (by decide) rfl inX12 (by decide) k_960 (fun _ h => h) (gx_rfv hr) dX12_run_15 ?_
    refine lv_iconst (v := 1) X.1 X.2.1 dX12_run_18 (by decide) ?_
    refine gx_iald X hG hT_i3 hF dX12_run_19 (fun hF => ?_)
    refine lv_if_ne (tgt := 26) X.1 X.2.1 dX12_run_20 (by decide) (fun hc => ?_) (fun hc => ?_)
    · replace hF := it_f hF hc
      refine lv_aload_n X.1 X.2.1 dX12_run_26 rfl (lv_at hl 0 rfl) ?_
      obtain ⟨r5, σ4, hz, hF⟩ := b2_ex hF
      refine gx_rI (gx_runV (As := []) (rest := []) X hG hS hT_a0.1 (hT_a0.eq (by decide)) (by decide) rfl (c_X12_runNow l D cA base ad σ1 n a0 hT_a0 hz) k_1266 k_1263 k_1265 ks_48 k_4 (h_X12_runNow) rfl rfl ⟨by decide, by decide⟩ rfl hl.1 rfl (Nat.le_of_ble_eq_true rfl) dX12_run_27 ⟨Nat.zero_le _, Nat.zero_le _⟩) hS (fun H locs hG hS hX => ?_)
      have hT_a0 := hX.T hT_a0
      replace hE := hE.trans hX
      refine lv_istore_n (lv' := [(2, .int r5), (0, .ref (ad a0)), (1, .int a1)]) X.1 X.2.1 dX12_run_30 rfl hl (by decide) rfl (fun ls hl => ?_)
      refine lv_iload_n X.1 X.2.1 dX12_run_31 rfl (lv_at hl 2 rfl) ?_
      by_cases hc0 : a1 = 0
      · replace hF := it_t hF hc0
        refine lv_tableIn (tgt := 64) X.1 X.2.1 dX12_run_32 (by rw [hc0]; decide) (by rw [hc0]; decide) (by rw [hc0]; rfl) (by decide) ?_
        refine lv_iload_n X.1 X.2.1 dX12_run_64 rfl (lv_at hl 0 rfl) ?_
        exact gx_iret X hG hS hE hF dX12_run_65
      replace hF := it_f hF hc0
      by_cases hc1 : a1 = 1
      · replace hF := it_t hF hc1
        refine lv_tableIn (tgt := 66) X.1 X.2.1 dX12_run_32 (by rw [hc1]; decide) (by rw [hc1]; decide) (by rw [hc1]; rfl) (by decide) ?_
        refine lv_aload_n X.1 X.2.1 dX12_run_66 rfl (lv_at hl 1 rfl) ?_
        obtain ⟨i7, hr, hF⟩ := b1_ex hF
        have hT_i7 : hT σ4 i7 13 := gw_T hG hT_a0 (by decide) hr
        refine gx_get 5 (v := .ref (ad i7)) X hG hT_a0.1 (hT_a0.eq (by decide)) (by decide) rfl inX12 (by decide) k_965 (fun _ h => h) (gx_rfv hr) dX12_run_67 ?_
        refine lv_iconst (v := 0) X.1 X.2.1 dX12_run_70 (by decide) ?_
        refine gx_iald X hG hT_i7 hF dX12_run_71 (fun hF => ?_)
        exact gx_iret X hG hS hE hF dX12_run_72
      replace hF := it_f hF hc1
      by_cases hc2 : a1 = 2
      · replace hF := it_t hF hc2
        refine lv_tableIn (tgt := 73) X.1 X.2.1 dX12_run_32 (by rw [hc2]; decide) (by rw [hc2]; decide) (by rw [hc2]; rfl) (by decide) ?_
        refine lv_aload_n X.1 X.2.1 dX12_run_73 rfl (lv_at hl 1 rfl) ?_
        obtain ⟨i8, hr, hF⟩ := b1_ex hF
        have hT_i8 : hT σ4 i8 13 := gw_T hG hT_a0 (by decide) hr
        refine gx_get 5 (v := .ref (ad i8)) X hG hT_a0.1 (hT_a0.eq (by decide)) (by decide) rfl inX12 (by decide) k_965 (fun _ h => h) (gx_rfv hr) dX12_run_74 ?_
        refine lv_iconst (v := 3) X.1 X.2.1 dX12_run_77 (by decide) ?_
        refine gx_iald X hG hT_i8 hF dX12_run_78 (fun hF => ?_)
        exact gx_iret X hG hS hE hF dX12_run_79
      replace hF := it_f hF hc2
      by_cases hc3 : a1 = 3
      · replace hF := it_t hF hc3
        refine lv_tableIn (tgt := 80) X.1 X.2.1 dX12_run_32 (by rw [hc3]; decide) (by rw [hc3]; decide) (by rw [hc3]; rfl) (by decide) ?_
        refine lv_aload_n X.1 X.2.1 dX12_run_80 rfl (lv_at hl 1 rfl) ?_
        refine gx_get 26 (v := .int (hI σ4 a0 26)) X hG hT_a0.1 (hT_a0.eq (by decide)) (by decide) rfl inX12 (by decide) k_986 (fun _ h => h) rfl dX12_run_81 ?_
        exact gx_iret X hG hS hE hF dX12_run_84
      replace hF := it_f hF hc3
      have hz0 := ne_lit hc0 (z := 0) (by decide)
      have hz1 := ne_lit hc1 (z := 1) (by decide)
      have hz2 := ne_lit hc2 (z := 2) (by decide)
      have hz3 := ne_lit hc3 (z := 3) (by decide)
      refine lv_tableOut (tgt := 85) X.1 X.2.1 dX12_run_32 (by omega) (by decide) ?_
      refine lv_aload_n X.1 X.2.1 dX12_run_85 rfl (lv_at hl 1 rfl) ?_
      obtain ⟨i6, hr, hF⟩ := b1_ex hF
      have hT_i6 : hT σ4 i6 13 := gw_T hG hT_a0 (by decide) hr
      refine gx_get 5 (v := .ref (ad i6)) X hG hT_a0.1 (hT_a0.eq (by decide)) (by decide) rfl inX12 (by decide) k_965 (fun _ h => h) (gx_rfv hr) dX12_run_86 ?_
      refine lv_iconst (v := 1) X.1 X.2.1 dX12_run_89 (by decide) ?_
      refine gx_iald X hG hT_i6 hF dX12_run_90 (fun hF => ?_)
      exact gx_iret X hG hS hE hF dX12_run_91
    · replace hF := it_t hF hc
      refine lv_bipush (v := (-3)) X.1 X.2.1 dX12_run_23 (by decide) ?_
      exact gx_iret X hG hS hE hF dX12_run_25
  · replace hF := it_t hF hc
    refine lv_iconst (v := (-1)) X.1 X.2.1 dX12_run_12 (by decide) ?_
    exact gx_iret X hG hS hE hF dX12_run_13
theorem c_X12_slips (l : Launch) (D : va_G) (cA : Nat → ClassId) (base : Nat) (ad : Nat → Nat) (σ : Hp) (n : Nat) (a0 : Nat) (a1 : Int32) (hT_a0 : hT σ a0 12) {τ : Hp} {r : Int32} (hF : F_X12_slips n a0 a1 σ = some (r, τ)) : MI l yX12_slips cX12_slips 3 (some .int) rm_X12_slips D cA base ad σ [.ref (ad a0), .int a1] r τ := by
  refine Met.ofW (cc := cX12_slips) (maxL := 3) (ret := (some .int)) (by decide) rfl ?_
  intro p e s m args below meth c s₁ B hml hv
  obtain ⟨rfl, hv⟩ := hv
  have X : SX D cA base p s m ([.ref (ad a0), .int a1] : List Value).toArray meth c cX12_slips 3 (some .int) RX12 := sx_of B hml hv
  have hG := hv.1
  have hS : va_S (bA base) s.heap s.heap [] := va_S.rf
  have hE := xT.rf σ
  have hl := lv_entry ([.ref (ad a0), .int a1]) (n := 3) (Nat.le_of_ble_eq_true rfl)
  rw [lg_entry_eq]
  generalize (lg_sl ([.ref (ad a0), .int a1]) ++ List.replicate (3 - (lg_sl ([.ref (ad a0), .int a1])).length) Slot.unset).toArray = ls at hl ⊢
  have hl : lv_has ls 3 [(0, .ref (ad a0)), (1, .int a1)] := hl
  unfold F_X12_slips at hF
  refine lv_aload_n X.1 X.2.1 dX12_slips_0 rfl (lv_at hl 0 rfl) ?_
  obtain ⟨i1, hr, hF⟩ := b1_ex hF
  have hT_i1 : hT σ i1 13 := gw_T hG hT_a0 (by decide) hr
  refine gx_get 0 (v := .ref (ad i1)) X hG hT_a0.1 (hT_a0.eq (by decide)) (by decide) rfl inX12 (by decide) k_960 (fun _ h => h) (gx_rfv hr) dX12_slips_1 ?_
  refine lv_iconst (v := 1) X.1 X.2.1 dX12_slips_4 (by decide) ?_
  refine gx_iald X hG hT_i1 hF dX12_slips_5 (fun hF => ?_)
  refine lv_if_ne (tgt := 12) X.1 X.2.1 dX12_slips_6 (by decide) (fun hc => ?_) (fun hc => ?_)
  · replace hF := it_f hF hc
    refine lv_aload_n X.1 X.2.1 dX12_slips_12 rfl (lv_at hl 0 rfl) ?_
    obtain ⟨r3, σ2, hz, hF⟩ := b2_ex hF
    refine gx_rI (gx_runV (As := []) (rest := []) X hG hS hT_a0.1 (hT_a0.eq (by decide)) (by decide) rfl (c_X12_runNow l D cA base ad σ n a0 hT_a0 hz) k_1266 k_1263 k_1265 ks_48 k_4 (h_X12_runNow) rfl rfl ⟨by decide, by decide⟩ rfl hl.1 rfl (Nat.le_of_ble_eq_true rfl) dX12_slips_13 ⟨Nat.zero_le _, Nat.zero_le _⟩) hS (fun H locs hG hS hX => ?_)
    have hT_a0 := hX.T hT_a0
    replace hE := hE.trans hX
    refine lv_istore_n (lv' := [(2, .int r3), (0, .ref (ad a0)), (1, .int a1)]) X.1 X.2.1 dX12_slips_16 rfl hl (by decide) rfl (fun ls hl => ?_)
    refine lv_iload_n X.1 X.2.1 dX12_slips_17 rfl (lv_at hl 2 rfl) ?_
    refine lv_if_eq (tgt := 28) X.1 X.2.1 dX12_slips_18 (by decide) (fun hc => ?_) (fun hc => ?_)
    · replace hF := it_t hF hc
      refine lv_aload_n X.1 X.2.1 dX12_slips_28 rfl (lv_at hl 1 rfl) ?_
      refine lv_aload_n X.1 X.2.1 dX12_slips_29 rfl (lv_at hl 1 rfl) ?_
      obtain ⟨i4, hr, hF⟩ := b1_ex hF
      have hT_i4 : hT σ2 i4 13 := gw_T hG hT_a0 (by decide) hr
      refine gx_get 5 (v := .ref (ad i4)) X hG hT_a0.1 (hT_a0.eq (by decide)) (by decide) rfl inX12 (by decide) k_965 (fun _ h => h) (gx_rfv hr) dX12_slips_30 ?_
      obtain ⟨r6, σ5, hz, hF⟩ := b2_ex hF
      refine gx_rI (gx_runV (As := [.ref (ad i4)]) (rest := []) X hG hS hT_a0.1 (hT_a0.eq (by decide)) (by decide) rfl (c_X12_slipsOf l D cA base ad σ2 n a0 i4 hT_a0 hT_i4 hz) k_1278 k_1275 k_1277 ks_51 k_4 (h_X12_slipsOf) rfl rfl ⟨by decide, by decide⟩ rfl hl.1 rfl (Nat.le_of_ble_eq_true rfl) dX12_slips_33 ⟨Nat.zero_le _, Nat.zero_le _⟩) hS (fun H locs hG hS hX => ?_)
      have hT_a0 := hX.T hT_a0
      replace hE := hE.trans hX
      exact gx_iret X hG hS hE hF dX12_slips_36
    · replace hF := it_f hF hc
      refine lv_aload_n X.1 X.2.1 dX12_slips_21 rfl (lv_at hl 1 rfl) ?_
      refine gx_get 27 (v := .int (hI σ2 a0 27)) X hG hT_a0.1 (hT_a0.eq (by decide)) (by decide) rfl inX12 (by decide) k_987 (fun _ h => h) rfl dX12_slips_22 ?_
      refine lv_goto (tgt := 36) X.1 X.2.1 dX12_slips_25 (by decide) ?_
      exact gx_iret X hG hS hE hF dX12_slips_36
  · replace hF := it_t hF hc
    refine lv_bipush (v := (-3)) X.1 X.2.1 dX12_slips_9 (by decide) ?_
    exact gx_iret X hG hS hE hF dX12_slips_11
theorem c_X12_moved (l : Launch) (D : va_G) (cA : Nat → ClassId) (base : Nat) (ad : Nat → Nat) (σ : Hp) (n : Nat) (a0 : Nat) (a1 : Int32) (a2 : Int32) (hT_a0 : hT σ a0 12) {τ : Hp} {r : Int32} (hF : F_X12_moved n a0 a1 a2 σ = some (r, τ)) : MI l yX12_moved cX12_moved 4 (some .int) rm_X12_moved D cA base ad σ [.ref (ad a0), .int a1, .int a2] r τ := by
  refine Met.ofW (cc := cX12_moved) (maxL := 4) (ret := (some .int)) (by decide) rfl ?_
  intro p e s m args below meth c s₁ B hml hv
  obtain ⟨rfl, hv⟩ := hv
  have X : SX D cA base p s m ([.ref (ad a0), .int a1, .int a2] : List Value).toArray meth c cX12_moved 4 (some .int) RX12 := sx_of B hml hv
  have hG := hv.1
  have hS : va_S (bA base) s.heap s.heap [] := va_S.rf
  have hE := xT.rf σ
  have hl := lv_entry ([.ref (ad a0), .int a1, .int a2]) (n := 4) (Nat.le_of_ble_eq_true rfl)
  rw [lg_entry_eq]
  generalize (lg_sl ([.ref (ad a0), .int a1, .int a2]) ++ List.replicate (4 - (lg_sl ([.ref (ad a0), .int a1, .int a2])).length) Slot.unset).toArray = ls at hl ⊢
  have hl : lv_has ls 4 [(0, .ref (ad a0)), (1, .int a1), (2, .int a2)] := hl
  unfold F_X12_moved at hF
  refine lv_aload_n X.1 X.2.1 dX12_moved_0 rfl (lv_at hl 0 rfl) ?_
  refine lv_iload_n X.1 X.2.1 dX12_moved_1 rfl (lv_at hl 1 rfl) ?_
  obtain ⟨r2, σ1, hz, hF⟩ := b2_ex hF
  refine gx_rI (gx_runV (As := [.int a1]) (rest := []) X hG hS hT_a0.1 (hT_a0.eq (by decide)) (by decide) rfl (c_X12_isJuror l D cA base ad σ n a0 a1 hT_a0 hz) k_1081 k_1078 k_1080 ks_16 k_4 (h_X12_isJuror) rfl rfl ⟨by decide, by decide⟩ rfl hl.1 rfl (Nat.le_of_ble_eq_true rfl) dX12_moved_2 ⟨Nat.zero_le _, Nat.zero_le _⟩) hS (fun H locs hG hS hX => ?_)
  have hT_a0 := hX.T hT_a0
  replace hE := hE.trans hX
  refine lv_if_eq (tgt := 20) X.1 X.2.1 dX12_moved_5 (by decide) (fun hc => ?_) (fun hc => ?_)
  · replace hF := it_t hF hc
    refine lv_ldc (v := (-1000000001)) X.1 X.2.1 X.2.2.2.2.2.1 (X.w k_1095) dX12_moved_20 ?_
    exact gx_iret X hG hS hE hF dX12_moved_22
  · replace hF := it_f hF hc
    refine lv_iload_n X.1 X.2.1 dX12_moved_8 rfl (lv_at hl 2 rfl) ?_
    refine lv_i2l X.1 X.2.1 dX12_moved_9 rfl ?_
    refine lv_lconst (v := 0) X.1 X.2.1 dX12_moved_10 (by decide) ?_
    refine lv_ldc2 (v := 2) X.1 X.2.1 X.2.2.2.2.2.1 (X.w k_1291) dX12_moved_11 ?_
    obtain ⟨r4, σ3, hz, hF⟩ := b2_ex hF
    refine gx_rI (gx_runS (As := [.long a2.toInt64, .long 0, .long 2]) (rest := []) X hG hS (c_X12_isIn l D cA base ad σ1 n a2.toInt64 0 2 hz) k_1063 k_1061 k_1062 k_4 (h_X12_isIn.2) rfl rfl ⟨by decide, by decide⟩ rfl hl.1 rfl (Nat.le_of_ble_eq_true rfl) dX12_moved_14 ⟨Nat.zero_le _, Nat.zero_le _⟩) hS (fun H locs hG hS hX => ?_)
    have hT_a0 := hX.T hT_a0
    replace hE := hE.trans hX
    refine lv_if_ne (tgt := 23) X.1 X.2.1 dX12_moved_17 (by decide) (fun hc => ?_) (fun hc => ?_)
    · replace hF := it_f hF hc
      refine lv_aload_n X.1 X.2.1 dX12_moved_23 rfl (lv_at hl 0 rfl) ?_
      obtain ⟨r6, σ5, hz, hF⟩ := b2_ex hF
      refine gx_rI (gx_runV (As := []) (rest := []) X hG hS hT_a0.1 (hT_a0.eq (by decide)) (by decide) rfl (c_X12_runNow l D cA base ad σ3 n a0 hT_a0 hz) k_1266 k_1263 k_1265 ks_48 k_4 (h_X12_runNow) rfl rfl ⟨by decide, by decide⟩ rfl hl.1 rfl (Nat.le_of_ble_eq_true rfl) dX12_moved_24 ⟨Nat.zero_le _, Nat.zero_le _⟩) hS (fun H locs hG hS hX => ?_)
      have hT_a0 := hX.T hT_a0
      replace hE := hE.trans hX
      refine lv_istore_n (lv' := [(3, .int r6), (0, .ref (ad a0)), (1, .int a1), (2, .int a2)]) X.1 X.2.1 dX12_moved_27 rfl hl (by decide) rfl (fun ls hl => ?_)
      refine lv_iload_n X.1 X.2.1 dX12_moved_28 rfl (lv_at hl 3 rfl) ?_
      refine lv_if_ne (tgt := 60) X.1 X.2.1 dX12_moved_29 (by decide) (fun hc => ?_) (fun hc => ?_)
      · replace hF := it_f hF hc
        refine lv_iload_n X.1 X.2.1 dX12_moved_60 rfl (lv_at hl 3 rfl) ?_
        refine lv_iconst (v := 1) X.1 X.2.1 dX12_moved_61 (by decide) ?_
        refine lv_icmp_ne (tgt := 84) X.1 X.2.1 dX12_moved_62 (by decide) (fun hc => ?_) (fun hc => ?_)
        · replace hF := it_f hF hc
          refine lv_aload_n X.1 X.2.1 dX12_moved_84 rfl (lv_at hl 1 rfl) ?_
          obtain ⟨i7, hr, hF⟩ := b1_ex hF
          have hT_i7 : hT σ5 i7 13 := gw_T hG hT_a0 (by decide) hr
          refine gx_get 5 (v := .ref (ad i7)) X hG hT_a0.1 (hT_a0.eq (by decide)) (by decide) rfl inX12 (by decide) k_965 (fun _ h => h) (gx_rfv hr) dX12_moved_85 ?_
          refine lv_bipush (v := 55) X.1 X.2.1 dX12_moved_88 (by decide) ?_
          refine lv_iload_n X.1 X.2.1 dX12_moved_90 rfl (lv_at hl 2 rfl) ?_
          refine lv_iadd X.1 X.2.1 dX12_moved_91 ?_
          refine gx_iald X hG hT_i7 hF dX12_moved_92 (fun hF => ?_)
          refine lv_if_le (tgt := 100) X.1 X.2.1 dX12_moved_93 (by decide) (fun hc => ?_) (fun hc => ?_)
          · replace hF := it_t hF hc
            refine lv_iconst (v := 0) X.1 X.2.1 dX12_moved_100 (by decide) ?_
            exact gx_iret X hG hS hE hF dX12_moved_101
          · replace hF := it_f hF hc
            refine lv_iconst (v := 1) X.1 X.2.1 dX12_moved_96 (by decide) ?_
            refine lv_goto (tgt := 101) X.1 X.2.1 dX12_moved_97 (by decide) ?_
            exact gx_iret X hG hS hE hF dX12_moved_101
        · replace hF := it_t hF hc
          refine lv_aload_n X.1 X.2.1 dX12_moved_65 rfl (lv_at hl 1 rfl) ?_
          obtain ⟨i8, hr, hF⟩ := b1_ex hF
          have hT_i8 : hT σ5 i8 13 := gw_T hG hT_a0 (by decide) hr
          refine gx_get 5 (v := .ref (ad i8)) X hG hT_a0.1 (hT_a0.eq (by decide)) (by decide) rfl inX12 (by decide) k_965 (fun _ h => h) (gx_rfv hr) dX12_moved_66 ?_
          refine lv_bipush (v := 31) X.1 X.2.1 dX12_moved_69 (by decide) ?_
          refine lv_iload_n X.1 X.2.1 dX12_moved_71 rfl (lv_at hl 2 rfl) ?_
          refine lv_iadd X.1 X.2.1 dX12_moved_72 ?_
          refine gx_iald X hG hT_i8 hF dX12_moved_73 (fun hF => ?_)
          refine lv_aload_n X.1 X.2.1 dX12_moved_74 rfl (lv_at hl 1 rfl) ?_
          obtain ⟨i9, hr, hF⟩ := b1_ex hF
          have hT_i9 : hT σ5 i9 13 := gw_T hG hT_a0 (by decide) hr
          refine gx_get 28 (v := .ref (ad i9)) X hG hT_a0.1 (hT_a0.eq (by decide)) (by decide) rfl inX12 (by decide) k_988 (fun _ h => h) (gx_rfv hr) dX12_moved_75 ?_
          refine lv_iload_n X.1 X.2.1 dX12_moved_78 rfl (lv_at hl 2 rfl) ?_
          refine gx_iald X hG hT_i9 hF dX12_moved_79 (fun hF => ?_)
          refine lv_isub X.1 X.2.1 dX12_moved_80 ?_
          refine lv_goto (tgt := 101) X.1 X.2.1 dX12_moved_81 (by decide) ?_
          exact gx_iret X hG hS hE hF dX12_moved_101
      · replace hF := it_t hF hc
        refine lv_aload_n X.1 X.2.1 dX12_moved_32 rfl (lv_at hl 1 rfl) ?_
        refine lv_aload_n X.1 X.2.1 dX12_moved_33 rfl (lv_at hl 1 rfl) ?_
        obtain ⟨i10, hr, hF⟩ := b1_ex hF
        have hT_i10 : hT σ5 i10 13 := gw_T hG hT_a0 (by decide) hr
        refine gx_get 5 (v := .ref (ad i10)) X hG hT_a0.1 (hT_a0.eq (by decide)) (by decide) rfl inX12 (by decide) k_965 (fun _ h => h) (gx_rfv hr) dX12_moved_34 ?_
        refine lv_bipush (v := 19) X.1 X.2.1 dX12_moved_37 (by decide) ?_
        refine lv_iload_n X.1 X.2.1 dX12_moved_39 rfl (lv_at hl 2 rfl) ?_
        refine lv_iadd X.1 X.2.1 dX12_moved_40 ?_
        refine gx_iald X hG hT_i10 hF dX12_moved_41 (fun hF => ?_)
        obtain ⟨r12, σ11, hz, hF⟩ := b2_ex hF
        refine gx_rI (gx_runV (As := [.int (hI σ5 i10 (19 + a1).toNatClampNeg)]) (rest := []) X hG hS hT_a0.1 (hT_a0.eq (by decide)) (by decide) rfl (c_X12_speaksOf l D cA base ad σ5 n a0 (hI σ5 i10 (19 + a1).toNatClampNeg) hT_a0 hz) k_1160 k_1157 k_1159 ks_30 k_4 (h_X12_speaksOf) rfl rfl ⟨by decide, by decide⟩ rfl hl.1 rfl (Nat.le_of_ble_eq_true rfl) dX12_moved_42 ⟨Nat.zero_le _, Nat.zero_le _⟩) hS (fun H locs hG hS hX => ?_)
        have hT_a0 := hX.T hT_a0
        replace hE := hE.trans hX
        refine lv_aload_n X.1 X.2.1 dX12_moved_45 rfl (lv_at hl 1 rfl) ?_
        refine lv_aload_n X.1 X.2.1 dX12_moved_46 rfl (lv_at hl 1 rfl) ?_
        refine lv_iload_n X.1 X.2.1 dX12_moved_47 rfl (lv_at hl 2 rfl) ?_
        refine lv_bipush (v := 6) X.1 X.2.1 dX12_moved_48 (by decide) ?_
        obtain ⟨r14, σ13, hz, hF⟩ := b2_ex hF
        refine gx_rI (gx_runV (As := [.int a1, .int 6]) (rest := [.ref (ad a0), .int r12]) X hG hS hT_a0.1 (hT_a0.eq (by decide)) (by decide) rfl (c_X12_get l D cA base ad σ11 n a0 a1 6 hT_a0 hz) k_1099 k_1096 k_1098 ks_19 k_4 (h_X12_get) rfl rfl ⟨by decide, by decide⟩ rfl hl.1 rfl (Nat.le_of_ble_eq_true rfl) dX12_moved_50 ⟨Nat.zero_le _, Nat.zero_le _⟩) hS (fun H locs hG hS hX => ?_)
        have hT_a0 := hX.T hT_a0
        replace hE := hE.trans hX
        obtain ⟨r16, σ15, hz, hF⟩ := b2_ex hF
        refine gx_rI (gx_runV (As := [.int r14]) (rest := [.int r12]) X hG hS hT_a0.1 (hT_a0.eq (by decide)) (by decide) rfl (c_X12_speaksOf l D cA base ad σ13 n a0 r14 hT_a0 hz) k_1160 k_1157 k_1159 ks_30 k_4 (h_X12_speaksOf) rfl rfl ⟨by decide, by decide⟩ rfl hl.1 rfl (Nat.le_of_ble_eq_true rfl) dX12_moved_53 ⟨Nat.zero_le _, Nat.zero_le _⟩) hS (fun H locs hG hS hX => ?_)
        have hT_a0 := hX.T hT_a0
        replace hE := hE.trans hX
        refine lv_isub X.1 X.2.1 dX12_moved_56 ?_
        refine lv_goto (tgt := 101) X.1 X.2.1 dX12_moved_57 (by decide) ?_
        exact gx_iret X hG hS hE hF dX12_moved_101
    · replace hF := it_t hF hc
      refine lv_ldc (v := (-1000000001)) X.1 X.2.1 X.2.2.2.2.2.1 (X.w k_1095) dX12_moved_20 ?_
      exact gx_iret X hG hS hE hF dX12_moved_22
theorem c_X12_out (l : Launch) (D : va_G) (cA : Nat → ClassId) (base : Nat) (ad : Nat → Nat) (σ : Hp) (n : Nat) (a0 : Nat) (a1 : Int32) (hT_a0 : hT σ a0 12) {τ : Hp} {r : Int32} (hF : F_X12_out n a0 a1 σ = some (r, τ)) : MI l yX12_out cX12_out 3 (some .int) rm_X12_out D cA base ad σ [.ref (ad a0), .int a1] r τ := by
  refine Met.ofW (cc := cX12_out) (maxL := 3) (ret := (some .int)) (by decide) rfl ?_
  intro p e s m args below meth c s₁ B hml hv
  obtain ⟨rfl, hv⟩ := hv
  have X : SX D cA base p s m ([.ref (ad a0), .int a1] : List Value).toArray meth c cX12_out 3 (some .int) RX12 := sx_of B hml hv
  have hG := hv.1
  have hS : va_S (bA base) s.heap s.heap [] := va_S.rf
  have hE := xT.rf σ
  have hl := lv_entry ([.ref (ad a0), .int a1]) (n := 3) (Nat.le_of_ble_eq_true rfl)
  rw [lg_entry_eq]
  generalize (lg_sl ([.ref (ad a0), .int a1]) ++ List.replicate (3 - (lg_sl ([.ref (ad a0), .int a1])).length) Slot.unset).toArray = ls at hl ⊢
  have hl : lv_has ls 3 [(0, .ref (ad a0)), (1, .int a1)] := hl
  unfold F_X12_out at hF
  refine lv_iload_n X.1 X.2.1 dX12_out_0 rfl (lv_at hl 1 rfl) ?_
  refine lv_i2l X.1 X.2.1 dX12_out_1 rfl ?_
  refine lv_lconst (v := 0) X.1 X.2.1 dX12_out_2 (by decide) ?_
  refine lv_aload_n X.1 X.2.1 dX12_out_3 rfl (lv_at hl 0 rfl) ?_
  obtain ⟨i1, hr, hF⟩ := b1_ex hF
  have hT_i1 : hT σ i1 13 := gw_T hG hT_a0 (by decide) hr
  refine gx_get 0 (v := .ref (ad i1)) X hG hT_a0.1 (hT_a0.eq (by decide)) (by decide) rfl inX12 (by decide) k_960 (fun _ h => h) (gx_rfv hr) dX12_out_4 ?_
  refine lv_iconst (v := 0) X.1 X.2.1 dX12_out_7 (by decide) ?_
  refine gx_iald X hG hT_i1 hF dX12_out_8 (fun hF => ?_)
  refine lv_iconst (v := 1) X.1 X.2.1 dX12_out_9 (by decide) ?_
  refine lv_isub X.1 X.2.1 dX12_out_10 ?_
  refine lv_i2l X.1 X.2.1 dX12_out_11 rfl ?_
  obtain ⟨r3, σ2, hz, hF⟩ := b2_ex hF
  refine gx_rI (gx_runS (As := [.long a1.toInt64, .long 0, .long (((hI σ i1 (0 : Int32).toNatClampNeg) - 1).toInt64)]) (rest := []) X hG hS (c_X12_isIn l D cA base ad σ n a1.toInt64 0 (((hI σ i1 (0 : Int32).toNatClampNeg) - 1).toInt64) hz) k_1063 k_1061 k_1062 k_4 (h_X12_isIn.2) rfl rfl ⟨by decide, by decide⟩ rfl hl.1 rfl (Nat.le_of_ble_eq_true rfl) dX12_out_12 ⟨Nat.zero_le _, Nat.zero_le _⟩) hS (fun H locs hG hS hX => ?_)
  have hT_a0 := hX.T hT_a0
  replace hE := hE.trans hX
  refine lv_if_ne (tgt := 20) X.1 X.2.1 dX12_out_15 (by decide) (fun hc => ?_) (fun hc => ?_)
  · replace hF := it_f hF hc
    refine lv_aload_n X.1 X.2.1 dX12_out_20 rfl (lv_at hl 0 rfl) ?_
    obtain ⟨i4, hr, hF⟩ := b1_ex hF
    have hT_i4 : hT σ2 i4 13 := gw_T hG hT_a0 (by decide) hr
    refine gx_get 0 (v := .ref (ad i4)) X hG hT_a0.1 (hT_a0.eq (by decide)) (by decide) rfl inX12 (by decide) k_960 (fun _ h => h) (gx_rfv hr) dX12_out_21 ?_
    refine lv_iconst (v := 1) X.1 X.2.1 dX12_out_24 (by decide) ?_
    refine gx_iald X hG hT_i4 hF dX12_out_25 (fun hF => ?_)
    refine lv_if_ne (tgt := 32) X.1 X.2.1 dX12_out_26 (by decide) (fun hc => ?_) (fun hc => ?_)
    · replace hF := it_f hF hc
      refine lv_aload_n X.1 X.2.1 dX12_out_32 rfl (lv_at hl 0 rfl) ?_
      obtain ⟨r6, σ5, hz, hF⟩ := b2_ex hF
      refine gx_rI (gx_runV (As := []) (rest := []) X hG hS hT_a0.1 (hT_a0.eq (by decide)) (by decide) rfl (c_X12_runNow l D cA base ad σ2 n a0 hT_a0 hz) k_1266 k_1263 k_1265 ks_48 k_4 (h_X12_runNow) rfl rfl ⟨by decide, by decide⟩ rfl hl.1 rfl (Nat.le_of_ble_eq_true rfl) dX12_out_33 ⟨Nat.zero_le _, Nat.zero_le _⟩) hS (fun H locs hG hS hX => ?_)
      have hT_a0 := hX.T hT_a0
      replace hE := hE.trans hX
      refine lv_istore_n (lv' := [(2, .int r6), (0, .ref (ad a0)), (1, .int a1)]) X.1 X.2.1 dX12_out_36 rfl hl (by decide) rfl (fun ls hl => ?_)
      refine lv_aload_n X.1 X.2.1 dX12_out_37 rfl (lv_at hl 1 rfl) ?_
      obtain ⟨i7, hr, hF⟩ := b1_ex hF
      have hT_i7 : hT σ5 i7 13 := gw_T hG hT_a0 (by decide) hr
      refine gx_get 29 (v := .ref (ad i7)) X hG hT_a0.1 (hT_a0.eq (by decide)) (by decide) rfl inX12 (by decide) k_989 (fun _ h => h) (gx_rfv hr) dX12_out_38 ?_
      refine lv_iload_n X.1 X.2.1 dX12_out_41 rfl (lv_at hl 2 rfl) ?_
      refine gx_iald X hG hT_i7 hF dX12_out_42 (fun hF => ?_)
      exact gx_iret X hG hS hE hF dX12_out_43
    · replace hF := it_t hF hc
      refine lv_bipush (v := (-3)) X.1 X.2.1 dX12_out_29 (by decide) ?_
      exact gx_iret X hG hS hE hF dX12_out_31
  · replace hF := it_t hF hc
    refine lv_iconst (v := (-1)) X.1 X.2.1 dX12_out_18 (by decide) ?_
    exact gx_iret X hG hS hE hF dX12_out_19
theorem w_X12_one_44 {σ0 τ : Hp} {r : Int32} (X : SX D cA base p s m args meth c cX12_one 4 (some .int) RX12) (n : Nat)  : ∀ (v1 : Int32) (v2 : Int32) (σ : Hp) (H : Heap) (locs : List Loc) (ls : Array Slot), GW D cA base ad σ H → va_S (bA base) s.heap H locs → xT σ0 σ → lv_has ls 4 [(1, .int v1), (2, .int v2)] → F_X12_one_44 n  v1 v2 σ = some (r, τ) → W p l e rm_X12_one s m args below meth c H locs 0 0 (ZI below s args D cA base ad σ0 r τ) (F0 m 44 ls []) := by
  intro v1 v2 σ H locs ls hG hS hE hl hF
  unfold F_X12_one_44 at hF
  refine lv_iload_n X.1 X.2.1 dX12_one_44 rfl (lv_at hl 0 rfl) ?_
  refine lv_iload_n X.1 X.2.1 dX12_one_45 rfl (lv_at hl 1 rfl) ?_
  refine lv_iconst (v := (-1)) X.1 X.2.1 dX12_one_46 (by decide) ?_
  refine lv_ixor X.1 X.2.1 dX12_one_47 ?_
  refine lv_iand X.1 X.2.1 dX12_one_48 ?_
  exact gx_iret X hG hS hE hF dX12_one_49
theorem w_X12_one_6 {σ0 τ : Hp} {r : Int32} (X : SX D cA base p s m args meth c cX12_one 4 (some .int) RX12) (n : Nat)  : ∀ f : Nat, ∀ (v0 : Nat) (v1 : Int32) (v2 : Int32) (v3 : Int32) (σ : Hp) (H : Heap) (locs : List Loc) (ls : Array Slot), hT σ v0 12 → GW D cA base ad σ H → va_S (bA base) s.heap H locs → xT σ0 σ → lv_has ls 4 [(0, .ref (ad v0)), (1, .int v1), (2, .int v2), (3, .int v3)] → F_X12_one_6 n  f v0 v1 v2 v3 σ = some (r, τ) → W p l e rm_X12_one s m args below meth c H locs 0 0 (ZI below s args D cA base ad σ0 r τ) (F0 m 6 ls []) := by
  intro f
  induction f with
  | zero => intro v0 v1 v2 v3 σ H locs ls h0 hG hS hE hl hF
            rw [F_X12_one_6] at hF; cases hF
  | succ f ih =>
    intro v0 v1 v2 v3 σ H locs ls hT_v0 hG hS hE hl hF
    rw [F_X12_one_6] at hF
    refine lv_iload_n X.1 X.2.1 dX12_one_6 rfl (lv_at hl 3 rfl) ?_
    refine lv_aload_n X.1 X.2.1 dX12_one_7 rfl (lv_at hl 0 rfl) ?_
    obtain ⟨i1, hr, hF⟩ := b1_ex hF
    have hT_i1 : hT σ i1 13 := gw_T hG hT_v0 (by decide) hr
    refine gx_get 0 (v := .ref (ad i1)) X hG hT_v0.1 (hT_v0.eq (by decide)) (by decide) rfl inX12 (by decide) k_960 (fun _ h => h) (gx_rfv hr) dX12_one_8 ?_
    refine lv_iconst (v := 1) X.1 X.2.1 dX12_one_11 (by decide) ?_
    refine gx_iald X hG hT_i1 hF dX12_one_12 (fun hF => ?_)
    refine lv_icmp_ge (tgt := 44) X.1 X.2.1 dX12_one_13 (by decide) (fun hc => ?_) (fun hc => ?_)
    · replace hF := it_t hF hc
      exact w_X12_one_44 X n  v1 v2 σ _ _ ls  hG hS hE (lv_sub hl [1, 2] rfl) hF
    · replace hF := it_f hF hc
      refine lv_iload_n X.1 X.2.1 dX12_one_16 rfl (lv_at hl 2 rfl) ?_
      refine lv_iload_n X.1 X.2.1 dX12_one_17 rfl (lv_at hl 1 rfl) ?_
      refine lv_aload_n X.1 X.2.1 dX12_one_18 rfl (lv_at hl 0 rfl) ?_
      refine lv_iload_n X.1 X.2.1 dX12_one_19 rfl (lv_at hl 3 rfl) ?_
      refine lv_bipush (v := 6) X.1 X.2.1 dX12_one_20 (by decide) ?_
      obtain ⟨r3, σ2, hz, hF⟩ := b2_ex hF
      refine gx_rI (gx_runV (As := [.int v3, .int 6]) (rest := [.int v1, .int v2]) X hG hS hT_v0.1 (hT_v0.eq (by decide)) (by decide) rfl (c_X12_get l D cA base ad σ n v0 v3 6 hT_v0 hz) k_1099 k_1096 k_1098 ks_19 k_4 (h_X12_get) rfl rfl ⟨by decide, by decide⟩ rfl hl.1 rfl (Nat.le_of_ble_eq_true rfl) dX12_one_22 ⟨Nat.zero_le _, Nat.zero_le _⟩) hS (fun H locs hG hS hX => ?_)
      have hT_v0 := hX.T hT_v0
      replace hE := hE.trans hX
      refine lv_iand X.1 X.2.1 dX12_one_25 ?_
      refine lv_ior X.1 X.2.1 dX12_one_26 ?_
      refine lv_istore_n (lv' := [(2, .int (v2 ||| (v1 &&& r3))), (0, .ref (ad v0)), (1, .int v1), (3, .int v3)]) X.1 X.2.1 dX12_one_27 rfl hl (by decide) rfl (fun ls hl => ?_)
      refine lv_iload_n X.1 X.2.1 dX12_one_28 rfl (lv_at hl 2 rfl) ?_
      refine lv_aload_n X.1 X.2.1 dX12_one_29 rfl (lv_at hl 1 rfl) ?_
      refine lv_iload_n X.1 X.2.1 dX12_one_30 rfl (lv_at hl 3 rfl) ?_
      refine lv_bipush (v := 6) X.1 X.2.1 dX12_one_31 (by decide) ?_
      obtain ⟨r5, σ4, hz, hF⟩ := b2_ex hF
      refine gx_rI (gx_runV (As := [.int v3, .int 6]) (rest := [.int v1]) X hG hS hT_v0.1 (hT_v0.eq (by decide)) (by decide) rfl (c_X12_get l D cA base ad σ2 n v0 v3 6 hT_v0 hz) k_1099 k_1096 k_1098 ks_19 k_4 (h_X12_get) rfl rfl ⟨by decide, by decide⟩ rfl hl.1 rfl (Nat.le_of_ble_eq_true rfl) dX12_one_33 ⟨Nat.zero_le _, Nat.zero_le _⟩) hS (fun H locs hG hS hX => ?_)
      have hT_v0 := hX.T hT_v0
      replace hE := hE.trans hX
      refine lv_ior X.1 X.2.1 dX12_one_36 ?_
      refine lv_istore_n (lv' := [(1, .int (v1 ||| r5)), (2, .int (v2 ||| (v1 &&& r3))), (0, .ref (ad v0)), (3, .int v3)]) X.1 X.2.1 dX12_one_37 rfl hl (by decide) rfl (fun ls hl => ?_)
      refine lv_iinc (v := v3 + 1) (lv' := [(3, .int (v3 + 1)), (1, .int (v1 ||| r5)), (2, .int (v2 ||| (v1 &&& r3))), (0, .ref (ad v0))]) X.1 X.2.1 dX12_one_38 hl (k := 3) rfl rfl (by decide) rfl (fun ls hl => ?_)
      refine lv_goto (tgt := 6) X.1 X.2.1 dX12_one_41 (by decide) ?_
      exact ih v0 (v1 ||| r5) (v2 ||| (v1 &&& r3)) (v3 + 1) σ4 _ _ ls hT_v0 hG hS hE (lv_sub hl [3, 1, 2, 0] rfl) hF
theorem c_X12_one (l : Launch) (D : va_G) (cA : Nat → ClassId) (base : Nat) (ad : Nat → Nat) (σ : Hp) (n : Nat) (a0 : Nat) (hT_a0 : hT σ a0 12) {τ : Hp} {r : Int32} (hF : F_X12_one n a0 σ = some (r, τ)) : MI l yX12_one cX12_one 4 (some .int) rm_X12_one D cA base ad σ [.ref (ad a0)] r τ := by
  refine Met.ofW (cc := cX12_one) (maxL := 4) (ret := (some .int)) (by decide) rfl ?_
  intro p e s m args below meth c s₁ B hml hv
  obtain ⟨rfl, hv⟩ := hv
  have X : SX D cA base p s m ([.ref (ad a0)] : List Value).toArray meth c cX12_one 4 (some .int) RX12 := sx_of B hml hv
  have hG := hv.1
  have hS : va_S (bA base) s.heap s.heap [] := va_S.rf
  have hE := xT.rf σ
  have hl := lv_entry ([.ref (ad a0)]) (n := 4) (Nat.le_of_ble_eq_true rfl)
  rw [lg_entry_eq]
  generalize (lg_sl ([.ref (ad a0)]) ++ List.replicate (4 - (lg_sl ([.ref (ad a0)])).length) Slot.unset).toArray = ls at hl ⊢
  have hl : lv_has ls 4 [(0, .ref (ad a0))] := hl
  unfold F_X12_one at hF
  refine lv_iconst (v := 0) X.1 X.2.1 dX12_one_0 (by decide) ?_
  refine lv_istore_n (lv' := [(1, .int 0), (0, .ref (ad a0))]) X.1 X.2.1 dX12_one_1 rfl hl (by decide) rfl (fun ls hl => ?_)
  refine lv_iconst (v := 0) X.1 X.2.1 dX12_one_2 (by decide) ?_
  refine lv_istore_n (lv' := [(2, .int 0), (1, .int 0), (0, .ref (ad a0))]) X.1 X.2.1 dX12_one_3 rfl hl (by decide) rfl (fun ls hl => ?_)
  refine lv_iconst (v := 0) X.1 X.2.1 dX12_one_4 (by decide) ?_
  refine lv_istore_n (lv' := [(3, .int 0), (2, .int 0), (1, .int 0), (0, .ref (ad a0))]) X.1 X.2.1 dX12_one_5 rfl hl (by decide) rfl (fun ls hl => ?_)
  exact w_X12_one_6 X n  n a0 0 0 0 σ _ _ ls hT_a0 hG hS hE (lv_sub hl [3, 2, 1, 0] rfl) hF
end W_model9
