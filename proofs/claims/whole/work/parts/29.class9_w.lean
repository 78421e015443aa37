/-! class9: printed by wip/whole/gen.py -/
section W_class9
variable {p : Program} {l : Launch} {e : Env} {s : State} {m : MethodId} {args : Array Value} {below : List Frame} {meth : Method} {c : Code} {D : va_G} {cA : Nat → ClassId} {base : Nat} {ad : Nat → Nat}
abbrev rm_X11_moved : Room := { frames := 7, cells := 0, slots := 0, locals := 171 }
theorem h_X11_moved : yX11_moved.cls = RX11 ∧ yX11_moved.cls ≠ "java/lang/invoke/MethodHandle" ∧ yX11_moved.cls ≠ "java/lang/invoke/VarHandle" ∧ (parseMethodDescriptor yX11_moved.desc).map (fun d => d.parameters.length) = some 2 := by decide +kernel
def F_X11_moved_70 (n : Nat)  (v0 : Nat) (v1 : Int32) (s0 : Nat) (σ : Hp) : Option (Int32 × Hp) := b2 (F_X11_at n s0 v1 σ) fun (r2 : Int32) (σ1 : Hp) => b1 (hR σ1 v0 1) fun (i3 : Nat) => b1 (F_X3_beginTalk n i3 σ1) fun (σ4 : Hp) => b2 (F_X11_at n s0 v1 σ4) fun (r6 : Int32) (σ5 : Hp) => some (r2 - r6, σ5)
def F_X11_moved (n : Nat) (a0 : Nat) (a1 : Int32) (a2 : Int32) (σ : Hp) : Option (Int32 × Hp) := b1 (hR σ a0 0) fun (i7 : Nat) => b2 (F_X3_isSeat n i7 a1 σ) fun (r9 : Int32) (σ8 : Hp) => if r9 = 0 then (some ((-1000000001), σ8)) else (if a2 < 0 then (some ((-1000000001), σ8)) else (if a2 ≤ 2 then (b1 (F_X11_runInMind n a0 σ8) fun (σ10 : Hp) => if a2 = 2 then (b1 (hR σ10 a0 1) fun (i15 : Nat) => b2 (F_X3_gaveIn n i15 a1 σ10) fun (r17 : Int32) (σ16 : Hp) => if r17 = 0 then (some (0, σ16)) else (some (1, σ16))) else (if a2 = 0 then (b1 (hR σ10 a0 1) fun (i13 : Nat) => b1 (hR σ10 i13 16) fun (i14 : Nat) => F_X11_moved_70 n  a0 a1 i14 σ10) else (b1 (hR σ10 a0 1) fun (i11 : Nat) => b1 (hR σ10 i11 17) fun (i12 : Nat) => F_X11_moved_70 n  a0 a1 i12 σ10))) else (some ((-1000000001), σ8))))
abbrev rm_X3_isShared : Room := { frames := 0, cells := 0, slots := 0, locals := 0 }
theorem h_X3_isShared : yX3_isShared.cls = RX3 ∧ yX3_isShared.cls ≠ "java/lang/invoke/MethodHandle" ∧ yX3_isShared.cls ≠ "java/lang/invoke/VarHandle" ∧ (parseMethodDescriptor yX3_isShared.desc).map (fun d => d.parameters.length) = some 1 := by decide +kernel
def F_X3_isShared (n : Nat) (a0 : Nat) (a1 : Int32) (σ : Hp) : Option (Int32 × Hp) := if (((hI σ a0 14) >>> (a1 &&& 31)) &&& 1) = 1 then (some (1, σ)) else (some (0, σ))
abbrev rm_X11_out : Room := { frames := 5, cells := 0, slots := 0, locals := 130 }
theorem h_X11_out : yX11_out.cls = RX11 ∧ yX11_out.cls ≠ "java/lang/invoke/MethodHandle" ∧ yX11_out.cls ≠ "java/lang/invoke/VarHandle" ∧ (parseMethodDescriptor yX11_out.desc).map (fun d => d.parameters.length) = some 1 := by decide +kernel
def F_X11_out_104 (n : Nat)  (v0 : Nat) (v1 : Int32) (v2 : Int32) (σ : Hp) : Option (Int32 × Hp) := b1 (hR σ v0 1) fun (i1 : Nat) => b2 (F_X3_isShared n i1 v1 σ) fun (r3 : Int32) (σ2 : Hp) => if r3 = 0 then (some ((-4), σ2)) else (some (v2, σ2))
def F_X11_out_53 (n : Nat)  : Nat → Nat → Int32 → Int32 → Int32 → Hp → Option (Int32 × Hp)
  | 0, _, _, _, _, _ => none
  | f + 1, v0, v1, v2, v3, σ => if 3000 ≤ v3 then (F_X11_out_104 n  v0 v1 v2 σ) else (b1 (hR σ v0 1) fun (i4 : Nat) => b2 (F_X3_isShared n i4 v1 σ) fun (r6 : Int32) (σ5 : Hp) => if r6 = 0 then (b1 (hR σ5 v0 1) fun (i7 : Nat) => b2 (F_X3_ends n i7 σ5) fun (r9 : Int32) (σ8 : Hp) => if r9 = (-4) then (b1 (hR σ8 v0 1) fun (i10 : Nat) => b1 (hR σ8 v0 1) fun (i11 : Nat) => b1 (F_X3_step n i11 σ8) fun (σ12 : Hp) => (F_X11_out_53 n  f) v0 v1 (hI σ8 i10 10) (v3 + 1) σ12) else (F_X11_out_104 n  v0 v1 v2 σ8)) else (F_X11_out_104 n  v0 v1 v2 σ5))
def F_X11_out (n : Nat) (a0 : Nat) (a1 : Int32) (σ : Hp) : Option (Int32 × Hp) := if a1 < 0 then (some ((-1), σ)) else (b1 (hR σ a0 0) fun (i13 : Nat) => if a1 < (hI σ i13 0) then (b1 (hR σ a0 0) fun (i14 : Nat) => if (hI σ i14 2) = 0 then (some ((-3), σ)) else (b1 (hR σ a0 1) fun (i15 : Nat) => b1 (hR σ a0 0) fun (i16 : Nat) => b1 (F_X3_seatFrom n i15 i16 0 σ) fun (σ17 : Hp) => b1 (hR σ17 a0 1) fun (i18 : Nat) => b1 (F_X3_beginTalk n i18 σ17) fun (σ19 : Hp) => F_X11_out_53 n  n a0 a1 0 0 σ19)) else (some ((-1), σ)))
abbrev rm_X11_one : Room := { frames := 1, cells := 0, slots := 0, locals := 21 }
theorem h_X11_one : yX11_one.cls = RX11 ∧ yX11_one.cls ≠ "java/lang/invoke/MethodHandle" ∧ yX11_one.cls ≠ "java/lang/invoke/VarHandle" ∧ (parseMethodDescriptor yX11_one.desc).map (fun d => d.parameters.length) = some 0 := by decide +kernel
def F_X11_one_48 (n : Nat)  (v1 : Int32) (v2 : Int32) (σ : Hp) : Option (Int32 × Hp) := some (v1 &&& (v2 ^^^ (-1)), σ)
def F_X11_one_6 (n : Nat)  : Nat → Nat → Int32 → Int32 → Int32 → Hp → Option (Int32 × Hp)
  | 0, _, _, _, _, _ => none
  | f + 1, v0, v1, v2, v3, σ => b1 (hR σ v0 0) fun (i1 : Nat) => if (hI σ i1 2) ≤ v3 then (F_X11_one_48 n  v1 v2 σ) else (b1 (hR σ v0 0) fun (i2 : Nat) => b1 (hR σ i2 4) fun (i3 : Nat) => b2 (F_X11_at n i3 v3 σ) fun (r5 : Int32) (σ4 : Hp) => (F_X11_one_6 n  f) v0 (v1 ||| r5) (v2 ||| (v1 &&& r5)) (v3 + 1) σ4)
def F_X11_one (n : Nat) (a0 : Nat) (σ : Hp) : Option (Int32 × Hp) := F_X11_one_6 n  n a0 0 0 0 σ
abbrev rm_X11_six : Room := { frames := 6, cells := 0, slots := 0, locals := 151 }
theorem h_X11_six : yX11_six.cls = RX11 ∧ yX11_six.cls ≠ "java/lang/invoke/MethodHandle" ∧ yX11_six.cls ≠ "java/lang/invoke/VarHandle" ∧ (parseMethodDescriptor yX11_six.desc).map (fun d => d.parameters.length) = some 2 := by decide +kernel
def F_X11_six (n : Nat) (a0 : Nat) (a1 : Int32) (a2 : Int32) (σ : Hp) : Option (Int32 × Hp) := if a1 < 1 then (some ((-1), σ)) else (b1 (hR σ a0 0) fun (i1 : Nat) => if (hI σ i1 2) < a1 then (some ((-1), σ)) else (if a2 < 0 then (some ((-1), σ)) else (if a2 ≤ 2 then (b1 (hR σ a0 1) fun (i2 : Nat) => b1 (hR σ a0 0) fun (i3 : Nat) => b1 (F_X3_seatFrom n i2 i3 ((-1) <<< (a1 &&& 31)) σ) fun (σ4 : Hp) => b1 (hR σ4 a0 1) fun (i5 : Nat) => b2 (F_X3_runThrough n i5 σ4) fun (r7 : Int32) (σ6 : Hp) => if a2 = 0 then (some (r7, σ6)) else (if a2 = 1 then (b1 (hR σ6 a0 1) fun (i9 : Nat) => some (hI σ6 i9 10, σ6)) else (b1 (hR σ6 a0 1) fun (i8 : Nat) => some (hI σ6 i8 12, σ6)))) else (some ((-1), σ)))))
abbrev rm_X11_endWithRule : Room := { frames := 6, cells := 0, slots := 0, locals := 151 }
theorem h_X11_endWithRule : yX11_endWithRule.cls = RX11 ∧ yX11_endWithRule.cls ≠ "java/lang/invoke/MethodHandle" ∧ yX11_endWithRule.cls ≠ "java/lang/invoke/VarHandle" ∧ (parseMethodDescriptor yX11_endWithRule.desc).map (fun d => d.parameters.length) = some 2 := by decide +kernel
def F_X11_endWithRule (n : Nat) (a0 : Nat) (a1 : Int32) (a2 : Int32) (σ : Hp) : Option (Int32 × Hp) := b1 (hR σ a0 1) fun (i1 : Nat) => b1 (hR σ a0 0) fun (i2 : Nat) => b1 (F_X3_seatFrom n i1 i2 0 σ) fun (σ3 : Hp) => b1 (hR σ3 a0 1) fun (i4 : Nat) => b1 (hR σ3 i4 7) fun (i5 : Nat) => b1 (F_X11_store n i5 a1 a2 σ3) fun (σ6 : Hp) => b1 (hR σ6 a0 1) fun (i7 : Nat) => b2 (F_X3_runThrough n i7 σ6) fun (r9 : Int32) (σ8 : Hp) => some (r9, σ8)
abbrev rm_X11_lost : Room := { frames := 7, cells := 0, slots := 0, locals := 173 }
theorem h_X11_lost : yX11_lost.cls = RX11 ∧ yX11_lost.cls ≠ "java/lang/invoke/MethodHandle" ∧ yX11_lost.cls ≠ "java/lang/invoke/VarHandle" ∧ (parseMethodDescriptor yX11_lost.desc).map (fun d => d.parameters.length) = some 1 := by decide +kernel
def F_X11_lost (n : Nat) (a0 : Nat) (a1 : Int32) (σ : Hp) : Option (Int32 × Hp) := if a1 < 1 then (some ((-1), σ)) else (if a1 ≤ 12 then (b1 (hR σ a0 0) fun (i1 : Nat) => if (hI σ i1 2) = 0 then (some ((-3), σ)) else (b2 (F_X11_endWithRule n a0 0 12 σ) fun (r3 : Int32) (σ2 : Hp) => b1 (hR σ2 a0 1) fun (i4 : Nat) => b2 (F_X11_endWithRule n a0 0 a1 σ2) fun (r6 : Int32) (σ5 : Hp) => b1 (hR σ5 a0 1) fun (i7 : Nat) => some ((hI σ2 i4 14) &&& ((hI σ5 i7 14) ^^^ (-1)), σ5))) else (some ((-1), σ)))
abbrev rm_X11_isEnd : Room := { frames := 0, cells := 0, slots := 0, locals := 0 }
theorem h_X11_isEnd : yX11_isEnd.cls = RX11 ∧ yX11_isEnd.cls ≠ "java/lang/invoke/MethodHandle" ∧ yX11_isEnd.cls ≠ "java/lang/invoke/VarHandle" ∧ (parseMethodDescriptor yX11_isEnd.desc).map (fun d => d.parameters.length) = some 1 := by decide +kernel
def F_X11_isEnd_14 (n : Nat)   (σ : Hp) : Option (Int32 × Hp) := some (1, σ)
def F_X11_isEnd (n : Nat) (a0 : Int32) (σ : Hp) : Option (Int32 × Hp) := if a0 = 0 then (F_X11_isEnd_14 n  σ) else (if a0 = 1 then (F_X11_isEnd_14 n  σ) else (if a0 = 2 then (F_X11_isEnd_14 n  σ) else (some (0, σ))))
theorem w_X11_moved_70 {σ0 τ : Hp} {r : Int32} (X : SX D cA base p s m args meth c cX11_moved 5 (some .int) RX11) (n : Nat)  : ∀ (v0 : Nat) (v1 : Int32) (s0 : Nat) (σ : Hp) (H : Heap) (locs : List Loc) (ls : Array Slot), hT σ v0 11 → hT σ s0 13 → GW D cA base ad σ H → va_S (bA base) s.heap H locs → xT σ0 σ → lv_has ls 5 [(0, .ref (ad v0)), (1, .int v1)] → F_X11_moved_70 n  v0 v1 s0 σ = some (r, τ) → W p l e rm_X11_moved s m args below meth c H locs 0 0 (ZI below s args D cA base ad σ0 r τ) (F0 m 70 ls [.ref (ad s0)]) := by
  intro v0 v1 s0 σ H locs ls hT_v0 hT_s0 hG hS hE hl hF
  unfold F_X11_moved_70 at hF
  refine lv_astore_n (lv' := [(3, .ref (ad s0)), (0, .ref (ad v0)), (1, .int v1)]) X.1 X.2.1 dX11_moved_70 rfl hl (by decide) rfl (fun ls hl => ?_)
  refine lv_aload_n X.1 X.2.1 dX11_moved_71 rfl (lv_at hl 0 rfl) ?_
  refine lv_iload_n X.1 X.2.1 dX11_moved_72 rfl (lv_at hl 2 rfl) ?_
  obtain ⟨r2, σ1, hz, hF⟩ := b2_ex hF
  refine gx_rI (gx_runS (As := [.ref (ad s0), .int v1]) (rest := []) X hG hS (c_X11_at l D cA base ad σ n s0 v1 hT_s0 hz) k_362 k_375 k_361 k_1 (h_X11_at.2) rfl rfl ⟨by decide, by decide⟩ rfl hl.1 rfl (Nat.le_of_ble_eq_true rfl) dX11_moved_73 ⟨Nat.zero_le _, Nat.zero_le _⟩) hS (fun H locs hG hS hX => ?_)
  have hT_v0 := hX.T hT_v0
  have hT_s0 := hX.T hT_s0
  replace hE := hE.trans hX
  refine lv_istore (lv' := [(4, .int r2), (3, .ref (ad s0)), (0, .ref (ad v0)), (1, .int v1)]) X.1 X.2.1 dX11_moved_76 hl (by decide) rfl (fun ls hl => ?_)
  refine lv_aload_n X.1 X.2.1 dX11_moved_78 rfl (lv_at hl 2 rfl) ?_
  obtain ⟨i3, hr, hF⟩ := b1_ex hF
  have hT_i3 : hT σ1 i3 3 := gw_T hG hT_v0 (by decide) hr
  refine gx_get 1 (v := .ref (ad i3)) X hG hT_v0.1 (hT_v0.eq (by decide)) (by decide) rfl inX11 (by decide) k_152 (fun _ h => h) (gx_rfv hr) dX11_moved_79 ?_
  obtain ⟨σ4, hz, hF⟩ := b1_ex hF
  refine gx_rV (gx_runV (As := []) (rest := []) X hG hS hT_i3.1 (hT_i3.eq (by decide)) (by decide) rfl (c_X3_beginTalk l D cA base ad σ1 n i3 hT_i3 hz) k_535 k_532 k_533 k_534 k_2 (h_X3_beginTalk) rfl rfl ⟨by decide, by decide⟩ rfl hl.1 rfl (Nat.le_of_ble_eq_true rfl) dX11_moved_82 ⟨Nat.zero_le _, Nat.zero_le _⟩) hS (fun H locs hG hS hX => ?_)
  have hT_v0 := hX.T hT_v0
  have hT_s0 := hX.T hT_s0
  replace hE := hE.trans hX
  refine lv_iload X.1 X.2.1 dX11_moved_85 (lv_at hl 0 rfl) ?_
  refine lv_aload_n X.1 X.2.1 dX11_moved_87 rfl (lv_at hl 1 rfl) ?_
  refine lv_iload_n X.1 X.2.1 dX11_moved_88 rfl (lv_at hl 3 rfl) ?_
  obtain ⟨r6, σ5, hz, hF⟩ := b2_ex hF
  refine gx_rI (gx_runS (As := [.ref (ad s0), .int v1]) (rest := [.int r2]) X hG hS (c_X11_at l D cA base ad σ4 n s0 v1 hT_s0 hz) k_362 k_375 k_361 k_1 (h_X11_at.2) rfl rfl ⟨by decide, by decide⟩ rfl hl.1 rfl (Nat.le_of_ble_eq_true rfl) dX11_moved_89 ⟨Nat.zero_le _, Nat.zero_le _⟩) hS (fun H locs hG hS hX => ?_)
  have hT_v0 := hX.T hT_v0
  have hT_s0 := hX.T hT_s0
  replace hE := hE.trans hX
  refine lv_isub X.1 X.2.1 dX11_moved_92 ?_
  exact gx_iret X hG hS hE hF dX11_moved_93
theorem c_X11_moved (l : Launch) (D : va_G) (cA : Nat → ClassId) (base : Nat) (ad : Nat → Nat) (σ : Hp) (n : Nat) (a0 : Nat) (a1 : Int32) (a2 : Int32) (hT_a0 : hT σ a0 11) {τ : Hp} {r : Int32} (hF : F_X11_moved n a0 a1 a2 σ = some (r, τ)) : MI l yX11_moved cX11_moved 5 (some .int) rm_X11_moved D cA base ad σ [.ref (ad a0), .int a1, .int a2] r τ := by
  refine Met.ofW (cc := cX11_moved) (maxL := 5) (ret := (some .int)) (by decide) rfl ?_
  intro p e s m args below meth c s₁ B hml hv
  obtain ⟨rfl, hv⟩ := hv
  have X : SX D cA base p s m ([.ref (ad a0), .int a1, .int a2] : List Value).toArray meth c cX11_moved 5 (some .int) RX11 := sx_of B hml hv
  have hG := hv.1
  have hS : va_S (bA base) s.heap s.heap [] := va_S.rf
  have hE := xT.rf σ
  have hl := lv_entry ([.ref (ad a0), .int a1, .int a2]) (n := 5) (Nat.le_of_ble_eq_true rfl)
  rw [lg_entry_eq]
  generalize (lg_sl ([.ref (ad a0), .int a1, .int a2]) ++ List.replicate (5 - (lg_sl ([.ref (ad a0), .int a1, .int a2])).length) Slot.unset).toArray = ls at hl ⊢
  have hl : lv_has ls 5 [(0, .ref (ad a0)), (1, .int a1), (2, .int a2)] := hl
  unfold F_X11_moved at hF
  refine lv_aload_n X.1 X.2.1 dX11_moved_0 rfl (lv_at hl 0 rfl) ?_
  obtain ⟨i7, hr, hF⟩ := b1_ex hF
  have hT_i7 : hT σ i7 3 := gw_T hG hT_a0 (by decide) hr
  refine gx_get 0 (v := .ref (ad i7)) X hG hT_a0.1 (hT_a0.eq (by decide)) (by decide) rfl inX11 (by decide) k_151 (fun _ h => h) (gx_rfv hr) dX11_moved_1 ?_
  refine lv_iload_n X.1 X.2.1 dX11_moved_4 rfl (lv_at hl 1 rfl) ?_
  obtain ⟨r9, σ8, hz, hF⟩ := b2_ex hF
  refine gx_rI (gx_runV (As := [.int a1]) (rest := []) X hG hS hT_i7.1 (hT_i7.eq (by decide)) (by decide) rfl (c_X3_isSeat l D cA base ad σ n i7 a1 hT_i7 hz) k_374 k_371 k_372 k_373 k_2 (h_X3_isSeat) rfl rfl ⟨by decide, by decide⟩ rfl hl.1 rfl (Nat.le_of_ble_eq_true rfl) dX11_moved_5 ⟨Nat.zero_le _, Nat.zero_le _⟩) hS (fun H locs hG hS hX => ?_)
  have hT_a0 := hX.T hT_a0
  replace hE := hE.trans hX
  refine lv_if_eq (tgt := 20) X.1 X.2.1 dX11_moved_8 (by decide) (fun hc => ?_) (fun hc => ?_)
  · replace hF := it_t hF hc
    refine lv_ldc (v := (-1000000001)) X.1 X.2.1 X.2.2.2.2.2.1 (X.w k_385) dX11_moved_20 ?_
    exact gx_iret X hG hS hE hF dX11_moved_22
  · replace hF := it_f hF hc
    refine lv_iload_n X.1 X.2.1 dX11_moved_11 rfl (lv_at hl 2 rfl) ?_
    refine lv_if_lt (tgt := 20) X.1 X.2.1 dX11_moved_12 (by decide) (fun hc => ?_) (fun hc => ?_)
    · replace hF := it_t hF hc
      refine lv_ldc (v := (-1000000001)) X.1 X.2.1 X.2.2.2.2.2.1 (X.w k_385) dX11_moved_20 ?_
      exact gx_iret X hG hS hE hF dX11_moved_22
    · replace hF := it_f hF hc
      refine lv_iload_n X.1 X.2.1 dX11_moved_15 rfl (lv_at hl 2 rfl) ?_
      refine lv_iconst (v := 2) X.1 X.2.1 dX11_moved_16 (by decide) ?_
      refine lv_icmp_le (tgt := 23) X.1 X.2.1 dX11_moved_17 (by decide) (fun hc => ?_) (fun hc => ?_)
      · replace hF := it_t hF hc
        refine lv_aload_n X.1 X.2.1 dX11_moved_23 rfl (lv_at hl 0 rfl) ?_
        obtain ⟨σ10, hz, hF⟩ := b1_ex hF
        refine gx_rV (gx_runV (As := []) (rest := []) X hG hS hT_a0.1 (hT_a0.eq (by decide)) (by decide) rfl (c_X11_runInMind l D cA base ad σ8 n a0 hT_a0 hz) k_642 k_639 k_641 ks_12 k_1 (h_X11_runInMind) rfl rfl ⟨by decide, by decide⟩ rfl hl.1 rfl (Nat.le_of_ble_eq_true rfl) dX11_moved_24 ⟨Nat.zero_le _, Nat.zero_le _⟩) hS (fun H locs hG hS hX => ?_)
        have hT_a0 := hX.T hT_a0
        replace hE := hE.trans hX
        refine lv_iload_n X.1 X.2.1 dX11_moved_27 rfl (lv_at hl 2 rfl) ?_
        refine lv_iconst (v := 2) X.1 X.2.1 dX11_moved_28 (by decide) ?_
        refine lv_icmp_ne (tgt := 49) X.1 X.2.1 dX11_moved_29 (by decide) (fun hc => ?_) (fun hc => ?_)
        · replace hF := it_f hF hc
          refine lv_iload_n X.1 X.2.1 dX11_moved_49 rfl (lv_at hl 2 rfl) ?_
          refine lv_if_ne (tgt := 63) X.1 X.2.1 dX11_moved_50 (by decide) (fun hc => ?_) (fun hc => ?_)
          · replace hF := it_f hF hc
            refine lv_aload_n X.1 X.2.1 dX11_moved_63 rfl (lv_at hl 0 rfl) ?_
            obtain ⟨i11, hr, hF⟩ := b1_ex hF
            have hT_i11 : hT σ10 i11 3 := gw_T hG hT_a0 (by decide) hr
            refine gx_get 1 (v := .ref (ad i11)) X hG hT_a0.1 (hT_a0.eq (by decide)) (by decide) rfl inX11 (by decide) k_152 (fun _ h => h) (gx_rfv hr) dX11_moved_64 ?_
            obtain ⟨i12, hr, hF⟩ := b1_ex hF
            have hT_i12 : hT σ10 i12 13 := gw_T hG hT_i11 (by decide) hr
            refine gx_getN 17 (v := .ref (ad i12)) X hG hT_i11.1 (hT_i11.eq (by decide)) (by decide) rfl inX3 (by decide) q_80 (fun _ h => h) (gx_rfv hr) dX11_moved_67 ?_
            exact w_X11_moved_70 X n  a0 a1 i12 σ10 _ _ ls hT_a0 hT_i12 hG hS hE (lv_sub hl [0, 1] rfl) hF
          · replace hF := it_t hF hc
            refine lv_aload_n X.1 X.2.1 dX11_moved_53 rfl (lv_at hl 0 rfl) ?_
            obtain ⟨i13, hr, hF⟩ := b1_ex hF
            have hT_i13 : hT σ10 i13 3 := gw_T hG hT_a0 (by decide) hr
            refine gx_get 1 (v := .ref (ad i13)) X hG hT_a0.1 (hT_a0.eq (by decide)) (by decide) rfl inX11 (by decide) k_152 (fun _ h => h) (gx_rfv hr) dX11_moved_54 ?_
            obtain ⟨i14, hr, hF⟩ := b1_ex hF
            have hT_i14 : hT σ10 i14 13 := gw_T hG hT_i13 (by decide) hr
            refine gx_getN 16 (v := .ref (ad i14)) X hG hT_i13.1 (hT_i13.eq (by decide)) (by decide) rfl inX3 (by decide) q_77 (fun _ h => h) (gx_rfv hr) dX11_moved_57 ?_
            refine lv_goto (tgt := 70) X.1 X.2.1 dX11_moved_60 (by decide) ?_
            exact w_X11_moved_70 X n  a0 a1 i14 σ10 _ _ ls hT_a0 hT_i14 hG hS hE (lv_sub hl [0, 1] rfl) hF
        · replace hF := it_t hF hc
          refine lv_aload_n X.1 X.2.1 dX11_moved_32 rfl (lv_at hl 0 rfl) ?_
          obtain ⟨i15, hr, hF⟩ := b1_ex hF
          have hT_i15 : hT σ10 i15 3 := gw_T hG hT_a0 (by decide) hr
          refine gx_get 1 (v := .ref (ad i15)) X hG hT_a0.1 (hT_a0.eq (by decide)) (by decide) rfl inX11 (by decide) k_152 (fun _ h => h) (gx_rfv hr) dX11_moved_33 ?_
          refine lv_iload_n X.1 X.2.1 dX11_moved_36 rfl (lv_at hl 1 rfl) ?_
          obtain ⟨r17, σ16, hz, hF⟩ := b2_ex hF
          refine gx_rI (gx_runV (As := [.int a1]) (rest := []) X hG hS hT_i15.1 (hT_i15.eq (by decide)) (by decide) rfl (c_X3_gaveIn l D cA base ad σ10 n i15 a1 hT_i15 hz) k_389 k_386 k_387 k_388 k_2 (h_X3_gaveIn) rfl rfl ⟨by decide, by decide⟩ rfl hl.1 rfl (Nat.le_of_ble_eq_true rfl) dX11_moved_37 ⟨Nat.zero_le _, Nat.zero_le _⟩) hS (fun H locs hG hS hX => ?_)
          have hT_a0 := hX.T hT_a0
          replace hE := hE.trans hX
          refine lv_if_eq (tgt := 47) X.1 X.2.1 dX11_moved_40 (by decide) (fun hc => ?_) (fun hc => ?_)
          · replace hF := it_t hF hc
            refine lv_iconst (v := 0) X.1 X.2.1 dX11_moved_47 (by decide) ?_
            exact gx_iret X hG hS hE hF dX11_moved_48
          · replace hF := it_f hF hc
            refine lv_iconst (v := 1) X.1 X.2.1 dX11_moved_43 (by decide) ?_
            refine lv_goto (tgt := 48) X.1 X.2.1 dX11_moved_44 (by decide) ?_
            exact gx_iret X hG hS hE hF dX11_moved_48
      · replace hF := it_f hF hc
        refine lv_ldc (v := (-1000000001)) X.1 X.2.1 X.2.2.2.2.2.1 (X.w k_385) dX11_moved_20 ?_
        exact gx_iret X hG hS hE hF dX11_moved_22
theorem c_X3_isShared (l : Launch) (D : va_G) (cA : Nat → ClassId) (base : Nat) (ad : Nat → Nat) (σ : Hp) (n : Nat) (a0 : Nat) (a1 : Int32) (hT_a0 : hT σ a0 3) {τ : Hp} {r : Int32} (hF : F_X3_isShared n a0 a1 σ = some (r, τ)) : MI l yX3_isShared cX3_isShared 2 (some .boolean) rm_X3_isShared D cA base ad σ [.ref (ad a0), .int a1] r τ := by
  refine Met.ofW (cc := cX3_isShared) (maxL := 2) (ret := (some .boolean)) (by decide) rfl ?_
  intro p e s m args below meth c s₁ B hml hv
  obtain ⟨rfl, hv⟩ := hv
  have X : SX D cA base p s m ([.ref (ad a0), .int a1] : List Value).toArray meth c cX3_isShared 2 (some .boolean) RX3 := sx_of B hml hv
  have hG := hv.1
  have hS : va_S (bA base) s.heap s.heap [] := va_S.rf
  have hE := xT.rf σ
  have hl := lv_entry ([.ref (ad a0), .int a1]) (n := 2) (Nat.le_of_ble_eq_true rfl)
  rw [lg_entry_eq]
  generalize (lg_sl ([.ref (ad a0), .int a1]) ++ List.replicate (2 - (lg_sl ([.ref (ad a0), .int a1])).length) Slot.unset).toArray = ls at hl ⊢
  have hl : lv_has ls 2 [(0, .ref (ad a0)), (1, .int a1)] := hl
  unfold F_X3_isShared at hF
  refine lv_aload_n X.1 X.2.1 dX3_isShared_0 rfl (lv_at hl 0 rfl) ?_
  refine gx_get 14 (v := .int (hI σ a0 14)) X hG hT_a0.1 (hT_a0.eq (by decide)) (by decide) rfl inX3 (by decide) k_73 (fun _ h => h) rfl dX3_isShared_1 ?_
  refine lv_iload_n X.1 X.2.1 dX3_isShared_4 rfl (lv_at hl 1 rfl) ?_
  refine lv_ishr X.1 X.2.1 dX3_isShared_5 ?_
  refine lv_iconst (v := 1) X.1 X.2.1 dX3_isShared_6 (by decide) ?_
  refine lv_iand X.1 X.2.1 dX3_isShared_7 ?_
  refine lv_iconst (v := 1) X.1 X.2.1 dX3_isShared_8 (by decide) ?_
  refine lv_icmp_ne (tgt := 16) X.1 X.2.1 dX3_isShared_9 (by decide) (fun hc => ?_) (fun hc => ?_)
  · replace hF := it_f hF hc
    refine lv_iconst (v := 0) X.1 X.2.1 dX3_isShared_16 (by decide) ?_
    exact gx_zret X hG hS hE hF rfl dX3_isShared_17
  · replace hF := it_t hF hc
    refine lv_iconst (v := 1) X.1 X.2.1 dX3_isShared_12 (by decide) ?_
    refine lv_goto (tgt := 17) X.1 X.2.1 dX3_isShared_13 (by decide) ?_
    exact gx_zret X hG hS hE hF rfl dX3_isShared_17
theorem w_X11_out_104 {σ0 τ : Hp} {r : Int32} (X : SX D cA base p s m args meth c cX11_out 4 (some .int) RX11) (n : Nat)  : ∀ (v0 : Nat) (v1 : Int32) (v2 : Int32) (σ : Hp) (H : Heap) (locs : List Loc) (ls : Array Slot), hT σ v0 11 → GW D cA base ad σ H → va_S (bA base) s.heap H locs → xT σ0 σ → lv_has ls 4 [(0, .ref (ad v0)), (1, .int v1), (2, .int v2)] → F_X11_out_104 n  v0 v1 v2 σ = some (r, τ) → W p l e rm_X11_out s m args below meth c H locs 0 0 (ZI below s args D cA base ad σ0 r τ) (F0 m 104 ls []) := by
  intro v0 v1 v2 σ H locs ls hT_v0 hG hS hE hl hF
  unfold F_X11_out_104 at hF
  refine lv_aload_n X.1 X.2.1 dX11_out_104 rfl (lv_at hl 0 rfl) ?_
  obtain ⟨i1, hr, hF⟩ := b1_ex hF
  have hT_i1 : hT σ i1 3 := gw_T hG hT_v0 (by decide) hr
  refine gx_get 1 (v := .ref (ad i1)) X hG hT_v0.1 (hT_v0.eq (by decide)) (by decide) rfl inX11 (by decide) k_152 (fun _ h => h) (gx_rfv hr) dX11_out_105 ?_
  refine lv_iload_n X.1 X.2.1 dX11_out_108 rfl (lv_at hl 1 rfl) ?_
  obtain ⟨r3, σ2, hz, hF⟩ := b2_ex hF
  refine gx_rI (gx_runV (As := [.int v1]) (rest := []) X hG hS hT_i1.1 (hT_i1.eq (by decide)) (by decide) rfl (c_X3_isShared l D cA base ad σ n i1 v1 hT_i1 hz) k_672 k_669 k_670 k_671 k_2 (h_X3_isShared) rfl rfl ⟨by decide, by decide⟩ rfl hl.1 rfl (Nat.le_of_ble_eq_true rfl) dX11_out_109 ⟨Nat.zero_le _, Nat.zero_le _⟩) hS (fun H locs hG hS hX => ?_)
  have hT_v0 := hX.T hT_v0
  replace hE := hE.trans hX
  refine lv_if_eq (tgt := 119) X.1 X.2.1 dX11_out_112 (by decide) (fun hc => ?_) (fun hc => ?_)
  · replace hF := it_t hF hc
    refine lv_bipush (v := (-4)) X.1 X.2.1 dX11_out_119 (by decide) ?_
    exact gx_iret X hG hS hE hF dX11_out_121
  · replace hF := it_f hF hc
    refine lv_iload_n X.1 X.2.1 dX11_out_115 rfl (lv_at hl 2 rfl) ?_
    refine lv_goto (tgt := 121) X.1 X.2.1 dX11_out_116 (by decide) ?_
    exact gx_iret X hG hS hE hF dX11_out_121
theorem w_X11_out_53 {σ0 τ : Hp} {r : Int32} (X : SX D cA base p s m args meth c cX11_out 4 (some .int) RX11) (n : Nat)  : ∀ f : Nat, ∀ (v0 : Nat) (v1 : Int32) (v2 : Int32) (v3 : Int32) (σ : Hp) (H : Heap) (locs : List Loc) (ls : Array Slot), hT σ v0 11 → GW D cA base ad σ H → va_S (bA base) s.heap H locs → xT σ0 σ → lv_has ls 4 [(0, .ref (ad v0)), (1, .int v1), (2, .int v2), (3, .int v3)] → F_X11_out_53 n  f v0 v1 v2 v3 σ = some (r, τ) → W p l e rm_X11_out s m args below meth c H locs 0 0 (ZI below s args D cA base ad σ0 r τ) (F0 m 53 ls []) := by
  intro f
  induction f with
  | zero => intro v0 v1 v2 v3 σ H locs ls h0 hG hS hE hl hF
            rw [F_X11_out_53] at hF; cases hF
  | succ f ih =>
    intro v0 v1 v2 v3 σ H locs ls hT_v0 hG hS hE hl hF
    rw [F_X11_out_53] at hF
    refine lv_iload_n X.1 X.2.1 dX11_out_53 rfl (lv_at hl 3 rfl) ?_
    refine lv_sipush (v := 3000) X.1 X.2.1 dX11_out_54 (by decide) ?_
    refine lv_icmp_ge (tgt := 104) X.1 X.2.1 dX11_out_57 (by decide) (fun hc => ?_) (fun hc => ?_)
    · replace hF := it_t hF hc
      exact w_X11_out_104 X n  v0 v1 v2 σ _ _ ls hT_v0 hG hS hE (lv_sub hl [0, 1, 2] rfl) hF
    · replace hF := it_f hF hc
      refine lv_aload_n X.1 X.2.1 dX11_out_60 rfl (lv_at hl 0 rfl) ?_
      obtain ⟨i4, hr, hF⟩ := b1_ex hF
      have hT_i4 : hT σ i4 3 := gw_T hG hT_v0 (by decide) hr
      refine gx_get 1 (v := .ref (ad i4)) X hG hT_v0.1 (hT_v0.eq (by decide)) (by decide) rfl inX11 (by decide) k_152 (fun _ h => h) (gx_rfv hr) dX11_out_61 ?_
      refine lv_iload_n X.1 X.2.1 dX11_out_64 rfl (lv_at hl 1 rfl) ?_
      obtain ⟨r6, σ5, hz, hF⟩ := b2_ex hF
      refine gx_rI (gx_runV (As := [.int v1]) (rest := []) X hG hS hT_i4.1 (hT_i4.eq (by decide)) (by decide) rfl (c_X3_isShared l D cA base ad σ n i4 v1 hT_i4 hz) k_672 k_669 k_670 k_671 k_2 (h_X3_isShared) rfl rfl ⟨by decide, by decide⟩ rfl hl.1 rfl (Nat.le_of_ble_eq_true rfl) dX11_out_65 ⟨Nat.zero_le _, Nat.zero_le _⟩) hS (fun H locs hG hS hX => ?_)
      have hT_v0 := hX.T hT_v0
      replace hE := hE.trans hX
      refine lv_if_ne (tgt := 104) X.1 X.2.1 dX11_out_68 (by decide) (fun hc => ?_) (fun hc => ?_)
      · replace hF := it_f hF hc
        exact w_X11_out_104 X n  v0 v1 v2 σ5 _ _ ls hT_v0 hG hS hE (lv_sub hl [0, 1, 2] rfl) hF
      · replace hF := it_t hF hc
        refine lv_aload_n X.1 X.2.1 dX11_out_71 rfl (lv_at hl 0 rfl) ?_
        obtain ⟨i7, hr, hF⟩ := b1_ex hF
        have hT_i7 : hT σ5 i7 3 := gw_T hG hT_v0 (by decide) hr
        refine gx_get 1 (v := .ref (ad i7)) X hG hT_v0.1 (hT_v0.eq (by decide)) (by decide) rfl inX11 (by decide) k_152 (fun _ h => h) (gx_rfv hr) dX11_out_72 ?_
        obtain ⟨r9, σ8, hz, hF⟩ := b2_ex hF
        refine gx_rI (gx_runV (As := []) (rest := []) X hG hS hT_i7.1 (hT_i7.eq (by decide)) (by decide) rfl (c_X3_ends l D cA base ad σ5 n i7 hT_i7 hz) k_553 k_550 k_551 k_552 k_2 (h_X3_ends) rfl rfl ⟨by decide, by decide⟩ rfl hl.1 rfl (Nat.le_of_ble_eq_true rfl) dX11_out_75 ⟨Nat.zero_le _, Nat.zero_le _⟩) hS (fun H locs hG hS hX => ?_)
        have hT_v0 := hX.T hT_v0
        replace hE := hE.trans hX
        refine lv_bipush (v := (-4)) X.1 X.2.1 dX11_out_78 (by decide) ?_
        refine lv_icmp_ne (tgt := 104) X.1 X.2.1 dX11_out_80 (by decide) (fun hc => ?_) (fun hc => ?_)
        · replace hF := it_f hF hc
          exact w_X11_out_104 X n  v0 v1 v2 σ8 _ _ ls hT_v0 hG hS hE (lv_sub hl [0, 1, 2] rfl) hF
        · replace hF := it_t hF hc
          refine lv_aload_n X.1 X.2.1 dX11_out_83 rfl (lv_at hl 0 rfl) ?_
          obtain ⟨i10, hr, hF⟩ := b1_ex hF
          have hT_i10 : hT σ8 i10 3 := gw_T hG hT_v0 (by decide) hr
          refine gx_get 1 (v := .ref (ad i10)) X hG hT_v0.1 (hT_v0.eq (by decide)) (by decide) rfl inX11 (by decide) k_152 (fun _ h => h) (gx_rfv hr) dX11_out_84 ?_
          refine gx_getN 10 (v := .int (hI σ8 i10 10)) X hG hT_i10.1 (hT_i10.eq (by decide)) (by decide) rfl inX3 (by decide) q_62 (fun _ h => h) rfl dX11_out_87 ?_
          refine lv_istore_n (lv' := [(2, .int (hI σ8 i10 10)), (0, .ref (ad v0)), (1, .int v1), (3, .int v3)]) X.1 X.2.1 dX11_out_90 rfl hl (by decide) rfl (fun ls hl => ?_)
          refine lv_aload_n X.1 X.2.1 dX11_out_91 rfl (lv_at hl 1 rfl) ?_
          obtain ⟨i11, hr, hF⟩ := b1_ex hF
          have hT_i11 : hT σ8 i11 3 := gw_T hG hT_v0 (by decide) hr
          refine gx_get 1 (v := .ref (ad i11)) X hG hT_v0.1 (hT_v0.eq (by decide)) (by decide) rfl inX11 (by decide) k_152 (fun _ h => h) (gx_rfv hr) dX11_out_92 ?_
          obtain ⟨σ12, hz, hF⟩ := b1_ex hF
          refine gx_rV (gx_runV (As := []) (rest := []) X hG hS hT_i11.1 (hT_i11.eq (by decide)) (by decide) rfl (c_X3_step l D cA base ad σ8 n i11 hT_i11 hz) k_563 k_560 k_561 k_562 k_2 (h_X3_step) rfl rfl ⟨by decide, by decide⟩ rfl hl.1 rfl (Nat.le_of_ble_eq_true rfl) dX11_out_95 ⟨Nat.zero_le _, Nat.zero_le _⟩) hS (fun H locs hG hS hX => ?_)
          have hT_v0 := hX.T hT_v0
          replace hE := hE.trans hX
          refine lv_iinc (v := v3 + 1) (lv' := [(3, .int (v3 + 1)), (2, .int (hI σ8 i10 10)), (0, .ref (ad v0)), (1, .int v1)]) X.1 X.2.1 dX11_out_98 hl (k := 3) rfl rfl (by decide) rfl (fun ls hl => ?_)
          refine lv_goto (tgt := 53) X.1 X.2.1 dX11_out_101 (by decide) ?_
          exact ih v0 v1 (hI σ8 i10 10) (v3 + 1) σ12 _ _ ls hT_v0 hG hS hE (lv_sub hl [2, 3, 1, 0] rfl) hF
theorem c_X11_out (l : Launch) (D : va_G) (cA : Nat → ClassId) (base : Nat) (ad : Nat → Nat) (σ : Hp) (n : Nat) (a0 : Nat) (a1 : Int32) (hT_a0 : hT σ a0 11) {τ : Hp} {r : Int32} (hF : F_X11_out n a0 a1 σ = some (r, τ)) : MI l yX11_out cX11_out 4 (some .int) rm_X11_out D cA base ad σ [.ref (ad a0), .int a1] r τ := by
  refine Met.ofW (cc := cX11_out) (maxL := 4) (ret := (some .int)) (by decide) rfl ?_
  intro p e s m args below meth c s₁ B hml hv
  obtain ⟨rfl, hv⟩ := hv
  have X : SX D cA base p s m ([.ref (ad a0), .int a1] : List Value).toArray meth c cX11_out 4 (some .int) RX11 := sx_of B hml hv
  have hG := hv.1
  have hS : va_S (bA base) s.heap s.heap [] := va_S.rf
  have hE := xT.rf σ
  have hl := lv_entry ([.ref (ad a0), .int a1]) (n := 4) (Nat.le_of_ble_eq_true rfl)
  rw [lg_entry_eq]
  generalize (lg_sl ([.ref (ad a0), .int a1]) ++ List.replicate (4 - (lg_sl ([.ref (ad a0), .int a1])).length) Slot.unset).toArray = ls at hl ⊢
  have hl : lv_has ls 4 [(0, .ref (ad a0)), (1, .int a1)] := hl
  unfold F_X11_out at hF
  refine lv_iload_n X.1 X.2.1 dX11_out_0 rfl (lv_at hl 1 rfl) ?_
  refine lv_if_lt (tgt := 15) X.1 X.2.1 dX11_out_1 (by decide) (fun hc => ?_) (fun hc => ?_)
  · replace hF := it_t hF hc
    refine lv_iconst (v := (-1)) X.1 X.2.1 dX11_out_15 (by decide) ?_
    exact gx_iret X hG hS hE hF dX11_out_16
  · replace hF := it_f hF hc
    refine lv_iload_n X.1 X.2.1 dX11_out_4 rfl (lv_at hl 1 rfl) ?_
    refine lv_aload_n X.1 X.2.1 dX11_out_5 rfl (lv_at hl 0 rfl) ?_
    obtain ⟨i13, hr, hF⟩ := b1_ex hF
    have hT_i13 : hT σ i13 3 := gw_T hG hT_a0 (by decide) hr
    refine gx_get 0 (v := .ref (ad i13)) X hG hT_a0.1 (hT_a0.eq (by decide)) (by decide) rfl inX11 (by decide) k_151 (fun _ h => h) (gx_rfv hr) dX11_out_6 ?_
    refine gx_getN 0 (v := .int (hI σ i13 0)) X hG hT_i13.1 (hT_i13.eq (by decide)) (by decide) rfl inX3 (by decide) q_40 (fun _ h => h) rfl dX11_out_9 ?_
    refine lv_icmp_lt (tgt := 17) X.1 X.2.1 dX11_out_12 (by decide) (fun hc => ?_) (fun hc => ?_)
    · replace hF := it_t hF hc
      refine lv_aload_n X.1 X.2.1 dX11_out_17 rfl (lv_at hl 0 rfl) ?_
      obtain ⟨i14, hr, hF⟩ := b1_ex hF
      have hT_i14 : hT σ i14 3 := gw_T hG hT_a0 (by decide) hr
      refine gx_get 0 (v := .ref (ad i14)) X hG hT_a0.1 (hT_a0.eq (by decide)) (by decide) rfl inX11 (by decide) k_151 (fun _ h => h) (gx_rfv hr) dX11_out_18 ?_
      refine gx_getN 2 (v := .int (hI σ i14 2)) X hG hT_i14.1 (hT_i14.eq (by decide)) (by decide) rfl inX3 (by decide) q_49 (fun _ h => h) rfl dX11_out_21 ?_
      refine lv_if_ne (tgt := 30) X.1 X.2.1 dX11_out_24 (by decide) (fun hc => ?_) (fun hc => ?_)
      · replace hF := it_f hF hc
        refine lv_aload_n X.1 X.2.1 dX11_out_30 rfl (lv_at hl 0 rfl) ?_
        obtain ⟨i15, hr, hF⟩ := b1_ex hF
        have hT_i15 : hT σ i15 3 := gw_T hG hT_a0 (by decide) hr
        refine gx_get 1 (v := .ref (ad i15)) X hG hT_a0.1 (hT_a0.eq (by decide)) (by decide) rfl inX11 (by decide) k_152 (fun _ h => h) (gx_rfv hr) dX11_out_31 ?_
        refine lv_aload_n X.1 X.2.1 dX11_out_34 rfl (lv_at hl 0 rfl) ?_
        obtain ⟨i16, hr, hF⟩ := b1_ex hF
        have hT_i16 : hT σ i16 3 := gw_T hG hT_a0 (by decide) hr
        refine gx_get 0 (v := .ref (ad i16)) X hG hT_a0.1 (hT_a0.eq (by decide)) (by decide) rfl inX11 (by decide) k_151 (fun _ h => h) (gx_rfv hr) dX11_out_35 ?_
        refine lv_iconst (v := 0) X.1 X.2.1 dX11_out_38 (by decide) ?_
        obtain ⟨σ17, hz, hF⟩ := b1_ex hF
        refine gx_rV (gx_runV (As := [.ref (ad i16), .int 0]) (rest := []) X hG hS hT_i15.1 (hT_i15.eq (by decide)) (by decide) rfl (c_X3_seatFrom l D cA base ad σ n i15 i16 0 hT_i15 hT_i16 hz) k_646 k_643 k_644 k_645 k_2 (h_X3_seatFrom) rfl rfl ⟨by decide, by decide⟩ rfl hl.1 rfl (Nat.le_of_ble_eq_true rfl) dX11_out_39 ⟨Nat.zero_le _, Nat.zero_le _⟩) hS (fun H locs hG hS hX => ?_)
        have hT_a0 := hX.T hT_a0
        replace hE := hE.trans hX
        refine lv_aload_n X.1 X.2.1 dX11_out_42 rfl (lv_at hl 0 rfl) ?_
        obtain ⟨i18, hr, hF⟩ := b1_ex hF
        have hT_i18 : hT σ17 i18 3 := gw_T hG hT_a0 (by decide) hr
        refine gx_get 1 (v := .ref (ad i18)) X hG hT_a0.1 (hT_a0.eq (by decide)) (by decide) rfl inX11 (by decide) k_152 (fun _ h => h) (gx_rfv hr) dX11_out_43 ?_
        obtain ⟨σ19, hz, hF⟩ := b1_ex hF
        refine gx_rV (gx_runV (As := []) (rest := []) X hG hS hT_i18.1 (hT_i18.eq (by decide)) (by decide) rfl (c_X3_beginTalk l D cA base ad σ17 n i18 hT_i18 hz) k_535 k_532 k_533 k_534 k_2 (h_X3_beginTalk) rfl rfl ⟨by decide, by decide⟩ rfl hl.1 rfl (Nat.le_of_ble_eq_true rfl) dX11_out_46 ⟨Nat.zero_le _, Nat.zero_le _⟩) hS (fun H locs hG hS hX => ?_)
        have hT_a0 := hX.T hT_a0
        replace hE := hE.trans hX
        refine lv_iconst (v := 0) X.1 X.2.1 dX11_out_49 (by decide) ?_
        refine lv_istore_n (lv' := [(2, .int 0), (0, .ref (ad a0)), (1, .int a1)]) X.1 X.2.1 dX11_out_50 rfl hl (by decide) rfl (fun ls hl => ?_)
        refine lv_iconst (v := 0) X.1 X.2.1 dX11_out_51 (by decide) ?_
        refine lv_istore_n (lv' := [(3, .int 0), (2, .int 0), (0, .ref (ad a0)), (1, .int a1)]) X.1 X.2.1 dX11_out_52 rfl hl (by decide) rfl (fun ls hl => ?_)
        exact w_X11_out_53 X n  n a0 a1 0 0 σ19 _ _ ls hT_a0 hG hS hE (lv_sub hl [2, 3, 1, 0] rfl) hF
      · replace hF := it_t hF hc
        refine lv_bipush (v := (-3)) X.1 X.2.1 dX11_out_27 (by decide) ?_
        exact gx_iret X hG hS hE hF dX11_out_29
    · replace hF := it_f hF hc
      refine lv_iconst (v := (-1)) X.1 X.2.1 dX11_out_15 (by decide) ?_
      exact gx_iret X hG hS hE hF dX11_out_16
theorem w_X11_one_48 {σ0 τ : Hp} {r : Int32} (X : SX D cA base p s m args meth c cX11_one 5 (some .int) RX11) (n : Nat)  : ∀ (v1 : Int32) (v2 : Int32) (σ : Hp) (H : Heap) (locs : List Loc) (ls : Array Slot), GW D cA base ad σ H → va_S (bA base) s.heap H locs → xT σ0 σ → lv_has ls 5 [(1, .int v1), (2, .int v2)] → F_X11_one_48 n  v1 v2 σ = some (r, τ) → W p l e rm_X11_one s m args below meth c H locs 0 0 (ZI below s args D cA base ad σ0 r τ) (F0 m 48 ls []) := by
  intro v1 v2 σ H locs ls hG hS hE hl hF
  unfold F_X11_one_48 at hF
  refine lv_iload_n X.1 X.2.1 dX11_one_48 rfl (lv_at hl 0 rfl) ?_
  refine lv_iload_n X.1 X.2.1 dX11_one_49 rfl (lv_at hl 1 rfl) ?_
  refine lv_iconst (v := (-1)) X.1 X.2.1 dX11_one_50 (by decide) ?_
  refine lv_ixor X.1 X.2.1 dX11_one_51 ?_
  refine lv_iand X.1 X.2.1 dX11_one_52 ?_
  exact gx_iret X hG hS hE hF dX11_one_53
theorem w_X11_one_6 {σ0 τ : Hp} {r : Int32} (X : SX D cA base p s m args meth c cX11_one 5 (some .int) RX11) (n : Nat)  : ∀ f : Nat, ∀ (v0 : Nat) (v1 : Int32) (v2 : Int32) (v3 : Int32) (σ : Hp) (H : Heap) (locs : List Loc) (ls : Array Slot), hT σ v0 11 → GW D cA base ad σ H → va_S (bA base) s.heap H locs → xT σ0 σ → lv_has ls 5 [(0, .ref (ad v0)), (1, .int v1), (2, .int v2), (3, .int v3)] → F_X11_one_6 n  f v0 v1 v2 v3 σ = some (r, τ) → W p l e rm_X11_one s m args below meth c H locs 0 0 (ZI below s args D cA base ad σ0 r τ) (F0 m 6 ls []) := by
  intro f
  induction f with
  | zero => intro v0 v1 v2 v3 σ H locs ls h0 hG hS hE hl hF
            rw [F_X11_one_6] at hF; cases hF
  | succ f ih =>
    intro v0 v1 v2 v3 σ H locs ls hT_v0 hG hS hE hl hF
    rw [F_X11_one_6] at hF
    refine lv_iload_n X.1 X.2.1 dX11_one_6 rfl (lv_at hl 3 rfl) ?_
    refine lv_aload_n X.1 X.2.1 dX11_one_7 rfl (lv_at hl 0 rfl) ?_
    obtain ⟨i1, hr, hF⟩ := b1_ex hF
    have hT_i1 : hT σ i1 3 := gw_T hG hT_v0 (by decide) hr
    refine gx_get 0 (v := .ref (ad i1)) X hG hT_v0.1 (hT_v0.eq (by decide)) (by decide) rfl inX11 (by decide) k_151 (fun _ h => h) (gx_rfv hr) dX11_one_8 ?_
    refine gx_getN 2 (v := .int (hI σ i1 2)) X hG hT_i1.1 (hT_i1.eq (by decide)) (by decide) rfl inX3 (by decide) q_49 (fun _ h => h) rfl dX11_one_11 ?_
    refine lv_icmp_ge (tgt := 48) X.1 X.2.1 dX11_one_14 (by decide) (fun hc => ?_) (fun hc => ?_)
    · replace hF := it_t hF hc
      exact w_X11_one_48 X n  v1 v2 σ _ _ ls  hG hS hE (lv_sub hl [1, 2] rfl) hF
    · replace hF := it_f hF hc
      refine lv_aload_n X.1 X.2.1 dX11_one_17 rfl (lv_at hl 0 rfl) ?_
      obtain ⟨i2, hr, hF⟩ := b1_ex hF
      have hT_i2 : hT σ i2 3 := gw_T hG hT_v0 (by decide) hr
      refine gx_get 0 (v := .ref (ad i2)) X hG hT_v0.1 (hT_v0.eq (by decide)) (by decide) rfl inX11 (by decide) k_151 (fun _ h => h) (gx_rfv hr) dX11_one_18 ?_
      obtain ⟨i3, hr, hF⟩ := b1_ex hF
      have hT_i3 : hT σ i3 13 := gw_T hG hT_i2 (by decide) hr
      refine gx_getN 4 (v := .ref (ad i3)) X hG hT_i2.1 (hT_i2.eq (by decide)) (by decide) rfl inX3 (by decide) q_52 (fun _ h => h) (gx_rfv hr) dX11_one_21 ?_
      refine lv_iload_n X.1 X.2.1 dX11_one_24 rfl (lv_at hl 3 rfl) ?_
      obtain ⟨r5, σ4, hz, hF⟩ := b2_ex hF
      refine gx_rI (gx_runS (As := [.ref (ad i3), .int v3]) (rest := []) X hG hS (c_X11_at l D cA base ad σ n i3 v3 hT_i3 hz) k_362 k_375 k_361 k_1 (h_X11_at.2) rfl rfl ⟨by decide, by decide⟩ rfl hl.1 rfl (Nat.le_of_ble_eq_true rfl) dX11_one_25 ⟨Nat.zero_le _, Nat.zero_le _⟩) hS (fun H locs hG hS hX => ?_)
      have hT_v0 := hX.T hT_v0
      replace hE := hE.trans hX
      refine lv_istore (lv' := [(4, .int r5), (0, .ref (ad v0)), (1, .int v1), (2, .int v2), (3, .int v3)]) X.1 X.2.1 dX11_one_28 hl (by decide) rfl (fun ls hl => ?_)
      refine lv_iload_n X.1 X.2.1 dX11_one_30 rfl (lv_at hl 3 rfl) ?_
      refine lv_iload_n X.1 X.2.1 dX11_one_31 rfl (lv_at hl 2 rfl) ?_
      refine lv_iload X.1 X.2.1 dX11_one_32 (lv_at hl 0 rfl) ?_
      refine lv_iand X.1 X.2.1 dX11_one_34 ?_
      refine lv_ior X.1 X.2.1 dX11_one_35 ?_
      refine lv_istore_n (lv' := [(2, .int (v2 ||| (v1 &&& r5))), (4, .int r5), (0, .ref (ad v0)), (1, .int v1), (3, .int v3)]) X.1 X.2.1 dX11_one_36 rfl hl (by decide) rfl (fun ls hl => ?_)
      refine lv_iload_n X.1 X.2.1 dX11_one_37 rfl (lv_at hl 3 rfl) ?_
      refine lv_iload X.1 X.2.1 dX11_one_38 (lv_at hl 1 rfl) ?_
      refine lv_ior X.1 X.2.1 dX11_one_40 ?_
      refine lv_istore_n (lv' := [(1, .int (v1 ||| r5)), (2, .int (v2 ||| (v1 &&& r5))), (4, .int r5), (0, .ref (ad v0)), (3, .int v3)]) X.1 X.2.1 dX11_one_41 rfl hl (by decide) rfl (fun ls hl => ?_)
      refine lv_iinc (v := v3 + 1) (lv' := [(3, .int (v3 + 1)), (1, .int (v1 ||| r5)), (2, .int (v2 ||| (v1 &&& r5))), (4, .int r5), (0, .ref (ad v0))]) X.1 X.2.1 dX11_one_42 hl (k := 4) rfl rfl (by decide) rfl (fun ls hl => ?_)
      refine lv_goto (tgt := 6) X.1 X.2.1 dX11_one_45 (by decide) ?_
      exact ih v0 (v1 ||| r5) (v2 ||| (v1 &&& r5)) (v3 + 1) σ4 _ _ ls hT_v0 hG hS hE (lv_sub hl [4, 1, 2, 0] rfl) hF
theorem c_X11_one (l : Launch) (D : va_G) (cA : Nat → ClassId) (base : Nat) (ad : Nat → Nat) (σ : Hp) (n : Nat) (a0 : Nat) (hT_a0 : hT σ a0 11) {τ : Hp} {r : Int32} (hF : F_X11_one n a0 σ = some (r, τ)) : MI l yX11_one cX11_one 5 (some .int) rm_X11_one D cA base ad σ [.ref (ad a0)] r τ := by
  refine Met.ofW (cc := cX11_one) (maxL := 5) (ret := (some .int)) (by decide) rfl ?_
  intro p e s m args below meth c s₁ B hml hv
  obtain ⟨rfl, hv⟩ := hv
  have X : SX D cA base p s m ([.ref (ad a0)] : List Value).toArray meth c cX11_one 5 (some .int) RX11 := sx_of B hml hv
  have hG := hv.1
  have hS : va_S (bA base) s.heap s.heap [] := va_S.rf
  have hE := xT.rf σ
  have hl := lv_entry ([.ref (ad a0)]) (n := 5) (Nat.le_of_ble_eq_true rfl)
  rw [lg_entry_eq]
  generalize (lg_sl ([.ref (ad a0)]) ++ List.replicate (5 - (lg_sl ([.ref (ad a0)])).length) Slot.unset).toArray = ls at hl ⊢
  have hl : lv_has ls 5 [(0, .ref (ad a0))] := hl
  unfold F_X11_one at hF
  refine lv_iconst (v := 0) X.1 X.2.1 dX11_one_0 (by decide) ?_
  refine lv_istore_n (lv' := [(1, .int 0), (0, .ref (ad a0))]) X.1 X.2.1 dX11_one_1 rfl hl (by decide) rfl (fun ls hl => ?_)
  refine lv_iconst (v := 0) X.1 X.2.1 dX11_one_2 (by decide) ?_
  refine lv_istore_n (lv' := [(2, .int 0), (1, .int 0), (0, .ref (ad a0))]) X.1 X.2.1 dX11_one_3 rfl hl (by decide) rfl (fun ls hl => ?_)
  refine lv_iconst (v := 0) X.1 X.2.1 dX11_one_4 (by decide) ?_
  refine lv_istore_n (lv' := [(3, .int 0), (2, .int 0), (1, .int 0), (0, .ref (ad a0))]) X.1 X.2.1 dX11_one_5 rfl hl (by decide) rfl (fun ls hl => ?_)
  exact w_X11_one_6 X n  n a0 0 0 0 σ _ _ ls hT_a0 hG hS hE (lv_sub hl [3, 2, 1, 0] rfl) hF
theorem c_X11_six (l : Launch) (D : va_G) (cA : Nat → ClassId) (base : Nat) (ad : Nat → Nat) (σ : Hp) (n : Nat) (a0 : Nat) (a1 : Int32) (a2 : Int32) (hT_a0 : hT σ a0 11) {τ : Hp} {r : Int32} (hF : F_X11_six n a0 a1 a2 σ = some (r, τ)) : MI l yX11_six cX11_six 4 (some .int) rm_X11_six D cA base ad σ [.ref (ad a0), .int a1, .int a2] r τ := by
  refine Met.ofW (cc := cX11_six) (maxL := 4) (ret := (some .int)) (by decide) rfl ?_
  intro p e s m args below meth c s₁ B hml hv
  obtain ⟨rfl, hv⟩ := hv
  have X : SX D cA base p s m ([.ref (ad a0), .int a1, .int a2] : List Value).toArray meth c cX11_six 4 (some .int) RX11 := sx_of B hml hv
  have hG := hv.1
  have hS : va_S (bA base) s.heap s.heap [] := va_S.rf
  have hE := xT.rf σ
  have hl := lv_entry ([.ref (ad a0), .int a1, .int a2]) (n := 4) (Nat.le_of_ble_eq_true rfl)
  rw [lg_entry_eq]
  generalize (lg_sl ([.ref (ad a0), .int a1, .int a2]) ++ List.replicate (4 - (lg_sl ([.ref (ad a0), .int a1, .int a2])).length) Slot.unset).toArray = ls at hl ⊢
  have hl : lv_has ls 4 [(0, .ref (ad a0)), (1, .int a1), (2, .int a2)] := hl
  unfold F_X11_six at hF
  refine lv_iload_n X.1 X.2.1 dX11_six_0 rfl (lv_at hl 1 rfl) ?_
  refine lv_iconst (v := 1) X.1 X.2.1 dX11_six_1 (by decide) ?_
  refine lv_icmp_lt (tgt := 25) X.1 X.2.1 dX11_six_2 (by decide) (fun hc => ?_) (fun hc => ?_)
  · replace hF := it_t hF hc
    refine lv_iconst (v := (-1)) X.1 X.2.1 dX11_six_25 (by decide) ?_
    exact gx_iret X hG hS hE hF dX11_six_26
  · replace hF := it_f hF hc
    refine lv_iload_n X.1 X.2.1 dX11_six_5 rfl (lv_at hl 1 rfl) ?_
    refine lv_aload_n X.1 X.2.1 dX11_six_6 rfl (lv_at hl 0 rfl) ?_
    obtain ⟨i1, hr, hF⟩ := b1_ex hF
    have hT_i1 : hT σ i1 3 := gw_T hG hT_a0 (by decide) hr
    refine gx_get 0 (v := .ref (ad i1)) X hG hT_a0.1 (hT_a0.eq (by decide)) (by decide) rfl inX11 (by decide) k_151 (fun _ h => h) (gx_rfv hr) dX11_six_7 ?_
    refine gx_getN 2 (v := .int (hI σ i1 2)) X hG hT_i1.1 (hT_i1.eq (by decide)) (by decide) rfl inX3 (by decide) q_49 (fun _ h => h) rfl dX11_six_10 ?_
    refine lv_icmp_gt (tgt := 25) X.1 X.2.1 dX11_six_13 (by decide) (fun hc => ?_) (fun hc => ?_)
    · replace hF := it_t hF hc
      refine lv_iconst (v := (-1)) X.1 X.2.1 dX11_six_25 (by decide) ?_
      exact gx_iret X hG hS hE hF dX11_six_26
    · replace hF := it_f hF hc
      refine lv_iload_n X.1 X.2.1 dX11_six_16 rfl (lv_at hl 2 rfl) ?_
      refine lv_if_lt (tgt := 25) X.1 X.2.1 dX11_six_17 (by decide) (fun hc => ?_) (fun hc => ?_)
      · replace hF := it_t hF hc
        refine lv_iconst (v := (-1)) X.1 X.2.1 dX11_six_25 (by decide) ?_
        exact gx_iret X hG hS hE hF dX11_six_26
      · replace hF := it_f hF hc
        refine lv_iload_n X.1 X.2.1 dX11_six_20 rfl (lv_at hl 2 rfl) ?_
        refine lv_iconst (v := 2) X.1 X.2.1 dX11_six_21 (by decide) ?_
        refine lv_icmp_le (tgt := 27) X.1 X.2.1 dX11_six_22 (by decide) (fun hc => ?_) (fun hc => ?_)
        · replace hF := it_t hF hc
          refine lv_aload_n X.1 X.2.1 dX11_six_27 rfl (lv_at hl 0 rfl) ?_
          obtain ⟨i2, hr, hF⟩ := b1_ex hF
          have hT_i2 : hT σ i2 3 := gw_T hG hT_a0 (by decide) hr
          refine gx_get 1 (v := .ref (ad i2)) X hG hT_a0.1 (hT_a0.eq (by decide)) (by decide) rfl inX11 (by decide) k_152 (fun _ h => h) (gx_rfv hr) dX11_six_28 ?_
          refine lv_aload_n X.1 X.2.1 dX11_six_31 rfl (lv_at hl 0 rfl) ?_
          obtain ⟨i3, hr, hF⟩ := b1_ex hF
          have hT_i3 : hT σ i3 3 := gw_T hG hT_a0 (by decide) hr
          refine gx_get 0 (v := .ref (ad i3)) X hG hT_a0.1 (hT_a0.eq (by decide)) (by decide) rfl inX11 (by decide) k_151 (fun _ h => h) (gx_rfv hr) dX11_six_32 ?_
          refine lv_iconst (v := (-1)) X.1 X.2.1 dX11_six_35 (by decide) ?_
          refine lv_iload_n X.1 X.2.1 dX11_six_36 rfl (lv_at hl 1 rfl) ?_
          refine lv_ishl X.1 X.2.1 dX11_six_37 ?_
          obtain ⟨σ4, hz, hF⟩ := b1_ex hF
          refine gx_rV (gx_runV (As := [.ref (ad i3), .int ((-1) <<< (a1 &&& 31))]) (rest := []) X hG hS hT_i2.1 (hT_i2.eq (by decide)) (by decide) rfl (c_X3_seatFrom l D cA base ad σ n i2 i3 ((-1) <<< (a1 &&& 31)) hT_i2 hT_i3 hz) k_646 k_643 k_644 k_645 k_2 (h_X3_seatFrom) rfl rfl ⟨by decide, by decide⟩ rfl hl.1 rfl (Nat.le_of_ble_eq_true rfl) dX11_six_38 ⟨Nat.zero_le _, Nat.zero_le _⟩) hS (fun H locs hG hS hX => ?_)
          have hT_a0 := hX.T hT_a0
          replace hE := hE.trans hX
          refine lv_aload_n X.1 X.2.1 dX11_six_41 rfl (lv_at hl 0 rfl) ?_
          obtain ⟨i5, hr, hF⟩ := b1_ex hF
          have hT_i5 : hT σ4 i5 3 := gw_T hG hT_a0 (by decide) hr
          refine gx_get 1 (v := .ref (ad i5)) X hG hT_a0.1 (hT_a0.eq (by decide)) (by decide) rfl inX11 (by decide) k_152 (fun _ h => h) (gx_rfv hr) dX11_six_42 ?_
          obtain ⟨r7, σ6, hz, hF⟩ := b2_ex hF
          refine gx_rI (gx_runV (As := []) (rest := []) X hG hS hT_i5.1 (hT_i5.eq (by decide)) (by decide) rfl (c_X3_runThrough l D cA base ad σ4 n i5 hT_i5 hz) k_652 k_649 k_650 k_651 k_2 (h_X3_runThrough) rfl rfl ⟨by decide, by decide⟩ rfl hl.1 rfl (Nat.le_of_ble_eq_true rfl) dX11_six_45 ⟨Nat.zero_le _, Nat.zero_le _⟩) hS (fun H locs hG hS hX => ?_)
          have hT_a0 := hX.T hT_a0
          replace hE := hE.trans hX
          refine lv_istore_n (lv' := [(3, .int r7), (0, .ref (ad a0)), (1, .int a1), (2, .int a2)]) X.1 X.2.1 dX11_six_48 rfl hl (by decide) rfl (fun ls hl => ?_)
          refine lv_iload_n X.1 X.2.1 dX11_six_49 rfl (lv_at hl 3 rfl) ?_
          by_cases hc0 : a2 = 0
          · replace hF := it_t hF hc0
            refine lv_lookup (tgt := 76) (off := 26) X.1 X.2.1 dX11_six_50 (by decide) (by rw [hc0]; decide) (by decide) ?_
            refine lv_iload_n X.1 X.2.1 dX11_six_76 rfl (lv_at hl 0 rfl) ?_
            exact gx_iret X hG hS hE hF dX11_six_77
          replace hF := it_f hF hc0
          by_cases hc1 : a2 = 1
          · replace hF := it_t hF hc1
            refine lv_lookup (tgt := 78) (off := 28) X.1 X.2.1 dX11_six_50 (by decide) (by rw [hc1]; decide) (by decide) ?_
            refine lv_aload_n X.1 X.2.1 dX11_six_78 rfl (lv_at hl 1 rfl) ?_
            obtain ⟨i9, hr, hF⟩ := b1_ex hF
            have hT_i9 : hT σ6 i9 3 := gw_T hG hT_a0 (by decide) hr
            refine gx_get 1 (v := .ref (ad i9)) X hG hT_a0.1 (hT_a0.eq (by decide)) (by decide) rfl inX11 (by decide) k_152 (fun _ h => h) (gx_rfv hr) dX11_six_79 ?_
            refine gx_getN 10 (v := .int (hI σ6 i9 10)) X hG hT_i9.1 (hT_i9.eq (by decide)) (by decide) rfl inX3 (by decide) q_62 (fun _ h => h) rfl dX11_six_82 ?_
            exact gx_iret X hG hS hE hF dX11_six_85
          replace hF := it_f hF hc1
          have hz0 := ne_lit hc0 (z := 0) (by decide)
          have hz1 := ne_lit hc1 (z := 1) (by decide)
          refine lv_lookup (tgt := 86) (off := 36) X.1 X.2.1 dX11_six_50 (by decide) (by simp [Op.lookupswitch.offset, hz0, hz0.symm, hz1, hz1.symm]) (by decide) ?_
          refine lv_aload_n X.1 X.2.1 dX11_six_86 rfl (lv_at hl 1 rfl) ?_
          obtain ⟨i8, hr, hF⟩ := b1_ex hF
          have hT_i8 : hT σ6 i8 3 := gw_T hG hT_a0 (by decide) hr
          refine gx_get 1 (v := .ref (ad i8)) X hG hT_a0.1 (hT_a0.eq (by decide)) (by decide) rfl inX11 (by decide) k_152 (fun _ h => h) (gx_rfv hr) dX11_six_87 ?_
          refine gx_getN 12 (v := .int (hI σ6 i8 12)) X hG hT_i8.1 (hT_i8.eq (by decide)) (by decide) rfl inX3 (by decide) q_68 (fun _ h => h) rfl dX11_six_90 ?_
          exact gx_iret X hG hS hE hF dX11_six_93
        · replace hF := it_f hF hc
          refine lv_iconst (v := (-1)) X.1 X.2.1 dX11_six_25 (by decide) ?_
          exact gx_iret X hG hS hE hF dX11_six_26
theorem c_X11_endWithRule (l : Launch) (D : va_G) (cA : Nat → ClassId) (base : Nat) (ad : Nat → Nat) (σ : Hp) (n : Nat) (a0 : Nat) (a1 : Int32) (a2 : Int32) (hT_a0 : hT σ a0 11) {τ : Hp} {r : Int32} (hF : F_X11_endWithRule n a0 a1 a2 σ = some (r, τ)) : MI l yX11_endWithRule cX11_endWithRule 3 (some .int) rm_X11_endWithRule D cA base ad σ [.ref (ad a0), .int a1, .int a2] r τ := by
  refine Met.ofW (cc := cX11_endWithRule) (maxL := 3) (ret := (some .int)) (by decide) rfl ?_
  intro p e s m args below meth c s₁ B hml hv
  obtain ⟨rfl, hv⟩ := hv
  have X : SX D cA base p s m ([.ref (ad a0), .int a1, .int a2] : List Value).toArray meth c cX11_endWithRule 3 (some .int) RX11 := sx_of B hml hv
  have hG := hv.1
  have hS : va_S (bA base) s.heap s.heap [] := va_S.rf
  have hE := xT.rf σ
  have hl := lv_entry ([.ref (ad a0), .int a1, .int a2]) (n := 3) (Nat.le_of_ble_eq_true rfl)
  rw [lg_entry_eq]
  generalize (lg_sl ([.ref (ad a0), .int a1, .int a2]) ++ List.replicate (3 - (lg_sl ([.ref (ad a0), .int a1, .int a2])).length) Slot.unset).toArray = ls at hl ⊢
  have hl : lv_has ls 3 [(0, .ref (ad a0)), (1, .int a1), (2, .int a2)] := hl
  unfold F_X11_endWithRule at hF
  refine lv_aload_n X.1 X.2.1 dX11_endWithRule_0 rfl (lv_at hl 0 rfl) ?_
  obtain ⟨i1, hr, hF⟩ := b1_ex hF
  have hT_i1 : hT σ i1 3 := gw_T hG hT_a0 (by decide) hr
  refine gx_get 1 (v := .ref (ad i1)) X hG hT_a0.1 (hT_a0.eq (by decide)) (by decide) rfl inX11 (by decide) k_152 (fun _ h => h) (gx_rfv hr) dX11_endWithRule_1 ?_
  refine lv_aload_n X.1 X.2.1 dX11_endWithRule_4 rfl (lv_at hl 0 rfl) ?_
  obtain ⟨i2, hr, hF⟩ := b1_ex hF
  have hT_i2 : hT σ i2 3 := gw_T hG hT_a0 (by decide) hr
  refine gx_get 0 (v := .ref (ad i2)) X hG hT_a0.1 (hT_a0.eq (by decide)) (by decide) rfl inX11 (by decide) k_151 (fun _ h => h) (gx_rfv hr) dX11_endWithRule_5 ?_
  refine lv_iconst (v := 0) X.1 X.2.1 dX11_endWithRule_8 (by decide) ?_
  obtain ⟨σ3, hz, hF⟩ := b1_ex hF
  refine gx_rV (gx_runV (As := [.ref (ad i2), .int 0]) (rest := []) X hG hS hT_i1.1 (hT_i1.eq (by decide)) (by decide) rfl (c_X3_seatFrom l D cA base ad σ n i1 i2 0 hT_i1 hT_i2 hz) k_646 k_643 k_644 k_645 k_2 (h_X3_seatFrom) rfl rfl ⟨by decide, by decide⟩ rfl hl.1 rfl (Nat.le_of_ble_eq_true rfl) dX11_endWithRule_9 ⟨Nat.zero_le _, Nat.zero_le _⟩) hS (fun H locs hG hS hX => ?_)
  have hT_a0 := hX.T hT_a0
  replace hE := hE.trans hX
  refine lv_aload_n X.1 X.2.1 dX11_endWithRule_12 rfl (lv_at hl 0 rfl) ?_
  obtain ⟨i4, hr, hF⟩ := b1_ex hF
  have hT_i4 : hT σ3 i4 3 := gw_T hG hT_a0 (by decide) hr
  refine gx_get 1 (v := .ref (ad i4)) X hG hT_a0.1 (hT_a0.eq (by decide)) (by decide) rfl inX11 (by decide) k_152 (fun _ h => h) (gx_rfv hr) dX11_endWithRule_13 ?_
  obtain ⟨i5, hr, hF⟩ := b1_ex hF
  have hT_i5 : hT σ3 i5 13 := gw_T hG hT_i4 (by decide) hr
  refine gx_getN 7 (v := .ref (ad i5)) X hG hT_i4.1 (hT_i4.eq (by decide)) (by decide) rfl inX3 (by decide) q_57 (fun _ h => h) (gx_rfv hr) dX11_endWithRule_16 ?_
  refine lv_iload_n X.1 X.2.1 dX11_endWithRule_19 rfl (lv_at hl 1 rfl) ?_
  refine lv_iload_n X.1 X.2.1 dX11_endWithRule_20 rfl (lv_at hl 2 rfl) ?_
  obtain ⟨σ6, hz, hF⟩ := b1_ex hF
  refine gx_rV (gx_runS (As := [.ref (ad i5), .int a1, .int a2]) (rest := []) X hG hS (c_X11_store l D cA base ad σ3 n i5 a1 a2 hT_i5 hz) k_173 k_171 k_172 k_1 (h_X11_store.2) rfl rfl ⟨by decide, by decide⟩ rfl hl.1 rfl (Nat.le_of_ble_eq_true rfl) dX11_endWithRule_21 ⟨Nat.zero_le _, Nat.zero_le _⟩) hS (fun H locs hG hS hX => ?_)
  have hT_a0 := hX.T hT_a0
  replace hE := hE.trans hX
  refine lv_aload_n X.1 X.2.1 dX11_endWithRule_24 rfl (lv_at hl 0 rfl) ?_
  obtain ⟨i7, hr, hF⟩ := b1_ex hF
  have hT_i7 : hT σ6 i7 3 := gw_T hG hT_a0 (by decide) hr
  refine gx_get 1 (v := .ref (ad i7)) X hG hT_a0.1 (hT_a0.eq (by decide)) (by decide) rfl inX11 (by decide) k_152 (fun _ h => h) (gx_rfv hr) dX11_endWithRule_25 ?_
  obtain ⟨r9, σ8, hz, hF⟩ := b2_ex hF
  refine gx_rI (gx_runV (As := []) (rest := []) X hG hS hT_i7.1 (hT_i7.eq (by decide)) (by decide) rfl (c_X3_runThrough l D cA base ad σ6 n i7 hT_i7 hz) k_652 k_649 k_650 k_651 k_2 (h_X3_runThrough) rfl rfl ⟨by decide, by decide⟩ rfl hl.1 rfl (Nat.le_of_ble_eq_true rfl) dX11_endWithRule_28 ⟨Nat.zero_le _, Nat.zero_le _⟩) hS (fun H locs hG hS hX => ?_)
  have hT_a0 := hX.T hT_a0
  replace hE := hE.trans hX
  exact gx_iret X hG hS hE hF dX11_endWithRule_31
theorem c_X11_lost (l : Launch) (D : va_G) (cA : Nat → ClassId) (base : Nat) (ad : Nat → Nat) (σ : Hp) (n : Nat) (a0 : Nat) (a1 : Int32) (hT_a0 : hT σ a0 11) {τ : Hp} {r : Int32} (hF : F_X11_lost n a0 a1 σ = some (r, τ)) : MI l yX11_lost cX11_lost 3 (some .int) rm_X11_lost D cA base ad σ [.ref (ad a0), .int a1] r τ := by
  refine Met.ofW (cc := cX11_lost) (maxL := 3) (ret := (some .int)) (by decide) rfl ?_
  intro p e s m args below meth c s₁ B hml hv
  obtain ⟨rfl, hv⟩ := hv
  have X : SX D cA base p s m ([.ref (ad a0), .int a1] : List Value).toArray meth c cX11_lost 3 (some .int) RX11 := sx_of B hml hv
  have hG := hv.1
  have hS : va_S (bA base) s.heap s.heap [] := va_S.rf
  have hE := xT.rf σ
  have hl := lv_entry ([.ref (ad a0), .int a1]) (n := 3) (Nat.le_of_ble_eq_true rfl)
  rw [lg_entry_eq]
  generalize (lg_sl ([.ref (ad a0), .int a1]) ++ List.replicate (3 - (lg_sl ([.ref (ad a0), .int a1])).length) Slot.unset).toArray = ls at hl ⊢
  have hl : lv_has ls 3 [(0, .ref (ad a0)), (1, .int a1)] := hl
  unfold F_X11_lost at hF
  refine lv_iload_n X.1 X.2.1 dX11_lost_0 rfl (lv_at hl 1 rfl) ?_
  refine lv_iconst (v := 1) X.1 X.2.1 dX11_lost_1 (by decide) ?_
  refine lv_icmp_lt (tgt := 11) X.1 X.2.1 dX11_lost_2 (by decide) (fun hc => ?_) (fun hc => ?_)
  · replace hF := it_t hF hc
    refine lv_iconst (v := (-1)) X.1 X.2.1 dX11_lost_11 (by decide) ?_
    exact gx_iret X hG hS hE hF dX11_lost_12
  · replace hF := it_f hF hc
    refine lv_iload_n X.1 X.2.1 dX11_lost_5 rfl (lv_at hl 1 rfl) ?_
    refine lv_bipush (v := 12) X.1 X.2.1 dX11_lost_6 (by decide) ?_
    refine lv_icmp_le (tgt := 13) X.1 X.2.1 dX11_lost_8 (by decide) (fun hc => ?_) (fun hc => ?_)
    · replace hF := it_t hF hc
      refine lv_aload_n X.1 X.2.1 dX11_lost_13 rfl (lv_at hl 0 rfl) ?_
      obtain ⟨i1, hr, hF⟩ := b1_ex hF
      have hT_i1 : hT σ i1 3 := gw_T hG hT_a0 (by decide) hr
      refine gx_get 0 (v := .ref (ad i1)) X hG hT_a0.1 (hT_a0.eq (by decide)) (by decide) rfl inX11 (by decide) k_151 (fun _ h => h) (gx_rfv hr) dX11_lost_14 ?_
      refine gx_getN 2 (v := .int (hI σ i1 2)) X hG hT_i1.1 (hT_i1.eq (by decide)) (by decide) rfl inX3 (by decide) q_49 (fun _ h => h) rfl dX11_lost_17 ?_
      refine lv_if_ne (tgt := 26) X.1 X.2.1 dX11_lost_20 (by decide) (fun hc => ?_) (fun hc => ?_)
      · replace hF := it_f hF hc
        refine lv_aload_n X.1 X.2.1 dX11_lost_26 rfl (lv_at hl 0 rfl) ?_
        refine lv_iconst (v := 0) X.1 X.2.1 dX11_lost_27 (by decide) ?_
        refine lv_bipush (v := 12) X.1 X.2.1 dX11_lost_28 (by decide) ?_
        obtain ⟨r3, σ2, hz, hF⟩ := b2_ex hF
        refine gx_rI (gx_runV (As := [.int 0, .int 12]) (rest := []) X hG hS hT_a0.1 (hT_a0.eq (by decide)) (by decide) rfl (c_X11_endWithRule l D cA base ad σ n a0 0 12 hT_a0 hz) k_688 k_685 k_687 ks_13 k_1 (h_X11_endWithRule) rfl rfl ⟨by decide, by decide⟩ rfl hl.1 rfl (Nat.le_of_ble_eq_true rfl) dX11_lost_30 ⟨Nat.zero_le _, Nat.zero_le _⟩) hS (fun H locs hG hS hX => ?_)
        have hT_a0 := hX.T hT_a0
        replace hE := hE.trans hX
        refine lv_pop X.1 X.2.1 dX11_lost_33 rfl ?_
        refine lv_aload_n X.1 X.2.1 dX11_lost_34 rfl (lv_at hl 0 rfl) ?_
        obtain ⟨i4, hr, hF⟩ := b1_ex hF
        have hT_i4 : hT σ2 i4 3 := gw_T hG hT_a0 (by decide) hr
        refine gx_get 1 (v := .ref (ad i4)) X hG hT_a0.1 (hT_a0.eq (by decide)) (by decide) rfl inX11 (by decide) k_152 (fun _ h => h) (gx_rfv hr) dX11_lost_35 ?_
        refine gx_getN 14 (v := .int (hI σ2 i4 14)) X hG hT_i4.1 (hT_i4.eq (by decide)) (by decide) rfl inX3 (by decide) q_72 (fun _ h => h) rfl dX11_lost_38 ?_
        refine lv_istore_n (lv' := [(2, .int (hI σ2 i4 14)), (0, .ref (ad a0)), (1, .int a1)]) X.1 X.2.1 dX11_lost_41 rfl hl (by decide) rfl (fun ls hl => ?_)
        refine lv_aload_n X.1 X.2.1 dX11_lost_42 rfl (lv_at hl 1 rfl) ?_
        refine lv_iconst (v := 0) X.1 X.2.1 dX11_lost_43 (by decide) ?_
        refine lv_iload_n X.1 X.2.1 dX11_lost_44 rfl (lv_at hl 2 rfl) ?_
        obtain ⟨r6, σ5, hz, hF⟩ := b2_ex hF
        refine gx_rI (gx_runV (As := [.int 0, .int a1]) (rest := []) X hG hS hT_a0.1 (hT_a0.eq (by decide)) (by decide) rfl (c_X11_endWithRule l D cA base ad σ2 n a0 0 a1 hT_a0 hz) k_688 k_685 k_687 ks_13 k_1 (h_X11_endWithRule) rfl rfl ⟨by decide, by decide⟩ rfl hl.1 rfl (Nat.le_of_ble_eq_true rfl) dX11_lost_45 ⟨Nat.zero_le _, Nat.zero_le _⟩) hS (fun H locs hG hS hX => ?_)
        have hT_a0 := hX.T hT_a0
        replace hE := hE.trans hX
        refine lv_pop X.1 X.2.1 dX11_lost_48 rfl ?_
        refine lv_iload_n X.1 X.2.1 dX11_lost_49 rfl (lv_at hl 0 rfl) ?_
        refine lv_aload_n X.1 X.2.1 dX11_lost_50 rfl (lv_at hl 1 rfl) ?_
        obtain ⟨i7, hr, hF⟩ := b1_ex hF
        have hT_i7 : hT σ5 i7 3 := gw_T hG hT_a0 (by decide) hr
        refine gx_get 1 (v := .ref (ad i7)) X hG hT_a0.1 (hT_a0.eq (by decide)) (by decide) rfl inX11 (by decide) k_152 (fun _ h => h) (gx_rfv hr) dX11_lost_51 ?_
        refine gx_getN 14 (v := .int (hI σ5 i7 14)) X hG hT_i7.1 (hT_i7.eq (by decide)) (by decide) rfl inX3 (by decide) q_72 (fun _ h => h) rfl dX11_lost_54 ?_
        refine lv_iconst (v := (-1)) X.1 X.2.1 dX11_lost_57 (by decide) ?_
        refine lv_ixor X.1 X.2.1 dX11_lost_58 ?_
        refine lv_iand X.1 X.2.1 dX11_lost_59 ?_
        exact gx_iret X hG hS hE hF dX11_lost_60
      · replace hF := it_t hF hc
        refine lv_bipush (v := (-3)) X.1 X.2.1 dX11_lost_23 (by decide) ?_
        exact gx_iret X hG hS hE hF dX11_lost_25
    · replace hF := it_f hF hc
      refine lv_iconst (v := (-1)) X.1 X.2.1 dX11_lost_11 (by decide) ?_
      exact gx_iret X hG hS hE hF dX11_lost_12
theorem w_X11_isEnd_14 {σ0 τ : Hp} {r : Int32} (X : SX D cA base p s m args meth c cX11_isEnd 1 (some .boolean) RX11) (n : Nat)  : ∀  (σ : Hp) (H : Heap) (locs : List Loc) (ls : Array Slot), GW D cA base ad σ H → va_S (bA base) s.heap H locs → xT σ0 σ → lv_has ls 1 [] → F_X11_isEnd_14 n  σ = some (r, τ) → W p l e rm_X11_isEnd s m args below meth c H locs 0 0 (ZI below s args D cA base ad σ0 r τ) (F0 m 14 ls []) := by
  intro σ H locs ls hG hS hE hl hF
  unfold F_X11_isEnd_14 at hF
  refine lv_iconst (v := 1) X.1 X.2.1 dX11_isEnd_14 (by decide) ?_
  refine lv_goto (tgt := 19) X.1 X.2.1 dX11_isEnd_15 (by decide) ?_
  exact gx_zret X hG hS hE hF rfl dX11_isEnd_19
theorem c_X11_isEnd (l : Launch) (D : va_G) (cA : Nat → ClassId) (base : Nat) (ad : Nat → Nat) (σ : Hp) (n : Nat) (a0 : Int32)  {τ : Hp} {r : Int32} (hF : F_X11_isEnd n a0 σ = some (r, τ)) : MI l yX11_isEnd cX11_isEnd 1 (some .boolean) rm_X11_isEnd D cA base ad σ [.int a0] r τ := by
  refine Met.ofW (cc := cX11_isEnd) (maxL := 1) (ret := (some .boolean)) (by decide) rfl ?_
  intro p e s m args below meth c s₁ B hml hv
  obtain ⟨rfl, hv⟩ := hv
  have X : SX D cA base p s m ([.int a0] : List Value).toArray meth c cX11_isEnd 1 (some .boolean) RX11 := sx_of B hml hv
  have hG := hv.1
  have hS : va_S (bA base) s.heap s.heap [] := va_S.rf
  have hE := xT.rf σ
  have hl := lv_entry ([.int a0]) (n := 1) (Nat.le_of_ble_eq_true rfl)
  rw [lg_entry_eq]
  generalize (lg_sl ([.int a0]) ++ List.replicate (1 - (lg_sl ([.int a0])).length) Slot.unset).toArray = ls at hl ⊢
  have hl : lv_has ls 1 [(0, .int a0)] := hl
  unfold F_X11_isEnd at hF
  refine lv_iload_n X.1 X.2.1 dX11_isEnd_0 rfl (lv_at hl 0 rfl) ?_
  refine lv_if_eq (tgt := 14) X.1 X.2.1 dX11_isEnd_1 (by decide) (fun hc => ?_) (fun hc => ?_)
  · replace hF := it_t hF hc
    exact w_X11_isEnd_14 X n  σ _ _ ls  hG hS hE (lv_sub hl [] rfl) hF
  · replace hF := it_f hF hc
    refine lv_iload_n X.1 X.2.1 dX11_isEnd_4 rfl (lv_at hl 0 rfl) ?_
    refine lv_iconst (v := 1) X.1 X.2.1 dX11_isEnd_5 (by decide) ?_
    refine lv_icmp_eq (tgt := 14) X.1 X.2.1 dX11_isEnd_6 (by decide) (fun hc => ?_) (fun hc => ?_)
    · replace hF := it_t hF hc
      exact w_X11_isEnd_14 X n  σ _ _ ls  hG hS hE (lv_sub hl [] rfl) hF
    · replace hF := it_f hF hc
      refine lv_iload_n X.1 X.2.1 dX11_isEnd_9 rfl (lv_at hl 0 rfl) ?_
      refine lv_iconst (v := 2) X.1 X.2.1 dX11_isEnd_10 (by decide) ?_
      refine lv_icmp_ne (tgt := 18) X.1 X.2.1 dX11_isEnd_11 (by decide) (fun hc => ?_) (fun hc => ?_)
      · replace hF := it_f hF hc
        refine lv_iconst (v := 0) X.1 X.2.1 dX11_isEnd_18 (by decide) ?_
        exact gx_zret X hG hS hE hF rfl dX11_isEnd_19
      · replace hF := it_t hF hc
        exact w_X11_isEnd_14 X n  σ _ _ ls  hG hS hE (lv_sub hl [] rfl) hF
end W_class9
