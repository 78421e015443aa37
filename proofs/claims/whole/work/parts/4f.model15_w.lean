/-! model15: printed by wip/whole/gen.py -/
section W_model15
variable {p : Program} {l : Launch} {e : Env} {s : State} {m : MethodId} {args : Array Value} {below : List Frame} {meth : Method} {c : Code} {D : va_G} {cA : Nat → ClassId} {base : Nat} {ad : Nat → Nat}
abbrev rm_X12_wrongKept : Room := { frames := 2, cells := 0, slots := 0, locals := 45 }
theorem h_X12_wrongKept : yX12_wrongKept.cls = RX12 ∧ yX12_wrongKept.cls ≠ "java/lang/invoke/MethodHandle" ∧ yX12_wrongKept.cls ≠ "java/lang/invoke/VarHandle" ∧ (parseMethodDescriptor yX12_wrongKept.desc).map (fun d => d.parameters.length) = some 1 := by decide +kernel
def F_X12_wrongKept (n : Nat) (a0 : Nat) (a1 : Int32) (σ : Hp) : Option (Int32 × Hp) := b2 (F_X12_isShelf n a1 σ) fun (r2 : Int32) (σ1 : Hp) => if r2 = 0 then (some ((-1), σ1)) else (b1 (hR σ1 a0 7) fun (i3 : Nat) => ck (¬ (a1 < 0 ∨ hL σ1 i3 ≤ a1.toNatClampNeg)) (if (hI σ1 i3 a1.toNatClampNeg) = 0 then (some ((-11), σ1)) else (b1 (hR σ1 a0 7) fun (i4 : Nat) => ck (¬ (a1 < 0 ∨ hL σ1 i4 ≤ a1.toNatClampNeg)) (if (hI σ1 i4 a1.toNatClampNeg) = 1 then (some (0, σ1)) else (some ((-12), σ1))))))
abbrev rm_X12_voice : Room := { frames := 3, cells := 0, slots := 0, locals := 66 }
theorem h_X12_voice : yX12_voice.cls = RX12 ∧ yX12_voice.cls ≠ "java/lang/invoke/MethodHandle" ∧ yX12_voice.cls ≠ "java/lang/invoke/VarHandle" ∧ (parseMethodDescriptor yX12_voice.desc).map (fun d => d.parameters.length) = some 1 := by decide +kernel
def F_X12_voice (n : Nat) (a0 : Nat) (a1 : Int32) (σ : Hp) : Option (Int32 × Hp) := b2 (F_X12_wrongKept n a0 a1 σ) fun (r2 : Int32) (σ1 : Hp) => if r2 = 0 then (b1 (hR σ1 a0 11) fun (i3 : Nat) => ck (¬ (a1 < 0 ∨ hL σ1 i3 ≤ a1.toNatClampNeg)) (some (hI σ1 i3 a1.toNatClampNeg, σ1))) else (some (r2, σ1))
abbrev rm_X12_toss : Room := { frames := 3, cells := 0, slots := 0, locals := 66 }
theorem h_X12_toss : yX12_toss.cls = RX12 ∧ yX12_toss.cls ≠ "java/lang/invoke/MethodHandle" ∧ yX12_toss.cls ≠ "java/lang/invoke/VarHandle" ∧ (parseMethodDescriptor yX12_toss.desc).map (fun d => d.parameters.length) = some 1 := by decide +kernel
def F_X12_toss (n : Nat) (a0 : Nat) (a1 : Int32) (σ : Hp) : Option (Int32 × Hp) := b2 (F_X12_wrongKept n a0 a1 σ) fun (r2 : Int32) (σ1 : Hp) => if r2 = 0 then (b1 (hR σ1 a0 12) fun (i3 : Nat) => ck (¬ (a1 < 0 ∨ hL σ1 i3 ≤ a1.toNatClampNeg)) (some (hI σ1 i3 a1.toNatClampNeg, σ1))) else (some (r2, σ1))
theorem c_X12_wrongKept (l : Launch) (D : va_G) (cA : Nat → ClassId) (base : Nat) (ad : Nat → Nat) (σ : Hp) (n : Nat) (a0 : Nat) (a1 : Int32) (hT_a0 : hT σ a0 12) {τ : Hp} {r : Int32} (hF : F_X12_wrongKept n a0 a1 σ = some (r, τ)) : MI l yX12_wrongKept cX12_wrongKept 2 (some .int) rm_X12_wrongKept D cA base ad σ [.ref (ad a0), .int a1] r τ := by
  refine Met.ofW (cc := cX12_wrongKept) (maxL := 2) (ret := (some .int)) (by decide) rfl ?_
  intro p e s m args below meth c s₁ B hml hv
  obtain ⟨rfl, hv⟩ := hv
  have X : SX D cA base p s m ([.ref (ad a0), .int a1] : List Value).toArray meth c cX12_wrongKept 2 (some .int) RX12 := sx_of B hml hv
  have hG := hv.1
  have hS : va_S (bA base) s.heap s.heap [] := va_S.rf
  have hE := xT.rf σ
  have hl := lv_entry ([.ref (ad a0), .int a1]) (n := 2) (Nat.le_of_ble_eq_true rfl)
  rw [lg_entry_eq]
  generalize (lg_sl ([.ref (ad a0), .int a1]) ++ List.replicate (2 - (lg_sl ([.ref (ad a0), .int a1])).length) Slot.unset).toArray = ls at hl ⊢
  have hl : lv_has ls 2 [(0, .ref (ad a0)), (1, .int a1)] := hl
  unfold F_X12_wrongKept at hF
  refine lv_iload_n X.1 X.2.1 dX12_wrongKept_0 rfl (lv_at hl 1 rfl) ?_
  obtain ⟨r2, σ1, hz, hF⟩ := b2_ex hF
  refine gx_rI (gx_runS (As := [.int a1]) (rest := []) X hG hS (c_X12_isShelf l D cA base ad σ n a1 hz) k_1110 k_1108 k_1109 k_4 (h_X12_isShelf.2) rfl rfl ⟨by decide, by decide⟩ rfl hl.1 rfl (Nat.le_of_ble_eq_true rfl) dX12_wrongKept_1 ⟨Nat.zero_le _, Nat.zero_le _⟩) hS (fun H locs hG hS hX => ?_)
  have hT_a0 := hX.T hT_a0
  replace hE := hE.trans hX
  refine lv_if_ne (tgt := 11) X.1 X.2.1 dX12_wrongKept_4 (by decide) (fun hc => ?_) (fun hc => ?_)
  · replace hF := it_f hF hc
    refine lv_aload_n X.1 X.2.1 dX12_wrongKept_11 rfl (lv_at hl 0 rfl) ?_
    obtain ⟨i3, hr, hF⟩ := b1_ex hF
    have hT_i3 : hT σ1 i3 13 := gw_T hG hT_a0 (by decide) hr
    refine gx_get 7 (v := .ref (ad i3)) X hG hT_a0.1 (hT_a0.eq (by decide)) (by decide) rfl inX12 (by decide) k_967 (fun _ h => h) (gx_rfv hr) dX12_wrongKept_12 ?_
    refine lv_iload_n X.1 X.2.1 dX12_wrongKept_15 rfl (lv_at hl 1 rfl) ?_
    refine gx_iald X hG hT_i3 hF dX12_wrongKept_16 (fun hF => ?_)
    refine lv_if_ne (tgt := 25) X.1 X.2.1 dX12_wrongKept_17 (by decide) (fun hc => ?_) (fun hc => ?_)
    · replace hF := it_f hF hc
      refine lv_aload_n X.1 X.2.1 dX12_wrongKept_25 rfl (lv_at hl 0 rfl) ?_
      obtain ⟨i4, hr, hF⟩ := b1_ex hF
      have hT_i4 : hT σ1 i4 13 := gw_T hG hT_a0 (by decide) hr
      refine gx_get 7 (v := .ref (ad i4)) X hG hT_a0.1 (hT_a0.eq (by decide)) (by decide) rfl inX12 (by decide) k_967 (fun _ h => h) (gx_rfv hr) dX12_wrongKept_26 ?_
      refine lv_iload_n X.1 X.2.1 dX12_wrongKept_29 rfl (lv_at hl 1 rfl) ?_
      refine gx_iald X hG hT_i4 hF dX12_wrongKept_30 (fun hF => ?_)
      refine lv_iconst (v := 1) X.1 X.2.1 dX12_wrongKept_31 (by decide) ?_
      refine lv_icmp_ne (tgt := 39) X.1 X.2.1 dX12_wrongKept_32 (by decide) (fun hc => ?_) (fun hc => ?_)
      · replace hF := it_f hF hc
        refine lv_bipush (v := (-12)) X.1 X.2.1 dX12_wrongKept_39 (by decide) ?_
        exact gx_iret X hG hS hE hF dX12_wrongKept_41
      · replace hF := it_t hF hc
        refine lv_iconst (v := 0) X.1 X.2.1 dX12_wrongKept_35 (by decide) ?_
        refine lv_goto (tgt := 41) X.1 X.2.1 dX12_wrongKept_36 (by decide) ?_
        exact gx_iret X hG hS hE hF dX12_wrongKept_41
    · replace hF := it_t hF hc
      refine lv_bipush (v := (-11)) X.1 X.2.1 dX12_wrongKept_20 (by decide) ?_
      refine lv_goto (tgt := 41) X.1 X.2.1 dX12_wrongKept_22 (by decide) ?_
      exact gx_iret X hG hS hE hF dX12_wrongKept_41
  · replace hF := it_t hF hc
    refine lv_iconst (v := (-1)) X.1 X.2.1 dX12_wrongKept_7 (by decide) ?_
    refine lv_goto (tgt := 41) X.1 X.2.1 dX12_wrongKept_8 (by decide) ?_
    exact gx_iret X hG hS hE hF dX12_wrongKept_41
theorem c_X12_voice (l : Launch) (D : va_G) (cA : Nat → ClassId) (base : Nat) (ad : Nat → Nat) (σ : Hp) (n : Nat) (a0 : Nat) (a1 : Int32) (hT_a0 : hT σ a0 12) {τ : Hp} {r : Int32} (hF : F_X12_voice n a0 a1 σ = some (r, τ)) : MI l yX12_voice cX12_voice 3 (some .int) rm_X12_voice D cA base ad σ [.ref (ad a0), .int a1] r τ := by
  refine Met.ofW (cc := cX12_voice) (maxL := 3) (ret := (some .int)) (by decide) rfl ?_
  intro p e s m args below meth c s₁ B hml hv
  obtain ⟨rfl, hv⟩ := hv
  have X : SX D cA base p s m ([.ref (ad a0), .int a1] : List Value).toArray meth c cX12_voice 3 (some .int) RX12 := sx_of B hml hv
  have hG := hv.1
  have hS : va_S (bA base) s.heap s.heap [] := va_S.rf
  have hE := xT.rf σ
  have hl := lv_entry ([.ref (ad a0), .int a1]) (n := 3) (Nat.le_of_ble_eq_true rfl)
  rw [lg_entry_eq]
  generalize (lg_sl ([.ref (ad a0), .int a1]) ++ List.replicate (3 - (lg_sl ([.ref (ad a0), .int a1])).length) Slot.unset).toArray = ls at hl ⊢
  have hl : lv_has ls 3 [(0, .ref (ad a0)), (1, .int a1)] := hl
  unfold F_X12_voice at hF
  refine lv_aload_n X.1 X.2.1 dX12_voice_0 rfl (lv_at hl 0 rfl) ?_
  refine lv_iload_n X.1 X.2.1 dX12_voice_1 rfl (lv_at hl 1 rfl) ?_
  obtain ⟨r2, σ1, hz, hF⟩ := b2_ex hF
  refine gx_rI (gx_runV (As := [.int a1]) (rest := []) X hG hS hT_a0.1 (hT_a0.eq (by decide)) (by decide) rfl (c_X12_wrongKept l D cA base ad σ n a0 a1 hT_a0 hz) k_1378 k_1375 k_1377 ks_55 k_4 (h_X12_wrongKept) rfl rfl ⟨by decide, by decide⟩ rfl hl.1 rfl (Nat.le_of_ble_eq_true rfl) dX12_voice_2 ⟨Nat.zero_le _, Nat.zero_le _⟩) hS (fun H locs hG hS hX => ?_)
  have hT_a0 := hX.T hT_a0
  replace hE := hE.trans hX
  refine lv_istore_n (lv' := [(2, .int r2), (0, .ref (ad a0)), (1, .int a1)]) X.1 X.2.1 dX12_voice_5 rfl hl (by decide) rfl (fun ls hl => ?_)
  refine lv_iload_n X.1 X.2.1 dX12_voice_6 rfl (lv_at hl 0 rfl) ?_
  refine lv_if_eq (tgt := 14) X.1 X.2.1 dX12_voice_7 (by decide) (fun hc => ?_) (fun hc => ?_)
  · replace hF := it_t hF hc
    refine lv_aload_n X.1 X.2.1 dX12_voice_14 rfl (lv_at hl 1 rfl) ?_
    obtain ⟨i3, hr, hF⟩ := b1_ex hF
    have hT_i3 : hT σ1 i3 13 := gw_T hG hT_a0 (by decide) hr
    refine gx_get 11 (v := .ref (ad i3)) X hG hT_a0.1 (hT_a0.eq (by decide)) (by decide) rfl inX12 (by decide) k_971 (fun _ h => h) (gx_rfv hr) dX12_voice_15 ?_
    refine lv_iload_n X.1 X.2.1 dX12_voice_18 rfl (lv_at hl 2 rfl) ?_
    refine gx_iald X hG hT_i3 hF dX12_voice_19 (fun hF => ?_)
    exact gx_iret X hG hS hE hF dX12_voice_20
  · replace hF := it_f hF hc
    refine lv_iload_n X.1 X.2.1 dX12_voice_10 rfl (lv_at hl 0 rfl) ?_
    refine lv_goto (tgt := 20) X.1 X.2.1 dX12_voice_11 (by decide) ?_
    exact gx_iret X hG hS hE hF dX12_voice_20
theorem c_X12_toss (l : Launch) (D : va_G) (cA : Nat → ClassId) (base : Nat) (ad : Nat → Nat) (σ : Hp) (n : Nat) (a0 : Nat) (a1 : Int32) (hT_a0 : hT σ a0 12) {τ : Hp} {r : Int32} (hF : F_X12_toss n a0 a1 σ = some (r, τ)) : MI l yX12_toss cX12_toss 3 (some .int) rm_X12_toss D cA base ad σ [.ref (ad a0), .int a1] r τ := by
  refine Met.ofW (cc := cX12_toss) (maxL := 3) (ret := (some .int)) (by decide) rfl ?_
  intro p e s m args below meth c s₁ B hml hv
  obtain ⟨rfl, hv⟩ := hv
  have X : SX D cA base p s m ([.ref (ad a0), .int a1] : List Value).toArray meth c cX12_toss 3 (some .int) RX12 := sx_of B hml hv
  have hG := hv.1
  have hS : va_S (bA base) s.heap s.heap [] := va_S.rf
  have hE := xT.rf σ
  have hl := lv_entry ([.ref (ad a0), .int a1]) (n := 3) (Nat.le_of_ble_eq_true rfl)
  rw [lg_entry_eq]
  generalize (lg_sl ([.ref (ad a0), .int a1]) ++ List.replicate (3 - (lg_sl ([.ref (ad a0), .int a1])).length) Slot.unset).toArray = ls at hl ⊢
  have hl : lv_has ls 3 [(0, .ref (ad a0)), (1, .int a1)] := hl
  unfold F_X12_toss at hF
  refine lv_aload_n X.1 X.2.1 dX12_toss_0 rfl (lv_at hl 0 rfl) ?_
  refine lv_iload_n X.1 X.2.1 dX12_toss_1 rfl (lv_at hl 1 rfl) ?_
  obtain ⟨r2, σ1, hz, hF⟩ := b2_ex hF
  refine gx_rI (gx_runV (As := [.int a1]) (rest := []) X hG hS hT_a0.1 (hT_a0.eq (by decide)) (by decide) rfl (c_X12_wrongKept l D cA base ad σ n a0 a1 hT_a0 hz) k_1378 k_1375 k_1377 ks_55 k_4 (h_X12_wrongKept) rfl rfl ⟨by decide, by decide⟩ rfl hl.1 rfl (Nat.le_of_ble_eq_true rfl) dX12_toss_2 ⟨Nat.zero_le _, Nat.zero_le _⟩) hS (fun H locs hG hS hX => ?_)
  have hT_a0 := hX.T hT_a0
  replace hE := hE.trans hX
  refine lv_istore_n (lv' := [(2, .int r2), (0, .ref (ad a0)), (1, .int a1)]) X.1 X.2.1 dX12_toss_5 rfl hl (by decide) rfl (fun ls hl => ?_)
  refine lv_iload_n X.1 X.2.1 dX12_toss_6 rfl (lv_at hl 0 rfl) ?_
  refine lv_if_eq (tgt := 14) X.1 X.2.1 dX12_toss_7 (by decide) (fun hc => ?_) (fun hc => ?_)
  · replace hF := it_t hF hc
    refine lv_aload_n X.1 X.2.1 dX12_toss_14 rfl (lv_at hl 1 rfl) ?_
    obtain ⟨i3, hr, hF⟩ := b1_ex hF
    have hT_i3 : hT σ1 i3 13 := gw_T hG hT_a0 (by decide) hr
    refine gx_get 12 (v := .ref (ad i3)) X hG hT_a0.1 (hT_a0.eq (by decide)) (by decide) rfl inX12 (by decide) k_972 (fun _ h => h) (gx_rfv hr) dX12_toss_15 ?_
    refine lv_iload_n X.1 X.2.1 dX12_toss_18 rfl (lv_at hl 2 rfl) ?_
    refine gx_iald X hG hT_i3 hF dX12_toss_19 (fun hF => ?_)
    exact gx_iret X hG hS hE hF dX12_toss_20
  · replace hF := it_f hF hc
    refine lv_iload_n X.1 X.2.1 dX12_toss_10 rfl (lv_at hl 0 rfl) ?_
    refine lv_goto (tgt := 20) X.1 X.2.1 dX12_toss_11 (by decide) ?_
    exact gx_iret X hG hS hE hF dX12_toss_20
end W_model15
