/-! class8: printed by wip/whole/gen.py -/
section W_class8
variable {p : Program} {l : Launch} {e : Env} {s : State} {m : MethodId} {args : Array Value} {below : List Frame} {meth : Method} {c : Code} {D : va_G} {cA : Nat → ClassId} {base : Nat} {ad : Nat → Nat}
abbrev rm_X11_go : Room := { frames := 5, cells := 0, slots := 0, locals := 130 }
theorem h_X11_go : yX11_go.cls = RX11 ∧ yX11_go.cls ≠ "java/lang/invoke/MethodHandle" ∧ yX11_go.cls ≠ "java/lang/invoke/VarHandle" ∧ (parseMethodDescriptor yX11_go.desc).map (fun d => d.parameters.length) = some 1 := by decide +kernel
def F_X11_go_58 (n : Nat)  (v0 : Nat) (σ : Hp) : Option (Int32 × Hp) := b1 (hR σ v0 0) fun (i1 : Nat) => b2 (F_X3_ends n i1 σ) fun (r3 : Int32) (σ2 : Hp) => some (r3, σ2)
def F_X11_go_28 (n : Nat)  : Nat → Nat → Int32 → Int32 → Hp → Option (Int32 × Hp)
  | 0, _, _, _, _ => none
  | f + 1, v0, v1, v2, σ => if v1 ≤ v2 then (F_X11_go_58 n  v0 σ) else (b1 (hR σ v0 0) fun (i4 : Nat) => b2 (F_X3_ends n i4 σ) fun (r6 : Int32) (σ5 : Hp) => if r6 = (-4) then (b1 (hR σ5 v0 0) fun (i7 : Nat) => b1 (F_X3_step n i7 σ5) fun (σ8 : Hp) => (F_X11_go_28 n  f) v0 v1 (v2 + 1) σ8) else (F_X11_go_58 n  v0 σ5))
def F_X11_go (n : Nat) (a0 : Nat) (a1 : Int32) (σ : Hp) : Option (Int32 × Hp) := if a1 < 1 then (some ((-1), σ)) else (if a1 ≤ 60 then (b1 (hR σ a0 0) fun (i9 : Nat) => if (hI σ i9 8) = 0 then (some ((-3), σ)) else (F_X11_go_28 n  n a0 a1 0 σ)) else (some ((-1), σ)))
abbrev rm_X11_talk : Room := { frames := 4, cells := 0, slots := 0, locals := 80 }
theorem h_X11_talk : yX11_talk.cls = RX11 ∧ yX11_talk.cls ≠ "java/lang/invoke/MethodHandle" ∧ yX11_talk.cls ≠ "java/lang/invoke/VarHandle" ∧ (parseMethodDescriptor yX11_talk.desc).map (fun d => d.parameters.length) = some 1 := by decide +kernel
def F_X11_talk (n : Nat) (a0 : Nat) (a1 : Int32) (σ : Hp) : Option (Int32 × Hp) := if a1 < 0 then (some ((-1), σ)) else (if a1 ≤ 5 then (b1 (hR σ a0 0) fun (i1 : Nat) => if (hI σ i1 8) = 0 then (some ((-3), σ)) else (if a1 = 0 then (b1 (hR σ a0 0) fun (i5 : Nat) => some (hI σ i5 10, σ)) else (if a1 = 1 then (b1 (hR σ a0 0) fun (i6 : Nat) => b2 (F_X3_yes n i6 σ) fun (r8 : Int32) (σ7 : Hp) => some (r8, σ7)) else (if a1 = 2 then (b1 (hR σ a0 0) fun (i9 : Nat) => b2 (F_X3_no n i9 σ) fun (r11 : Int32) (σ10 : Hp) => some (r11, σ10)) else (if a1 = 3 then (b1 (hR σ a0 0) fun (i12 : Nat) => some (hI σ i12 11, σ)) else (if a1 = 4 then (b1 (hR σ a0 0) fun (i13 : Nat) => some (hI σ i13 14, σ)) else (b1 (hR σ a0 0) fun (i2 : Nat) => b2 (F_X3_ends n i2 σ) fun (r4 : Int32) (σ3 : Hp) => some (r4, σ3)))))))) else (some ((-1), σ)))
abbrev rm_X3_seatFrom : Room := { frames := 2, cells := 0, slots := 0, locals := 44 }
theorem h_X3_seatFrom : yX3_seatFrom.cls = RX3 ∧ yX3_seatFrom.cls ≠ "java/lang/invoke/MethodHandle" ∧ yX3_seatFrom.cls ≠ "java/lang/invoke/VarHandle" ∧ (parseMethodDescriptor yX3_seatFrom.desc).map (fun d => d.parameters.length) = some 2 := by decide +kernel
def F_X3_seatFrom_99 (n : Nat) (K_46 : Nat → Nat → Int32 → Int32 → Hp → Option Hp) (v0 : Nat) (v1 : Nat) (v2 : Int32) (v3 : Int32) (σ : Hp) : Option Hp := K_46 v0 v1 v2 (v3 + 1) σ
def F_X3_seatFrom_82 (n : Nat) (K_46 : Nat → Nat → Int32 → Int32 → Hp → Option Hp) (v0 : Nat) (v1 : Nat) (v2 : Int32) (v3 : Int32) (σ : Hp) : Option Hp := b2 (F_X3_turnAt n v1 v3 σ) fun (r2 : Option Nat) (σ1 : Hp) => b1 (hR σ1 v1 4) fun (i3 : Nat) => b2 (F_X11_at n i3 v3 σ1) fun (r5 : Int32) (σ4 : Hp) => b1 (F_X3_sit n v0 r2 r5 σ4) fun (σ6 : Hp) => F_X3_seatFrom_99 n K_46 v0 v1 v2 v3 σ6
def F_X3_seatFrom_46 (n : Nat)  : Nat → Nat → Nat → Int32 → Int32 → Hp → Option Hp
  | 0, _, _, _, _, _ => none
  | f + 1, v0, v1, v2, v3, σ => if (hI σ v1 2) ≤ v3 then (some σ) else (if ((v2 >>> (v3 &&& 31)) &&& 1) = 0 then (b2 (F_X3_leaderSeat n v1 σ) fun (r8 : Int32) (σ7 : Hp) => if v3 = r8 then (b1 (hR σ7 v0 7) fun (i9 : Nat) => b1 (F_X11_store n i9 1 (hI σ7 v0 2) σ7) fun (σ10 : Hp) => F_X3_seatFrom_82 n (F_X3_seatFrom_46 n  f) v0 v1 v2 v3 σ10) else (F_X3_seatFrom_82 n (F_X3_seatFrom_46 n  f) v0 v1 v2 v3 σ7)) else (F_X3_seatFrom_99 n (F_X3_seatFrom_46 n  f) v0 v1 v2 v3 σ))
def F_X3_seatFrom (n : Nat) (a0 : Nat) (a1 : Nat) (a2 : Int32) (σ : Hp) : Option Hp := lt (pI σ a0 0 (hI σ a1 0)) fun (σ11 : Hp) => b1 (hR σ11 a1 1) fun (i12 : Nat) => b1 (hR σ11 a0 1) fun (i13 : Nat) => b1 (F_X11_copyAll n i12 i13 σ11) fun (σ14 : Hp) => b1 (hR σ14 a1 7) fun (i15 : Nat) => b1 (hR σ14 a0 7) fun (i16 : Nat) => b1 (F_X11_copyAll n i15 i16 σ14) fun (σ17 : Hp) => b1 (hR σ17 a0 7) fun (i18 : Nat) => b1 (F_X11_store n i18 1 0 σ17) fun (σ19 : Hp) => lt (pI σ19 a0 2 0) fun (σ20 : Hp) => F_X3_seatFrom_46 n  n a0 a1 a2 0 σ20
abbrev rm_X3_runThrough : Room := { frames := 5, cells := 0, slots := 0, locals := 130 }
theorem h_X3_runThrough : yX3_runThrough.cls = RX3 ∧ yX3_runThrough.cls ≠ "java/lang/invoke/MethodHandle" ∧ yX3_runThrough.cls ≠ "java/lang/invoke/VarHandle" ∧ (parseMethodDescriptor yX3_runThrough.desc).map (fun d => d.parameters.length) = some 0 := by decide +kernel
def F_X3_runThrough_32 (n : Nat)  (v0 : Nat) (σ : Hp) : Option (Int32 × Hp) := b2 (F_X3_ends n v0 σ) fun (r2 : Int32) (σ1 : Hp) => some (r2, σ1)
def F_X3_runThrough_6 (n : Nat)  : Nat → Nat → Int32 → Hp → Option (Int32 × Hp)
  | 0, _, _, _ => none
  | f + 1, v0, v1, σ => if 3000 ≤ v1 then (F_X3_runThrough_32 n  v0 σ) else (b2 (F_X3_ends n v0 σ) fun (r4 : Int32) (σ3 : Hp) => if r4 = (-4) then (b1 (F_X3_step n v0 σ3) fun (σ5 : Hp) => (F_X3_runThrough_6 n  f) v0 (v1 + 1) σ5) else (F_X3_runThrough_32 n  v0 σ3))
def F_X3_runThrough (n : Nat) (a0 : Nat) (σ : Hp) : Option (Int32 × Hp) := b1 (F_X3_beginTalk n a0 σ) fun (σ6 : Hp) => F_X3_runThrough_6 n  n a0 0 σ6
abbrev rm_X11_runInMind : Room := { frames := 6, cells := 0, slots := 0, locals := 151 }
theorem h_X11_runInMind : yX11_runInMind.cls = RX11 ∧ yX11_runInMind.cls ≠ "java/lang/invoke/MethodHandle" ∧ yX11_runInMind.cls ≠ "java/lang/invoke/VarHandle" ∧ (parseMethodDescriptor yX11_runInMind.desc).map (fun d => d.parameters.length) = some 0 := by decide +kernel
def F_X11_runInMind (n : Nat) (a0 : Nat) (σ : Hp) : Option Hp := b1 (hR σ a0 1) fun (i1 : Nat) => b1 (hR σ a0 0) fun (i2 : Nat) => b1 (F_X3_seatFrom n i1 i2 0 σ) fun (σ3 : Hp) => b1 (hR σ3 a0 1) fun (i4 : Nat) => b2 (F_X3_runThrough n i4 σ3) fun (r6 : Int32) (σ5 : Hp) => some σ5
abbrev rm_X11_run : Room := { frames := 7, cells := 0, slots := 0, locals := 171 }
theorem h_X11_run : yX11_run.cls = RX11 ∧ yX11_run.cls ≠ "java/lang/invoke/MethodHandle" ∧ yX11_run.cls ≠ "java/lang/invoke/VarHandle" ∧ (parseMethodDescriptor yX11_run.desc).map (fun d => d.parameters.length) = some 1 := by decide +kernel
def F_X11_run (n : Nat) (a0 : Nat) (a1 : Int32) (σ : Hp) : Option (Int32 × Hp) := if a1 < 0 then (some ((-1), σ)) else (if a1 ≤ 4 then (b1 (hR σ a0 0) fun (i1 : Nat) => if (hI σ i1 2) = 0 then (some ((-3), σ)) else (b1 (F_X11_runInMind n a0 σ) fun (σ2 : Hp) => if a1 = 0 then (b1 (hR σ2 a0 1) fun (i6 : Nat) => b2 (F_X3_ends n i6 σ2) fun (r8 : Int32) (σ7 : Hp) => some (r8, σ7)) else (if a1 = 1 then (b1 (hR σ2 a0 1) fun (i9 : Nat) => some (hI σ2 i9 10, σ2)) else (if a1 = 2 then (b1 (hR σ2 a0 1) fun (i10 : Nat) => some (hI σ2 i10 11, σ2)) else (if a1 = 3 then (b1 (hR σ2 a0 1) fun (i11 : Nat) => b2 (F_J6_bitCount_0f7a4 n (hI σ2 i11 13) σ2) fun (r13 : Int32) (σ12 : Hp) => some (r13, σ12)) else (b1 (hR σ2 a0 1) fun (i3 : Nat) => b2 (F_X3_yes n i3 σ2) fun (r5 : Int32) (σ4 : Hp) => some (r5, σ4))))))) else (some ((-1), σ)))
abbrev rm_X11_slips : Room := { frames := 7, cells := 0, slots := 0, locals := 171 }
theorem h_X11_slips : yX11_slips.cls = RX11 ∧ yX11_slips.cls ≠ "java/lang/invoke/MethodHandle" ∧ yX11_slips.cls ≠ "java/lang/invoke/VarHandle" ∧ (parseMethodDescriptor yX11_slips.desc).map (fun d => d.parameters.length) = some 1 := by decide +kernel
def F_X11_slips (n : Nat) (a0 : Nat) (a1 : Int32) (σ : Hp) : Option (Int32 × Hp) := b1 (hR σ a0 0) fun (i1 : Nat) => if (hI σ i1 2) = 0 then (some ((-3), σ)) else (b1 (F_X11_runInMind n a0 σ) fun (σ2 : Hp) => if a1 = 0 then (b1 (hR σ2 a0 1) fun (i3 : Nat) => some (hI σ2 i3 12, σ2)) else (b1 (hR σ2 a0 1) fun (i4 : Nat) => some (hI σ2 i4 13, σ2)))
theorem w_X11_go_58 {σ0 τ : Hp} {r : Int32} (X : SX D cA base p s m args meth c cX11_go 3 (some .int) RX11) (n : Nat)  : ∀ (v0 : Nat) (σ : Hp) (H : Heap) (locs : List Loc) (ls : Array Slot), hT σ v0 11 → GW D cA base ad σ H → va_S (bA base) s.heap H locs → xT σ0 σ → lv_has ls 3 [(0, .ref (ad v0))] → F_X11_go_58 n  v0 σ = some (r, τ) → W p l e rm_X11_go s m args below meth c H locs 0 0 (ZI below s args D cA base ad σ0 r τ) (F0 m 58 ls []) := by
  intro v0 σ H locs ls hT_v0 hG hS hE hl hF
  unfold F_X11_go_58 at hF
  refine lv_aload_n X.1 X.2.1 dX11_go_58 rfl (lv_at hl 0 rfl) ?_
  obtain ⟨i1, hr, hF⟩ := b1_ex hF
  have hT_i1 : hT σ i1 3 := gw_T hG hT_v0 (by decide) hr
  refine gx_get 0 (v := .ref (ad i1)) X hG hT_v0.1 (hT_v0.eq (by decide)) (by decide) rfl inX11 (by decide) k_151 (fun _ h => h) (gx_rfv hr) dX11_go_59 ?_
  obtain ⟨r3, σ2, hz, hF⟩ := b2_ex hF
  refine gx_rI (gx_runV (As := []) (rest := []) X hG hS hT_i1.1 (hT_i1.eq (by decide)) (by decide) rfl (c_X3_ends l D cA base ad σ n i1 hT_i1 hz) k_553 k_550 k_551 k_552 k_2 (h_X3_ends) rfl rfl ⟨by decide, by decide⟩ rfl hl.1 rfl (Nat.le_of_ble_eq_true rfl) dX11_go_62 ⟨Nat.zero_le _, Nat.zero_le _⟩) hS (fun H locs hG hS hX => ?_)
  have hT_v0 := hX.T hT_v0
  replace hE := hE.trans hX
  exact gx_iret X hG hS hE hF dX11_go_65
theorem w_X11_go_28 {σ0 τ : Hp} {r : Int32} (X : SX D cA base p s m args meth c cX11_go 3 (some .int) RX11) (n : Nat)  : ∀ f : Nat, ∀ (v0 : Nat) (v1 : Int32) (v2 : Int32) (σ : Hp) (H : Heap) (locs : List Loc) (ls : Array Slot), hT σ v0 11 → GW D cA base ad σ H → va_S (bA base) s.heap H locs → xT σ0 σ → lv_has ls 3 [(0, .ref (ad v0)), (1, .int v1), (2, .int v2)] → F_X11_go_28 n  f v0 v1 v2 σ = some (r, τ) → W p l e rm_X11_go s m args below meth c H locs 0 0 (ZI below s args D cA base ad σ0 r τ) (F0 m 28 ls []) := by
  intro f
  induction f with
  | zero => intro v0 v1 v2 σ H locs ls h0 hG hS hE hl hF
            rw [F_X11_go_28] at hF; cases hF
  | succ f ih =>
    intro v0 v1 v2 σ H locs ls hT_v0 hG hS hE hl hF
    rw [F_X11_go_28] at hF
    refine lv_iload_n X.1 X.2.1 dX11_go_28 rfl (lv_at hl 2 rfl) ?_
    refine lv_iload_n X.1 X.2.1 dX11_go_29 rfl (lv_at hl 1 rfl) ?_
    refine lv_icmp_ge (tgt := 58) X.1 X.2.1 dX11_go_30 (by decide) (fun hc => ?_) (fun hc => ?_)
    · replace hF := it_t hF hc
      exact w_X11_go_58 X n  v0 σ _ _ ls hT_v0 hG hS hE (lv_sub hl [0] rfl) hF
    · replace hF := it_f hF hc
      refine lv_aload_n X.1 X.2.1 dX11_go_33 rfl (lv_at hl 0 rfl) ?_
      obtain ⟨i4, hr, hF⟩ := b1_ex hF
      have hT_i4 : hT σ i4 3 := gw_T hG hT_v0 (by decide) hr
      refine gx_get 0 (v := .ref (ad i4)) X hG hT_v0.1 (hT_v0.eq (by decide)) (by decide) rfl inX11 (by decide) k_151 (fun _ h => h) (gx_rfv hr) dX11_go_34 ?_
      obtain ⟨r6, σ5, hz, hF⟩ := b2_ex hF
      refine gx_rI (gx_runV (As := []) (rest := []) X hG hS hT_i4.1 (hT_i4.eq (by decide)) (by decide) rfl (c_X3_ends l D cA base ad σ n i4 hT_i4 hz) k_553 k_550 k_551 k_552 k_2 (h_X3_ends) rfl rfl ⟨by decide, by decide⟩ rfl hl.1 rfl (Nat.le_of_ble_eq_true rfl) dX11_go_37 ⟨Nat.zero_le _, Nat.zero_le _⟩) hS (fun H locs hG hS hX => ?_)
      have hT_v0 := hX.T hT_v0
      replace hE := hE.trans hX
      refine lv_bipush (v := (-4)) X.1 X.2.1 dX11_go_40 (by decide) ?_
      refine lv_icmp_ne (tgt := 58) X.1 X.2.1 dX11_go_42 (by decide) (fun hc => ?_) (fun hc => ?_)
      · replace hF := it_f hF hc
        exact w_X11_go_58 X n  v0 σ5 _ _ ls hT_v0 hG hS hE (lv_sub hl [0] rfl) hF
      · replace hF := it_t hF hc
        refine lv_aload_n X.1 X.2.1 dX11_go_45 rfl (lv_at hl 0 rfl) ?_
        obtain ⟨i7, hr, hF⟩ := b1_ex hF
        have hT_i7 : hT σ5 i7 3 := gw_T hG hT_v0 (by decide) hr
        refine gx_get 0 (v := .ref (ad i7)) X hG hT_v0.1 (hT_v0.eq (by decide)) (by decide) rfl inX11 (by decide) k_151 (fun _ h => h) (gx_rfv hr) dX11_go_46 ?_
        obtain ⟨σ8, hz, hF⟩ := b1_ex hF
        refine gx_rV (gx_runV (As := []) (rest := []) X hG hS hT_i7.1 (hT_i7.eq (by decide)) (by decide) rfl (c_X3_step l D cA base ad σ5 n i7 hT_i7 hz) k_563 k_560 k_561 k_562 k_2 (h_X3_step) rfl rfl ⟨by decide, by decide⟩ rfl hl.1 rfl (Nat.le_of_ble_eq_true rfl) dX11_go_49 ⟨Nat.zero_le _, Nat.zero_le _⟩) hS (fun H locs hG hS hX => ?_)
        have hT_v0 := hX.T hT_v0
        replace hE := hE.trans hX
        refine lv_iinc (v := v2 + 1) (lv' := [(2, .int (v2 + 1)), (0, .ref (ad v0)), (1, .int v1)]) X.1 X.2.1 dX11_go_52 hl (k := 2) rfl rfl (by decide) rfl (fun ls hl => ?_)
        refine lv_goto (tgt := 28) X.1 X.2.1 dX11_go_55 (by decide) ?_
        exact ih v0 v1 (v2 + 1) σ8 _ _ ls hT_v0 hG hS hE (lv_sub hl [1, 2, 0] rfl) hF
theorem c_X11_go (l : Launch) (D : va_G) (cA : Nat → ClassId) (base : Nat) (ad : Nat → Nat) (σ : Hp) (n : Nat) (a0 : Nat) (a1 : Int32) (hT_a0 : hT σ a0 11) {τ : Hp} {r : Int32} (hF : F_X11_go n a0 a1 σ = some (r, τ)) : MI l yX11_go cX11_go 3 (some .int) rm_X11_go D cA base ad σ [.ref (ad a0), .int a1] r τ := by
  refine Met.ofW (cc := cX11_go) (maxL := 3) (ret := (some .int)) (by decide) rfl ?_
  intro p e s m args below meth c s₁ B hml hv
  obtain ⟨rfl, hv⟩ := hv
  have X : SX D cA base p s m ([.ref (ad a0), .int a1] : List Value).toArray meth c cX11_go 3 (some .int) RX11 := sx_of B hml hv
  have hG := hv.1
  have hS : va_S (bA base) s.heap s.heap [] := va_S.rf
  have hE := xT.rf σ
  have hl := lv_entry ([.ref (ad a0), .int a1]) (n := 3) (Nat.le_of_ble_eq_true rfl)
  rw [lg_entry_eq]
  generalize (lg_sl ([.ref (ad a0), .int a1]) ++ List.replicate (3 - (lg_sl ([.ref (ad a0), .int a1])).length) Slot.unset).toArray = ls at hl ⊢
  have hl : lv_has ls 3 [(0, .ref (ad a0)), (1, .int a1)] := hl
  unfold F_X11_go at hF
  refine lv_iload_n X.1 X.2.1 dX11_go_0 rfl (lv_at hl 1 rfl) ?_
  refine lv_iconst (v := 1) X.1 X.2.1 dX11_go_1 (by decide) ?_
  refine lv_icmp_lt (tgt := 11) X.1 X.2.1 dX11_go_2 (by decide) (fun hc => ?_) (fun hc => ?_)
  · replace hF := it_t hF hc
    refine lv_iconst (v := (-1)) X.1 X.2.1 dX11_go_11 (by decide) ?_
    exact gx_iret X hG hS hE hF dX11_go_12
  · replace hF := it_f hF hc
    refine lv_iload_n X.1 X.2.1 dX11_go_5 rfl (lv_at hl 1 rfl) ?_
    refine lv_bipush (v := 60) X.1 X.2.1 dX11_go_6 (by decide) ?_
    refine lv_icmp_le (tgt := 13) X.1 X.2.1 dX11_go_8 (by decide) (fun hc => ?_) (fun hc => ?_)
    · replace hF := it_t hF hc
      refine lv_aload_n X.1 X.2.1 dX11_go_13 rfl (lv_at hl 0 rfl) ?_
      obtain ⟨i9, hr, hF⟩ := b1_ex hF
      have hT_i9 : hT σ i9 3 := gw_T hG hT_a0 (by decide) hr
      refine gx_get 0 (v := .ref (ad i9)) X hG hT_a0.1 (hT_a0.eq (by decide)) (by decide) rfl inX11 (by decide) k_151 (fun _ h => h) (gx_rfv hr) dX11_go_14 ?_
      refine gx_getN 8 (v := .int (hI σ i9 8)) X hG hT_i9.1 (hT_i9.eq (by decide)) (by decide) rfl inX3 (by decide) q_58 (fun _ h => h) rfl dX11_go_17 ?_
      refine lv_if_ne (tgt := 26) X.1 X.2.1 dX11_go_20 (by decide) (fun hc => ?_) (fun hc => ?_)
      · replace hF := it_f hF hc
        refine lv_iconst (v := 0) X.1 X.2.1 dX11_go_26 (by decide) ?_
        refine lv_istore_n (lv' := [(2, .int 0), (0, .ref (ad a0)), (1, .int a1)]) X.1 X.2.1 dX11_go_27 rfl hl (by decide) rfl (fun ls hl => ?_)
        exact w_X11_go_28 X n  n a0 a1 0 σ _ _ ls hT_a0 hG hS hE (lv_sub hl [1, 2, 0] rfl) hF
      · replace hF := it_t hF hc
        refine lv_bipush (v := (-3)) X.1 X.2.1 dX11_go_23 (by decide) ?_
        exact gx_iret X hG hS hE hF dX11_go_25
    · replace hF := it_f hF hc
      refine lv_iconst (v := (-1)) X.1 X.2.1 dX11_go_11 (by decide) ?_
      exact gx_iret X hG hS hE hF dX11_go_12
theorem c_X11_talk (l : Launch) (D : va_G) (cA : Nat → ClassId) (base : Nat) (ad : Nat → Nat) (σ : Hp) (n : Nat) (a0 : Nat) (a1 : Int32) (hT_a0 : hT σ a0 11) {τ : Hp} {r : Int32} (hF : F_X11_talk n a0 a1 σ = some (r, τ)) : MI l yX11_talk cX11_talk 2 (some .int) rm_X11_talk D cA base ad σ [.ref (ad a0), .int a1] r τ := by
  refine Met.ofW (cc := cX11_talk) (maxL := 2) (ret := (some .int)) (by decide) rfl ?_
  intro p e s m args below meth c s₁ B hml hv
  obtain ⟨rfl, hv⟩ := hv
  have X : SX D cA base p s m ([.ref (ad a0), .int a1] : List Value).toArray meth c cX11_talk 2 (some .int) RX11 := sx_of B hml hv
  have hG := hv.1
  have hS : va_S (bA base) s.heap s.heap [] := va_S.rf
  have hE := xT.rf σ
  have hl := lv_entry ([.ref (ad a0), .int a1]) (n := 2) (Nat.le_of_ble_eq_true rfl)
  rw [lg_entry_eq]
  generalize (lg_sl ([.ref (ad a0), .int a1]) ++ List.replicate (2 - (lg_sl ([.ref (ad a0), .int a1])).length) Slot.unset).toArray = ls at hl ⊢
  have hl : lv_has ls 2 [(0, .ref (ad a0)), (1, .int a1)] := hl
  unfold F_X11_talk at hF
  refine lv_iload_n X.1 X.2.1 dX11_talk_0 rfl (lv_at hl 1 rfl) ?_
  refine lv_if_lt (tgt := 9) X.1 X.2.1 dX11_talk_1 (by decide) (fun hc => ?_) (fun hc => ?_)
  · replace hF := it_t hF hc
    refine lv_iconst (v := (-1)) X.1 X.2.1 dX11_talk_9 (by decide) ?_
    exact gx_iret X hG hS hE hF dX11_talk_10
  · replace hF := it_f hF hc
    refine lv_iload_n X.1 X.2.1 dX11_talk_4 rfl (lv_at hl 1 rfl) ?_
    refine lv_iconst (v := 5) X.1 X.2.1 dX11_talk_5 (by decide) ?_
    refine lv_icmp_le (tgt := 11) X.1 X.2.1 dX11_talk_6 (by decide) (fun hc => ?_) (fun hc => ?_)
    · replace hF := it_t hF hc
      refine lv_aload_n X.1 X.2.1 dX11_talk_11 rfl (lv_at hl 0 rfl) ?_
      obtain ⟨i1, hr, hF⟩ := b1_ex hF
      have hT_i1 : hT σ i1 3 := gw_T hG hT_a0 (by decide) hr
      refine gx_get 0 (v := .ref (ad i1)) X hG hT_a0.1 (hT_a0.eq (by decide)) (by decide) rfl inX11 (by decide) k_151 (fun _ h => h) (gx_rfv hr) dX11_talk_12 ?_
      refine gx_getN 8 (v := .int (hI σ i1 8)) X hG hT_i1.1 (hT_i1.eq (by decide)) (by decide) rfl inX3 (by decide) q_58 (fun _ h => h) rfl dX11_talk_15 ?_
      refine lv_if_ne (tgt := 24) X.1 X.2.1 dX11_talk_18 (by decide) (fun hc => ?_) (fun hc => ?_)
      · replace hF := it_f hF hc
        refine lv_iload_n X.1 X.2.1 dX11_talk_24 rfl (lv_at hl 1 rfl) ?_
        by_cases hc0 : a1 = 0
        · replace hF := it_t hF hc0
          refine lv_tableIn (tgt := 60) X.1 X.2.1 dX11_talk_25 (by rw [hc0]; decide) (by rw [hc0]; decide) (by rw [hc0]; rfl) (by decide) ?_
          refine lv_aload_n X.1 X.2.1 dX11_talk_60 rfl (lv_at hl 0 rfl) ?_
          obtain ⟨i5, hr, hF⟩ := b1_ex hF
          have hT_i5 : hT σ i5 3 := gw_T hG hT_a0 (by decide) hr
          refine gx_get 0 (v := .ref (ad i5)) X hG hT_a0.1 (hT_a0.eq (by decide)) (by decide) rfl inX11 (by decide) k_151 (fun _ h => h) (gx_rfv hr) dX11_talk_61 ?_
          refine gx_getN 10 (v := .int (hI σ i5 10)) X hG hT_i5.1 (hT_i5.eq (by decide)) (by decide) rfl inX3 (by decide) q_62 (fun _ h => h) rfl dX11_talk_64 ?_
          exact gx_iret X hG hS hE hF dX11_talk_67
        replace hF := it_f hF hc0
        by_cases hc1 : a1 = 1
        · replace hF := it_t hF hc1
          refine lv_tableIn (tgt := 68) X.1 X.2.1 dX11_talk_25 (by rw [hc1]; decide) (by rw [hc1]; decide) (by rw [hc1]; rfl) (by decide) ?_
          refine lv_aload_n X.1 X.2.1 dX11_talk_68 rfl (lv_at hl 0 rfl) ?_
          obtain ⟨i6, hr, hF⟩ := b1_ex hF
          have hT_i6 : hT σ i6 3 := gw_T hG hT_a0 (by decide) hr
          refine gx_get 0 (v := .ref (ad i6)) X hG hT_a0.1 (hT_a0.eq (by decide)) (by decide) rfl inX11 (by decide) k_151 (fun _ h => h) (gx_rfv hr) dX11_talk_69 ?_
          obtain ⟨r8, σ7, hz, hF⟩ := b2_ex hF
          refine gx_rI (gx_runV (As := []) (rest := []) X hG hS hT_i6.1 (hT_i6.eq (by decide)) (by decide) rfl (c_X3_yes l D cA base ad σ n i6 hT_i6 hz) k_397 k_394 k_395 k_396 k_2 (h_X3_yes) rfl rfl ⟨by decide, by decide⟩ rfl hl.1 rfl (Nat.le_of_ble_eq_true rfl) dX11_talk_72 ⟨Nat.zero_le _, Nat.zero_le _⟩) hS (fun H locs hG hS hX => ?_)
          have hT_a0 := hX.T hT_a0
          replace hE := hE.trans hX
          exact gx_iret X hG hS hE hF dX11_talk_75
        replace hF := it_f hF hc1
        by_cases hc2 : a1 = 2
        · replace hF := it_t hF hc2
          refine lv_tableIn (tgt := 76) X.1 X.2.1 dX11_talk_25 (by rw [hc2]; decide) (by rw [hc2]; decide) (by rw [hc2]; rfl) (by decide) ?_
          refine lv_aload_n X.1 X.2.1 dX11_talk_76 rfl (lv_at hl 0 rfl) ?_
          obtain ⟨i9, hr, hF⟩ := b1_ex hF
          have hT_i9 : hT σ i9 3 := gw_T hG hT_a0 (by decide) hr
          refine gx_get 0 (v := .ref (ad i9)) X hG hT_a0.1 (hT_a0.eq (by decide)) (by decide) rfl inX11 (by decide) k_151 (fun _ h => h) (gx_rfv hr) dX11_talk_77 ?_
          obtain ⟨r11, σ10, hz, hF⟩ := b2_ex hF
          refine gx_rI (gx_runV (As := []) (rest := []) X hG hS hT_i9.1 (hT_i9.eq (by decide)) (by decide) rfl (c_X3_no l D cA base ad σ n i9 hT_i9 hz) k_407 k_404 k_405 k_406 k_2 (h_X3_no) rfl rfl ⟨by decide, by decide⟩ rfl hl.1 rfl (Nat.le_of_ble_eq_true rfl) dX11_talk_80 ⟨Nat.zero_le _, Nat.zero_le _⟩) hS (fun H locs hG hS hX => ?_)
          have hT_a0 := hX.T hT_a0
          replace hE := hE.trans hX
          exact gx_iret X hG hS hE hF dX11_talk_83
        replace hF := it_f hF hc2
        by_cases hc3 : a1 = 3
        · replace hF := it_t hF hc3
          refine lv_tableIn (tgt := 84) X.1 X.2.1 dX11_talk_25 (by rw [hc3]; decide) (by rw [hc3]; decide) (by rw [hc3]; rfl) (by decide) ?_
          refine lv_aload_n X.1 X.2.1 dX11_talk_84 rfl (lv_at hl 0 rfl) ?_
          obtain ⟨i12, hr, hF⟩ := b1_ex hF
          have hT_i12 : hT σ i12 3 := gw_T hG hT_a0 (by decide) hr
          refine gx_get 0 (v := .ref (ad i12)) X hG hT_a0.1 (hT_a0.eq (by decide)) (by decide) rfl inX11 (by decide) k_151 (fun _ h => h) (gx_rfv hr) dX11_talk_85 ?_
          refine gx_getN 11 (v := .int (hI σ i12 11)) X hG hT_i12.1 (hT_i12.eq (by decide)) (by decide) rfl inX3 (by decide) q_64 (fun _ h => h) rfl dX11_talk_88 ?_
          exact gx_iret X hG hS hE hF dX11_talk_91
        replace hF := it_f hF hc3
        by_cases hc4 : a1 = 4
        · replace hF := it_t hF hc4
          refine lv_tableIn (tgt := 92) X.1 X.2.1 dX11_talk_25 (by rw [hc4]; decide) (by rw [hc4]; decide) (by rw [hc4]; rfl) (by decide) ?_
          refine lv_aload_n X.1 X.2.1 dX11_talk_92 rfl (lv_at hl 0 rfl) ?_
          obtain ⟨i13, hr, hF⟩ := b1_ex hF
          have hT_i13 : hT σ i13 3 := gw_T hG hT_a0 (by decide) hr
          refine gx_get 0 (v := .ref (ad i13)) X hG hT_a0.1 (hT_a0.eq (by decide)) (by decide) rfl inX11 (by decide) k_151 (fun _ h => h) (gx_rfv hr) dX11_talk_93 ?_
          refine gx_getN 14 (v := .int (hI σ i13 14)) X hG hT_i13.1 (hT_i13.eq (by decide)) (by decide) rfl inX3 (by decide) q_72 (fun _ h => h) rfl dX11_talk_96 ?_
          exact gx_iret X hG hS hE hF dX11_talk_99
        replace hF := it_f hF hc4
        have hz0 := ne_lit hc0 (z := 0) (by decide)
        have hz1 := ne_lit hc1 (z := 1) (by decide)
        have hz2 := ne_lit hc2 (z := 2) (by decide)
        have hz3 := ne_lit hc3 (z := 3) (by decide)
        have hz4 := ne_lit hc4 (z := 4) (by decide)
        refine lv_tableOut (tgt := 100) X.1 X.2.1 dX11_talk_25 (by omega) (by decide) ?_
        refine lv_aload_n X.1 X.2.1 dX11_talk_100 rfl (lv_at hl 0 rfl) ?_
        obtain ⟨i2, hr, hF⟩ := b1_ex hF
        have hT_i2 : hT σ i2 3 := gw_T hG hT_a0 (by decide) hr
        refine gx_get 0 (v := .ref (ad i2)) X hG hT_a0.1 (hT_a0.eq (by decide)) (by decide) rfl inX11 (by decide) k_151 (fun _ h => h) (gx_rfv hr) dX11_talk_101 ?_
        obtain ⟨r4, σ3, hz, hF⟩ := b2_ex hF
        refine gx_rI (gx_runV (As := []) (rest := []) X hG hS hT_i2.1 (hT_i2.eq (by decide)) (by decide) rfl (c_X3_ends l D cA base ad σ n i2 hT_i2 hz) k_553 k_550 k_551 k_552 k_2 (h_X3_ends) rfl rfl ⟨by decide, by decide⟩ rfl hl.1 rfl (Nat.le_of_ble_eq_true rfl) dX11_talk_104 ⟨Nat.zero_le _, Nat.zero_le _⟩) hS (fun H locs hG hS hX => ?_)
        have hT_a0 := hX.T hT_a0
        replace hE := hE.trans hX
        exact gx_iret X hG hS hE hF dX11_talk_107
      · replace hF := it_t hF hc
        refine lv_bipush (v := (-3)) X.1 X.2.1 dX11_talk_21 (by decide) ?_
        exact gx_iret X hG hS hE hF dX11_talk_23
    · replace hF := it_f hF hc
      refine lv_iconst (v := (-1)) X.1 X.2.1 dX11_talk_9 (by decide) ?_
      exact gx_iret X hG hS hE hF dX11_talk_10
theorem w_X3_seatFrom_99 {σ0 τ : Hp} (X : SX D cA base p s m args meth c cX3_seatFrom 4 none RX3) (n : Nat) (K_46 : Nat → Nat → Int32 → Int32 → Hp → Option Hp) (hK_46 : ∀ (v0 : Nat) (v1 : Nat) (v2 : Int32) (v3 : Int32) (σ : Hp) (H : Heap) (locs : List Loc) (ls : Array Slot), hT σ v0 3 → hT σ v1 3 → GW D cA base ad σ H → va_S (bA base) s.heap H locs → xT σ0 σ → lv_has ls 4 [(0, .ref (ad v0)), (1, .ref (ad v1)), (2, .int v2), (3, .int v3)] → K_46 v0 v1 v2 v3 σ = some τ → W p l e rm_X3_seatFrom s m args below meth c H locs 0 0 (ZV below s args D cA base ad σ0 τ) (F0 m 46 ls [])) : ∀ (v0 : Nat) (v1 : Nat) (v2 : Int32) (v3 : Int32) (σ : Hp) (H : Heap) (locs : List Loc) (ls : Array Slot), hT σ v0 3 → hT σ v1 3 → GW D cA base ad σ H → va_S (bA base) s.heap H locs → xT σ0 σ → lv_has ls 4 [(0, .ref (ad v0)), (1, .ref (ad v1)), (2, .int v2), (3, .int v3)] → F_X3_seatFrom_99 n K_46 v0 v1 v2 v3 σ = some τ → W p l e rm_X3_seatFrom s m args below meth c H locs 0 0 (ZV below s args D cA base ad σ0 τ) (F0 m 99 ls []) := by
  intro v0 v1 v2 v3 σ H locs ls hT_v0 hT_v1 hG hS hE hl hF
  unfold F_X3_seatFrom_99 at hF
  refine lv_iinc (v := v3 + 1) (lv' := [(3, .int (v3 + 1)), (0, .ref (ad v0)), (1, .ref (ad v1)), (2, .int v2)]) X.1 X.2.1 dX3_seatFrom_99 hl (k := 3) rfl rfl (by decide) rfl (fun ls hl => ?_)
  refine lv_goto (tgt := 46) X.1 X.2.1 dX3_seatFrom_102 (by decide) ?_
  exact hK_46 v0 v1 v2 (v3 + 1) σ _ _ ls hT_v0 hT_v1 hG hS hE (lv_sub hl [1, 2, 3, 0] rfl) hF
theorem w_X3_seatFrom_82 {σ0 τ : Hp} (X : SX D cA base p s m args meth c cX3_seatFrom 4 none RX3) (n : Nat) (K_46 : Nat → Nat → Int32 → Int32 → Hp → Option Hp) (hK_46 : ∀ (v0 : Nat) (v1 : Nat) (v2 : Int32) (v3 : Int32) (σ : Hp) (H : Heap) (locs : List Loc) (ls : Array Slot), hT σ v0 3 → hT σ v1 3 → GW D cA base ad σ H → va_S (bA base) s.heap H locs → xT σ0 σ → lv_has ls 4 [(0, .ref (ad v0)), (1, .ref (ad v1)), (2, .int v2), (3, .int v3)] → K_46 v0 v1 v2 v3 σ = some τ → W p l e rm_X3_seatFrom s m args below meth c H locs 0 0 (ZV below s args D cA base ad σ0 τ) (F0 m 46 ls [])) : ∀ (v0 : Nat) (v1 : Nat) (v2 : Int32) (v3 : Int32) (σ : Hp) (H : Heap) (locs : List Loc) (ls : Array Slot), hT σ v0 3 → hT σ v1 3 → GW D cA base ad σ H → va_S (bA base) s.heap H locs → xT σ0 σ → lv_has ls 4 [(0, .ref (ad v0)), (1, .ref (ad v1)), (2, .int v2), (3, .int v3)] → F_X3_seatFrom_82 n K_46 v0 v1 v2 v3 σ = some τ → W p l e rm_X3_seatFrom s m args below meth c H locs 0 0 (ZV below s args D cA base ad σ0 τ) (F0 m 82 ls []) := by
  intro v0 v1 v2 v3 σ H locs ls hT_v0 hT_v1 hG hS hE hl hF
  unfold F_X3_seatFrom_82 at hF
  refine lv_aload_n X.1 X.2.1 dX3_seatFrom_82 rfl (lv_at hl 0 rfl) ?_
  refine lv_aload_n X.1 X.2.1 dX3_seatFrom_83 rfl (lv_at hl 1 rfl) ?_
  refine lv_iload_n X.1 X.2.1 dX3_seatFrom_84 rfl (lv_at hl 3 rfl) ?_
  obtain ⟨r2, σ1, hz, hF⟩ := b2_ex hF
  refine gx_rQ (gx_runV (As := [.int v3]) (rest := [.ref (ad v0)]) X hG hS hT_v1.1 (hT_v1.eq (by decide)) (by decide) rfl (c_X3_turnAt l D cA base ad σ n v1 v3 hT_v1 hz) k_383 k_413 k_381 k_382 k_2 (h_X3_turnAt) rfl rfl ⟨by decide, by decide⟩ rfl hl.1 rfl (Nat.le_of_ble_eq_true rfl) dX3_seatFrom_85 ⟨Nat.zero_le _, Nat.zero_le _⟩) hS (fun H locs hG hS hX hO_r2 => ?_)
  have hT_v0 := hX.T hT_v0
  have hT_v1 := hX.T hT_v1
  replace hE := hE.trans hX
  refine lv_aload_n X.1 X.2.1 dX3_seatFrom_88 rfl (lv_at hl 1 rfl) ?_
  obtain ⟨i3, hr, hF⟩ := b1_ex hF
  have hT_i3 : hT σ1 i3 13 := gw_T hG hT_v1 (by decide) hr
  refine gx_get 4 (v := .ref (ad i3)) X hG hT_v1.1 (hT_v1.eq (by decide)) (by decide) rfl inX3 (by decide) k_51 (fun _ h => h) (gx_rfv hr) dX3_seatFrom_89 ?_
  refine lv_iload_n X.1 X.2.1 dX3_seatFrom_92 rfl (lv_at hl 3 rfl) ?_
  obtain ⟨r5, σ4, hz, hF⟩ := b2_ex hF
  refine gx_rI (gx_runSN (As := [.ref (ad i3), .int v3]) (rest := [va_rf (Option.map ad r2), .ref (ad v0)]) X hG hS (c_X11_at l D cA base ad σ1 n i3 v3 hT_i3 hz) k_362 q_360 k_361 k_1 (h_X11_at.2) rfl rfl ⟨by decide, by decide⟩ rfl hl.1 rfl (by cases r2 <;> exact Nat.le_of_ble_eq_true rfl) dX3_seatFrom_93 ⟨Nat.zero_le _, Nat.zero_le _⟩) hS (fun H locs hG hS hX => ?_)
  have hT_v0 := hX.T hT_v0
  have hT_v1 := hX.T hT_v1
  have hO_r2 := hX.O hO_r2
  replace hE := hE.trans hX
  obtain ⟨σ6, hz, hF⟩ := b1_ex hF
  refine gx_rV (gx_runV (As := [va_rf (Option.map ad r2), .int r5]) (rest := []) X hG hS hT_v0.1 (hT_v0.eq (by decide)) (by decide) rfl (c_X3_sit l D cA base ad σ4 n v0 r2 r5 hT_v0 hO_r2 hz) k_350 k_648 k_348 k_349 k_2 (h_X3_sit) rfl rfl ⟨by decide, by decide⟩ rfl hl.1 rfl (Nat.le_of_ble_eq_true rfl) dX3_seatFrom_96 ⟨Nat.zero_le _, Nat.zero_le _⟩) hS (fun H locs hG hS hX => ?_)
  have hT_v0 := hX.T hT_v0
  have hT_v1 := hX.T hT_v1
  replace hE := hE.trans hX
  exact w_X3_seatFrom_99 X n K_46 hK_46 v0 v1 v2 v3 σ6 _ _ ls hT_v0 hT_v1 hG hS hE (lv_sub hl [0, 1, 2, 3] rfl) hF
theorem w_X3_seatFrom_46 {σ0 τ : Hp} (X : SX D cA base p s m args meth c cX3_seatFrom 4 none RX3) (n : Nat)  : ∀ f : Nat, ∀ (v0 : Nat) (v1 : Nat) (v2 : Int32) (v3 : Int32) (σ : Hp) (H : Heap) (locs : List Loc) (ls : Array Slot), hT σ v0 3 → hT σ v1 3 → GW D cA base ad σ H → va_S (bA base) s.heap H locs → xT σ0 σ → lv_has ls 4 [(0, .ref (ad v0)), (1, .ref (ad v1)), (2, .int v2), (3, .int v3)] → F_X3_seatFrom_46 n  f v0 v1 v2 v3 σ = some τ → W p l e rm_X3_seatFrom s m args below meth c H locs 0 0 (ZV below s args D cA base ad σ0 τ) (F0 m 46 ls []) := by
  intro f
  induction f with
  | zero => intro v0 v1 v2 v3 σ H locs ls h0 h1 hG hS hE hl hF
            rw [F_X3_seatFrom_46] at hF; cases hF
  | succ f ih =>
    intro v0 v1 v2 v3 σ H locs ls hT_v0 hT_v1 hG hS hE hl hF
    rw [F_X3_seatFrom_46] at hF
    refine lv_iload_n X.1 X.2.1 dX3_seatFrom_46 rfl (lv_at hl 3 rfl) ?_
    refine lv_aload_n X.1 X.2.1 dX3_seatFrom_47 rfl (lv_at hl 1 rfl) ?_
    refine gx_get 2 (v := .int (hI σ v1 2)) X hG hT_v1.1 (hT_v1.eq (by decide)) (by decide) rfl inX3 (by decide) k_45 (fun _ h => h) rfl dX3_seatFrom_48 ?_
    refine lv_icmp_ge (tgt := 105) X.1 X.2.1 dX3_seatFrom_51 (by decide) (fun hc => ?_) (fun hc => ?_)
    · replace hF := it_t hF hc
      exact gx_vret X hG hS hE hF dX3_seatFrom_105
    · replace hF := it_f hF hc
      refine lv_iload_n X.1 X.2.1 dX3_seatFrom_54 rfl (lv_at hl 2 rfl) ?_
      refine lv_iload_n X.1 X.2.1 dX3_seatFrom_55 rfl (lv_at hl 3 rfl) ?_
      refine lv_ishr X.1 X.2.1 dX3_seatFrom_56 ?_
      refine lv_iconst (v := 1) X.1 X.2.1 dX3_seatFrom_57 (by decide) ?_
      refine lv_iand X.1 X.2.1 dX3_seatFrom_58 ?_
      refine lv_if_ne (tgt := 99) X.1 X.2.1 dX3_seatFrom_59 (by decide) (fun hc => ?_) (fun hc => ?_)
      · replace hF := it_f hF hc
        exact w_X3_seatFrom_99 X n (F_X3_seatFrom_46 n  f) ih v0 v1 v2 v3 σ _ _ ls hT_v0 hT_v1 hG hS hE (lv_sub hl [0, 1, 2, 3] rfl) hF
      · replace hF := it_t hF hc
        refine lv_iload_n X.1 X.2.1 dX3_seatFrom_62 rfl (lv_at hl 3 rfl) ?_
        refine lv_aload_n X.1 X.2.1 dX3_seatFrom_63 rfl (lv_at hl 1 rfl) ?_
        obtain ⟨r8, σ7, hz, hF⟩ := b2_ex hF
        refine gx_rI (gx_runV (As := []) (rest := [.int v3]) X hG hS hT_v1.1 (hT_v1.eq (by decide)) (by decide) rfl (c_X3_leaderSeat l D cA base ad σ n v1 hT_v1 hz) k_540 k_537 k_538 k_539 k_2 (h_X3_leaderSeat) rfl rfl ⟨by decide, by decide⟩ rfl hl.1 rfl (Nat.le_of_ble_eq_true rfl) dX3_seatFrom_64 ⟨Nat.zero_le _, Nat.zero_le _⟩) hS (fun H locs hG hS hX => ?_)
        have hT_v0 := hX.T hT_v0
        have hT_v1 := hX.T hT_v1
        replace hE := hE.trans hX
        refine lv_icmp_ne (tgt := 82) X.1 X.2.1 dX3_seatFrom_67 (by decide) (fun hc => ?_) (fun hc => ?_)
        · replace hF := it_f hF hc
          exact w_X3_seatFrom_82 X n (F_X3_seatFrom_46 n  f) ih v0 v1 v2 v3 σ7 _ _ ls hT_v0 hT_v1 hG hS hE (lv_sub hl [0, 1, 2, 3] rfl) hF
        · replace hF := it_t hF hc
          refine lv_aload_n X.1 X.2.1 dX3_seatFrom_70 rfl (lv_at hl 0 rfl) ?_
          obtain ⟨i9, hr, hF⟩ := b1_ex hF
          have hT_i9 : hT σ7 i9 13 := gw_T hG hT_v0 (by decide) hr
          refine gx_get 7 (v := .ref (ad i9)) X hG hT_v0.1 (hT_v0.eq (by decide)) (by decide) rfl inX3 (by decide) k_56 (fun _ h => h) (gx_rfv hr) dX3_seatFrom_71 ?_
          refine lv_iconst (v := 1) X.1 X.2.1 dX3_seatFrom_74 (by decide) ?_
          refine lv_aload_n X.1 X.2.1 dX3_seatFrom_75 rfl (lv_at hl 0 rfl) ?_
          refine gx_get 2 (v := .int (hI σ7 v0 2)) X hG hT_v0.1 (hT_v0.eq (by decide)) (by decide) rfl inX3 (by decide) k_45 (fun _ h => h) rfl dX3_seatFrom_76 ?_
          obtain ⟨σ10, hz, hF⟩ := b1_ex hF
          refine gx_rV (gx_runSN (As := [.ref (ad i9), .int 1, .int (hI σ7 v0 2)]) (rest := []) X hG hS (c_X11_store l D cA base ad σ7 n i9 1 (hI σ7 v0 2) hT_i9 hz) k_173 q_351 k_172 k_1 (h_X11_store.2) rfl rfl ⟨by decide, by decide⟩ rfl hl.1 rfl (Nat.le_of_ble_eq_true rfl) dX3_seatFrom_79 ⟨Nat.zero_le _, Nat.zero_le _⟩) hS (fun H locs hG hS hX => ?_)
          have hT_v0 := hX.T hT_v0
          have hT_v1 := hX.T hT_v1
          replace hE := hE.trans hX
          exact w_X3_seatFrom_82 X n (F_X3_seatFrom_46 n  f) ih v0 v1 v2 v3 σ10 _ _ ls hT_v0 hT_v1 hG hS hE (lv_sub hl [0, 1, 2, 3] rfl) hF
theorem c_X3_seatFrom (l : Launch) (D : va_G) (cA : Nat → ClassId) (base : Nat) (ad : Nat → Nat) (σ : Hp) (n : Nat) (a0 : Nat) (a1 : Nat) (a2 : Int32) (hT_a0 : hT σ a0 3) (hT_a1 : hT σ a1 3) {τ : Hp} (hF : F_X3_seatFrom n a0 a1 a2 σ = some τ) : MV l yX3_seatFrom cX3_seatFrom 4 rm_X3_seatFrom D cA base ad σ [.ref (ad a0), .ref (ad a1), .int a2] τ := by
  refine Met.ofW (cc := cX3_seatFrom) (maxL := 4) (ret := none) (by decide) rfl ?_
  intro p e s m args below meth c s₁ B hml hv
  obtain ⟨rfl, hv⟩ := hv
  have X : SX D cA base p s m ([.ref (ad a0), .ref (ad a1), .int a2] : List Value).toArray meth c cX3_seatFrom 4 none RX3 := sx_of B hml hv
  have hG := hv.1
  have hS : va_S (bA base) s.heap s.heap [] := va_S.rf
  have hE := xT.rf σ
  have hl := lv_entry ([.ref (ad a0), .ref (ad a1), .int a2]) (n := 4) (Nat.le_of_ble_eq_true rfl)
  rw [lg_entry_eq]
  generalize (lg_sl ([.ref (ad a0), .ref (ad a1), .int a2]) ++ List.replicate (4 - (lg_sl ([.ref (ad a0), .ref (ad a1), .int a2])).length) Slot.unset).toArray = ls at hl ⊢
  have hl : lv_has ls 4 [(0, .ref (ad a0)), (1, .ref (ad a1)), (2, .int a2)] := hl
  unfold F_X3_seatFrom at hF
  refine lv_aload_n X.1 X.2.1 dX3_seatFrom_0 rfl (lv_at hl 0 rfl) ?_
  refine lv_aload_n X.1 X.2.1 dX3_seatFrom_1 rfl (lv_at hl 1 rfl) ?_
  refine gx_get 0 (v := .int (hI σ a1 0)) X hG hT_a1.1 (hT_a1.eq (by decide)) (by decide) rfl inX3 (by decide) k_41 (fun _ h => h) rfl dX3_seatFrom_2 ?_
  refine gx_putI 0  X hG hS hT_a0.1 (hT_a0.eq (by decide)) (by decide) rfl inX3 tyX3_ok nmX3 (by decide) k_41 (fun _ h => h) rfl rfl rfl rfl (Nat.le_of_ble_eq_true rfl) dX3_seatFrom_5 hF (fun σ11 H locs hG hS hX hF => ?_)
  have hT_a0 := hX.T hT_a0
  have hT_a1 := hX.T hT_a1
  replace hE := hE.trans hX
  refine lv_aload_n X.1 X.2.1 dX3_seatFrom_8 rfl (lv_at hl 1 rfl) ?_
  obtain ⟨i12, hr, hF⟩ := b1_ex hF
  have hT_i12 : hT σ11 i12 13 := gw_T hG hT_a1 (by decide) hr
  refine gx_get 1 (v := .ref (ad i12)) X hG hT_a1.1 (hT_a1.eq (by decide)) (by decide) rfl inX3 (by decide) k_42 (fun _ h => h) (gx_rfv hr) dX3_seatFrom_9 ?_
  refine lv_aload_n X.1 X.2.1 dX3_seatFrom_12 rfl (lv_at hl 0 rfl) ?_
  obtain ⟨i13, hr, hF⟩ := b1_ex hF
  have hT_i13 : hT σ11 i13 13 := gw_T hG hT_a0 (by decide) hr
  refine gx_get 1 (v := .ref (ad i13)) X hG hT_a0.1 (hT_a0.eq (by decide)) (by decide) rfl inX3 (by decide) k_42 (fun _ h => h) (gx_rfv hr) dX3_seatFrom_13 ?_
  obtain ⟨σ14, hz, hF⟩ := b1_ex hF
  refine gx_rV (gx_runSN (As := [.ref (ad i12), .ref (ad i13)]) (rest := []) X hG hS (c_X11_copyAll l D cA base ad σ11 n i12 i13 hT_i12 hT_i13 hz) k_458 q_647 k_457 k_1 (h_X11_copyAll.2) rfl rfl ⟨by decide, by decide⟩ rfl hl.1 rfl (Nat.le_of_ble_eq_true rfl) dX3_seatFrom_16 ⟨Nat.zero_le _, Nat.zero_le _⟩) hS (fun H locs hG hS hX => ?_)
  have hT_a0 := hX.T hT_a0
  have hT_a1 := hX.T hT_a1
  replace hE := hE.trans hX
  refine lv_aload_n X.1 X.2.1 dX3_seatFrom_19 rfl (lv_at hl 1 rfl) ?_
  obtain ⟨i15, hr, hF⟩ := b1_ex hF
  have hT_i15 : hT σ14 i15 13 := gw_T hG hT_a1 (by decide) hr
  refine gx_get 7 (v := .ref (ad i15)) X hG hT_a1.1 (hT_a1.eq (by decide)) (by decide) rfl inX3 (by decide) k_56 (fun _ h => h) (gx_rfv hr) dX3_seatFrom_20 ?_
  refine lv_aload_n X.1 X.2.1 dX3_seatFrom_23 rfl (lv_at hl 0 rfl) ?_
  obtain ⟨i16, hr, hF⟩ := b1_ex hF
  have hT_i16 : hT σ14 i16 13 := gw_T hG hT_a0 (by decide) hr
  refine gx_get 7 (v := .ref (ad i16)) X hG hT_a0.1 (hT_a0.eq (by decide)) (by decide) rfl inX3 (by decide) k_56 (fun _ h => h) (gx_rfv hr) dX3_seatFrom_24 ?_
  obtain ⟨σ17, hz, hF⟩ := b1_ex hF
  refine gx_rV (gx_runSN (As := [.ref (ad i15), .ref (ad i16)]) (rest := []) X hG hS (c_X11_copyAll l D cA base ad σ14 n i15 i16 hT_i15 hT_i16 hz) k_458 q_647 k_457 k_1 (h_X11_copyAll.2) rfl rfl ⟨by decide, by decide⟩ rfl hl.1 rfl (Nat.le_of_ble_eq_true rfl) dX3_seatFrom_27 ⟨Nat.zero_le _, Nat.zero_le _⟩) hS (fun H locs hG hS hX => ?_)
  have hT_a0 := hX.T hT_a0
  have hT_a1 := hX.T hT_a1
  replace hE := hE.trans hX
  refine lv_aload_n X.1 X.2.1 dX3_seatFrom_30 rfl (lv_at hl 0 rfl) ?_
  obtain ⟨i18, hr, hF⟩ := b1_ex hF
  have hT_i18 : hT σ17 i18 13 := gw_T hG hT_a0 (by decide) hr
  refine gx_get 7 (v := .ref (ad i18)) X hG hT_a0.1 (hT_a0.eq (by decide)) (by decide) rfl inX3 (by decide) k_56 (fun _ h => h) (gx_rfv hr) dX3_seatFrom_31 ?_
  refine lv_iconst (v := 1) X.1 X.2.1 dX3_seatFrom_34 (by decide) ?_
  refine lv_iconst (v := 0) X.1 X.2.1 dX3_seatFrom_35 (by decide) ?_
  obtain ⟨σ19, hz, hF⟩ := b1_ex hF
  refine gx_rV (gx_runSN (As := [.ref (ad i18), .int 1, .int 0]) (rest := []) X hG hS (c_X11_store l D cA base ad σ17 n i18 1 0 hT_i18 hz) k_173 q_351 k_172 k_1 (h_X11_store.2) rfl rfl ⟨by decide, by decide⟩ rfl hl.1 rfl (Nat.le_of_ble_eq_true rfl) dX3_seatFrom_36 ⟨Nat.zero_le _, Nat.zero_le _⟩) hS (fun H locs hG hS hX => ?_)
  have hT_a0 := hX.T hT_a0
  have hT_a1 := hX.T hT_a1
  replace hE := hE.trans hX
  refine lv_aload_n X.1 X.2.1 dX3_seatFrom_39 rfl (lv_at hl 0 rfl) ?_
  refine lv_iconst (v := 0) X.1 X.2.1 dX3_seatFrom_40 (by decide) ?_
  refine gx_putI 2  X hG hS hT_a0.1 (hT_a0.eq (by decide)) (by decide) rfl inX3 tyX3_ok nmX3 (by decide) k_45 (fun _ h => h) rfl rfl rfl rfl (Nat.le_of_ble_eq_true rfl) dX3_seatFrom_41 hF (fun σ20 H locs hG hS hX hF => ?_)
  have hT_a0 := hX.T hT_a0
  have hT_a1 := hX.T hT_a1
  replace hE := hE.trans hX
  refine lv_iconst (v := 0) X.1 X.2.1 dX3_seatFrom_44 (by decide) ?_
  refine lv_istore_n (lv' := [(3, .int 0), (0, .ref (ad a0)), (1, .ref (ad a1)), (2, .int a2)]) X.1 X.2.1 dX3_seatFrom_45 rfl hl (by decide) rfl (fun ls hl => ?_)
  exact w_X3_seatFrom_46 X n  n a0 a1 a2 0 σ20 _ _ ls hT_a0 hT_a1 hG hS hE (lv_sub hl [1, 2, 3, 0] rfl) hF
theorem w_X3_runThrough_32 {σ0 τ : Hp} {r : Int32} (X : SX D cA base p s m args meth c cX3_runThrough 2 (some .int) RX3) (n : Nat)  : ∀ (v0 : Nat) (σ : Hp) (H : Heap) (locs : List Loc) (ls : Array Slot), hT σ v0 3 → GW D cA base ad σ H → va_S (bA base) s.heap H locs → xT σ0 σ → lv_has ls 2 [(0, .ref (ad v0))] → F_X3_runThrough_32 n  v0 σ = some (r, τ) → W p l e rm_X3_runThrough s m args below meth c H locs 0 0 (ZI below s args D cA base ad σ0 r τ) (F0 m 32 ls []) := by
  intro v0 σ H locs ls hT_v0 hG hS hE hl hF
  unfold F_X3_runThrough_32 at hF
  refine lv_aload_n X.1 X.2.1 dX3_runThrough_32 rfl (lv_at hl 0 rfl) ?_
  obtain ⟨r2, σ1, hz, hF⟩ := b2_ex hF
  refine gx_rI (gx_runV (As := []) (rest := []) X hG hS hT_v0.1 (hT_v0.eq (by decide)) (by decide) rfl (c_X3_ends l D cA base ad σ n v0 hT_v0 hz) k_553 k_654 k_551 k_552 k_2 (h_X3_ends) rfl rfl ⟨by decide, by decide⟩ rfl hl.1 rfl (Nat.le_of_ble_eq_true rfl) dX3_runThrough_33 ⟨Nat.zero_le _, Nat.zero_le _⟩) hS (fun H locs hG hS hX => ?_)
  have hT_v0 := hX.T hT_v0
  replace hE := hE.trans hX
  exact gx_iret X hG hS hE hF dX3_runThrough_36
theorem w_X3_runThrough_6 {σ0 τ : Hp} {r : Int32} (X : SX D cA base p s m args meth c cX3_runThrough 2 (some .int) RX3) (n : Nat)  : ∀ f : Nat, ∀ (v0 : Nat) (v1 : Int32) (σ : Hp) (H : Heap) (locs : List Loc) (ls : Array Slot), hT σ v0 3 → GW D cA base ad σ H → va_S (bA base) s.heap H locs → xT σ0 σ → lv_has ls 2 [(0, .ref (ad v0)), (1, .int v1)] → F_X3_runThrough_6 n  f v0 v1 σ = some (r, τ) → W p l e rm_X3_runThrough s m args below meth c H locs 0 0 (ZI below s args D cA base ad σ0 r τ) (F0 m 6 ls []) := by
  intro f
  induction f with
  | zero => intro v0 v1 σ H locs ls h0 hG hS hE hl hF
            rw [F_X3_runThrough_6] at hF; cases hF
  | succ f ih =>
    intro v0 v1 σ H locs ls hT_v0 hG hS hE hl hF
    rw [F_X3_runThrough_6] at hF
    refine lv_iload_n X.1 X.2.1 dX3_runThrough_6 rfl (lv_at hl 1 rfl) ?_
    refine lv_sipush (v := 3000) X.1 X.2.1 dX3_runThrough_7 (by decide) ?_
    refine lv_icmp_ge (tgt := 32) X.1 X.2.1 dX3_runThrough_10 (by decide) (fun hc => ?_) (fun hc => ?_)
    · replace hF := it_t hF hc
      exact w_X3_runThrough_32 X n  v0 σ _ _ ls hT_v0 hG hS hE (lv_sub hl [0] rfl) hF
    · replace hF := it_f hF hc
      refine lv_aload_n X.1 X.2.1 dX3_runThrough_13 rfl (lv_at hl 0 rfl) ?_
      obtain ⟨r4, σ3, hz, hF⟩ := b2_ex hF
      refine gx_rI (gx_runV (As := []) (rest := []) X hG hS hT_v0.1 (hT_v0.eq (by decide)) (by decide) rfl (c_X3_ends l D cA base ad σ n v0 hT_v0 hz) k_553 k_654 k_551 k_552 k_2 (h_X3_ends) rfl rfl ⟨by decide, by decide⟩ rfl hl.1 rfl (Nat.le_of_ble_eq_true rfl) dX3_runThrough_14 ⟨Nat.zero_le _, Nat.zero_le _⟩) hS (fun H locs hG hS hX => ?_)
      have hT_v0 := hX.T hT_v0
      replace hE := hE.trans hX
      refine lv_bipush (v := (-4)) X.1 X.2.1 dX3_runThrough_17 (by decide) ?_
      refine lv_icmp_ne (tgt := 32) X.1 X.2.1 dX3_runThrough_19 (by decide) (fun hc => ?_) (fun hc => ?_)
      · replace hF := it_f hF hc
        exact w_X3_runThrough_32 X n  v0 σ3 _ _ ls hT_v0 hG hS hE (lv_sub hl [0] rfl) hF
      · replace hF := it_t hF hc
        refine lv_aload_n X.1 X.2.1 dX3_runThrough_22 rfl (lv_at hl 0 rfl) ?_
        obtain ⟨σ5, hz, hF⟩ := b1_ex hF
        refine gx_rV (gx_runV (As := []) (rest := []) X hG hS hT_v0.1 (hT_v0.eq (by decide)) (by decide) rfl (c_X3_step l D cA base ad σ3 n v0 hT_v0 hz) k_563 k_655 k_561 k_562 k_2 (h_X3_step) rfl rfl ⟨by decide, by decide⟩ rfl hl.1 rfl (Nat.le_of_ble_eq_true rfl) dX3_runThrough_23 ⟨Nat.zero_le _, Nat.zero_le _⟩) hS (fun H locs hG hS hX => ?_)
        have hT_v0 := hX.T hT_v0
        replace hE := hE.trans hX
        refine lv_iinc (v := v1 + 1) (lv' := [(1, .int (v1 + 1)), (0, .ref (ad v0))]) X.1 X.2.1 dX3_runThrough_26 hl (k := 1) rfl rfl (by decide) rfl (fun ls hl => ?_)
        refine lv_goto (tgt := 6) X.1 X.2.1 dX3_runThrough_29 (by decide) ?_
        exact ih v0 (v1 + 1) σ5 _ _ ls hT_v0 hG hS hE (lv_sub hl [1, 0] rfl) hF
theorem c_X3_runThrough (l : Launch) (D : va_G) (cA : Nat → ClassId) (base : Nat) (ad : Nat → Nat) (σ : Hp) (n : Nat) (a0 : Nat) (hT_a0 : hT σ a0 3) {τ : Hp} {r : Int32} (hF : F_X3_runThrough n a0 σ = some (r, τ)) : MI l yX3_runThrough cX3_runThrough 2 (some .int) rm_X3_runThrough D cA base ad σ [.ref (ad a0)] r τ := by
  refine Met.ofW (cc := cX3_runThrough) (maxL := 2) (ret := (some .int)) (by decide) rfl ?_
  intro p e s m args below meth c s₁ B hml hv
  obtain ⟨rfl, hv⟩ := hv
  have X : SX D cA base p s m ([.ref (ad a0)] : List Value).toArray meth c cX3_runThrough 2 (some .int) RX3 := sx_of B hml hv
  have hG := hv.1
  have hS : va_S (bA base) s.heap s.heap [] := va_S.rf
  have hE := xT.rf σ
  have hl := lv_entry ([.ref (ad a0)]) (n := 2) (Nat.le_of_ble_eq_true rfl)
  rw [lg_entry_eq]
  generalize (lg_sl ([.ref (ad a0)]) ++ List.replicate (2 - (lg_sl ([.ref (ad a0)])).length) Slot.unset).toArray = ls at hl ⊢
  have hl : lv_has ls 2 [(0, .ref (ad a0))] := hl
  unfold F_X3_runThrough at hF
  refine lv_aload_n X.1 X.2.1 dX3_runThrough_0 rfl (lv_at hl 0 rfl) ?_
  obtain ⟨σ6, hz, hF⟩ := b1_ex hF
  refine gx_rV (gx_runV (As := []) (rest := []) X hG hS hT_a0.1 (hT_a0.eq (by decide)) (by decide) rfl (c_X3_beginTalk l D cA base ad σ n a0 hT_a0 hz) k_535 k_653 k_533 k_534 k_2 (h_X3_beginTalk) rfl rfl ⟨by decide, by decide⟩ rfl hl.1 rfl (Nat.le_of_ble_eq_true rfl) dX3_runThrough_1 ⟨Nat.zero_le _, Nat.zero_le _⟩) hS (fun H locs hG hS hX => ?_)
  have hT_a0 := hX.T hT_a0
  replace hE := hE.trans hX
  refine lv_iconst (v := 0) X.1 X.2.1 dX3_runThrough_4 (by decide) ?_
  refine lv_istore_n (lv' := [(1, .int 0), (0, .ref (ad a0))]) X.1 X.2.1 dX3_runThrough_5 rfl hl (by decide) rfl (fun ls hl => ?_)
  exact w_X3_runThrough_6 X n  n a0 0 σ6 _ _ ls hT_a0 hG hS hE (lv_sub hl [1, 0] rfl) hF
theorem c_X11_runInMind (l : Launch) (D : va_G) (cA : Nat → ClassId) (base : Nat) (ad : Nat → Nat) (σ : Hp) (n : Nat) (a0 : Nat) (hT_a0 : hT σ a0 11) {τ : Hp} (hF : F_X11_runInMind n a0 σ = some τ) : MV l yX11_runInMind cX11_runInMind 1 rm_X11_runInMind D cA base ad σ [.ref (ad a0)] τ := by
  refine Met.ofW (cc := cX11_runInMind) (maxL := 1) (ret := none) (by decide) rfl ?_
  intro p e s m args below meth c s₁ B hml hv
  obtain ⟨rfl, hv⟩ := hv
  have X : SX D cA base p s m ([.ref (ad a0)] : List Value).toArray meth c cX11_runInMind 1 none RX11 := sx_of B hml hv
  have hG := hv.1
  have hS : va_S (bA base) s.heap s.heap [] := va_S.rf
  have hE := xT.rf σ
  have hl := lv_entry ([.ref (ad a0)]) (n := 1) (Nat.le_of_ble_eq_true rfl)
  rw [lg_entry_eq]
  generalize (lg_sl ([.ref (ad a0)]) ++ List.replicate (1 - (lg_sl ([.ref (ad a0)])).length) Slot.unset).toArray = ls at hl ⊢
  have hl : lv_has ls 1 [(0, .ref (ad a0))] := hl
  unfold F_X11_runInMind at hF
  refine lv_aload_n X.1 X.2.1 dX11_runInMind_0 rfl (lv_at hl 0 rfl) ?_
  obtain ⟨i1, hr, hF⟩ := b1_ex hF
  have hT_i1 : hT σ i1 3 := gw_T hG hT_a0 (by decide) hr
  refine gx_get 1 (v := .ref (ad i1)) X hG hT_a0.1 (hT_a0.eq (by decide)) (by decide) rfl inX11 (by decide) k_152 (fun _ h => h) (gx_rfv hr) dX11_runInMind_1 ?_
  refine lv_aload_n X.1 X.2.1 dX11_runInMind_4 rfl (lv_at hl 0 rfl) ?_
  obtain ⟨i2, hr, hF⟩ := b1_ex hF
  have hT_i2 : hT σ i2 3 := gw_T hG hT_a0 (by decide) hr
  refine gx_get 0 (v := .ref (ad i2)) X hG hT_a0.1 (hT_a0.eq (by decide)) (by decide) rfl inX11 (by decide) k_151 (fun _ h => h) (gx_rfv hr) dX11_runInMind_5 ?_
  refine lv_iconst (v := 0) X.1 X.2.1 dX11_runInMind_8 (by decide) ?_
  obtain ⟨σ3, hz, hF⟩ := b1_ex hF
  refine gx_rV (gx_runV (As := [.ref (ad i2), .int 0]) (rest := []) X hG hS hT_i1.1 (hT_i1.eq (by decide)) (by decide) rfl (c_X3_seatFrom l D cA base ad σ n i1 i2 0 hT_i1 hT_i2 hz) k_646 k_643 k_644 k_645 k_2 (h_X3_seatFrom) rfl rfl ⟨by decide, by decide⟩ rfl hl.1 rfl (Nat.le_of_ble_eq_true rfl) dX11_runInMind_9 ⟨Nat.zero_le _, Nat.zero_le _⟩) hS (fun H locs hG hS hX => ?_)
  have hT_a0 := hX.T hT_a0
  replace hE := hE.trans hX
  refine lv_aload_n X.1 X.2.1 dX11_runInMind_12 rfl (lv_at hl 0 rfl) ?_
  obtain ⟨i4, hr, hF⟩ := b1_ex hF
  have hT_i4 : hT σ3 i4 3 := gw_T hG hT_a0 (by decide) hr
  refine gx_get 1 (v := .ref (ad i4)) X hG hT_a0.1 (hT_a0.eq (by decide)) (by decide) rfl inX11 (by decide) k_152 (fun _ h => h) (gx_rfv hr) dX11_runInMind_13 ?_
  obtain ⟨r6, σ5, hz, hF⟩ := b2_ex hF
  refine gx_rI (gx_runV (As := []) (rest := []) X hG hS hT_i4.1 (hT_i4.eq (by decide)) (by decide) rfl (c_X3_runThrough l D cA base ad σ3 n i4 hT_i4 hz) k_652 k_649 k_650 k_651 k_2 (h_X3_runThrough) rfl rfl ⟨by decide, by decide⟩ rfl hl.1 rfl (Nat.le_of_ble_eq_true rfl) dX11_runInMind_16 ⟨Nat.zero_le _, Nat.zero_le _⟩) hS (fun H locs hG hS hX => ?_)
  have hT_a0 := hX.T hT_a0
  replace hE := hE.trans hX
  refine lv_pop X.1 X.2.1 dX11_runInMind_19 rfl ?_
  exact gx_vret X hG hS hE hF dX11_runInMind_20
theorem c_X11_run (l : Launch) (D : va_G) (cA : Nat → ClassId) (base : Nat) (ad : Nat → Nat) (σ : Hp) (n : Nat) (a0 : Nat) (a1 : Int32) (hT_a0 : hT σ a0 11) {τ : Hp} {r : Int32} (hF : F_X11_run n a0 a1 σ = some (r, τ)) : MI l yX11_run cX11_run 2 (some .int) rm_X11_run D cA base ad σ [.ref (ad a0), .int a1] r τ := by
  refine Met.ofW (cc := cX11_run) (maxL := 2) (ret := (some .int)) (by decide) rfl ?_
  intro p e s m args below meth c s₁ B hml hv
  obtain ⟨rfl, hv⟩ := hv
  have X : SX D cA base p s m ([.ref (ad a0), .int a1] : List Value).toArray meth c cX11_run 2 (some .int) RX11 := sx_of B hml hv
  have hG := hv.1
  have hS : va_S (bA base) s.heap s.heap [] := va_S.rf
  have hE := xT.rf σ
  have hl := lv_entry ([.ref (ad a0), .int a1]) (n := 2) (Nat.le_of_ble_eq_true rfl)
  rw [lg_entry_eq]
  generalize (lg_sl ([.ref (ad a0), .int a1]) ++ List.replicate (2 - (lg_sl ([.ref (ad a0), .int a1])).length) Slot.unset).toArray = ls at hl ⊢
  have hl : lv_has ls 2 [(0, .ref (ad a0)), (1, .int a1)] := hl
  unfold F_X11_run at hF
  refine lv_iload_n X.1 X.2.1 dX11_run_0 rfl (lv_at hl 1 rfl) ?_
  refine lv_if_lt (tgt := 9) X.1 X.2.1 dX11_run_1 (by decide) (fun hc => ?_) (fun hc => ?_)
  · replace hF := it_t hF hc
    refine lv_iconst (v := (-1)) X.1 X.2.1 dX11_run_9 (by decide) ?_
    exact gx_iret X hG hS hE hF dX11_run_10
  · replace hF := it_f hF hc
    refine lv_iload_n X.1 X.2.1 dX11_run_4 rfl (lv_at hl 1 rfl) ?_
    refine lv_iconst (v := 4) X.1 X.2.1 dX11_run_5 (by decide) ?_
    refine lv_icmp_le (tgt := 11) X.1 X.2.1 dX11_run_6 (by decide) (fun hc => ?_) (fun hc => ?_)
    · replace hF := it_t hF hc
      refine lv_aload_n X.1 X.2.1 dX11_run_11 rfl (lv_at hl 0 rfl) ?_
      obtain ⟨i1, hr, hF⟩ := b1_ex hF
      have hT_i1 : hT σ i1 3 := gw_T hG hT_a0 (by decide) hr
      refine gx_get 0 (v := .ref (ad i1)) X hG hT_a0.1 (hT_a0.eq (by decide)) (by decide) rfl inX11 (by decide) k_151 (fun _ h => h) (gx_rfv hr) dX11_run_12 ?_
      refine gx_getN 2 (v := .int (hI σ i1 2)) X hG hT_i1.1 (hT_i1.eq (by decide)) (by decide) rfl inX3 (by decide) q_49 (fun _ h => h) rfl dX11_run_15 ?_
      refine lv_if_ne (tgt := 24) X.1 X.2.1 dX11_run_18 (by decide) (fun hc => ?_) (fun hc => ?_)
      · replace hF := it_f hF hc
        refine lv_aload_n X.1 X.2.1 dX11_run_24 rfl (lv_at hl 0 rfl) ?_
        obtain ⟨σ2, hz, hF⟩ := b1_ex hF
        refine gx_rV (gx_runV (As := []) (rest := []) X hG hS hT_a0.1 (hT_a0.eq (by decide)) (by decide) rfl (c_X11_runInMind l D cA base ad σ n a0 hT_a0 hz) k_642 k_639 k_641 ks_12 k_1 (h_X11_runInMind) rfl rfl ⟨by decide, by decide⟩ rfl hl.1 rfl (Nat.le_of_ble_eq_true rfl) dX11_run_25 ⟨Nat.zero_le _, Nat.zero_le _⟩) hS (fun H locs hG hS hX => ?_)
        have hT_a0 := hX.T hT_a0
        replace hE := hE.trans hX
        refine lv_iload_n X.1 X.2.1 dX11_run_28 rfl (lv_at hl 1 rfl) ?_
        by_cases hc0 : a1 = 0
        · replace hF := it_t hF hc0
          refine lv_tableIn (tgt := 60) X.1 X.2.1 dX11_run_29 (by rw [hc0]; decide) (by rw [hc0]; decide) (by rw [hc0]; rfl) (by decide) ?_
          refine lv_aload_n X.1 X.2.1 dX11_run_60 rfl (lv_at hl 0 rfl) ?_
          obtain ⟨i6, hr, hF⟩ := b1_ex hF
          have hT_i6 : hT σ2 i6 3 := gw_T hG hT_a0 (by decide) hr
          refine gx_get 1 (v := .ref (ad i6)) X hG hT_a0.1 (hT_a0.eq (by decide)) (by decide) rfl inX11 (by decide) k_152 (fun _ h => h) (gx_rfv hr) dX11_run_61 ?_
          obtain ⟨r8, σ7, hz, hF⟩ := b2_ex hF
          refine gx_rI (gx_runV (As := []) (rest := []) X hG hS hT_i6.1 (hT_i6.eq (by decide)) (by decide) rfl (c_X3_ends l D cA base ad σ2 n i6 hT_i6 hz) k_553 k_550 k_551 k_552 k_2 (h_X3_ends) rfl rfl ⟨by decide, by decide⟩ rfl hl.1 rfl (Nat.le_of_ble_eq_true rfl) dX11_run_64 ⟨Nat.zero_le _, Nat.zero_le _⟩) hS (fun H locs hG hS hX => ?_)
          have hT_a0 := hX.T hT_a0
          replace hE := hE.trans hX
          exact gx_iret X hG hS hE hF dX11_run_67
        replace hF := it_f hF hc0
        by_cases hc1 : a1 = 1
        · replace hF := it_t hF hc1
          refine lv_tableIn (tgt := 68) X.1 X.2.1 dX11_run_29 (by rw [hc1]; decide) (by rw [hc1]; decide) (by rw [hc1]; rfl) (by decide) ?_
          refine lv_aload_n X.1 X.2.1 dX11_run_68 rfl (lv_at hl 0 rfl) ?_
          obtain ⟨i9, hr, hF⟩ := b1_ex hF
          have hT_i9 : hT σ2 i9 3 := gw_T hG hT_a0 (by decide) hr
          refine gx_get 1 (v := .ref (ad i9)) X hG hT_a0.1 (hT_a0.eq (by decide)) (by decide) rfl inX11 (by decide) k_152 (fun _ h => h) (gx_rfv hr) dX11_run_69 ?_
          refine gx_getN 10 (v := .int (hI σ2 i9 10)) X hG hT_i9.1 (hT_i9.eq (by decide)) (by decide) rfl inX3 (by decide) q_62 (fun _ h => h) rfl dX11_run_72 ?_
          exact gx_iret X hG hS hE hF dX11_run_75
        replace hF := it_f hF hc1
        by_cases hc2 : a1 = 2
        · replace hF := it_t hF hc2
          refine lv_tableIn (tgt := 76) X.1 X.2.1 dX11_run_29 (by rw [hc2]; decide) (by rw [hc2]; decide) (by rw [hc2]; rfl) (by decide) ?_
          refine lv_aload_n X.1 X.2.1 dX11_run_76 rfl (lv_at hl 0 rfl) ?_
          obtain ⟨i10, hr, hF⟩ := b1_ex hF
          have hT_i10 : hT σ2 i10 3 := gw_T hG hT_a0 (by decide) hr
          refine gx_get 1 (v := .ref (ad i10)) X hG hT_a0.1 (hT_a0.eq (by decide)) (by decide) rfl inX11 (by decide) k_152 (fun _ h => h) (gx_rfv hr) dX11_run_77 ?_
          refine gx_getN 11 (v := .int (hI σ2 i10 11)) X hG hT_i10.1 (hT_i10.eq (by decide)) (by decide) rfl inX3 (by decide) q_64 (fun _ h => h) rfl dX11_run_80 ?_
          exact gx_iret X hG hS hE hF dX11_run_83
        replace hF := it_f hF hc2
        by_cases hc3 : a1 = 3
        · replace hF := it_t hF hc3
          refine lv_tableIn (tgt := 84) X.1 X.2.1 dX11_run_29 (by rw [hc3]; decide) (by rw [hc3]; decide) (by rw [hc3]; rfl) (by decide) ?_
          refine lv_aload_n X.1 X.2.1 dX11_run_84 rfl (lv_at hl 0 rfl) ?_
          obtain ⟨i11, hr, hF⟩ := b1_ex hF
          have hT_i11 : hT σ2 i11 3 := gw_T hG hT_a0 (by decide) hr
          refine gx_get 1 (v := .ref (ad i11)) X hG hT_a0.1 (hT_a0.eq (by decide)) (by decide) rfl inX11 (by decide) k_152 (fun _ h => h) (gx_rfv hr) dX11_run_85 ?_
          refine gx_getN 13 (v := .int (hI σ2 i11 13)) X hG hT_i11.1 (hT_i11.eq (by decide)) (by decide) rfl inX3 (by decide) q_70 (fun _ h => h) rfl dX11_run_88 ?_
          obtain ⟨r13, σ12, hz, hF⟩ := b2_ex hF
          refine gx_rI (gx_runS (As := [.int (hI σ2 i11 13)]) (rest := []) X hG hS (c_J6_bitCount_0f7a4 l D cA base ad σ2 n (hI σ2 i11 13) hz) k_400 k_656 k_399 k_13 (h_J6_bitCount_0f7a4.2) rfl rfl ⟨by decide, by decide⟩ rfl hl.1 rfl (Nat.le_of_ble_eq_true rfl) dX11_run_91 ⟨Nat.zero_le _, Nat.zero_le _⟩) hS (fun H locs hG hS hX => ?_)
          have hT_a0 := hX.T hT_a0
          replace hE := hE.trans hX
          exact gx_iret X hG hS hE hF dX11_run_94
        replace hF := it_f hF hc3
        have hz0 := ne_lit hc0 (z := 0) (by decide)
        have hz1 := ne_lit hc1 (z := 1) (by decide)
        have hz2 := ne_lit hc2 (z := 2) (by decide)
        have hz3 := ne_lit hc3 (z := 3) (by decide)
        refine lv_tableOut (tgt := 95) X.1 X.2.1 dX11_run_29 (by omega) (by decide) ?_
        refine lv_aload_n X.1 X.2.1 dX11_run_95 rfl (lv_at hl 0 rfl) ?_
        obtain ⟨i3, hr, hF⟩ := b1_ex hF
        have hT_i3 : hT σ2 i3 3 := gw_T hG hT_a0 (by decide) hr
        refine gx_get 1 (v := .ref (ad i3)) X hG hT_a0.1 (hT_a0.eq (by decide)) (by decide) rfl inX11 (by decide) k_152 (fun _ h => h) (gx_rfv hr) dX11_run_96 ?_
        obtain ⟨r5, σ4, hz, hF⟩ := b2_ex hF
        refine gx_rI (gx_runV (As := []) (rest := []) X hG hS hT_i3.1 (hT_i3.eq (by decide)) (by decide) rfl (c_X3_yes l D cA base ad σ2 n i3 hT_i3 hz) k_397 k_394 k_395 k_396 k_2 (h_X3_yes) rfl rfl ⟨by decide, by decide⟩ rfl hl.1 rfl (Nat.le_of_ble_eq_true rfl) dX11_run_99 ⟨Nat.zero_le _, Nat.zero_le _⟩) hS (fun H locs hG hS hX => ?_)
        have hT_a0 := hX.T hT_a0
        replace hE := hE.trans hX
        exact gx_iret X hG hS hE hF dX11_run_102
      · replace hF := it_t hF hc
        refine lv_bipush (v := (-3)) X.1 X.2.1 dX11_run_21 (by decide) ?_
        exact gx_iret X hG hS hE hF dX11_run_23
    · replace hF := it_f hF hc
      refine lv_iconst (v := (-1)) X.1 X.2.1 dX11_run_9 (by decide) ?_
      exact gx_iret X hG hS hE hF dX11_run_10
theorem c_X11_slips (l : Launch) (D : va_G) (cA : Nat → ClassId) (base : Nat) (ad : Nat → Nat) (σ : Hp) (n : Nat) (a0 : Nat) (a1 : Int32) (hT_a0 : hT σ a0 11) {τ : Hp} {r : Int32} (hF : F_X11_slips n a0 a1 σ = some (r, τ)) : MI l yX11_slips cX11_slips 2 (some .int) rm_X11_slips D cA base ad σ [.ref (ad a0), .int a1] r τ := by
  refine Met.ofW (cc := cX11_slips) (maxL := 2) (ret := (some .int)) (by decide) rfl ?_
  intro p e s m args below meth c s₁ B hml hv
  obtain ⟨rfl, hv⟩ := hv
  have X : SX D cA base p s m ([.ref (ad a0), .int a1] : List Value).toArray meth c cX11_slips 2 (some .int) RX11 := sx_of B hml hv
  have hG := hv.1
  have hS : va_S (bA base) s.heap s.heap [] := va_S.rf
  have hE := xT.rf σ
  have hl := lv_entry ([.ref (ad a0), .int a1]) (n := 2) (Nat.le_of_ble_eq_true rfl)
  rw [lg_entry_eq]
  generalize (lg_sl ([.ref (ad a0), .int a1]) ++ List.replicate (2 - (lg_sl ([.ref (ad a0), .int a1])).length) Slot.unset).toArray = ls at hl ⊢
  have hl : lv_has ls 2 [(0, .ref (ad a0)), (1, .int a1)] := hl
  unfold F_X11_slips at hF
  refine lv_aload_n X.1 X.2.1 dX11_slips_0 rfl (lv_at hl 0 rfl) ?_
  obtain ⟨i1, hr, hF⟩ := b1_ex hF
  have hT_i1 : hT σ i1 3 := gw_T hG hT_a0 (by decide) hr
  refine gx_get 0 (v := .ref (ad i1)) X hG hT_a0.1 (hT_a0.eq (by decide)) (by decide) rfl inX11 (by decide) k_151 (fun _ h => h) (gx_rfv hr) dX11_slips_1 ?_
  refine gx_getN 2 (v := .int (hI σ i1 2)) X hG hT_i1.1 (hT_i1.eq (by decide)) (by decide) rfl inX3 (by decide) q_49 (fun _ h => h) rfl dX11_slips_4 ?_
  refine lv_if_ne (tgt := 13) X.1 X.2.1 dX11_slips_7 (by decide) (fun hc => ?_) (fun hc => ?_)
  · replace hF := it_f hF hc
    refine lv_aload_n X.1 X.2.1 dX11_slips_13 rfl (lv_at hl 0 rfl) ?_
    obtain ⟨σ2, hz, hF⟩ := b1_ex hF
    refine gx_rV (gx_runV (As := []) (rest := []) X hG hS hT_a0.1 (hT_a0.eq (by decide)) (by decide) rfl (c_X11_runInMind l D cA base ad σ n a0 hT_a0 hz) k_642 k_639 k_641 ks_12 k_1 (h_X11_runInMind) rfl rfl ⟨by decide, by decide⟩ rfl hl.1 rfl (Nat.le_of_ble_eq_true rfl) dX11_slips_14 ⟨Nat.zero_le _, Nat.zero_le _⟩) hS (fun H locs hG hS hX => ?_)
    have hT_a0 := hX.T hT_a0
    replace hE := hE.trans hX
    refine lv_iload_n X.1 X.2.1 dX11_slips_17 rfl (lv_at hl 1 rfl) ?_
    refine lv_if_eq (tgt := 31) X.1 X.2.1 dX11_slips_18 (by decide) (fun hc => ?_) (fun hc => ?_)
    · replace hF := it_t hF hc
      refine lv_aload_n X.1 X.2.1 dX11_slips_31 rfl (lv_at hl 0 rfl) ?_
      obtain ⟨i3, hr, hF⟩ := b1_ex hF
      have hT_i3 : hT σ2 i3 3 := gw_T hG hT_a0 (by decide) hr
      refine gx_get 1 (v := .ref (ad i3)) X hG hT_a0.1 (hT_a0.eq (by decide)) (by decide) rfl inX11 (by decide) k_152 (fun _ h => h) (gx_rfv hr) dX11_slips_32 ?_
      refine gx_getN 12 (v := .int (hI σ2 i3 12)) X hG hT_i3.1 (hT_i3.eq (by decide)) (by decide) rfl inX3 (by decide) q_68 (fun _ h => h) rfl dX11_slips_35 ?_
      exact gx_iret X hG hS hE hF dX11_slips_38
    · replace hF := it_f hF hc
      refine lv_aload_n X.1 X.2.1 dX11_slips_21 rfl (lv_at hl 0 rfl) ?_
      obtain ⟨i4, hr, hF⟩ := b1_ex hF
      have hT_i4 : hT σ2 i4 3 := gw_T hG hT_a0 (by decide) hr
      refine gx_get 1 (v := .ref (ad i4)) X hG hT_a0.1 (hT_a0.eq (by decide)) (by decide) rfl inX11 (by decide) k_152 (fun _ h => h) (gx_rfv hr) dX11_slips_22 ?_
      refine gx_getN 13 (v := .int (hI σ2 i4 13)) X hG hT_i4.1 (hT_i4.eq (by decide)) (by decide) rfl inX3 (by decide) q_70 (fun _ h => h) rfl dX11_slips_25 ?_
      refine lv_goto (tgt := 38) X.1 X.2.1 dX11_slips_28 (by decide) ?_
      exact gx_iret X hG hS hE hF dX11_slips_38
  · replace hF := it_t hF hc
    refine lv_bipush (v := (-3)) X.1 X.2.1 dX11_slips_10 (by decide) ?_
    exact gx_iret X hG hS hE hF dX11_slips_12
end W_class8
