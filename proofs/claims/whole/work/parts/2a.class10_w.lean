/-! class10: printed by wip/whole/gen.py -/
section W_class10
variable {p : Program} {l : Launch} {e : Env} {s : State} {m : MethodId} {args : Array Value} {below : List Frame} {meth : Method} {c : Code} {D : va_G} {cA : Nat → ClassId} {base : Nat} {ad : Nat → Nat}
abbrev rm_X11_leads : Room := { frames := 7, cells := 0, slots := 0, locals := 173 }
theorem h_X11_leads : yX11_leads.cls = RX11 ∧ yX11_leads.cls ≠ "java/lang/invoke/MethodHandle" ∧ yX11_leads.cls ≠ "java/lang/invoke/VarHandle" ∧ (parseMethodDescriptor yX11_leads.desc).map (fun d => d.parameters.length) = some 1 := by decide +kernel
def F_X11_leads_53 (n : Nat) (K_26 : Nat → Int32 → Int32 → Int32 → Hp → Option (Int32 × Hp)) (v0 : Nat) (v1 : Int32) (v2 : Int32) (v3 : Int32) (σ : Hp) : Option (Int32 × Hp) := K_26 v0 v1 v2 (v3 + 1) σ
def F_X11_leads_26 (n : Nat)  : Nat → Nat → Int32 → Int32 → Int32 → Hp → Option (Int32 × Hp)
  | 0, _, _, _, _, _ => none
  | f + 1, v0, v1, v2, v3, σ => b1 (hR σ v0 0) fun (i1 : Nat) => if (hI σ i1 2) ≤ v3 then (some (v2, σ)) else (b2 (F_X11_endWithRule n v0 1 v3 σ) fun (r3 : Int32) (σ2 : Hp) => if r3 = v1 then (F_X11_leads_53 n (F_X11_leads_26 n  f) v0 v1 (v2 ||| (1 <<< (v3 &&& 31))) v3 σ2) else (F_X11_leads_53 n (F_X11_leads_26 n  f) v0 v1 v2 v3 σ2))
def F_X11_leads (n : Nat) (a0 : Nat) (a1 : Int32) (σ : Hp) : Option (Int32 × Hp) := b2 (F_X11_isEnd n a1 σ) fun (r5 : Int32) (σ4 : Hp) => if r5 = 0 then (some ((-1), σ4)) else (b1 (hR σ4 a0 0) fun (i6 : Nat) => if (hI σ4 i6 2) = 0 then (some ((-3), σ4)) else (F_X11_leads_26 n  n a0 a1 0 0 σ4))
abbrev rm_X11_hands : Room := { frames := 7, cells := 0, slots := 0, locals := 173 }
theorem h_X11_hands : yX11_hands.cls = RX11 ∧ yX11_hands.cls ≠ "java/lang/invoke/MethodHandle" ∧ yX11_hands.cls ≠ "java/lang/invoke/VarHandle" ∧ (parseMethodDescriptor yX11_hands.desc).map (fun d => d.parameters.length) = some 0 := by decide +kernel
def F_X11_hands (n : Nat) (a0 : Nat) (σ : Hp) : Option (Int32 × Hp) := b1 (hR σ a0 0) fun (i1 : Nat) => if (hI σ i1 2) = 0 then (some ((-3), σ)) else (b2 (F_X11_endWithRule n a0 2 1 σ) fun (r3 : Int32) (σ2 : Hp) => b2 (F_X11_endWithRule n a0 2 0 σ2) fun (r5 : Int32) (σ4 : Hp) => some ((10 * r3) + r5, σ4))
abbrev rm_X11_endWithout : Room := { frames := 6, cells := 0, slots := 0, locals := 151 }
theorem h_X11_endWithout : yX11_endWithout.cls = RX11 ∧ yX11_endWithout.cls ≠ "java/lang/invoke/MethodHandle" ∧ yX11_endWithout.cls ≠ "java/lang/invoke/VarHandle" ∧ (parseMethodDescriptor yX11_endWithout.desc).map (fun d => d.parameters.length) = some 2 := by decide +kernel
def F_X11_endWithout (n : Nat) (a0 : Nat) (a1 : Int32) (a2 : Int32) (σ : Hp) : Option (Int32 × Hp) := b1 (hR σ a0 1) fun (i1 : Nat) => b1 (hR σ a0 0) fun (i2 : Nat) => b1 (F_X3_seatFrom n i1 i2 a1 σ) fun (σ3 : Hp) => b1 (hR σ3 a0 1) fun (i4 : Nat) => b1 (hR σ3 i4 7) fun (i5 : Nat) => b1 (hR σ3 a0 0) fun (i6 : Nat) => b2 (F_X3_needed n i6 σ3) fun (r8 : Int32) (σ7 : Hp) => lt (if 1 < (r8 - a2) then (r8 - a2) else 1) fun (x9 : Int32) => b1 (F_X11_store n i5 0 x9 σ7) fun (σ10 : Hp) => b1 (hR σ10 a0 1) fun (i11 : Nat) => b2 (F_X3_runThrough n i11 σ10) fun (r13 : Int32) (σ12 : Hp) => some (r13, σ12)
abbrev rm_X11_leftOut : Room := { frames := 7, cells := 0, slots := 0, locals := 173 }
theorem h_X11_leftOut : yX11_leftOut.cls = RX11 ∧ yX11_leftOut.cls ≠ "java/lang/invoke/MethodHandle" ∧ yX11_leftOut.cls ≠ "java/lang/invoke/VarHandle" ∧ (parseMethodDescriptor yX11_leftOut.desc).map (fun d => d.parameters.length) = some 1 := by decide +kernel
def F_X11_leftOut_81 (n : Nat) (K_24 : Nat → Int32 → Int32 → Hp → Option (Int32 × Hp)) (v0 : Nat) (v1 : Int32) (v2 : Int32) (σ : Hp) : Option (Int32 × Hp) := K_24 v0 v1 (v2 + 1) σ
def F_X11_leftOut_75 (n : Nat) (K_24 : Nat → Int32 → Int32 → Hp → Option (Int32 × Hp)) (K_42 : Nat → Int32 → Int32 → Int32 → Hp → Option (Int32 × Hp)) (v0 : Nat) (v1 : Int32) (v2 : Int32) (v3 : Int32) (σ : Hp) : Option (Int32 × Hp) := K_42 v0 v1 v2 (v3 + 1) σ
def F_X11_leftOut_42 (n : Nat) (K_24 : Nat → Int32 → Int32 → Hp → Option (Int32 × Hp)) : Nat → Nat → Int32 → Int32 → Int32 → Hp → Option (Int32 × Hp)
  | 0, _, _, _, _, _ => none
  | f + 1, v0, v1, v2, v3, σ => b1 (hR σ v0 0) fun (i1 : Nat) => if (1 <<< ((hI σ i1 2) &&& 31)) ≤ v3 then (F_X11_leftOut_81 n K_24 v0 v1 v2 σ) else (b2 (F_J6_bitCount_0f7a4 n v3 σ) fun (r3 : Int32) (σ2 : Hp) => if r3 = v2 then (b2 (F_X11_endWithout n v0 v3 v2 σ2) fun (r5 : Int32) (σ4 : Hp) => if r5 = v1 then (some (v3, σ4)) else (F_X11_leftOut_75 n K_24 (F_X11_leftOut_42 n K_24 f) v0 v1 v2 v3 σ4)) else (F_X11_leftOut_75 n K_24 (F_X11_leftOut_42 n K_24 f) v0 v1 v2 v3 σ2))
def F_X11_leftOut_24 (n : Nat)  : Nat → Nat → Int32 → Int32 → Hp → Option (Int32 × Hp)
  | 0, _, _, _, _ => none
  | f + 1, v0, v1, v2, σ => if 3 < v2 then (some ((-4), σ)) else (b1 (hR σ v0 0) fun (i6 : Nat) => if (hI σ i6 2) ≤ v2 then (some ((-4), σ)) else (F_X11_leftOut_42 n (F_X11_leftOut_24 n  f) n v0 v1 v2 0 σ))
def F_X11_leftOut (n : Nat) (a0 : Nat) (a1 : Int32) (σ : Hp) : Option (Int32 × Hp) := b2 (F_X11_isEnd n a1 σ) fun (r8 : Int32) (σ7 : Hp) => if r8 = 0 then (some ((-1), σ7)) else (b1 (hR σ7 a0 0) fun (i9 : Nat) => if (hI σ7 i9 2) = 0 then (some ((-3), σ7)) else (F_X11_leftOut_24 n  n a0 a1 0 σ7))
abbrev rm_X3_deal : Room := { frames := 1, cells := 0, slots := 0, locals := 22 }
theorem h_X3_deal : yX3_deal.cls = RX3 ∧ yX3_deal.cls ≠ "java/lang/invoke/MethodHandle" ∧ yX3_deal.cls ≠ "java/lang/invoke/VarHandle" ∧ (parseMethodDescriptor yX3_deal.desc).map (fun d => d.parameters.length) = some 2 := by decide +kernel
def F_X3_deal_67 (n : Nat) (K_5 : Nat → Int32 → Int32 → Int32 → Hp → Option (Int32 × Hp)) (v0 : Nat) (v2 : Int32) (v3 : Int32) (v4 : Int32) (v5 : Int32) (σ : Hp) : Option (Int32 × Hp) := b1 (hR σ v0 4) fun (i1 : Nat) => b1 (F_X11_store n i1 v4 v5 σ) fun (σ2 : Hp) => K_5 v0 v2 v3 (v4 + 1) σ2
def F_X3_deal_61 (n : Nat) (K_5 : Nat → Int32 → Int32 → Int32 → Hp → Option (Int32 × Hp)) (K_20 : Nat → Int32 → Int32 → Int32 → Int32 → Int32 → Hp → Option (Int32 × Hp)) (v0 : Nat) (v2 : Int32) (v3 : Int32) (v4 : Int32) (v5 : Int32) (v6 : Int32) (σ : Hp) : Option (Int32 × Hp) := K_20 v0 v2 v3 v4 v5 (v6 + 1) σ
def F_X3_deal_20 (n : Nat) (K_5 : Nat → Int32 → Int32 → Int32 → Hp → Option (Int32 × Hp)) : Nat → Nat → Int32 → Int32 → Int32 → Int32 → Int32 → Hp → Option (Int32 × Hp)
  | 0, _, _, _, _, _, _, _ => none
  | f + 1, v0, v2, v3, v4, v5, v6, σ => if (hI σ v0 0) ≤ v6 then (F_X3_deal_67 n K_5 v0 v2 v3 v4 v5 σ) else (if v2 ≤ (((((v3 * 1103515245) + 12345) &&& 2147483647) / 65536) - ((((v3 * 1103515245) + 12345) &&& 2147483647) / 65536) / 100 * 100) then (F_X3_deal_61 n K_5 (F_X3_deal_20 n K_5 f) v0 v2 ((v3 * 1103515245) + 12345) v4 v5 v6 σ) else (F_X3_deal_61 n K_5 (F_X3_deal_20 n K_5 f) v0 v2 ((v3 * 1103515245) + 12345) v4 (v5 ||| (1 <<< (v6 &&& 31))) v6 σ))
def F_X3_deal_5 (n : Nat)  : Nat → Nat → Int32 → Int32 → Int32 → Hp → Option (Int32 × Hp)
  | 0, _, _, _, _, _ => none
  | f + 1, v0, v2, v3, v4, σ => if (hI σ v0 2) ≤ v4 then (some (v3, σ)) else (F_X3_deal_20 n (F_X3_deal_5 n  f) n v0 v2 v3 v4 0 0 σ)
def F_X3_deal (n : Nat) (a0 : Nat) (a1 : Int32) (a2 : Int32) (σ : Hp) : Option (Int32 × Hp) := F_X3_deal_5 n  n a0 a2 a1 0 σ
abbrev rm_X3_knewAtFirst : Room := { frames := 4, cells := 0, slots := 0, locals := 80 }
theorem h_X3_knewAtFirst : yX3_knewAtFirst.cls = RX3 ∧ yX3_knewAtFirst.cls ≠ "java/lang/invoke/MethodHandle" ∧ yX3_knewAtFirst.cls ≠ "java/lang/invoke/VarHandle" ∧ (parseMethodDescriptor yX3_knewAtFirst.desc).map (fun d => d.parameters.length) = some 0 := by decide +kernel
def F_X3_knewAtFirst_40 (n : Nat)   (σ : Hp) : Option (Int32 × Hp) := some (1, σ)
def F_X3_knewAtFirst_28 (n : Nat)  (v0 : Nat) (v1 : Int32) (v2 : Int32) (σ : Hp) : Option (Int32 × Hp) := if v2 ≤ v1 then (some (0, σ)) else (b2 (F_X3_ends n v0 σ) fun (r2 : Int32) (σ1 : Hp) => if r2 = 0 then (F_X3_knewAtFirst_40 n  σ1) else (some (0, σ1)))
def F_X3_knewAtFirst (n : Nat) (a0 : Nat) (σ : Hp) : Option (Int32 × Hp) := b2 (F_J6_bitCount_0f7a4 n (hI σ a0 13) σ) fun (r4 : Int32) (σ3 : Hp) => if r4 ≤ ((hI σ3 a0 2) - r4) then (F_X3_knewAtFirst_28 n  a0 r4 ((hI σ3 a0 2) - r4) σ3) else (b2 (F_X3_ends n a0 σ3) fun (r6 : Int32) (σ5 : Hp) => if r6 = 1 then (F_X3_knewAtFirst_40 n  σ5) else (F_X3_knewAtFirst_28 n  a0 r4 ((hI σ3 a0 2) - r4) σ5))
theorem w_X11_leads_53 {σ0 τ : Hp} {r : Int32} (X : SX D cA base p s m args meth c cX11_leads 4 (some .int) RX11) (n : Nat) (K_26 : Nat → Int32 → Int32 → Int32 → Hp → Option (Int32 × Hp)) (hK_26 : ∀ (v0 : Nat) (v1 : Int32) (v2 : Int32) (v3 : Int32) (σ : Hp) (H : Heap) (locs : List Loc) (ls : Array Slot), hT σ v0 11 → GW D cA base ad σ H → va_S (bA base) s.heap H locs → xT σ0 σ → lv_has ls 4 [(0, .ref (ad v0)), (1, .int v1), (2, .int v2), (3, .int v3)] → K_26 v0 v1 v2 v3 σ = some (r, τ) → W p l e rm_X11_leads s m args below meth c H locs 0 0 (ZI below s args D cA base ad σ0 r τ) (F0 m 26 ls [])) : ∀ (v0 : Nat) (v1 : Int32) (v2 : Int32) (v3 : Int32) (σ : Hp) (H : Heap) (locs : List Loc) (ls : Array Slot), hT σ v0 11 → GW D cA base ad σ H → va_S (bA base) s.heap H locs → xT σ0 σ → lv_has ls 4 [(0, .ref (ad v0)), (1, .int v1), (2, .int v2), (3, .int v3)] → F_X11_leads_53 n K_26 v0 v1 v2 v3 σ = some (r, τ) → W p l e rm_X11_leads s m args below meth c H locs 0 0 (ZI below s args D cA base ad σ0 r τ) (F0 m 53 ls []) := by
  intro v0 v1 v2 v3 σ H locs ls hT_v0 hG hS hE hl hF
  unfold F_X11_leads_53 at hF
  refine lv_iinc (v := v3 + 1) (lv' := [(3, .int (v3 + 1)), (0, .ref (ad v0)), (1, .int v1), (2, .int v2)]) X.1 X.2.1 dX11_leads_53 hl (k := 3) rfl rfl (by decide) rfl (fun ls hl => ?_)
  refine lv_goto (tgt := 26) X.1 X.2.1 dX11_leads_56 (by decide) ?_
  exact hK_26 v0 v1 v2 (v3 + 1) σ _ _ ls hT_v0 hG hS hE (lv_sub hl [1, 2, 3, 0] rfl) hF
theorem w_X11_leads_26 {σ0 τ : Hp} {r : Int32} (X : SX D cA base p s m args meth c cX11_leads 4 (some .int) RX11) (n : Nat)  : ∀ f : Nat, ∀ (v0 : Nat) (v1 : Int32) (v2 : Int32) (v3 : Int32) (σ : Hp) (H : Heap) (locs : List Loc) (ls : Array Slot), hT σ v0 11 → GW D cA base ad σ H → va_S (bA base) s.heap H locs → xT σ0 σ → lv_has ls 4 [(0, .ref (ad v0)), (1, .int v1), (2, .int v2), (3, .int v3)] → F_X11_leads_26 n  f v0 v1 v2 v3 σ = some (r, τ) → W p l e rm_X11_leads s m args below meth c H locs 0 0 (ZI below s args D cA base ad σ0 r τ) (F0 m 26 ls []) := by
  intro f
  induction f with
  | zero => intro v0 v1 v2 v3 σ H locs ls h0 hG hS hE hl hF
            rw [F_X11_leads_26] at hF; cases hF
  | succ f ih =>
    intro v0 v1 v2 v3 σ H locs ls hT_v0 hG hS hE hl hF
    rw [F_X11_leads_26] at hF
    refine lv_iload_n X.1 X.2.1 dX11_leads_26 rfl (lv_at hl 3 rfl) ?_
    refine lv_aload_n X.1 X.2.1 dX11_leads_27 rfl (lv_at hl 0 rfl) ?_
    obtain ⟨i1, hr, hF⟩ := b1_ex hF
    have hT_i1 : hT σ i1 3 := gw_T hG hT_v0 (by decide) hr
    refine gx_get 0 (v := .ref (ad i1)) X hG hT_v0.1 (hT_v0.eq (by decide)) (by decide) rfl inX11 (by decide) k_151 (fun _ h => h) (gx_rfv hr) dX11_leads_28 ?_
    refine gx_getN 2 (v := .int (hI σ i1 2)) X hG hT_i1.1 (hT_i1.eq (by decide)) (by decide) rfl inX3 (by decide) q_49 (fun _ h => h) rfl dX11_leads_31 ?_
    refine lv_icmp_ge (tgt := 59) X.1 X.2.1 dX11_leads_34 (by decide) (fun hc => ?_) (fun hc => ?_)
    · replace hF := it_t hF hc
      refine lv_iload_n X.1 X.2.1 dX11_leads_59 rfl (lv_at hl 2 rfl) ?_
      exact gx_iret X hG hS hE hF dX11_leads_60
    · replace hF := it_f hF hc
      refine lv_aload_n X.1 X.2.1 dX11_leads_37 rfl (lv_at hl 0 rfl) ?_
      refine lv_iconst (v := 1) X.1 X.2.1 dX11_leads_38 (by decide) ?_
      refine lv_iload_n X.1 X.2.1 dX11_leads_39 rfl (lv_at hl 3 rfl) ?_
      obtain ⟨r3, σ2, hz, hF⟩ := b2_ex hF
      refine gx_rI (gx_runV (As := [.int 1, .int v3]) (rest := []) X hG hS hT_v0.1 (hT_v0.eq (by decide)) (by decide) rfl (c_X11_endWithRule l D cA base ad σ n v0 1 v3 hT_v0 hz) k_688 k_685 k_687 ks_13 k_1 (h_X11_endWithRule) rfl rfl ⟨by decide, by decide⟩ rfl hl.1 rfl (Nat.le_of_ble_eq_true rfl) dX11_leads_40 ⟨Nat.zero_le _, Nat.zero_le _⟩) hS (fun H locs hG hS hX => ?_)
      have hT_v0 := hX.T hT_v0
      replace hE := hE.trans hX
      refine lv_iload_n X.1 X.2.1 dX11_leads_43 rfl (lv_at hl 1 rfl) ?_
      refine lv_icmp_ne (tgt := 53) X.1 X.2.1 dX11_leads_44 (by decide) (fun hc => ?_) (fun hc => ?_)
      · replace hF := it_f hF hc
        exact w_X11_leads_53 X n (F_X11_leads_26 n  f) ih v0 v1 v2 v3 σ2 _ _ ls hT_v0 hG hS hE (lv_sub hl [0, 1, 2, 3] rfl) hF
      · replace hF := it_t hF hc
        refine lv_iload_n X.1 X.2.1 dX11_leads_47 rfl (lv_at hl 2 rfl) ?_
        refine lv_iconst (v := 1) X.1 X.2.1 dX11_leads_48 (by decide) ?_
        refine lv_iload_n X.1 X.2.1 dX11_leads_49 rfl (lv_at hl 3 rfl) ?_
        refine lv_ishl X.1 X.2.1 dX11_leads_50 ?_
        refine lv_ior X.1 X.2.1 dX11_leads_51 ?_
        refine lv_istore_n (lv' := [(2, .int (v2 ||| (1 <<< (v3 &&& 31)))), (0, .ref (ad v0)), (1, .int v1), (3, .int v3)]) X.1 X.2.1 dX11_leads_52 rfl hl (by decide) rfl (fun ls hl => ?_)
        exact w_X11_leads_53 X n (F_X11_leads_26 n  f) ih v0 v1 (v2 ||| (1 <<< (v3 &&& 31))) v3 σ2 _ _ ls hT_v0 hG hS hE (lv_sub hl [1, 2, 0, 3] rfl) hF
theorem c_X11_leads (l : Launch) (D : va_G) (cA : Nat → ClassId) (base : Nat) (ad : Nat → Nat) (σ : Hp) (n : Nat) (a0 : Nat) (a1 : Int32) (hT_a0 : hT σ a0 11) {τ : Hp} {r : Int32} (hF : F_X11_leads n a0 a1 σ = some (r, τ)) : MI l yX11_leads cX11_leads 4 (some .int) rm_X11_leads D cA base ad σ [.ref (ad a0), .int a1] r τ := by
  refine Met.ofW (cc := cX11_leads) (maxL := 4) (ret := (some .int)) (by decide) rfl ?_
  intro p e s m args below meth c s₁ B hml hv
  obtain ⟨rfl, hv⟩ := hv
  have X : SX D cA base p s m ([.ref (ad a0), .int a1] : List Value).toArray meth c cX11_leads 4 (some .int) RX11 := sx_of B hml hv
  have hG := hv.1
  have hS : va_S (bA base) s.heap s.heap [] := va_S.rf
  have hE := xT.rf σ
  have hl := lv_entry ([.ref (ad a0), .int a1]) (n := 4) (Nat.le_of_ble_eq_true rfl)
  rw [lg_entry_eq]
  generalize (lg_sl ([.ref (ad a0), .int a1]) ++ List.replicate (4 - (lg_sl ([.ref (ad a0), .int a1])).length) Slot.unset).toArray = ls at hl ⊢
  have hl : lv_has ls 4 [(0, .ref (ad a0)), (1, .int a1)] := hl
  unfold F_X11_leads at hF
  refine lv_iload_n X.1 X.2.1 dX11_leads_0 rfl (lv_at hl 1 rfl) ?_
  obtain ⟨r5, σ4, hz, hF⟩ := b2_ex hF
  refine gx_rI (gx_runS (As := [.int a1]) (rest := []) X hG hS (c_X11_isEnd l D cA base ad σ n a1 hz) k_695 k_693 k_694 k_1 (h_X11_isEnd.2) rfl rfl ⟨by decide, by decide⟩ rfl hl.1 rfl (Nat.le_of_ble_eq_true rfl) dX11_leads_1 ⟨Nat.zero_le _, Nat.zero_le _⟩) hS (fun H locs hG hS hX => ?_)
  have hT_a0 := hX.T hT_a0
  replace hE := hE.trans hX
  refine lv_if_ne (tgt := 9) X.1 X.2.1 dX11_leads_4 (by decide) (fun hc => ?_) (fun hc => ?_)
  · replace hF := it_f hF hc
    refine lv_aload_n X.1 X.2.1 dX11_leads_9 rfl (lv_at hl 0 rfl) ?_
    obtain ⟨i6, hr, hF⟩ := b1_ex hF
    have hT_i6 : hT σ4 i6 3 := gw_T hG hT_a0 (by decide) hr
    refine gx_get 0 (v := .ref (ad i6)) X hG hT_a0.1 (hT_a0.eq (by decide)) (by decide) rfl inX11 (by decide) k_151 (fun _ h => h) (gx_rfv hr) dX11_leads_10 ?_
    refine gx_getN 2 (v := .int (hI σ4 i6 2)) X hG hT_i6.1 (hT_i6.eq (by decide)) (by decide) rfl inX3 (by decide) q_49 (fun _ h => h) rfl dX11_leads_13 ?_
    refine lv_if_ne (tgt := 22) X.1 X.2.1 dX11_leads_16 (by decide) (fun hc => ?_) (fun hc => ?_)
    · replace hF := it_f hF hc
      refine lv_iconst (v := 0) X.1 X.2.1 dX11_leads_22 (by decide) ?_
      refine lv_istore_n (lv' := [(2, .int 0), (0, .ref (ad a0)), (1, .int a1)]) X.1 X.2.1 dX11_leads_23 rfl hl (by decide) rfl (fun ls hl => ?_)
      refine lv_iconst (v := 0) X.1 X.2.1 dX11_leads_24 (by decide) ?_
      refine lv_istore_n (lv' := [(3, .int 0), (2, .int 0), (0, .ref (ad a0)), (1, .int a1)]) X.1 X.2.1 dX11_leads_25 rfl hl (by decide) rfl (fun ls hl => ?_)
      exact w_X11_leads_26 X n  n a0 a1 0 0 σ4 _ _ ls hT_a0 hG hS hE (lv_sub hl [2, 3, 1, 0] rfl) hF
    · replace hF := it_t hF hc
      refine lv_bipush (v := (-3)) X.1 X.2.1 dX11_leads_19 (by decide) ?_
      exact gx_iret X hG hS hE hF dX11_leads_21
  · replace hF := it_t hF hc
    refine lv_iconst (v := (-1)) X.1 X.2.1 dX11_leads_7 (by decide) ?_
    exact gx_iret X hG hS hE hF dX11_leads_8
theorem c_X11_hands (l : Launch) (D : va_G) (cA : Nat → ClassId) (base : Nat) (ad : Nat → Nat) (σ : Hp) (n : Nat) (a0 : Nat) (hT_a0 : hT σ a0 11) {τ : Hp} {r : Int32} (hF : F_X11_hands n a0 σ = some (r, τ)) : MI l yX11_hands cX11_hands 1 (some .int) rm_X11_hands D cA base ad σ [.ref (ad a0)] r τ := by
  refine Met.ofW (cc := cX11_hands) (maxL := 1) (ret := (some .int)) (by decide) rfl ?_
  intro p e s m args below meth c s₁ B hml hv
  obtain ⟨rfl, hv⟩ := hv
  have X : SX D cA base p s m ([.ref (ad a0)] : List Value).toArray meth c cX11_hands 1 (some .int) RX11 := sx_of B hml hv
  have hG := hv.1
  have hS : va_S (bA base) s.heap s.heap [] := va_S.rf
  have hE := xT.rf σ
  have hl := lv_entry ([.ref (ad a0)]) (n := 1) (Nat.le_of_ble_eq_true rfl)
  rw [lg_entry_eq]
  generalize (lg_sl ([.ref (ad a0)]) ++ List.replicate (1 - (lg_sl ([.ref (ad a0)])).length) Slot.unset).toArray = ls at hl ⊢
  have hl : lv_has ls 1 [(0, .ref (ad a0))] := hl
  unfold F_X11_hands at hF
  refine lv_aload_n X.1 X.2.1 dX11_hands_0 rfl (lv_at hl 0 rfl) ?_
  obtain ⟨i1, hr, hF⟩ := b1_ex hF
  have hT_i1 : hT σ i1 3 := gw_T hG hT_a0 (by decide) hr
  refine gx_get 0 (v := .ref (ad i1)) X hG hT_a0.1 (hT_a0.eq (by decide)) (by decide) rfl inX11 (by decide) k_151 (fun _ h => h) (gx_rfv hr) dX11_hands_1 ?_
  refine gx_getN 2 (v := .int (hI σ i1 2)) X hG hT_i1.1 (hT_i1.eq (by decide)) (by decide) rfl inX3 (by decide) q_49 (fun _ h => h) rfl dX11_hands_4 ?_
  refine lv_if_ne (tgt := 13) X.1 X.2.1 dX11_hands_7 (by decide) (fun hc => ?_) (fun hc => ?_)
  · replace hF := it_f hF hc
    refine lv_bipush (v := 10) X.1 X.2.1 dX11_hands_13 (by decide) ?_
    refine lv_aload_n X.1 X.2.1 dX11_hands_15 rfl (lv_at hl 0 rfl) ?_
    refine lv_iconst (v := 2) X.1 X.2.1 dX11_hands_16 (by decide) ?_
    refine lv_iconst (v := 1) X.1 X.2.1 dX11_hands_17 (by decide) ?_
    obtain ⟨r3, σ2, hz, hF⟩ := b2_ex hF
    refine gx_rI (gx_runV (As := [.int 2, .int 1]) (rest := [.int 10]) X hG hS hT_a0.1 (hT_a0.eq (by decide)) (by decide) rfl (c_X11_endWithRule l D cA base ad σ n a0 2 1 hT_a0 hz) k_688 k_685 k_687 ks_13 k_1 (h_X11_endWithRule) rfl rfl ⟨by decide, by decide⟩ rfl hl.1 rfl (Nat.le_of_ble_eq_true rfl) dX11_hands_18 ⟨Nat.zero_le _, Nat.zero_le _⟩) hS (fun H locs hG hS hX => ?_)
    have hT_a0 := hX.T hT_a0
    replace hE := hE.trans hX
    refine lv_imul X.1 X.2.1 dX11_hands_21 ?_
    refine lv_aload_n X.1 X.2.1 dX11_hands_22 rfl (lv_at hl 0 rfl) ?_
    refine lv_iconst (v := 2) X.1 X.2.1 dX11_hands_23 (by decide) ?_
    refine lv_iconst (v := 0) X.1 X.2.1 dX11_hands_24 (by decide) ?_
    obtain ⟨r5, σ4, hz, hF⟩ := b2_ex hF
    refine gx_rI (gx_runV (As := [.int 2, .int 0]) (rest := [.int (10 * r3)]) X hG hS hT_a0.1 (hT_a0.eq (by decide)) (by decide) rfl (c_X11_endWithRule l D cA base ad σ2 n a0 2 0 hT_a0 hz) k_688 k_685 k_687 ks_13 k_1 (h_X11_endWithRule) rfl rfl ⟨by decide, by decide⟩ rfl hl.1 rfl (Nat.le_of_ble_eq_true rfl) dX11_hands_25 ⟨Nat.zero_le _, Nat.zero_le _⟩) hS (fun H locs hG hS hX => ?_)
    have hT_a0 := hX.T hT_a0
    replace hE := hE.trans hX
    refine lv_iadd X.1 X.2.1 dX11_hands_28 ?_
    exact gx_iret X hG hS hE hF dX11_hands_29
  · replace hF := it_t hF hc
    refine lv_bipush (v := (-3)) X.1 X.2.1 dX11_hands_10 (by decide) ?_
    exact gx_iret X hG hS hE hF dX11_hands_12
theorem c_X11_endWithout (l : Launch) (D : va_G) (cA : Nat → ClassId) (base : Nat) (ad : Nat → Nat) (σ : Hp) (n : Nat) (a0 : Nat) (a1 : Int32) (a2 : Int32) (hT_a0 : hT σ a0 11) {τ : Hp} {r : Int32} (hF : F_X11_endWithout n a0 a1 a2 σ = some (r, τ)) : MI l yX11_endWithout cX11_endWithout 3 (some .int) rm_X11_endWithout D cA base ad σ [.ref (ad a0), .int a1, .int a2] r τ := by
  refine Met.ofW (cc := cX11_endWithout) (maxL := 3) (ret := (some .int)) (by decide) rfl ?_
  intro p e s m args below meth c s₁ B hml hv
  obtain ⟨rfl, hv⟩ := hv
  have X : SX D cA base p s m ([.ref (ad a0), .int a1, .int a2] : List Value).toArray meth c cX11_endWithout 3 (some .int) RX11 := sx_of B hml hv
  have hG := hv.1
  have hS : va_S (bA base) s.heap s.heap [] := va_S.rf
  have hE := xT.rf σ
  have hl := lv_entry ([.ref (ad a0), .int a1, .int a2]) (n := 3) (Nat.le_of_ble_eq_true rfl)
  rw [lg_entry_eq]
  generalize (lg_sl ([.ref (ad a0), .int a1, .int a2]) ++ List.replicate (3 - (lg_sl ([.ref (ad a0), .int a1, .int a2])).length) Slot.unset).toArray = ls at hl ⊢
  have hl : lv_has ls 3 [(0, .ref (ad a0)), (1, .int a1), (2, .int a2)] := hl
  unfold F_X11_endWithout at hF
  refine lv_aload_n X.1 X.2.1 dX11_endWithout_0 rfl (lv_at hl 0 rfl) ?_
  obtain ⟨i1, hr, hF⟩ := b1_ex hF
  have hT_i1 : hT σ i1 3 := gw_T hG hT_a0 (by decide) hr
  refine gx_get 1 (v := .ref (ad i1)) X hG hT_a0.1 (hT_a0.eq (by decide)) (by decide) rfl inX11 (by decide) k_152 (fun _ h => h) (gx_rfv hr) dX11_endWithout_1 ?_
  refine lv_aload_n X.1 X.2.1 dX11_endWithout_4 rfl (lv_at hl 0 rfl) ?_
  obtain ⟨i2, hr, hF⟩ := b1_ex hF
  have hT_i2 : hT σ i2 3 := gw_T hG hT_a0 (by decide) hr
  refine gx_get 0 (v := .ref (ad i2)) X hG hT_a0.1 (hT_a0.eq (by decide)) (by decide) rfl inX11 (by decide) k_151 (fun _ h => h) (gx_rfv hr) dX11_endWithout_5 ?_
  refine lv_iload_n X.1 X.2.1 dX11_endWithout_8 rfl (lv_at hl 1 rfl) ?_
  obtain ⟨σ3, hz, hF⟩ := b1_ex hF
  refine gx_rV (gx_runV (As := [.ref (ad i2), .int a1]) (rest := []) X hG hS hT_i1.1 (hT_i1.eq (by decide)) (by decide) rfl (c_X3_seatFrom l D cA base ad σ n i1 i2 a1 hT_i1 hT_i2 hz) k_646 k_643 k_644 k_645 k_2 (h_X3_seatFrom) rfl rfl ⟨by decide, by decide⟩ rfl hl.1 rfl (Nat.le_of_ble_eq_true rfl) dX11_endWithout_9 ⟨Nat.zero_le _, Nat.zero_le _⟩) hS (fun H locs hG hS hX => ?_)
  have hT_a0 := hX.T hT_a0
  replace hE := hE.trans hX
  refine lv_aload_n X.1 X.2.1 dX11_endWithout_12 rfl (lv_at hl 0 rfl) ?_
  obtain ⟨i4, hr, hF⟩ := b1_ex hF
  have hT_i4 : hT σ3 i4 3 := gw_T hG hT_a0 (by decide) hr
  refine gx_get 1 (v := .ref (ad i4)) X hG hT_a0.1 (hT_a0.eq (by decide)) (by decide) rfl inX11 (by decide) k_152 (fun _ h => h) (gx_rfv hr) dX11_endWithout_13 ?_
  obtain ⟨i5, hr, hF⟩ := b1_ex hF
  have hT_i5 : hT σ3 i5 13 := gw_T hG hT_i4 (by decide) hr
  refine gx_getN 7 (v := .ref (ad i5)) X hG hT_i4.1 (hT_i4.eq (by decide)) (by decide) rfl inX3 (by decide) q_57 (fun _ h => h) (gx_rfv hr) dX11_endWithout_16 ?_
  refine lv_iconst (v := 0) X.1 X.2.1 dX11_endWithout_19 (by decide) ?_
  refine lv_iconst (v := 1) X.1 X.2.1 dX11_endWithout_20 (by decide) ?_
  refine lv_aload_n X.1 X.2.1 dX11_endWithout_21 rfl (lv_at hl 0 rfl) ?_
  obtain ⟨i6, hr, hF⟩ := b1_ex hF
  have hT_i6 : hT σ3 i6 3 := gw_T hG hT_a0 (by decide) hr
  refine gx_get 0 (v := .ref (ad i6)) X hG hT_a0.1 (hT_a0.eq (by decide)) (by decide) rfl inX11 (by decide) k_151 (fun _ h => h) (gx_rfv hr) dX11_endWithout_22 ?_
  obtain ⟨r8, σ7, hz, hF⟩ := b2_ex hF
  refine gx_rI (gx_runV (As := []) (rest := [.int 1, .int 0, .ref (ad i5)]) X hG hS hT_i6.1 (hT_i6.eq (by decide)) (by decide) rfl (c_X3_needed l D cA base ad σ3 n i6 hT_i6 hz) k_557 k_708 k_555 k_556 k_2 (h_X3_needed) rfl rfl ⟨by decide, by decide⟩ rfl hl.1 rfl (Nat.le_of_ble_eq_true rfl) dX11_endWithout_25 ⟨Nat.zero_le _, Nat.zero_le _⟩) hS (fun H locs hG hS hX => ?_)
  have hT_a0 := hX.T hT_a0
  have hT_i5 := hX.T hT_i5
  replace hE := hE.trans hX
  refine lv_iload_n X.1 X.2.1 dX11_endWithout_28 rfl (lv_at hl 2 rfl) ?_
  refine lv_isub X.1 X.2.1 dX11_endWithout_29 ?_
  refine va_mmax X.1 X.2.1 (by rw [X.2.2.1]; exact hl.1.symm) X.2.2.2.2.2.1 (X.w k_709) (X.w k_454) (X.w k_15) (X.w k_455) (Nat.le_of_ble_eq_true rfl) (Nat.le_of_ble_eq_true rfl) (Nat.zero_le _) (Nat.zero_le _) dX11_endWithout_30 ?_
  refine lv_topi (fun x9 ex9 => ?_)
  replace hF := lt_nm hF ex9
  obtain ⟨σ10, hz, hF⟩ := b1_ex hF
  refine gx_rV (gx_runS (As := [.ref (ad i5), .int 0, .int x9]) (rest := []) X hG hS (c_X11_store l D cA base ad σ7 n i5 0 x9 hT_i5 hz) k_173 k_171 k_172 k_1 (h_X11_store.2) rfl rfl ⟨by decide, by decide⟩ rfl hl.1 rfl (Nat.le_of_ble_eq_true rfl) dX11_endWithout_33 ⟨Nat.zero_le _, Nat.zero_le _⟩) hS (fun H locs hG hS hX => ?_)
  have hT_a0 := hX.T hT_a0
  replace hE := hE.trans hX
  refine lv_aload_n X.1 X.2.1 dX11_endWithout_36 rfl (lv_at hl 0 rfl) ?_
  obtain ⟨i11, hr, hF⟩ := b1_ex hF
  have hT_i11 : hT σ10 i11 3 := gw_T hG hT_a0 (by decide) hr
  refine gx_get 1 (v := .ref (ad i11)) X hG hT_a0.1 (hT_a0.eq (by decide)) (by decide) rfl inX11 (by decide) k_152 (fun _ h => h) (gx_rfv hr) dX11_endWithout_37 ?_
  obtain ⟨r13, σ12, hz, hF⟩ := b2_ex hF
  refine gx_rI (gx_runV (As := []) (rest := []) X hG hS hT_i11.1 (hT_i11.eq (by decide)) (by decide) rfl (c_X3_runThrough l D cA base ad σ10 n i11 hT_i11 hz) k_652 k_649 k_650 k_651 k_2 (h_X3_runThrough) rfl rfl ⟨by decide, by decide⟩ rfl hl.1 rfl (Nat.le_of_ble_eq_true rfl) dX11_endWithout_40 ⟨Nat.zero_le _, Nat.zero_le _⟩) hS (fun H locs hG hS hX => ?_)
  have hT_a0 := hX.T hT_a0
  replace hE := hE.trans hX
  exact gx_iret X hG hS hE hF dX11_endWithout_43
theorem w_X11_leftOut_81 {σ0 τ : Hp} {r : Int32} (X : SX D cA base p s m args meth c cX11_leftOut 4 (some .int) RX11) (n : Nat) (K_24 : Nat → Int32 → Int32 → Hp → Option (Int32 × Hp)) (hK_24 : ∀ (v0 : Nat) (v1 : Int32) (v2 : Int32) (σ : Hp) (H : Heap) (locs : List Loc) (ls : Array Slot), hT σ v0 11 → GW D cA base ad σ H → va_S (bA base) s.heap H locs → xT σ0 σ → lv_has ls 4 [(0, .ref (ad v0)), (1, .int v1), (2, .int v2)] → K_24 v0 v1 v2 σ = some (r, τ) → W p l e rm_X11_leftOut s m args below meth c H locs 0 0 (ZI below s args D cA base ad σ0 r τ) (F0 m 24 ls [])) : ∀ (v0 : Nat) (v1 : Int32) (v2 : Int32) (σ : Hp) (H : Heap) (locs : List Loc) (ls : Array Slot), hT σ v0 11 → GW D cA base ad σ H → va_S (bA base) s.heap H locs → xT σ0 σ → lv_has ls 4 [(0, .ref (ad v0)), (1, .int v1), (2, .int v2)] → F_X11_leftOut_81 n K_24 v0 v1 v2 σ = some (r, τ) → W p l e rm_X11_leftOut s m args below meth c H locs 0 0 (ZI below s args D cA base ad σ0 r τ) (F0 m 81 ls []) := by
  intro v0 v1 v2 σ H locs ls hT_v0 hG hS hE hl hF
  unfold F_X11_leftOut_81 at hF
  refine lv_iinc (v := v2 + 1) (lv' := [(2, .int (v2 + 1)), (0, .ref (ad v0)), (1, .int v1)]) X.1 X.2.1 dX11_leftOut_81 hl (k := 2) rfl rfl (by decide) rfl (fun ls hl => ?_)
  refine lv_goto (tgt := 24) X.1 X.2.1 dX11_leftOut_84 (by decide) ?_
  exact hK_24 v0 v1 (v2 + 1) σ _ _ ls hT_v0 hG hS hE (lv_sub hl [1, 2, 0] rfl) hF
theorem w_X11_leftOut_75 {σ0 τ : Hp} {r : Int32} (X : SX D cA base p s m args meth c cX11_leftOut 4 (some .int) RX11) (n : Nat) (K_24 : Nat → Int32 → Int32 → Hp → Option (Int32 × Hp)) (hK_24 : ∀ (v0 : Nat) (v1 : Int32) (v2 : Int32) (σ : Hp) (H : Heap) (locs : List Loc) (ls : Array Slot), hT σ v0 11 → GW D cA base ad σ H → va_S (bA base) s.heap H locs → xT σ0 σ → lv_has ls 4 [(0, .ref (ad v0)), (1, .int v1), (2, .int v2)] → K_24 v0 v1 v2 σ = some (r, τ) → W p l e rm_X11_leftOut s m args below meth c H locs 0 0 (ZI below s args D cA base ad σ0 r τ) (F0 m 24 ls [])) (K_42 : Nat → Int32 → Int32 → Int32 → Hp → Option (Int32 × Hp)) (hK_42 : ∀ (v0 : Nat) (v1 : Int32) (v2 : Int32) (v3 : Int32) (σ : Hp) (H : Heap) (locs : List Loc) (ls : Array Slot), hT σ v0 11 → GW D cA base ad σ H → va_S (bA base) s.heap H locs → xT σ0 σ → lv_has ls 4 [(0, .ref (ad v0)), (1, .int v1), (2, .int v2), (3, .int v3)] → K_42 v0 v1 v2 v3 σ = some (r, τ) → W p l e rm_X11_leftOut s m args below meth c H locs 0 0 (ZI below s args D cA base ad σ0 r τ) (F0 m 42 ls [])) : ∀ (v0 : Nat) (v1 : Int32) (v2 : Int32) (v3 : Int32) (σ : Hp) (H : Heap) (locs : List Loc) (ls : Array Slot), hT σ v0 11 → GW D cA base ad σ H → va_S (bA base) s.heap H locs → xT σ0 σ → lv_has ls 4 [(0, .ref (ad v0)), (1, .int v1), (2, .int v2), (3, .int v3)] → F_X11_leftOut_75 n K_24 K_42 v0 v1 v2 v3 σ = some (r, τ) → W p l e rm_X11_leftOut s m args below meth c H locs 0 0 (ZI below s args D cA base ad σ0 r τ) (F0 m 75 ls []) := by
  intro v0 v1 v2 v3 σ H locs ls hT_v0 hG hS hE hl hF
  unfold F_X11_leftOut_75 at hF
  refine lv_iinc (v := v3 + 1) (lv' := [(3, .int (v3 + 1)), (0, .ref (ad v0)), (1, .int v1), (2, .int v2)]) X.1 X.2.1 dX11_leftOut_75 hl (k := 3) rfl rfl (by decide) rfl (fun ls hl => ?_)
  refine lv_goto (tgt := 42) X.1 X.2.1 dX11_leftOut_78 (by decide) ?_
  exact hK_42 v0 v1 v2 (v3 + 1) σ _ _ ls hT_v0 hG hS hE (lv_sub hl [1, 2, 3, 0] rfl) hF
theorem w_X11_leftOut_42 {σ0 τ : Hp} {r : Int32} (X : SX D cA base p s m args meth c cX11_leftOut 4 (some .int) RX11) (n : Nat) (K_24 : Nat → Int32 → Int32 → Hp → Option (Int32 × Hp)) (hK_24 : ∀ (v0 : Nat) (v1 : Int32) (v2 : Int32) (σ : Hp) (H : Heap) (locs : List Loc) (ls : Array Slot), hT σ v0 11 → GW D cA base ad σ H → va_S (bA base) s.heap H locs → xT σ0 σ → lv_has ls 4 [(0, .ref (ad v0)), (1, .int v1), (2, .int v2)] → K_24 v0 v1 v2 σ = some (r, τ) → W p l e rm_X11_leftOut s m args below meth c H locs 0 0 (ZI below s args D cA base ad σ0 r τ) (F0 m 24 ls [])) : ∀ f : Nat, ∀ (v0 : Nat) (v1 : Int32) (v2 : Int32) (v3 : Int32) (σ : Hp) (H : Heap) (locs : List Loc) (ls : Array Slot), hT σ v0 11 → GW D cA base ad σ H → va_S (bA base) s.heap H locs → xT σ0 σ → lv_has ls 4 [(0, .ref (ad v0)), (1, .int v1), (2, .int v2), (3, .int v3)] → F_X11_leftOut_42 n K_24 f v0 v1 v2 v3 σ = some (r, τ) → W p l e rm_X11_leftOut s m args below meth c H locs 0 0 (ZI below s args D cA base ad σ0 r τ) (F0 m 42 ls []) := by
  intro f
  induction f with
  | zero => intro v0 v1 v2 v3 σ H locs ls h0 hG hS hE hl hF
            rw [F_X11_leftOut_42] at hF; cases hF
  | succ f ih =>
    intro v0 v1 v2 v3 σ H locs ls hT_v0 hG hS hE hl hF
    rw [F_X11_leftOut_42] at hF
    refine lv_iload_n X.1 X.2.1 dX11_leftOut_42 rfl (lv_at hl 3 rfl) ?_
    refine lv_iconst (v := 1) X.1 X.2.1 dX11_leftOut_43 (by decide) ?_
    refine lv_aload_n X.1 X.2.1 dX11_leftOut_44 rfl (lv_at hl 0 rfl) ?_
    obtain ⟨i1, hr, hF⟩ := b1_ex hF
    have hT_i1 : hT σ i1 3 := gw_T hG hT_v0 (by decide) hr
    refine gx_get 0 (v := .ref (ad i1)) X hG hT_v0.1 (hT_v0.eq (by decide)) (by decide) rfl inX11 (by decide) k_151 (fun _ h => h) (gx_rfv hr) dX11_leftOut_45 ?_
    refine gx_getN 2 (v := .int (hI σ i1 2)) X hG hT_i1.1 (hT_i1.eq (by decide)) (by decide) rfl inX3 (by decide) q_49 (fun _ h => h) rfl dX11_leftOut_48 ?_
    refine lv_ishl X.1 X.2.1 dX11_leftOut_51 ?_
    refine lv_icmp_ge (tgt := 81) X.1 X.2.1 dX11_leftOut_52 (by decide) (fun hc => ?_) (fun hc => ?_)
    · replace hF := it_t hF hc
      exact w_X11_leftOut_81 X n K_24 hK_24 v0 v1 v2 σ _ _ ls hT_v0 hG hS hE (lv_sub hl [0, 1, 2] rfl) hF
    · replace hF := it_f hF hc
      refine lv_iload_n X.1 X.2.1 dX11_leftOut_55 rfl (lv_at hl 3 rfl) ?_
      obtain ⟨r3, σ2, hz, hF⟩ := b2_ex hF
      refine gx_rI (gx_runS (As := [.int v3]) (rest := []) X hG hS (c_J6_bitCount_0f7a4 l D cA base ad σ n v3 hz) k_400 k_656 k_399 k_13 (h_J6_bitCount_0f7a4.2) rfl rfl ⟨by decide, by decide⟩ rfl hl.1 rfl (Nat.le_of_ble_eq_true rfl) dX11_leftOut_56 ⟨Nat.zero_le _, Nat.zero_le _⟩) hS (fun H locs hG hS hX => ?_)
      have hT_v0 := hX.T hT_v0
      replace hE := hE.trans hX
      refine lv_iload_n X.1 X.2.1 dX11_leftOut_59 rfl (lv_at hl 2 rfl) ?_
      refine lv_icmp_ne (tgt := 75) X.1 X.2.1 dX11_leftOut_60 (by decide) (fun hc => ?_) (fun hc => ?_)
      · replace hF := it_f hF hc
        exact w_X11_leftOut_75 X n K_24 hK_24 (F_X11_leftOut_42 n K_24 f) ih v0 v1 v2 v3 σ2 _ _ ls hT_v0 hG hS hE (lv_sub hl [0, 1, 2, 3] rfl) hF
      · replace hF := it_t hF hc
        refine lv_aload_n X.1 X.2.1 dX11_leftOut_63 rfl (lv_at hl 0 rfl) ?_
        refine lv_iload_n X.1 X.2.1 dX11_leftOut_64 rfl (lv_at hl 3 rfl) ?_
        refine lv_iload_n X.1 X.2.1 dX11_leftOut_65 rfl (lv_at hl 2 rfl) ?_
        obtain ⟨r5, σ4, hz, hF⟩ := b2_ex hF
        refine gx_rI (gx_runV (As := [.int v3, .int v2]) (rest := []) X hG hS hT_v0.1 (hT_v0.eq (by decide)) (by decide) rfl (c_X11_endWithout l D cA base ad σ2 n v0 v3 v2 hT_v0 hz) k_707 k_704 k_706 ks_14 k_1 (h_X11_endWithout) rfl rfl ⟨by decide, by decide⟩ rfl hl.1 rfl (Nat.le_of_ble_eq_true rfl) dX11_leftOut_66 ⟨Nat.zero_le _, Nat.zero_le _⟩) hS (fun H locs hG hS hX => ?_)
        have hT_v0 := hX.T hT_v0
        replace hE := hE.trans hX
        refine lv_iload_n X.1 X.2.1 dX11_leftOut_69 rfl (lv_at hl 1 rfl) ?_
        refine lv_icmp_ne (tgt := 75) X.1 X.2.1 dX11_leftOut_70 (by decide) (fun hc => ?_) (fun hc => ?_)
        · replace hF := it_f hF hc
          exact w_X11_leftOut_75 X n K_24 hK_24 (F_X11_leftOut_42 n K_24 f) ih v0 v1 v2 v3 σ4 _ _ ls hT_v0 hG hS hE (lv_sub hl [0, 1, 2, 3] rfl) hF
        · replace hF := it_t hF hc
          refine lv_iload_n X.1 X.2.1 dX11_leftOut_73 rfl (lv_at hl 3 rfl) ?_
          exact gx_iret X hG hS hE hF dX11_leftOut_74
theorem w_X11_leftOut_24 {σ0 τ : Hp} {r : Int32} (X : SX D cA base p s m args meth c cX11_leftOut 4 (some .int) RX11) (n : Nat)  : ∀ f : Nat, ∀ (v0 : Nat) (v1 : Int32) (v2 : Int32) (σ : Hp) (H : Heap) (locs : List Loc) (ls : Array Slot), hT σ v0 11 → GW D cA base ad σ H → va_S (bA base) s.heap H locs → xT σ0 σ → lv_has ls 4 [(0, .ref (ad v0)), (1, .int v1), (2, .int v2)] → F_X11_leftOut_24 n  f v0 v1 v2 σ = some (r, τ) → W p l e rm_X11_leftOut s m args below meth c H locs 0 0 (ZI below s args D cA base ad σ0 r τ) (F0 m 24 ls []) := by
  intro f
  induction f with
  | zero => intro v0 v1 v2 σ H locs ls h0 hG hS hE hl hF
            rw [F_X11_leftOut_24] at hF; cases hF
  | succ f ih =>
    intro v0 v1 v2 σ H locs ls hT_v0 hG hS hE hl hF
    rw [F_X11_leftOut_24] at hF
    refine lv_iload_n X.1 X.2.1 dX11_leftOut_24 rfl (lv_at hl 2 rfl) ?_
    refine lv_iconst (v := 3) X.1 X.2.1 dX11_leftOut_25 (by decide) ?_
    refine lv_icmp_gt (tgt := 87) X.1 X.2.1 dX11_leftOut_26 (by decide) (fun hc => ?_) (fun hc => ?_)
    · replace hF := it_t hF hc
      refine lv_bipush (v := (-4)) X.1 X.2.1 dX11_leftOut_87 (by decide) ?_
      exact gx_iret X hG hS hE hF dX11_leftOut_89
    · replace hF := it_f hF hc
      refine lv_iload_n X.1 X.2.1 dX11_leftOut_29 rfl (lv_at hl 2 rfl) ?_
      refine lv_aload_n X.1 X.2.1 dX11_leftOut_30 rfl (lv_at hl 0 rfl) ?_
      obtain ⟨i6, hr, hF⟩ := b1_ex hF
      have hT_i6 : hT σ i6 3 := gw_T hG hT_v0 (by decide) hr
      refine gx_get 0 (v := .ref (ad i6)) X hG hT_v0.1 (hT_v0.eq (by decide)) (by decide) rfl inX11 (by decide) k_151 (fun _ h => h) (gx_rfv hr) dX11_leftOut_31 ?_
      refine gx_getN 2 (v := .int (hI σ i6 2)) X hG hT_i6.1 (hT_i6.eq (by decide)) (by decide) rfl inX3 (by decide) q_49 (fun _ h => h) rfl dX11_leftOut_34 ?_
      refine lv_icmp_ge (tgt := 87) X.1 X.2.1 dX11_leftOut_37 (by decide) (fun hc => ?_) (fun hc => ?_)
      · replace hF := it_t hF hc
        refine lv_bipush (v := (-4)) X.1 X.2.1 dX11_leftOut_87 (by decide) ?_
        exact gx_iret X hG hS hE hF dX11_leftOut_89
      · replace hF := it_f hF hc
        refine lv_iconst (v := 0) X.1 X.2.1 dX11_leftOut_40 (by decide) ?_
        refine lv_istore_n (lv' := [(3, .int 0), (0, .ref (ad v0)), (1, .int v1), (2, .int v2)]) X.1 X.2.1 dX11_leftOut_41 rfl hl (by decide) rfl (fun ls hl => ?_)
        exact w_X11_leftOut_42 X n (F_X11_leftOut_24 n  f) ih n v0 v1 v2 0 σ _ _ ls hT_v0 hG hS hE (lv_sub hl [1, 2, 3, 0] rfl) hF
theorem c_X11_leftOut (l : Launch) (D : va_G) (cA : Nat → ClassId) (base : Nat) (ad : Nat → Nat) (σ : Hp) (n : Nat) (a0 : Nat) (a1 : Int32) (hT_a0 : hT σ a0 11) {τ : Hp} {r : Int32} (hF : F_X11_leftOut n a0 a1 σ = some (r, τ)) : MI l yX11_leftOut cX11_leftOut 4 (some .int) rm_X11_leftOut D cA base ad σ [.ref (ad a0), .int a1] r τ := by
  refine Met.ofW (cc := cX11_leftOut) (maxL := 4) (ret := (some .int)) (by decide) rfl ?_
  intro p e s m args below meth c s₁ B hml hv
  obtain ⟨rfl, hv⟩ := hv
  have X : SX D cA base p s m ([.ref (ad a0), .int a1] : List Value).toArray meth c cX11_leftOut 4 (some .int) RX11 := sx_of B hml hv
  have hG := hv.1
  have hS : va_S (bA base) s.heap s.heap [] := va_S.rf
  have hE := xT.rf σ
  have hl := lv_entry ([.ref (ad a0), .int a1]) (n := 4) (Nat.le_of_ble_eq_true rfl)
  rw [lg_entry_eq]
  generalize (lg_sl ([.ref (ad a0), .int a1]) ++ List.replicate (4 - (lg_sl ([.ref (ad a0), .int a1])).length) Slot.unset).toArray = ls at hl ⊢
  have hl : lv_has ls 4 [(0, .ref (ad a0)), (1, .int a1)] := hl
  unfold F_X11_leftOut at hF
  refine lv_iload_n X.1 X.2.1 dX11_leftOut_0 rfl (lv_at hl 1 rfl) ?_
  obtain ⟨r8, σ7, hz, hF⟩ := b2_ex hF
  refine gx_rI (gx_runS (As := [.int a1]) (rest := []) X hG hS (c_X11_isEnd l D cA base ad σ n a1 hz) k_695 k_693 k_694 k_1 (h_X11_isEnd.2) rfl rfl ⟨by decide, by decide⟩ rfl hl.1 rfl (Nat.le_of_ble_eq_true rfl) dX11_leftOut_1 ⟨Nat.zero_le _, Nat.zero_le _⟩) hS (fun H locs hG hS hX => ?_)
  have hT_a0 := hX.T hT_a0
  replace hE := hE.trans hX
  refine lv_if_ne (tgt := 9) X.1 X.2.1 dX11_leftOut_4 (by decide) (fun hc => ?_) (fun hc => ?_)
  · replace hF := it_f hF hc
    refine lv_aload_n X.1 X.2.1 dX11_leftOut_9 rfl (lv_at hl 0 rfl) ?_
    obtain ⟨i9, hr, hF⟩ := b1_ex hF
    have hT_i9 : hT σ7 i9 3 := gw_T hG hT_a0 (by decide) hr
    refine gx_get 0 (v := .ref (ad i9)) X hG hT_a0.1 (hT_a0.eq (by decide)) (by decide) rfl inX11 (by decide) k_151 (fun _ h => h) (gx_rfv hr) dX11_leftOut_10 ?_
    refine gx_getN 2 (v := .int (hI σ7 i9 2)) X hG hT_i9.1 (hT_i9.eq (by decide)) (by decide) rfl inX3 (by decide) q_49 (fun _ h => h) rfl dX11_leftOut_13 ?_
    refine lv_if_ne (tgt := 22) X.1 X.2.1 dX11_leftOut_16 (by decide) (fun hc => ?_) (fun hc => ?_)
    · replace hF := it_f hF hc
      refine lv_iconst (v := 0) X.1 X.2.1 dX11_leftOut_22 (by decide) ?_
      refine lv_istore_n (lv' := [(2, .int 0), (0, .ref (ad a0)), (1, .int a1)]) X.1 X.2.1 dX11_leftOut_23 rfl hl (by decide) rfl (fun ls hl => ?_)
      exact w_X11_leftOut_24 X n  n a0 a1 0 σ7 _ _ ls hT_a0 hG hS hE (lv_sub hl [1, 2, 0] rfl) hF
    · replace hF := it_t hF hc
      refine lv_bipush (v := (-3)) X.1 X.2.1 dX11_leftOut_19 (by decide) ?_
      exact gx_iret X hG hS hE hF dX11_leftOut_21
  · replace hF := it_t hF hc
    refine lv_iconst (v := (-1)) X.1 X.2.1 dX11_leftOut_7 (by decide) ?_
    exact gx_iret X hG hS hE hF dX11_leftOut_8
theorem w_X3_deal_67 {σ0 τ : Hp} {r : Int32} (X : SX D cA base p s m args meth c cX3_deal 7 (some .int) RX3) (n : Nat) (K_5 : Nat → Int32 → Int32 → Int32 → Hp → Option (Int32 × Hp)) (hK_5 : ∀ (v0 : Nat) (v2 : Int32) (v3 : Int32) (v4 : Int32) (σ : Hp) (H : Heap) (locs : List Loc) (ls : Array Slot), hT σ v0 3 → GW D cA base ad σ H → va_S (bA base) s.heap H locs → xT σ0 σ → lv_has ls 7 [(0, .ref (ad v0)), (2, .int v2), (3, .int v3), (4, .int v4)] → K_5 v0 v2 v3 v4 σ = some (r, τ) → W p l e rm_X3_deal s m args below meth c H locs 0 0 (ZI below s args D cA base ad σ0 r τ) (F0 m 5 ls [])) : ∀ (v0 : Nat) (v2 : Int32) (v3 : Int32) (v4 : Int32) (v5 : Int32) (σ : Hp) (H : Heap) (locs : List Loc) (ls : Array Slot), hT σ v0 3 → GW D cA base ad σ H → va_S (bA base) s.heap H locs → xT σ0 σ → lv_has ls 7 [(0, .ref (ad v0)), (2, .int v2), (3, .int v3), (4, .int v4), (5, .int v5)] → F_X3_deal_67 n K_5 v0 v2 v3 v4 v5 σ = some (r, τ) → W p l e rm_X3_deal s m args below meth c H locs 0 0 (ZI below s args D cA base ad σ0 r τ) (F0 m 67 ls []) := by
  intro v0 v2 v3 v4 v5 σ H locs ls hT_v0 hG hS hE hl hF
  unfold F_X3_deal_67 at hF
  refine lv_aload_n X.1 X.2.1 dX3_deal_67 rfl (lv_at hl 0 rfl) ?_
  obtain ⟨i1, hr, hF⟩ := b1_ex hF
  have hT_i1 : hT σ i1 13 := gw_T hG hT_v0 (by decide) hr
  refine gx_get 4 (v := .ref (ad i1)) X hG hT_v0.1 (hT_v0.eq (by decide)) (by decide) rfl inX3 (by decide) k_51 (fun _ h => h) (gx_rfv hr) dX3_deal_68 ?_
  refine lv_iload X.1 X.2.1 dX3_deal_71 (lv_at hl 3 rfl) ?_
  refine lv_iload X.1 X.2.1 dX3_deal_73 (lv_at hl 4 rfl) ?_
  obtain ⟨σ2, hz, hF⟩ := b1_ex hF
  refine gx_rV (gx_runSN (As := [.ref (ad i1), .int v4, .int v5]) (rest := []) X hG hS (c_X11_store l D cA base ad σ n i1 v4 v5 hT_i1 hz) k_173 q_351 k_172 k_1 (h_X11_store.2) rfl rfl ⟨by decide, by decide⟩ rfl hl.1 rfl (Nat.le_of_ble_eq_true rfl) dX3_deal_75 ⟨Nat.zero_le _, Nat.zero_le _⟩) hS (fun H locs hG hS hX => ?_)
  have hT_v0 := hX.T hT_v0
  replace hE := hE.trans hX
  refine lv_iinc (v := v4 + 1) (lv' := [(4, .int (v4 + 1)), (0, .ref (ad v0)), (2, .int v2), (3, .int v3), (5, .int v5)]) X.1 X.2.1 dX3_deal_78 hl (k := 3) rfl rfl (by decide) rfl (fun ls hl => ?_)
  refine lv_goto (tgt := 5) X.1 X.2.1 dX3_deal_81 (by decide) ?_
  exact hK_5 v0 v2 v3 (v4 + 1) σ2 _ _ ls hT_v0 hG hS hE (lv_sub hl [1, 2, 3, 0] rfl) hF
theorem w_X3_deal_61 {σ0 τ : Hp} {r : Int32} (X : SX D cA base p s m args meth c cX3_deal 7 (some .int) RX3) (n : Nat) (K_5 : Nat → Int32 → Int32 → Int32 → Hp → Option (Int32 × Hp)) (hK_5 : ∀ (v0 : Nat) (v2 : Int32) (v3 : Int32) (v4 : Int32) (σ : Hp) (H : Heap) (locs : List Loc) (ls : Array Slot), hT σ v0 3 → GW D cA base ad σ H → va_S (bA base) s.heap H locs → xT σ0 σ → lv_has ls 7 [(0, .ref (ad v0)), (2, .int v2), (3, .int v3), (4, .int v4)] → K_5 v0 v2 v3 v4 σ = some (r, τ) → W p l e rm_X3_deal s m args below meth c H locs 0 0 (ZI below s args D cA base ad σ0 r τ) (F0 m 5 ls [])) (K_20 : Nat → Int32 → Int32 → Int32 → Int32 → Int32 → Hp → Option (Int32 × Hp)) (hK_20 : ∀ (v0 : Nat) (v2 : Int32) (v3 : Int32) (v4 : Int32) (v5 : Int32) (v6 : Int32) (σ : Hp) (H : Heap) (locs : List Loc) (ls : Array Slot), hT σ v0 3 → GW D cA base ad σ H → va_S (bA base) s.heap H locs → xT σ0 σ → lv_has ls 7 [(0, .ref (ad v0)), (2, .int v2), (3, .int v3), (4, .int v4), (5, .int v5), (6, .int v6)] → K_20 v0 v2 v3 v4 v5 v6 σ = some (r, τ) → W p l e rm_X3_deal s m args below meth c H locs 0 0 (ZI below s args D cA base ad σ0 r τ) (F0 m 20 ls [])) : ∀ (v0 : Nat) (v2 : Int32) (v3 : Int32) (v4 : Int32) (v5 : Int32) (v6 : Int32) (σ : Hp) (H : Heap) (locs : List Loc) (ls : Array Slot), hT σ v0 3 → GW D cA base ad σ H → va_S (bA base) s.heap H locs → xT σ0 σ → lv_has ls 7 [(0, .ref (ad v0)), (2, .int v2), (3, .int v3), (4, .int v4), (5, .int v5), (6, .int v6)] → F_X3_deal_61 n K_5 K_20 v0 v2 v3 v4 v5 v6 σ = some (r, τ) → W p l e rm_X3_deal s m args below meth c H locs 0 0 (ZI below s args D cA base ad σ0 r τ) (F0 m 61 ls []) := by
  intro v0 v2 v3 v4 v5 v6 σ H locs ls hT_v0 hG hS hE hl hF
  unfold F_X3_deal_61 at hF
  refine lv_iinc (v := v6 + 1) (lv' := [(6, .int (v6 + 1)), (0, .ref (ad v0)), (2, .int v2), (3, .int v3), (4, .int v4), (5, .int v5)]) X.1 X.2.1 dX3_deal_61 hl (k := 5) rfl rfl (by decide) rfl (fun ls hl => ?_)
  refine lv_goto (tgt := 20) X.1 X.2.1 dX3_deal_64 (by decide) ?_
  exact hK_20 v0 v2 v3 v4 v5 (v6 + 1) σ _ _ ls hT_v0 hG hS hE (lv_sub hl [1, 2, 3, 4, 5, 0] rfl) hF
theorem w_X3_deal_20 {σ0 τ : Hp} {r : Int32} (X : SX D cA base p s m args meth c cX3_deal 7 (some .int) RX3) (n : Nat) (K_5 : Nat → Int32 → Int32 → Int32 → Hp → Option (Int32 × Hp)) (hK_5 : ∀ (v0 : Nat) (v2 : Int32) (v3 : Int32) (v4 : Int32) (σ : Hp) (H : Heap) (locs : List Loc) (ls : Array Slot), hT σ v0 3 → GW D cA base ad σ H → va_S (bA base) s.heap H locs → xT σ0 σ → lv_has ls 7 [(0, .ref (ad v0)), (2, .int v2), (3, .int v3), (4, .int v4)] → K_5 v0 v2 v3 v4 σ = some (r, τ) → W p l e rm_X3_deal s m args below meth c H locs 0 0 (ZI below s args D cA base ad σ0 r τ) (F0 m 5 ls [])) : ∀ f : Nat, ∀ (v0 : Nat) (v2 : Int32) (v3 : Int32) (v4 : Int32) (v5 : Int32) (v6 : Int32) (σ : Hp) (H : Heap) (locs : List Loc) (ls : Array Slot), hT σ v0 3 → GW D cA base ad σ H → va_S (bA base) s.heap H locs → xT σ0 σ → lv_has ls 7 [(0, .ref (ad v0)), (2, .int v2), (3, .int v3), (4, .int v4), (5, .int v5), (6, .int v6)] → F_X3_deal_20 n K_5 f v0 v2 v3 v4 v5 v6 σ = some (r, τ) → W p l e rm_X3_deal s m args below meth c H locs 0 0 (ZI below s args D cA base ad σ0 r τ) (F0 m 20 ls []) := by
  intro f
  induction f with
  | zero => intro v0 v2 v3 v4 v5 v6 σ H locs ls h0 hG hS hE hl hF
            rw [F_X3_deal_20] at hF; cases hF
  | succ f ih =>
    intro v0 v2 v3 v4 v5 v6 σ H locs ls hT_v0 hG hS hE hl hF
    rw [F_X3_deal_20] at hF
    refine lv_iload X.1 X.2.1 dX3_deal_20 (lv_at hl 5 rfl) ?_
    refine lv_aload_n X.1 X.2.1 dX3_deal_22 rfl (lv_at hl 0 rfl) ?_
    refine gx_get 0 (v := .int (hI σ v0 0)) X hG hT_v0.1 (hT_v0.eq (by decide)) (by decide) rfl inX3 (by decide) k_41 (fun _ h => h) rfl dX3_deal_23 ?_
    refine lv_icmp_ge (tgt := 67) X.1 X.2.1 dX3_deal_26 (by decide) (fun hc => ?_) (fun hc => ?_)
    · replace hF := it_t hF hc
      exact w_X3_deal_67 X n K_5 hK_5 v0 v2 v3 v4 v5 σ _ _ ls hT_v0 hG hS hE (lv_sub hl [0, 1, 2, 3, 4] rfl) hF
    · replace hF := it_f hF hc
      refine lv_iload_n X.1 X.2.1 dX3_deal_29 rfl (lv_at hl 2 rfl) ?_
      refine lv_ldc (v := 1103515245) X.1 X.2.1 X.2.2.2.2.2.1 (X.w k_718) dX3_deal_30 ?_
      refine lv_imul X.1 X.2.1 dX3_deal_32 ?_
      refine lv_sipush (v := 12345) X.1 X.2.1 dX3_deal_33 (by decide) ?_
      refine lv_iadd X.1 X.2.1 dX3_deal_36 ?_
      refine lv_istore_n (lv' := [(3, .int ((v3 * 1103515245) + 12345)), (0, .ref (ad v0)), (2, .int v2), (4, .int v4), (5, .int v5), (6, .int v6)]) X.1 X.2.1 dX3_deal_37 rfl hl (by decide) rfl (fun ls hl => ?_)
      refine lv_iload_n X.1 X.2.1 dX3_deal_38 rfl (lv_at hl 0 rfl) ?_
      refine lv_ldc (v := 2147483647) X.1 X.2.1 X.2.2.2.2.2.1 (X.w k_719) dX3_deal_39 ?_
      refine lv_iand X.1 X.2.1 dX3_deal_41 ?_
      refine lv_ldc (v := 65536) X.1 X.2.1 X.2.2.2.2.2.1 (X.w k_720) dX3_deal_42 ?_
      refine lv_idiv X.1 X.2.1 dX3_deal_44 (by decide) ?_
      refine lv_bipush (v := 100) X.1 X.2.1 dX3_deal_45 (by decide) ?_
      refine lv_irem X.1 X.2.1 dX3_deal_47 (by decide) ?_
      refine lv_iload_n X.1 X.2.1 dX3_deal_48 rfl (lv_at hl 2 rfl) ?_
      refine lv_icmp_ge (tgt := 61) X.1 X.2.1 dX3_deal_49 (by decide) (fun hc => ?_) (fun hc => ?_)
      · replace hF := it_t hF hc
        exact w_X3_deal_61 X n K_5 hK_5 (F_X3_deal_20 n K_5 f) ih v0 v2 ((v3 * 1103515245) + 12345) v4 v5 v6 σ _ _ ls hT_v0 hG hS hE (lv_sub hl [1, 2, 0, 3, 4, 5] rfl) hF
      · replace hF := it_f hF hc
        refine lv_iload X.1 X.2.1 dX3_deal_52 (lv_at hl 4 rfl) ?_
        refine lv_iconst (v := 1) X.1 X.2.1 dX3_deal_54 (by decide) ?_
        refine lv_iload X.1 X.2.1 dX3_deal_55 (lv_at hl 5 rfl) ?_
        refine lv_ishl X.1 X.2.1 dX3_deal_57 ?_
        refine lv_ior X.1 X.2.1 dX3_deal_58 ?_
        refine lv_istore (lv' := [(5, .int (v5 ||| (1 <<< (v6 &&& 31)))), (3, .int ((v3 * 1103515245) + 12345)), (0, .ref (ad v0)), (2, .int v2), (4, .int v4), (6, .int v6)]) X.1 X.2.1 dX3_deal_59 hl (by decide) rfl (fun ls hl => ?_)
        exact w_X3_deal_61 X n K_5 hK_5 (F_X3_deal_20 n K_5 f) ih v0 v2 ((v3 * 1103515245) + 12345) v4 (v5 ||| (1 <<< (v6 &&& 31))) v6 σ _ _ ls hT_v0 hG hS hE (lv_sub hl [2, 3, 1, 4, 0, 5] rfl) hF
theorem w_X3_deal_5 {σ0 τ : Hp} {r : Int32} (X : SX D cA base p s m args meth c cX3_deal 7 (some .int) RX3) (n : Nat)  : ∀ f : Nat, ∀ (v0 : Nat) (v2 : Int32) (v3 : Int32) (v4 : Int32) (σ : Hp) (H : Heap) (locs : List Loc) (ls : Array Slot), hT σ v0 3 → GW D cA base ad σ H → va_S (bA base) s.heap H locs → xT σ0 σ → lv_has ls 7 [(0, .ref (ad v0)), (2, .int v2), (3, .int v3), (4, .int v4)] → F_X3_deal_5 n  f v0 v2 v3 v4 σ = some (r, τ) → W p l e rm_X3_deal s m args below meth c H locs 0 0 (ZI below s args D cA base ad σ0 r τ) (F0 m 5 ls []) := by
  intro f
  induction f with
  | zero => intro v0 v2 v3 v4 σ H locs ls h0 hG hS hE hl hF
            rw [F_X3_deal_5] at hF; cases hF
  | succ f ih =>
    intro v0 v2 v3 v4 σ H locs ls hT_v0 hG hS hE hl hF
    rw [F_X3_deal_5] at hF
    refine lv_iload X.1 X.2.1 dX3_deal_5 (lv_at hl 3 rfl) ?_
    refine lv_aload_n X.1 X.2.1 dX3_deal_7 rfl (lv_at hl 0 rfl) ?_
    refine gx_get 2 (v := .int (hI σ v0 2)) X hG hT_v0.1 (hT_v0.eq (by decide)) (by decide) rfl inX3 (by decide) k_45 (fun _ h => h) rfl dX3_deal_8 ?_
    refine lv_icmp_ge (tgt := 84) X.1 X.2.1 dX3_deal_11 (by decide) (fun hc => ?_) (fun hc => ?_)
    · replace hF := it_t hF hc
      refine lv_iload_n X.1 X.2.1 dX3_deal_84 rfl (lv_at hl 2 rfl) ?_
      exact gx_iret X hG hS hE hF dX3_deal_85
    · replace hF := it_f hF hc
      refine lv_iconst (v := 0) X.1 X.2.1 dX3_deal_14 (by decide) ?_
      refine lv_istore (lv' := [(5, .int 0), (0, .ref (ad v0)), (2, .int v2), (3, .int v3), (4, .int v4)]) X.1 X.2.1 dX3_deal_15 hl (by decide) rfl (fun ls hl => ?_)
      refine lv_iconst (v := 0) X.1 X.2.1 dX3_deal_17 (by decide) ?_
      refine lv_istore (lv' := [(6, .int 0), (5, .int 0), (0, .ref (ad v0)), (2, .int v2), (3, .int v3), (4, .int v4)]) X.1 X.2.1 dX3_deal_18 hl (by decide) rfl (fun ls hl => ?_)
      exact w_X3_deal_20 X n (F_X3_deal_5 n  f) ih n v0 v2 v3 v4 0 0 σ _ _ ls hT_v0 hG hS hE (lv_sub hl [2, 3, 4, 5, 1, 0] rfl) hF
theorem c_X3_deal (l : Launch) (D : va_G) (cA : Nat → ClassId) (base : Nat) (ad : Nat → Nat) (σ : Hp) (n : Nat) (a0 : Nat) (a1 : Int32) (a2 : Int32) (hT_a0 : hT σ a0 3) {τ : Hp} {r : Int32} (hF : F_X3_deal n a0 a1 a2 σ = some (r, τ)) : MI l yX3_deal cX3_deal 7 (some .int) rm_X3_deal D cA base ad σ [.ref (ad a0), .int a1, .int a2] r τ := by
  refine Met.ofW (cc := cX3_deal) (maxL := 7) (ret := (some .int)) (by decide) rfl ?_
  intro p e s m args below meth c s₁ B hml hv
  obtain ⟨rfl, hv⟩ := hv
  have X : SX D cA base p s m ([.ref (ad a0), .int a1, .int a2] : List Value).toArray meth c cX3_deal 7 (some .int) RX3 := sx_of B hml hv
  have hG := hv.1
  have hS : va_S (bA base) s.heap s.heap [] := va_S.rf
  have hE := xT.rf σ
  have hl := lv_entry ([.ref (ad a0), .int a1, .int a2]) (n := 7) (Nat.le_of_ble_eq_true rfl)
  rw [lg_entry_eq]
  generalize (lg_sl ([.ref (ad a0), .int a1, .int a2]) ++ List.replicate (7 - (lg_sl ([.ref (ad a0), .int a1, .int a2])).length) Slot.unset).toArray = ls at hl ⊢
  have hl : lv_has ls 7 [(0, .ref (ad a0)), (1, .int a1), (2, .int a2)] := hl
  unfold F_X3_deal at hF
  refine lv_iload_n X.1 X.2.1 dX3_deal_0 rfl (lv_at hl 1 rfl) ?_
  refine lv_istore_n (lv' := [(3, .int a1), (0, .ref (ad a0)), (1, .int a1), (2, .int a2)]) X.1 X.2.1 dX3_deal_1 rfl hl (by decide) rfl (fun ls hl => ?_)
  refine lv_iconst (v := 0) X.1 X.2.1 dX3_deal_2 (by decide) ?_
  refine lv_istore (lv' := [(4, .int 0), (3, .int a1), (0, .ref (ad a0)), (1, .int a1), (2, .int a2)]) X.1 X.2.1 dX3_deal_3 hl (by decide) rfl (fun ls hl => ?_)
  exact w_X3_deal_5 X n  n a0 a2 a1 0 σ _ _ ls hT_a0 hG hS hE (lv_sub hl [2, 4, 1, 0] rfl) hF
theorem w_X3_knewAtFirst_40 {σ0 τ : Hp} {r : Int32} (X : SX D cA base p s m args meth c cX3_knewAtFirst 3 (some .boolean) RX3) (n : Nat)  : ∀  (σ : Hp) (H : Heap) (locs : List Loc) (ls : Array Slot), GW D cA base ad σ H → va_S (bA base) s.heap H locs → xT σ0 σ → lv_has ls 3 [] → F_X3_knewAtFirst_40 n  σ = some (r, τ) → W p l e rm_X3_knewAtFirst s m args below meth c H locs 0 0 (ZI below s args D cA base ad σ0 r τ) (F0 m 40 ls []) := by
  intro σ H locs ls hG hS hE hl hF
  unfold F_X3_knewAtFirst_40 at hF
  refine lv_iconst (v := 1) X.1 X.2.1 dX3_knewAtFirst_40 (by decide) ?_
  refine lv_goto (tgt := 45) X.1 X.2.1 dX3_knewAtFirst_41 (by decide) ?_
  exact gx_zret X hG hS hE hF rfl dX3_knewAtFirst_45
theorem w_X3_knewAtFirst_28 {σ0 τ : Hp} {r : Int32} (X : SX D cA base p s m args meth c cX3_knewAtFirst 3 (some .boolean) RX3) (n : Nat)  : ∀ (v0 : Nat) (v1 : Int32) (v2 : Int32) (σ : Hp) (H : Heap) (locs : List Loc) (ls : Array Slot), hT σ v0 3 → GW D cA base ad σ H → va_S (bA base) s.heap H locs → xT σ0 σ → lv_has ls 3 [(0, .ref (ad v0)), (1, .int v1), (2, .int v2)] → F_X3_knewAtFirst_28 n  v0 v1 v2 σ = some (r, τ) → W p l e rm_X3_knewAtFirst s m args below meth c H locs 0 0 (ZI below s args D cA base ad σ0 r τ) (F0 m 28 ls []) := by
  intro v0 v1 v2 σ H locs ls hT_v0 hG hS hE hl hF
  unfold F_X3_knewAtFirst_28 at hF
  refine lv_iload_n X.1 X.2.1 dX3_knewAtFirst_28 rfl (lv_at hl 2 rfl) ?_
  refine lv_iload_n X.1 X.2.1 dX3_knewAtFirst_29 rfl (lv_at hl 1 rfl) ?_
  refine lv_icmp_le (tgt := 44) X.1 X.2.1 dX3_knewAtFirst_30 (by decide) (fun hc => ?_) (fun hc => ?_)
  · replace hF := it_t hF hc
    refine lv_iconst (v := 0) X.1 X.2.1 dX3_knewAtFirst_44 (by decide) ?_
    exact gx_zret X hG hS hE hF rfl dX3_knewAtFirst_45
  · replace hF := it_f hF hc
    refine lv_aload_n X.1 X.2.1 dX3_knewAtFirst_33 rfl (lv_at hl 0 rfl) ?_
    obtain ⟨r2, σ1, hz, hF⟩ := b2_ex hF
    refine gx_rI (gx_runV (As := []) (rest := []) X hG hS hT_v0.1 (hT_v0.eq (by decide)) (by decide) rfl (c_X3_ends l D cA base ad σ n v0 hT_v0 hz) k_553 k_654 k_551 k_552 k_2 (h_X3_ends) rfl rfl ⟨by decide, by decide⟩ rfl hl.1 rfl (Nat.le_of_ble_eq_true rfl) dX3_knewAtFirst_34 ⟨Nat.zero_le _, Nat.zero_le _⟩) hS (fun H locs hG hS hX => ?_)
    have hT_v0 := hX.T hT_v0
    replace hE := hE.trans hX
    refine lv_if_ne (tgt := 44) X.1 X.2.1 dX3_knewAtFirst_37 (by decide) (fun hc => ?_) (fun hc => ?_)
    · replace hF := it_f hF hc
      refine lv_iconst (v := 0) X.1 X.2.1 dX3_knewAtFirst_44 (by decide) ?_
      exact gx_zret X hG hS hE hF rfl dX3_knewAtFirst_45
    · replace hF := it_t hF hc
      exact w_X3_knewAtFirst_40 X n  σ1 _ _ ls  hG hS hE (lv_sub hl [] rfl) hF
theorem c_X3_knewAtFirst (l : Launch) (D : va_G) (cA : Nat → ClassId) (base : Nat) (ad : Nat → Nat) (σ : Hp) (n : Nat) (a0 : Nat) (hT_a0 : hT σ a0 3) {τ : Hp} {r : Int32} (hF : F_X3_knewAtFirst n a0 σ = some (r, τ)) : MI l yX3_knewAtFirst cX3_knewAtFirst 3 (some .boolean) rm_X3_knewAtFirst D cA base ad σ [.ref (ad a0)] r τ := by
  refine Met.ofW (cc := cX3_knewAtFirst) (maxL := 3) (ret := (some .boolean)) (by decide) rfl ?_
  intro p e s m args below meth c s₁ B hml hv
  obtain ⟨rfl, hv⟩ := hv
  have X : SX D cA base p s m ([.ref (ad a0)] : List Value).toArray meth c cX3_knewAtFirst 3 (some .boolean) RX3 := sx_of B hml hv
  have hG := hv.1
  have hS : va_S (bA base) s.heap s.heap [] := va_S.rf
  have hE := xT.rf σ
  have hl := lv_entry ([.ref (ad a0)]) (n := 3) (Nat.le_of_ble_eq_true rfl)
  rw [lg_entry_eq]
  generalize (lg_sl ([.ref (ad a0)]) ++ List.replicate (3 - (lg_sl ([.ref (ad a0)])).length) Slot.unset).toArray = ls at hl ⊢
  have hl : lv_has ls 3 [(0, .ref (ad a0))] := hl
  unfold F_X3_knewAtFirst at hF
  refine lv_aload_n X.1 X.2.1 dX3_knewAtFirst_0 rfl (lv_at hl 0 rfl) ?_
  refine gx_get 13 (v := .int (hI σ a0 13)) X hG hT_a0.1 (hT_a0.eq (by decide)) (by decide) rfl inX3 (by decide) k_71 (fun _ h => h) rfl dX3_knewAtFirst_1 ?_
  obtain ⟨r4, σ3, hz, hF⟩ := b2_ex hF
  refine gx_rI (gx_runS (As := [.int (hI σ a0 13)]) (rest := []) X hG hS (c_J6_bitCount_0f7a4 l D cA base ad σ n (hI σ a0 13) hz) k_400 k_398 k_399 k_13 (h_J6_bitCount_0f7a4.2) rfl rfl ⟨by decide, by decide⟩ rfl hl.1 rfl (Nat.le_of_ble_eq_true rfl) dX3_knewAtFirst_4 ⟨Nat.zero_le _, Nat.zero_le _⟩) hS (fun H locs hG hS hX => ?_)
  have hT_a0 := hX.T hT_a0
  replace hE := hE.trans hX
  refine lv_istore_n (lv' := [(1, .int r4), (0, .ref (ad a0))]) X.1 X.2.1 dX3_knewAtFirst_7 rfl hl (by decide) rfl (fun ls hl => ?_)
  refine lv_aload_n X.1 X.2.1 dX3_knewAtFirst_8 rfl (lv_at hl 1 rfl) ?_
  refine gx_get 2 (v := .int (hI σ3 a0 2)) X hG hT_a0.1 (hT_a0.eq (by decide)) (by decide) rfl inX3 (by decide) k_45 (fun _ h => h) rfl dX3_knewAtFirst_9 ?_
  refine lv_iload_n X.1 X.2.1 dX3_knewAtFirst_12 rfl (lv_at hl 0 rfl) ?_
  refine lv_isub X.1 X.2.1 dX3_knewAtFirst_13 ?_
  refine lv_istore_n (lv' := [(2, .int ((hI σ3 a0 2) - r4)), (1, .int r4), (0, .ref (ad a0))]) X.1 X.2.1 dX3_knewAtFirst_14 rfl hl (by decide) rfl (fun ls hl => ?_)
  refine lv_iload_n X.1 X.2.1 dX3_knewAtFirst_15 rfl (lv_at hl 1 rfl) ?_
  refine lv_iload_n X.1 X.2.1 dX3_knewAtFirst_16 rfl (lv_at hl 0 rfl) ?_
  refine lv_icmp_le (tgt := 28) X.1 X.2.1 dX3_knewAtFirst_17 (by decide) (fun hc => ?_) (fun hc => ?_)
  · replace hF := it_t hF hc
    exact w_X3_knewAtFirst_28 X n  a0 r4 ((hI σ3 a0 2) - r4) σ3 _ _ ls hT_a0 hG hS hE (lv_sub hl [2, 1, 0] rfl) hF
  · replace hF := it_f hF hc
    refine lv_aload_n X.1 X.2.1 dX3_knewAtFirst_20 rfl (lv_at hl 2 rfl) ?_
    obtain ⟨r6, σ5, hz, hF⟩ := b2_ex hF
    refine gx_rI (gx_runV (As := []) (rest := []) X hG hS hT_a0.1 (hT_a0.eq (by decide)) (by decide) rfl (c_X3_ends l D cA base ad σ3 n a0 hT_a0 hz) k_553 k_654 k_551 k_552 k_2 (h_X3_ends) rfl rfl ⟨by decide, by decide⟩ rfl hl.1 rfl (Nat.le_of_ble_eq_true rfl) dX3_knewAtFirst_21 ⟨Nat.zero_le _, Nat.zero_le _⟩) hS (fun H locs hG hS hX => ?_)
    have hT_a0 := hX.T hT_a0
    replace hE := hE.trans hX
    refine lv_iconst (v := 1) X.1 X.2.1 dX3_knewAtFirst_24 (by decide) ?_
    refine lv_icmp_eq (tgt := 40) X.1 X.2.1 dX3_knewAtFirst_25 (by decide) (fun hc => ?_) (fun hc => ?_)
    · replace hF := it_t hF hc
      exact w_X3_knewAtFirst_40 X n  σ5 _ _ ls  hG hS hE (lv_sub hl [] rfl) hF
    · replace hF := it_f hF hc
      exact w_X3_knewAtFirst_28 X n  a0 r4 ((hI σ3 a0 2) - r4) σ5 _ _ ls hT_a0 hG hS hE (lv_sub hl [2, 1, 0] rfl) hF
end W_class10
