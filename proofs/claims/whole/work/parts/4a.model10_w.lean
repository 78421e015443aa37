/-! model10: printed by wip/whole/gen.py -/
section W_model10
variable {p : Program} {l : Launch} {e : Env} {s : State} {m : MethodId} {args : Array Value} {below : List Frame} {meth : Method} {c : Code} {D : va_G} {cA : Nat → ClassId} {base : Nat} {ad : Nat → Nat}
abbrev rm_X12_six : Room := { frames := 37, cells := 0, slots := 0, locals := 878 }
theorem h_X12_six : yX12_six.cls = RX12 ∧ yX12_six.cls ≠ "java/lang/invoke/MethodHandle" ∧ yX12_six.cls ≠ "java/lang/invoke/VarHandle" ∧ (parseMethodDescriptor yX12_six.desc).map (fun d => d.parameters.length) = some 2 := by decide +kernel
def F_X12_six_76 (n : Nat)  (v0 : Nat) (v2 : Int32) (s0 : Int32) (s1 : Int32) (s2 : Int32) (s3 : Nat) (σ : Hp) : Option (Int32 × Hp) := b2 (F_X12_runs n s3 s2 s1 s0 σ) fun (r2 : Int32) (σ1 : Hp) => if v2 = 0 then (some (r2, σ1)) else (if v2 = 1 then (b1 (hR σ1 v0 5) fun (i6 : Nat) => ck (¬ ((0 : Int32) < 0 ∨ hL σ1 i6 ≤ (0 : Int32).toNatClampNeg)) (some (hI σ1 i6 (0 : Int32).toNatClampNeg, σ1))) else (b1 (hR σ1 v0 5) fun (i3 : Nat) => b2 (F_X12_slipsOf n v0 i3 σ1) fun (r5 : Int32) (σ4 : Hp) => some (r5, σ4)))
def F_X12_six (n : Nat) (a0 : Nat) (a1 : Int32) (a2 : Int32) (σ : Hp) : Option (Int32 × Hp) := b1 (hR σ a0 0) fun (i7 : Nat) => ck (¬ ((1 : Int32) < 0 ∨ hL σ i7 ≤ (1 : Int32).toNatClampNeg)) (b2 (F_X12_isIn n a1.toInt64 1 ((hI σ i7 (1 : Int32).toNatClampNeg).toInt64) σ) fun (r9 : Int32) (σ8 : Hp) => if r9 = 0 then (some ((-1), σ8)) else (b2 (F_X12_isIn n a2.toInt64 0 2 σ8) fun (r11 : Int32) (σ10 : Hp) => if r11 = 0 then (some ((-1), σ10)) else (b1 (hR σ10 a0 5) fun (i12 : Nat) => b1 (F_X12_takesAll n a0 i12 σ10) fun (σ13 : Hp) => b1 (hR σ13 a0 5) fun (i14 : Nat) => ck (¬ ((5 : Int32) < 0 ∨ hL σ13 i14 ≤ (5 : Int32).toNatClampNeg)) (lt (pI σ13 i14 (5 : Int32).toNatClampNeg a1) fun (σ15 : Hp) => b2 (F_X12_leaderOf n a0 a1 σ15) fun (r17 : Int32) (σ16 : Hp) => b1 (hR σ16 a0 0) fun (i18 : Nat) => ck (¬ ((3 : Int32) < 0 ∨ hL σ16 i18 ≤ (3 : Int32).toNatClampNeg)) (b2 (F_X12_lesser n (hI σ16 i18 (3 : Int32).toNatClampNeg) a1 σ16) fun (r20 : Int32) (σ19 : Hp) => b1 (hR σ19 a0 0) fun (i21 : Nat) => ck (¬ ((5 : Int32) < 0 ∨ hL σ19 i21 ≤ (5 : Int32).toNatClampNeg)) (if (hI σ19 i21 (5 : Int32).toNatClampNeg) = 1 then (F_X12_six_76 n  a0 a2 1 r20 r17 a0 σ19) else (F_X12_six_76 n  a0 a2 0 r20 r17 a0 σ19)))))))
abbrev rm_X12_lost : Room := { frames := 38, cells := 0, slots := 0, locals := 899 }
theorem h_X12_lost : yX12_lost.cls = RX12 ∧ yX12_lost.cls ≠ "java/lang/invoke/MethodHandle" ∧ yX12_lost.cls ≠ "java/lang/invoke/VarHandle" ∧ (parseMethodDescriptor yX12_lost.desc).map (fun d => d.parameters.length) = some 1 := by decide +kernel
def F_X12_lost (n : Nat) (a0 : Nat) (a1 : Int32) (σ : Hp) : Option (Int32 × Hp) := b2 (F_X12_isIn n a1.toInt64 1 12 σ) fun (r2 : Int32) (σ1 : Hp) => if r2 = 0 then (some ((-1), σ1)) else (b1 (hR σ1 a0 0) fun (i3 : Nat) => ck (¬ ((1 : Int32) < 0 ∨ hL σ1 i3 ≤ (1 : Int32).toNatClampNeg)) (if (hI σ1 i3 (1 : Int32).toNatClampNeg) = 0 then (some ((-3), σ1)) else (b2 (F_X12_runAll n a0 12 σ1) fun (r5 : Int32) (σ4 : Hp) => b1 (hR σ4 a0 5) fun (i6 : Nat) => b2 (F_X12_allHold n a0 i6 σ4) fun (r8 : Int32) (σ7 : Hp) => b2 (F_X12_runAll n a0 a1 σ7) fun (r10 : Int32) (σ9 : Hp) => b1 (hR σ9 a0 5) fun (i11 : Nat) => b2 (F_X12_allHold n a0 i11 σ9) fun (r13 : Int32) (σ12 : Hp) => some (r8 &&& (r13 ^^^ (-1)), σ12))))
abbrev rm_X12_leads : Room := { frames := 37, cells := 0, slots := 0, locals := 878 }
theorem h_X12_leads : yX12_leads.cls = RX12 ∧ yX12_leads.cls ≠ "java/lang/invoke/MethodHandle" ∧ yX12_leads.cls ≠ "java/lang/invoke/VarHandle" ∧ (parseMethodDescriptor yX12_leads.desc).map (fun d => d.parameters.length) = some 1 := by decide +kernel
def F_X12_leads_84 (n : Nat) (K_30 : Nat → Int32 → Int32 → Int32 → Hp → Option (Int32 × Hp)) (v0 : Nat) (v1 : Int32) (v3 : Int32) (s0 : Int32) (s1 : Int32) (σ : Hp) : Option (Int32 × Hp) := K_30 v0 v1 (s1 ||| s0) (v3 + 1) σ
def F_X12_leads_70 (n : Nat) (K_30 : Nat → Int32 → Int32 → Int32 → Hp → Option (Int32 × Hp)) (v0 : Nat) (v1 : Int32) (v3 : Int32) (s0 : Int32) (s1 : Int32) (s2 : Int32) (s3 : Nat) (s4 : Int32) (σ : Hp) : Option (Int32 × Hp) := b2 (F_X12_runs n s3 s2 s1 s0 σ) fun (r2 : Int32) (σ1 : Hp) => if r2 = v1 then (F_X12_leads_84 n K_30 v0 v1 v3 (1 <<< (v3 &&& 31)) s4 σ1) else (F_X12_leads_84 n K_30 v0 v1 v3 0 s4 σ1)
def F_X12_leads_30 (n : Nat)  : Nat → Nat → Int32 → Int32 → Int32 → Hp → Option (Int32 × Hp)
  | 0, _, _, _, _, _ => none
  | f + 1, v0, v1, v2, v3, σ => b1 (hR σ v0 0) fun (i3 : Nat) => ck (¬ ((1 : Int32) < 0 ∨ hL σ i3 ≤ (1 : Int32).toNatClampNeg)) (if (hI σ i3 (1 : Int32).toNatClampNeg) ≤ v3 then (some (v2, σ)) else (b1 (hR σ v0 5) fun (i4 : Nat) => b1 (F_X12_takesAll n v0 i4 σ) fun (σ5 : Hp) => b2 (F_X12_neededNow n v0 σ5) fun (r7 : Int32) (σ6 : Hp) => b1 (hR σ6 v0 0) fun (i8 : Nat) => ck (¬ ((5 : Int32) < 0 ∨ hL σ6 i8 ≤ (5 : Int32).toNatClampNeg)) (if (hI σ6 i8 (5 : Int32).toNatClampNeg) = 1 then (F_X12_leads_70 n (F_X12_leads_30 n  f) v0 v1 v3 1 r7 v3 v0 v2 σ6) else (F_X12_leads_70 n (F_X12_leads_30 n  f) v0 v1 v3 0 r7 v3 v0 v2 σ6))))
def F_X12_leads (n : Nat) (a0 : Nat) (a1 : Int32) (σ : Hp) : Option (Int32 × Hp) := b2 (F_X12_isIn n a1.toInt64 0 2 σ) fun (r10 : Int32) (σ9 : Hp) => if r10 = 0 then (some ((-1), σ9)) else (b1 (hR σ9 a0 0) fun (i11 : Nat) => ck (¬ ((1 : Int32) < 0 ∨ hL σ9 i11 ≤ (1 : Int32).toNatClampNeg)) (if (hI σ9 i11 (1 : Int32).toNatClampNeg) = 0 then (some ((-3), σ9)) else (F_X12_leads_30 n  n a0 a1 0 0 σ9)))
abbrev rm_X12_hands : Room := { frames := 37, cells := 0, slots := 0, locals := 878 }
theorem h_X12_hands : yX12_hands.cls = RX12 ∧ yX12_hands.cls ≠ "java/lang/invoke/MethodHandle" ∧ yX12_hands.cls ≠ "java/lang/invoke/VarHandle" ∧ (parseMethodDescriptor yX12_hands.desc).map (fun d => d.parameters.length) = some 0 := by decide +kernel
def F_X12_hands (n : Nat) (a0 : Nat) (σ : Hp) : Option (Int32 × Hp) := b1 (hR σ a0 0) fun (i1 : Nat) => ck (¬ ((1 : Int32) < 0 ∨ hL σ i1 ≤ (1 : Int32).toNatClampNeg)) (if (hI σ i1 (1 : Int32).toNatClampNeg) = 0 then (some ((-3), σ)) else (b1 (hR σ a0 5) fun (i2 : Nat) => b1 (F_X12_takesAll n a0 i2 σ) fun (σ3 : Hp) => b1 (hR σ3 a0 0) fun (i4 : Nat) => ck (¬ ((1 : Int32) < 0 ∨ hL σ3 i4 ≤ (1 : Int32).toNatClampNeg)) (b2 (F_X12_leaderOf n a0 (hI σ3 i4 (1 : Int32).toNatClampNeg) σ3) fun (r6 : Int32) (σ5 : Hp) => b2 (F_X12_neededNow n a0 σ5) fun (r8 : Int32) (σ7 : Hp) => b2 (F_X12_runs n a0 r6 r8 1 σ7) fun (r10 : Int32) (σ9 : Hp) => b1 (hR σ9 a0 5) fun (i11 : Nat) => b1 (F_X12_takesAll n a0 i11 σ9) fun (σ12 : Hp) => b1 (hR σ12 a0 0) fun (i13 : Nat) => ck (¬ ((1 : Int32) < 0 ∨ hL σ12 i13 ≤ (1 : Int32).toNatClampNeg)) (b2 (F_X12_leaderOf n a0 (hI σ12 i13 (1 : Int32).toNatClampNeg) σ12) fun (r15 : Int32) (σ14 : Hp) => b2 (F_X12_neededNow n a0 σ14) fun (r17 : Int32) (σ16 : Hp) => b2 (F_X12_runs n a0 r15 r17 0 σ16) fun (r19 : Int32) (σ18 : Hp) => some ((10 * r10) + r19, σ18)))))
theorem w_X12_six_76 {σ0 τ : Hp} {r : Int32} (X : SX D cA base p s m args meth c cX12_six 4 (some .int) RX12) (n : Nat)  : ∀ (v0 : Nat) (v2 : Int32) (s0 : Int32) (s1 : Int32) (s2 : Int32) (s3 : Nat) (σ : Hp) (H : Heap) (locs : List Loc) (ls : Array Slot), hT σ v0 12 → hT σ s3 12 → GW D cA base ad σ H → va_S (bA base) s.heap H locs → xT σ0 σ → lv_has ls 4 [(0, .ref (ad v0)), (2, .int v2)] → F_X12_six_76 n  v0 v2 s0 s1 s2 s3 σ = some (r, τ) → W p l e rm_X12_six s m args below meth c H locs 0 0 (ZI below s args D cA base ad σ0 r τ) (F0 m 76 ls [.int s0, .int s1, .int s2, .ref (ad s3)]) := by
  intro v0 v2 s0 s1 s2 s3 σ H locs ls hT_v0 hT_s3 hG hS hE hl hF
  unfold F_X12_six_76 at hF
  obtain ⟨r2, σ1, hz, hF⟩ := b2_ex hF
  refine gx_rI (gx_runV (As := [.int s2, .int s1, .int s0]) (rest := []) X hG hS hT_s3.1 (hT_s3.eq (by decide)) (by decide) rfl (c_X12_runs l D cA base ad σ n s3 s2 s1 s0 hT_s3 hz) k_1274 k_1271 k_1273 ks_50 k_4 (h_X12_runs) rfl rfl ⟨by decide, by decide⟩ rfl hl.1 rfl (Nat.le_of_ble_eq_true rfl) dX12_six_76 ⟨Nat.zero_le _, Nat.zero_le _⟩) hS (fun H locs hG hS hX => ?_)
  have hT_v0 := hX.T hT_v0
  replace hE := hE.trans hX
  refine lv_istore_n (lv' := [(3, .int r2), (0, .ref (ad v0)), (2, .int v2)]) X.1 X.2.1 dX12_six_79 rfl hl (by decide) rfl (fun ls hl => ?_)
  refine lv_iload_n X.1 X.2.1 dX12_six_80 rfl (lv_at hl 2 rfl) ?_
  refine lv_if_ne (tgt := 88) X.1 X.2.1 dX12_six_81 (by decide) (fun hc => ?_) (fun hc => ?_)
  · replace hF := it_f hF hc
    refine lv_iload_n X.1 X.2.1 dX12_six_88 rfl (lv_at hl 2 rfl) ?_
    refine lv_iconst (v := 1) X.1 X.2.1 dX12_six_89 (by decide) ?_
    refine lv_icmp_ne (tgt := 102) X.1 X.2.1 dX12_six_90 (by decide) (fun hc => ?_) (fun hc => ?_)
    · replace hF := it_f hF hc
      refine lv_aload_n X.1 X.2.1 dX12_six_102 rfl (lv_at hl 1 rfl) ?_
      refine lv_aload_n X.1 X.2.1 dX12_six_103 rfl (lv_at hl 1 rfl) ?_
      obtain ⟨i3, hr, hF⟩ := b1_ex hF
      have hT_i3 : hT σ1 i3 13 := gw_T hG hT_v0 (by decide) hr
      refine gx_get 5 (v := .ref (ad i3)) X hG hT_v0.1 (hT_v0.eq (by decide)) (by decide) rfl inX12 (by decide) k_965 (fun _ h => h) (gx_rfv hr) dX12_six_104 ?_
      obtain ⟨r5, σ4, hz, hF⟩ := b2_ex hF
      refine gx_rI (gx_runV (As := [.ref (ad i3)]) (rest := []) X hG hS hT_v0.1 (hT_v0.eq (by decide)) (by decide) rfl (c_X12_slipsOf l D cA base ad σ1 n v0 i3 hT_v0 hT_i3 hz) k_1278 k_1275 k_1277 ks_51 k_4 (h_X12_slipsOf) rfl rfl ⟨by decide, by decide⟩ rfl hl.1 rfl (Nat.le_of_ble_eq_true rfl) dX12_six_107 ⟨Nat.zero_le _, Nat.zero_le _⟩) hS (fun H locs hG hS hX => ?_)
      have hT_v0 := hX.T hT_v0
      replace hE := hE.trans hX
      exact gx_iret X hG hS hE hF dX12_six_110
    · replace hF := it_t hF hc
      refine lv_aload_n X.1 X.2.1 dX12_six_93 rfl (lv_at hl 1 rfl) ?_
      obtain ⟨i6, hr, hF⟩ := b1_ex hF
      have hT_i6 : hT σ1 i6 13 := gw_T hG hT_v0 (by decide) hr
      refine gx_get 5 (v := .ref (ad i6)) X hG hT_v0.1 (hT_v0.eq (by decide)) (by decide) rfl inX12 (by decide) k_965 (fun _ h => h) (gx_rfv hr) dX12_six_94 ?_
      refine lv_iconst (v := 0) X.1 X.2.1 dX12_six_97 (by decide) ?_
      refine gx_iald X hG hT_i6 hF dX12_six_98 (fun hF => ?_)
      refine lv_goto (tgt := 110) X.1 X.2.1 dX12_six_99 (by decide) ?_
      exact gx_iret X hG hS hE hF dX12_six_110
  · replace hF := it_t hF hc
    refine lv_iload_n X.1 X.2.1 dX12_six_84 rfl (lv_at hl 0 rfl) ?_
    refine lv_goto (tgt := 110) X.1 X.2.1 dX12_six_85 (by decide) ?_
    exact gx_iret X hG hS hE hF dX12_six_110
theorem c_X12_six (l : Launch) (D : va_G) (cA : Nat → ClassId) (base : Nat) (ad : Nat → Nat) (σ : Hp) (n : Nat) (a0 : Nat) (a1 : Int32) (a2 : Int32) (hT_a0 : hT σ a0 12) {τ : Hp} {r : Int32} (hF : F_X12_six n a0 a1 a2 σ = some (r, τ)) : MI l yX12_six cX12_six 4 (some .int) rm_X12_six D cA base ad σ [.ref (ad a0), .int a1, .int a2] r τ := by
  refine Met.ofW (cc := cX12_six) (maxL := 4) (ret := (some .int)) (by decide) rfl ?_
  intro p e s m args below meth c s₁ B hml hv
  obtain ⟨rfl, hv⟩ := hv
  have X : SX D cA base p s m ([.ref (ad a0), .int a1, .int a2] : List Value).toArray meth c cX12_six 4 (some .int) RX12 := sx_of B hml hv
  have hG := hv.1
  have hS : va_S (bA base) s.heap s.heap [] := va_S.rf
  have hE := xT.rf σ
  have hl := lv_entry ([.ref (ad a0), .int a1, .int a2]) (n := 4) (Nat.le_of_ble_eq_true rfl)
  rw [lg_entry_eq]
  generalize (lg_sl ([.ref (ad a0), .int a1, .int a2]) ++ List.replicate (4 - (lg_sl ([.ref (ad a0), .int a1, .int a2])).length) Slot.unset).toArray = ls at hl ⊢
  have hl : lv_has ls 4 [(0, .ref (ad a0)), (1, .int a1), (2, .int a2)] := hl
  unfold F_X12_six at hF
  refine lv_iload_n X.1 X.2.1 dX12_six_0 rfl (lv_at hl 1 rfl) ?_
  refine lv_i2l X.1 X.2.1 dX12_six_1 rfl ?_
  refine lv_lconst (v := 1) X.1 X.2.1 dX12_six_2 (by decide) ?_
  refine lv_aload_n X.1 X.2.1 dX12_six_3 rfl (lv_at hl 0 rfl) ?_
  obtain ⟨i7, hr, hF⟩ := b1_ex hF
  have hT_i7 : hT σ i7 13 := gw_T hG hT_a0 (by decide) hr
  refine gx_get 0 (v := .ref (ad i7)) X hG hT_a0.1 (hT_a0.eq (by decide)) (by decide) rfl inX12 (by decide) k_960 (fun _ h => h) (gx_rfv hr) dX12_six_4 ?_
  refine lv_iconst (v := 1) X.1 X.2.1 dX12_six_7 (by decide) ?_
  refine gx_iald X hG hT_i7 hF dX12_six_8 (fun hF => ?_)
  refine lv_i2l X.1 X.2.1 dX12_six_9 rfl ?_
  obtain ⟨r9, σ8, hz, hF⟩ := b2_ex hF
  refine gx_rI (gx_runS (As := [.long a1.toInt64, .long 1, .long ((hI σ i7 (1 : Int32).toNatClampNeg).toInt64)]) (rest := []) X hG hS (c_X12_isIn l D cA base ad σ n a1.toInt64 1 ((hI σ i7 (1 : Int32).toNatClampNeg).toInt64) hz) k_1063 k_1061 k_1062 k_4 (h_X12_isIn.2) rfl rfl ⟨by decide, by decide⟩ rfl hl.1 rfl (Nat.le_of_ble_eq_true rfl) dX12_six_10 ⟨Nat.zero_le _, Nat.zero_le _⟩) hS (fun H locs hG hS hX => ?_)
  have hT_a0 := hX.T hT_a0
  replace hE := hE.trans hX
  refine lv_if_eq (tgt := 28) X.1 X.2.1 dX12_six_13 (by decide) (fun hc => ?_) (fun hc => ?_)
  · replace hF := it_t hF hc
    refine lv_iconst (v := (-1)) X.1 X.2.1 dX12_six_28 (by decide) ?_
    exact gx_iret X hG hS hE hF dX12_six_29
  · replace hF := it_f hF hc
    refine lv_iload_n X.1 X.2.1 dX12_six_16 rfl (lv_at hl 2 rfl) ?_
    refine lv_i2l X.1 X.2.1 dX12_six_17 rfl ?_
    refine lv_lconst (v := 0) X.1 X.2.1 dX12_six_18 (by decide) ?_
    refine lv_ldc2 (v := 2) X.1 X.2.1 X.2.2.2.2.2.1 (X.w k_1291) dX12_six_19 ?_
    obtain ⟨r11, σ10, hz, hF⟩ := b2_ex hF
    refine gx_rI (gx_runS (As := [.long a2.toInt64, .long 0, .long 2]) (rest := []) X hG hS (c_X12_isIn l D cA base ad σ8 n a2.toInt64 0 2 hz) k_1063 k_1061 k_1062 k_4 (h_X12_isIn.2) rfl rfl ⟨by decide, by decide⟩ rfl hl.1 rfl (Nat.le_of_ble_eq_true rfl) dX12_six_22 ⟨Nat.zero_le _, Nat.zero_le _⟩) hS (fun H locs hG hS hX => ?_)
    have hT_a0 := hX.T hT_a0
    replace hE := hE.trans hX
    refine lv_if_ne (tgt := 30) X.1 X.2.1 dX12_six_25 (by decide) (fun hc => ?_) (fun hc => ?_)
    · replace hF := it_f hF hc
      refine lv_aload_n X.1 X.2.1 dX12_six_30 rfl (lv_at hl 0 rfl) ?_
      refine lv_aload_n X.1 X.2.1 dX12_six_31 rfl (lv_at hl 0 rfl) ?_
      obtain ⟨i12, hr, hF⟩ := b1_ex hF
      have hT_i12 : hT σ10 i12 13 := gw_T hG hT_a0 (by decide) hr
      refine gx_get 5 (v := .ref (ad i12)) X hG hT_a0.1 (hT_a0.eq (by decide)) (by decide) rfl inX12 (by decide) k_965 (fun _ h => h) (gx_rfv hr) dX12_six_32 ?_
      obtain ⟨σ13, hz, hF⟩ := b1_ex hF
      refine gx_rV (gx_runV (As := [.ref (ad i12)]) (rest := []) X hG hS hT_a0.1 (hT_a0.eq (by decide)) (by decide) rfl (c_X12_takesAll l D cA base ad σ10 n a0 i12 hT_a0 hT_i12 hz) k_1188 k_1185 k_1187 ks_34 k_4 (h_X12_takesAll) rfl rfl ⟨by decide, by decide⟩ rfl hl.1 rfl (Nat.le_of_ble_eq_true rfl) dX12_six_35 ⟨Nat.zero_le _, Nat.zero_le _⟩) hS (fun H locs hG hS hX => ?_)
      have hT_a0 := hX.T hT_a0
      replace hE := hE.trans hX
      refine lv_aload_n X.1 X.2.1 dX12_six_38 rfl (lv_at hl 0 rfl) ?_
      obtain ⟨i14, hr, hF⟩ := b1_ex hF
      have hT_i14 : hT σ13 i14 13 := gw_T hG hT_a0 (by decide) hr
      refine gx_get 5 (v := .ref (ad i14)) X hG hT_a0.1 (hT_a0.eq (by decide)) (by decide) rfl inX12 (by decide) k_965 (fun _ h => h) (gx_rfv hr) dX12_six_39 ?_
      refine lv_iconst (v := 5) X.1 X.2.1 dX12_six_42 (by decide) ?_
      refine lv_iload_n X.1 X.2.1 dX12_six_43 rfl (lv_at hl 1 rfl) ?_
      refine gx_iast X hG hS hT_i14 hF dX12_six_44 (fun σ15 H locs hG hS hX hF => ?_)
      have hT_a0 := hX.T hT_a0
      replace hE := hE.trans hX
      refine lv_aload_n X.1 X.2.1 dX12_six_45 rfl (lv_at hl 0 rfl) ?_
      refine lv_aload_n X.1 X.2.1 dX12_six_46 rfl (lv_at hl 0 rfl) ?_
      refine lv_iload_n X.1 X.2.1 dX12_six_47 rfl (lv_at hl 1 rfl) ?_
      obtain ⟨r17, σ16, hz, hF⟩ := b2_ex hF
      refine gx_rI (gx_runV (As := [.int a1]) (rest := [.ref (ad a0)]) X hG hS hT_a0.1 (hT_a0.eq (by decide)) (by decide) rfl (c_X12_leaderOf l D cA base ad σ15 n a0 a1 hT_a0 hz) k_1192 k_1189 k_1191 ks_35 k_4 (h_X12_leaderOf) rfl rfl ⟨by decide, by decide⟩ rfl hl.1 rfl (Nat.le_of_ble_eq_true rfl) dX12_six_48 ⟨Nat.zero_le _, Nat.zero_le _⟩) hS (fun H locs hG hS hX => ?_)
      have hT_a0 := hX.T hT_a0
      replace hE := hE.trans hX
      refine lv_aload_n X.1 X.2.1 dX12_six_51 rfl (lv_at hl 0 rfl) ?_
      obtain ⟨i18, hr, hF⟩ := b1_ex hF
      have hT_i18 : hT σ16 i18 13 := gw_T hG hT_a0 (by decide) hr
      refine gx_get 0 (v := .ref (ad i18)) X hG hT_a0.1 (hT_a0.eq (by decide)) (by decide) rfl inX12 (by decide) k_960 (fun _ h => h) (gx_rfv hr) dX12_six_52 ?_
      refine lv_iconst (v := 3) X.1 X.2.1 dX12_six_55 (by decide) ?_
      refine gx_iald X hG hT_i18 hF dX12_six_56 (fun hF => ?_)
      refine lv_iload_n X.1 X.2.1 dX12_six_57 rfl (lv_at hl 1 rfl) ?_
      obtain ⟨r20, σ19, hz, hF⟩ := b2_ex hF
      refine gx_rI (gx_runS (As := [.int (hI σ16 i18 (3 : Int32).toNatClampNeg), .int a1]) (rest := [.int r17, .ref (ad a0)]) X hG hS (c_X12_lesser l D cA base ad σ16 n (hI σ16 i18 (3 : Int32).toNatClampNeg) a1 hz) k_1220 k_1218 k_1219 k_4 (h_X12_lesser.2) rfl rfl ⟨by decide, by decide⟩ rfl hl.1 rfl (Nat.le_of_ble_eq_true rfl) dX12_six_58 ⟨Nat.zero_le _, Nat.zero_le _⟩) hS (fun H locs hG hS hX => ?_)
      have hT_a0 := hX.T hT_a0
      replace hE := hE.trans hX
      refine lv_aload_n X.1 X.2.1 dX12_six_61 rfl (lv_at hl 0 rfl) ?_
      obtain ⟨i21, hr, hF⟩ := b1_ex hF
      have hT_i21 : hT σ19 i21 13 := gw_T hG hT_a0 (by decide) hr
      refine gx_get 0 (v := .ref (ad i21)) X hG hT_a0.1 (hT_a0.eq (by decide)) (by decide) rfl inX12 (by decide) k_960 (fun _ h => h) (gx_rfv hr) dX12_six_62 ?_
      refine lv_iconst (v := 5) X.1 X.2.1 dX12_six_65 (by decide) ?_
      refine gx_iald X hG hT_i21 hF dX12_six_66 (fun hF => ?_)
      refine lv_iconst (v := 1) X.1 X.2.1 dX12_six_67 (by decide) ?_
      refine lv_icmp_ne (tgt := 75) X.1 X.2.1 dX12_six_68 (by decide) (fun hc => ?_) (fun hc => ?_)
      · replace hF := it_f hF hc
        refine lv_iconst (v := 0) X.1 X.2.1 dX12_six_75 (by decide) ?_
        exact w_X12_six_76 X n  a0 a2 0 r20 r17 a0 σ19 _ _ ls hT_a0 hT_a0 hG hS hE (lv_sub hl [0, 2] rfl) hF
      · replace hF := it_t hF hc
        refine lv_iconst (v := 1) X.1 X.2.1 dX12_six_71 (by decide) ?_
        refine lv_goto (tgt := 76) X.1 X.2.1 dX12_six_72 (by decide) ?_
        exact w_X12_six_76 X n  a0 a2 1 r20 r17 a0 σ19 _ _ ls hT_a0 hT_a0 hG hS hE (lv_sub hl [0, 2] rfl) hF
    · replace hF := it_t hF hc
      refine lv_iconst (v := (-1)) X.1 X.2.1 dX12_six_28 (by decide) ?_
      exact gx_iret X hG hS hE hF dX12_six_29
theorem c_X12_lost (l : Launch) (D : va_G) (cA : Nat → ClassId) (base : Nat) (ad : Nat → Nat) (σ : Hp) (n : Nat) (a0 : Nat) (a1 : Int32) (hT_a0 : hT σ a0 12) {τ : Hp} {r : Int32} (hF : F_X12_lost n a0 a1 σ = some (r, τ)) : MI l yX12_lost cX12_lost 4 (some .int) rm_X12_lost D cA base ad σ [.ref (ad a0), .int a1] r τ := by
  refine Met.ofW (cc := cX12_lost) (maxL := 4) (ret := (some .int)) (by decide) rfl ?_
  intro p e s m args below meth c s₁ B hml hv
  obtain ⟨rfl, hv⟩ := hv
  have X : SX D cA base p s m ([.ref (ad a0), .int a1] : List Value).toArray meth c cX12_lost 4 (some .int) RX12 := sx_of B hml hv
  have hG := hv.1
  have hS : va_S (bA base) s.heap s.heap [] := va_S.rf
  have hE := xT.rf σ
  have hl := lv_entry ([.ref (ad a0), .int a1]) (n := 4) (Nat.le_of_ble_eq_true rfl)
  rw [lg_entry_eq]
  generalize (lg_sl ([.ref (ad a0), .int a1]) ++ List.replicate (4 - (lg_sl ([.ref (ad a0), .int a1])).length) Slot.unset).toArray = ls at hl ⊢
  have hl : lv_has ls 4 [(0, .ref (ad a0)), (1, .int a1)] := hl
  unfold F_X12_lost at hF
  refine lv_iload_n X.1 X.2.1 dX12_lost_0 rfl (lv_at hl 1 rfl) ?_
  refine lv_i2l X.1 X.2.1 dX12_lost_1 rfl ?_
  refine lv_lconst (v := 1) X.1 X.2.1 dX12_lost_2 (by decide) ?_
  refine lv_ldc2 (v := 12) X.1 X.2.1 X.2.2.2.2.2.1 (X.w k_1178) dX12_lost_3 ?_
  obtain ⟨r2, σ1, hz, hF⟩ := b2_ex hF
  refine gx_rI (gx_runS (As := [.long a1.toInt64, .long 1, .long 12]) (rest := []) X hG hS (c_X12_isIn l D cA base ad σ n a1.toInt64 1 12 hz) k_1063 k_1061 k_1062 k_4 (h_X12_isIn.2) rfl rfl ⟨by decide, by decide⟩ rfl hl.1 rfl (Nat.le_of_ble_eq_true rfl) dX12_lost_6 ⟨Nat.zero_le _, Nat.zero_le _⟩) hS (fun H locs hG hS hX => ?_)
  have hT_a0 := hX.T hT_a0
  replace hE := hE.trans hX
  refine lv_if_ne (tgt := 14) X.1 X.2.1 dX12_lost_9 (by decide) (fun hc => ?_) (fun hc => ?_)
  · replace hF := it_f hF hc
    refine lv_aload_n X.1 X.2.1 dX12_lost_14 rfl (lv_at hl 0 rfl) ?_
    obtain ⟨i3, hr, hF⟩ := b1_ex hF
    have hT_i3 : hT σ1 i3 13 := gw_T hG hT_a0 (by decide) hr
    refine gx_get 0 (v := .ref (ad i3)) X hG hT_a0.1 (hT_a0.eq (by decide)) (by decide) rfl inX12 (by decide) k_960 (fun _ h => h) (gx_rfv hr) dX12_lost_15 ?_
    refine lv_iconst (v := 1) X.1 X.2.1 dX12_lost_18 (by decide) ?_
    refine gx_iald X hG hT_i3 hF dX12_lost_19 (fun hF => ?_)
    refine lv_if_ne (tgt := 26) X.1 X.2.1 dX12_lost_20 (by decide) (fun hc => ?_) (fun hc => ?_)
    · replace hF := it_f hF hc
      refine lv_aload_n X.1 X.2.1 dX12_lost_26 rfl (lv_at hl 0 rfl) ?_
      refine lv_bipush (v := 12) X.1 X.2.1 dX12_lost_27 (by decide) ?_
      obtain ⟨r5, σ4, hz, hF⟩ := b2_ex hF
      refine gx_rI (gx_runV (As := [.int 12]) (rest := []) X hG hS hT_a0.1 (hT_a0.eq (by decide)) (by decide) rfl (c_X12_runAll l D cA base ad σ1 n a0 12 hT_a0 hz) k_1270 k_1267 k_1269 ks_49 k_4 (h_X12_runAll) rfl rfl ⟨by decide, by decide⟩ rfl hl.1 rfl (Nat.le_of_ble_eq_true rfl) dX12_lost_29 ⟨Nat.zero_le _, Nat.zero_le _⟩) hS (fun H locs hG hS hX => ?_)
      have hT_a0 := hX.T hT_a0
      replace hE := hE.trans hX
      refine lv_istore_n (lv' := [(2, .int r5), (0, .ref (ad a0)), (1, .int a1)]) X.1 X.2.1 dX12_lost_32 rfl hl (by decide) rfl (fun ls hl => ?_)
      refine lv_aload_n X.1 X.2.1 dX12_lost_33 rfl (lv_at hl 1 rfl) ?_
      refine lv_aload_n X.1 X.2.1 dX12_lost_34 rfl (lv_at hl 1 rfl) ?_
      obtain ⟨i6, hr, hF⟩ := b1_ex hF
      have hT_i6 : hT σ4 i6 13 := gw_T hG hT_a0 (by decide) hr
      refine gx_get 5 (v := .ref (ad i6)) X hG hT_a0.1 (hT_a0.eq (by decide)) (by decide) rfl inX12 (by decide) k_965 (fun _ h => h) (gx_rfv hr) dX12_lost_35 ?_
      obtain ⟨r8, σ7, hz, hF⟩ := b2_ex hF
      refine gx_rI (gx_runV (As := [.ref (ad i6)]) (rest := []) X hG hS hT_a0.1 (hT_a0.eq (by decide)) (by decide) rfl (c_X12_allHold l D cA base ad σ4 n a0 i6 hT_a0 hT_i6 hz) k_1240 k_1237 k_1239 ks_45 k_4 (h_X12_allHold) rfl rfl ⟨by decide, by decide⟩ rfl hl.1 rfl (Nat.le_of_ble_eq_true rfl) dX12_lost_38 ⟨Nat.zero_le _, Nat.zero_le _⟩) hS (fun H locs hG hS hX => ?_)
      have hT_a0 := hX.T hT_a0
      replace hE := hE.trans hX
      refine lv_istore_n (lv' := [(3, .int r8), (2, .int r5), (0, .ref (ad a0)), (1, .int a1)]) X.1 X.2.1 dX12_lost_41 rfl hl (by decide) rfl (fun ls hl => ?_)
      refine lv_aload_n X.1 X.2.1 dX12_lost_42 rfl (lv_at hl 2 rfl) ?_
      refine lv_iload_n X.1 X.2.1 dX12_lost_43 rfl (lv_at hl 3 rfl) ?_
      obtain ⟨r10, σ9, hz, hF⟩ := b2_ex hF
      refine gx_rI (gx_runV (As := [.int a1]) (rest := []) X hG hS hT_a0.1 (hT_a0.eq (by decide)) (by decide) rfl (c_X12_runAll l D cA base ad σ7 n a0 a1 hT_a0 hz) k_1270 k_1267 k_1269 ks_49 k_4 (h_X12_runAll) rfl rfl ⟨by decide, by decide⟩ rfl hl.1 rfl (Nat.le_of_ble_eq_true rfl) dX12_lost_44 ⟨Nat.zero_le _, Nat.zero_le _⟩) hS (fun H locs hG hS hX => ?_)
      have hT_a0 := hX.T hT_a0
      replace hE := hE.trans hX
      refine lv_istore_n (lv' := [(2, .int r10), (3, .int r8), (0, .ref (ad a0)), (1, .int a1)]) X.1 X.2.1 dX12_lost_47 rfl hl (by decide) rfl (fun ls hl => ?_)
      refine lv_iload_n X.1 X.2.1 dX12_lost_48 rfl (lv_at hl 1 rfl) ?_
      refine lv_aload_n X.1 X.2.1 dX12_lost_49 rfl (lv_at hl 2 rfl) ?_
      refine lv_aload_n X.1 X.2.1 dX12_lost_50 rfl (lv_at hl 2 rfl) ?_
      obtain ⟨i11, hr, hF⟩ := b1_ex hF
      have hT_i11 : hT σ9 i11 13 := gw_T hG hT_a0 (by decide) hr
      refine gx_get 5 (v := .ref (ad i11)) X hG hT_a0.1 (hT_a0.eq (by decide)) (by decide) rfl inX12 (by decide) k_965 (fun _ h => h) (gx_rfv hr) dX12_lost_51 ?_
      obtain ⟨r13, σ12, hz, hF⟩ := b2_ex hF
      refine gx_rI (gx_runV (As := [.ref (ad i11)]) (rest := [.int r8]) X hG hS hT_a0.1 (hT_a0.eq (by decide)) (by decide) rfl (c_X12_allHold l D cA base ad σ9 n a0 i11 hT_a0 hT_i11 hz) k_1240 k_1237 k_1239 ks_45 k_4 (h_X12_allHold) rfl rfl ⟨by decide, by decide⟩ rfl hl.1 rfl (Nat.le_of_ble_eq_true rfl) dX12_lost_54 ⟨Nat.zero_le _, Nat.zero_le _⟩) hS (fun H locs hG hS hX => ?_)
      have hT_a0 := hX.T hT_a0
      replace hE := hE.trans hX
      refine lv_iconst (v := (-1)) X.1 X.2.1 dX12_lost_57 (by decide) ?_
      refine lv_ixor X.1 X.2.1 dX12_lost_58 ?_
      refine lv_iand X.1 X.2.1 dX12_lost_59 ?_
      exact gx_iret X hG hS hE hF dX12_lost_60
    · replace hF := it_t hF hc
      refine lv_bipush (v := (-3)) X.1 X.2.1 dX12_lost_23 (by decide) ?_
      exact gx_iret X hG hS hE hF dX12_lost_25
  · replace hF := it_t hF hc
    refine lv_iconst (v := (-1)) X.1 X.2.1 dX12_lost_12 (by decide) ?_
    exact gx_iret X hG hS hE hF dX12_lost_13
theorem w_X12_leads_84 {σ0 τ : Hp} {r : Int32} (X : SX D cA base p s m args meth c cX12_leads 4 (some .int) RX12) (n : Nat) (K_30 : Nat → Int32 → Int32 → Int32 → Hp → Option (Int32 × Hp)) (hK_30 : ∀ (v0 : Nat) (v1 : Int32) (v2 : Int32) (v3 : Int32) (σ : Hp) (H : Heap) (locs : List Loc) (ls : Array Slot), hT σ v0 12 → GW D cA base ad σ H → va_S (bA base) s.heap H locs → xT σ0 σ → lv_has ls 4 [(0, .ref (ad v0)), (1, .int v1), (2, .int v2), (3, .int v3)] → K_30 v0 v1 v2 v3 σ = some (r, τ) → W p l e rm_X12_leads s m args below meth c H locs 0 0 (ZI below s args D cA base ad σ0 r τ) (F0 m 30 ls [])) : ∀ (v0 : Nat) (v1 : Int32) (v3 : Int32) (s0 : Int32) (s1 : Int32) (σ : Hp) (H : Heap) (locs : List Loc) (ls : Array Slot), hT σ v0 12 → GW D cA base ad σ H → va_S (bA base) s.heap H locs → xT σ0 σ → lv_has ls 4 [(0, .ref (ad v0)), (1, .int v1), (3, .int v3)] → F_X12_leads_84 n K_30 v0 v1 v3 s0 s1 σ = some (r, τ) → W p l e rm_X12_leads s m args below meth c H locs 0 0 (ZI below s args D cA base ad σ0 r τ) (F0 m 84 ls [.int s0, .int s1]) := by
  intro v0 v1 v3 s0 s1 σ H locs ls hT_v0 hG hS hE hl hF
  unfold F_X12_leads_84 at hF
  refine lv_ior X.1 X.2.1 dX12_leads_84 ?_
  refine lv_istore_n (lv' := [(2, .int (s1 ||| s0)), (0, .ref (ad v0)), (1, .int v1), (3, .int v3)]) X.1 X.2.1 dX12_leads_85 rfl hl (by decide) rfl (fun ls hl => ?_)
  refine lv_iinc (v := v3 + 1) (lv' := [(3, .int (v3 + 1)), (2, .int (s1 ||| s0)), (0, .ref (ad v0)), (1, .int v1)]) X.1 X.2.1 dX12_leads_86 hl (k := 3) rfl rfl (by decide) rfl (fun ls hl => ?_)
  refine lv_goto (tgt := 30) X.1 X.2.1 dX12_leads_89 (by decide) ?_
  exact hK_30 v0 v1 (s1 ||| s0) (v3 + 1) σ _ _ ls hT_v0 hG hS hE (lv_sub hl [2, 3, 1, 0] rfl) hF
theorem w_X12_leads_70 {σ0 τ : Hp} {r : Int32} (X : SX D cA base p s m args meth c cX12_leads 4 (some .int) RX12) (n : Nat) (K_30 : Nat → Int32 → Int32 → Int32 → Hp → Option (Int32 × Hp)) (hK_30 : ∀ (v0 : Nat) (v1 : Int32) (v2 : Int32) (v3 : Int32) (σ : Hp) (H : Heap) (locs : List Loc) (ls : Array Slot), hT σ v0 12 → GW D cA base ad σ H → va_S (bA base) s.heap H locs → xT σ0 σ → lv_has ls 4 [(0, .ref (ad v0)), (1, .int v1), (2, .int v2), (3, .int v3)] → K_30 v0 v1 v2 v3 σ = some (r, τ) → W p l e rm_X12_leads s m args below meth c H locs 0 0 (ZI below s args D cA base ad σ0 r τ) (F0 m 30 ls [])) : ∀ (v0 : Nat) (v1 : Int32) (v3 : Int32) (s0 : Int32) (s1 : Int32) (s2 : Int32) (s3 : Nat) (s4 : Int32) (σ : Hp) (H : Heap) (locs : List Loc) (ls : Array Slot), hT σ v0 12 → hT σ s3 12 → GW D cA base ad σ H → va_S (bA base) s.heap H locs → xT σ0 σ → lv_has ls 4 [(0, .ref (ad v0)), (1, .int v1), (3, .int v3)] → F_X12_leads_70 n K_30 v0 v1 v3 s0 s1 s2 s3 s4 σ = some (r, τ) → W p l e rm_X12_leads s m args below meth c H locs 0 0 (ZI below s args D cA base ad σ0 r τ) (F0 m 70 ls [.int s0, .int s1, .int s2, .ref (ad s3), .int s4]) := by
  intro v0 v1 v3 s0 s1 s2 s3 s4 σ H locs ls hT_v0 hT_s3 hG hS hE hl hF
  unfold F_X12_leads_70 at hF
  obtain ⟨r2, σ1, hz, hF⟩ := b2_ex hF
  refine gx_rI (gx_runV (As := [.int s2, .int s1, .int s0]) (rest := [.int s4]) X hG hS hT_s3.1 (hT_s3.eq (by decide)) (by decide) rfl (c_X12_runs l D cA base ad σ n s3 s2 s1 s0 hT_s3 hz) k_1274 k_1271 k_1273 ks_50 k_4 (h_X12_runs) rfl rfl ⟨by decide, by decide⟩ rfl hl.1 rfl (Nat.le_of_ble_eq_true rfl) dX12_leads_70 ⟨Nat.zero_le _, Nat.zero_le _⟩) hS (fun H locs hG hS hX => ?_)
  have hT_v0 := hX.T hT_v0
  replace hE := hE.trans hX
  refine lv_iload_n X.1 X.2.1 dX12_leads_73 rfl (lv_at hl 1 rfl) ?_
  refine lv_icmp_ne (tgt := 83) X.1 X.2.1 dX12_leads_74 (by decide) (fun hc => ?_) (fun hc => ?_)
  · replace hF := it_f hF hc
    refine lv_iconst (v := 0) X.1 X.2.1 dX12_leads_83 (by decide) ?_
    exact w_X12_leads_84 X n K_30 hK_30 v0 v1 v3 0 s4 σ1 _ _ ls hT_v0 hG hS hE (lv_sub hl [0, 1, 2] rfl) hF
  · replace hF := it_t hF hc
    refine lv_iconst (v := 1) X.1 X.2.1 dX12_leads_77 (by decide) ?_
    refine lv_iload_n X.1 X.2.1 dX12_leads_78 rfl (lv_at hl 2 rfl) ?_
    refine lv_ishl X.1 X.2.1 dX12_leads_79 ?_
    refine lv_goto (tgt := 84) X.1 X.2.1 dX12_leads_80 (by decide) ?_
    exact w_X12_leads_84 X n K_30 hK_30 v0 v1 v3 (1 <<< (v3 &&& 31)) s4 σ1 _ _ ls hT_v0 hG hS hE (lv_sub hl [0, 1, 2] rfl) hF
theorem w_X12_leads_30 {σ0 τ : Hp} {r : Int32} (X : SX D cA base p s m args meth c cX12_leads 4 (some .int) RX12) (n : Nat)  : ∀ f : Nat, ∀ (v0 : Nat) (v1 : Int32) (v2 : Int32) (v3 : Int32) (σ : Hp) (H : Heap) (locs : List Loc) (ls : Array Slot), hT σ v0 12 → GW D cA base ad σ H → va_S (bA base) s.heap H locs → xT σ0 σ → lv_has ls 4 [(0, .ref (ad v0)), (1, .int v1), (2, .int v2), (3, .int v3)] → F_X12_leads_30 n  f v0 v1 v2 v3 σ = some (r, τ) → W p l e rm_X12_leads s m args below meth c H locs 0 0 (ZI below s args D cA base ad σ0 r τ) (F0 m 30 ls []) := by
  intro f
  induction f with
  | zero => intro v0 v1 v2 v3 σ H locs ls h0 hG hS hE hl hF
            rw [F_X12_leads_30] at hF; cases hF
  | succ f ih =>
    intro v0 v1 v2 v3 σ H locs ls hT_v0 hG hS hE hl hF
    rw [F_X12_leads_30] at hF
    refine lv_iload_n X.1 X.2.1 dX12_leads_30 rfl (lv_at hl 3 rfl) ?_
    refine lv_aload_n X.1 X.2.1 dX12_leads_31 rfl (lv_at hl 0 rfl) ?_
    obtain ⟨i3, hr, hF⟩ := b1_ex hF
    have hT_i3 : hT σ i3 13 := gw_T hG hT_v0 (by decide) hr
    refine gx_get 0 (v := .ref (ad i3)) X hG hT_v0.1 (hT_v0.eq (by decide)) (by decide) rfl inX12 (by decide) k_960 (fun _ h => h) (gx_rfv hr) dX12_leads_32 ?_
    refine lv_iconst (v := 1) X.1 X.2.1 dX12_leads_35 (by decide) ?_
    refine gx_iald X hG hT_i3 hF dX12_leads_36 (fun hF => ?_)
    refine lv_icmp_ge (tgt := 92) X.1 X.2.1 dX12_leads_37 (by decide) (fun hc => ?_) (fun hc => ?_)
    · replace hF := it_t hF hc
      refine lv_iload_n X.1 X.2.1 dX12_leads_92 rfl (lv_at hl 2 rfl) ?_
      exact gx_iret X hG hS hE hF dX12_leads_93
    · replace hF := it_f hF hc
      refine lv_aload_n X.1 X.2.1 dX12_leads_40 rfl (lv_at hl 0 rfl) ?_
      refine lv_aload_n X.1 X.2.1 dX12_leads_41 rfl (lv_at hl 0 rfl) ?_
      obtain ⟨i4, hr, hF⟩ := b1_ex hF
      have hT_i4 : hT σ i4 13 := gw_T hG hT_v0 (by decide) hr
      refine gx_get 5 (v := .ref (ad i4)) X hG hT_v0.1 (hT_v0.eq (by decide)) (by decide) rfl inX12 (by decide) k_965 (fun _ h => h) (gx_rfv hr) dX12_leads_42 ?_
      obtain ⟨σ5, hz, hF⟩ := b1_ex hF
      refine gx_rV (gx_runV (As := [.ref (ad i4)]) (rest := []) X hG hS hT_v0.1 (hT_v0.eq (by decide)) (by decide) rfl (c_X12_takesAll l D cA base ad σ n v0 i4 hT_v0 hT_i4 hz) k_1188 k_1185 k_1187 ks_34 k_4 (h_X12_takesAll) rfl rfl ⟨by decide, by decide⟩ rfl hl.1 rfl (Nat.le_of_ble_eq_true rfl) dX12_leads_45 ⟨Nat.zero_le _, Nat.zero_le _⟩) hS (fun H locs hG hS hX => ?_)
      have hT_v0 := hX.T hT_v0
      replace hE := hE.trans hX
      refine lv_iload_n X.1 X.2.1 dX12_leads_48 rfl (lv_at hl 2 rfl) ?_
      refine lv_aload_n X.1 X.2.1 dX12_leads_49 rfl (lv_at hl 0 rfl) ?_
      refine lv_iload_n X.1 X.2.1 dX12_leads_50 rfl (lv_at hl 3 rfl) ?_
      refine lv_aload_n X.1 X.2.1 dX12_leads_51 rfl (lv_at hl 0 rfl) ?_
      obtain ⟨r7, σ6, hz, hF⟩ := b2_ex hF
      refine gx_rI (gx_runV (As := []) (rest := [.int v3, .ref (ad v0), .int v2]) X hG hS hT_v0.1 (hT_v0.eq (by decide)) (by decide) rfl (c_X12_neededNow l D cA base ad σ5 n v0 hT_v0 hz) k_1217 k_1214 k_1216 ks_40 k_4 (h_X12_neededNow) rfl rfl ⟨by decide, by decide⟩ rfl hl.1 rfl (Nat.le_of_ble_eq_true rfl) dX12_leads_52 ⟨Nat.zero_le _, Nat.zero_le _⟩) hS (fun H locs hG hS hX => ?_)
      have hT_v0 := hX.T hT_v0
      replace hE := hE.trans hX
      refine lv_aload_n X.1 X.2.1 dX12_leads_55 rfl (lv_at hl 0 rfl) ?_
      obtain ⟨i8, hr, hF⟩ := b1_ex hF
      have hT_i8 : hT σ6 i8 13 := gw_T hG hT_v0 (by decide) hr
      refine gx_get 0 (v := .ref (ad i8)) X hG hT_v0.1 (hT_v0.eq (by decide)) (by decide) rfl inX12 (by decide) k_960 (fun _ h => h) (gx_rfv hr) dX12_leads_56 ?_
      refine lv_iconst (v := 5) X.1 X.2.1 dX12_leads_59 (by decide) ?_
      refine gx_iald X hG hT_i8 hF dX12_leads_60 (fun hF => ?_)
      refine lv_iconst (v := 1) X.1 X.2.1 dX12_leads_61 (by decide) ?_
      refine lv_icmp_ne (tgt := 69) X.1 X.2.1 dX12_leads_62 (by decide) (fun hc => ?_) (fun hc => ?_)
      · replace hF := it_f hF hc
        refine lv_iconst (v := 0) X.1 X.2.1 dX12_leads_69 (by decide) ?_
        exact w_X12_leads_70 X n (F_X12_leads_30 n  f) ih v0 v1 v3 0 r7 v3 v0 v2 σ6 _ _ ls hT_v0 hT_v0 hG hS hE (lv_sub hl [0, 1, 3] rfl) hF
      · replace hF := it_t hF hc
        refine lv_iconst (v := 1) X.1 X.2.1 dX12_leads_65 (by decide) ?_
        refine lv_goto (tgt := 70) X.1 X.2.1 dX12_leads_66 (by decide) ?_
        exact w_X12_leads_70 X n (F_X12_leads_30 n  f) ih v0 v1 v3 1 r7 v3 v0 v2 σ6 _ _ ls hT_v0 hT_v0 hG hS hE (lv_sub hl [0, 1, 3] rfl) hF
theorem c_X12_leads (l : Launch) (D : va_G) (cA : Nat → ClassId) (base : Nat) (ad : Nat → Nat) (σ : Hp) (n : Nat) (a0 : Nat) (a1 : Int32) (hT_a0 : hT σ a0 12) {τ : Hp} {r : Int32} (hF : F_X12_leads n a0 a1 σ = some (r, τ)) : MI l yX12_leads cX12_leads 4 (some .int) rm_X12_leads D cA base ad σ [.ref (ad a0), .int a1] r τ := by
  refine Met.ofW (cc := cX12_leads) (maxL := 4) (ret := (some .int)) (by decide) rfl ?_
  intro p e s m args below meth c s₁ B hml hv
  obtain ⟨rfl, hv⟩ := hv
  have X : SX D cA base p s m ([.ref (ad a0), .int a1] : List Value).toArray meth c cX12_leads 4 (some .int) RX12 := sx_of B hml hv
  have hG := hv.1
  have hS : va_S (bA base) s.heap s.heap [] := va_S.rf
  have hE := xT.rf σ
  have hl := lv_entry ([.ref (ad a0), .int a1]) (n := 4) (Nat.le_of_ble_eq_true rfl)
  rw [lg_entry_eq]
  generalize (lg_sl ([.ref (ad a0), .int a1]) ++ List.replicate (4 - (lg_sl ([.ref (ad a0), .int a1])).length) Slot.unset).toArray = ls at hl ⊢
  have hl : lv_has ls 4 [(0, .ref (ad a0)), (1, .int a1)] := hl
  unfold F_X12_leads at hF
  refine lv_iload_n X.1 X.2.1 dX12_leads_0 rfl (lv_at hl 1 rfl) ?_
  refine lv_i2l X.1 X.2.1 dX12_leads_1 rfl ?_
  refine lv_lconst (v := 0) X.1 X.2.1 dX12_leads_2 (by decide) ?_
  refine lv_ldc2 (v := 2) X.1 X.2.1 X.2.2.2.2.2.1 (X.w k_1291) dX12_leads_3 ?_
  obtain ⟨r10, σ9, hz, hF⟩ := b2_ex hF
  refine gx_rI (gx_runS (As := [.long a1.toInt64, .long 0, .long 2]) (rest := []) X hG hS (c_X12_isIn l D cA base ad σ n a1.toInt64 0 2 hz) k_1063 k_1061 k_1062 k_4 (h_X12_isIn.2) rfl rfl ⟨by decide, by decide⟩ rfl hl.1 rfl (Nat.le_of_ble_eq_true rfl) dX12_leads_6 ⟨Nat.zero_le _, Nat.zero_le _⟩) hS (fun H locs hG hS hX => ?_)
  have hT_a0 := hX.T hT_a0
  replace hE := hE.trans hX
  refine lv_if_ne (tgt := 14) X.1 X.2.1 dX12_leads_9 (by decide) (fun hc => ?_) (fun hc => ?_)
  · replace hF := it_f hF hc
    refine lv_aload_n X.1 X.2.1 dX12_leads_14 rfl (lv_at hl 0 rfl) ?_
    obtain ⟨i11, hr, hF⟩ := b1_ex hF
    have hT_i11 : hT σ9 i11 13 := gw_T hG hT_a0 (by decide) hr
    refine gx_get 0 (v := .ref (ad i11)) X hG hT_a0.1 (hT_a0.eq (by decide)) (by decide) rfl inX12 (by decide) k_960 (fun _ h => h) (gx_rfv hr) dX12_leads_15 ?_
    refine lv_iconst (v := 1) X.1 X.2.1 dX12_leads_18 (by decide) ?_
    refine gx_iald X hG hT_i11 hF dX12_leads_19 (fun hF => ?_)
    refine lv_if_ne (tgt := 26) X.1 X.2.1 dX12_leads_20 (by decide) (fun hc => ?_) (fun hc => ?_)
    · replace hF := it_f hF hc
      refine lv_iconst (v := 0) X.1 X.2.1 dX12_leads_26 (by decide) ?_
      refine lv_istore_n (lv' := [(2, .int 0), (0, .ref (ad a0)), (1, .int a1)]) X.1 X.2.1 dX12_leads_27 rfl hl (by decide) rfl (fun ls hl => ?_)
      refine lv_iconst (v := 0) X.1 X.2.1 dX12_leads_28 (by decide) ?_
      refine lv_istore_n (lv' := [(3, .int 0), (2, .int 0), (0, .ref (ad a0)), (1, .int a1)]) X.1 X.2.1 dX12_leads_29 rfl hl (by decide) rfl (fun ls hl => ?_)
      exact w_X12_leads_30 X n  n a0 a1 0 0 σ9 _ _ ls hT_a0 hG hS hE (lv_sub hl [2, 3, 1, 0] rfl) hF
    · replace hF := it_t hF hc
      refine lv_bipush (v := (-3)) X.1 X.2.1 dX12_leads_23 (by decide) ?_
      exact gx_iret X hG hS hE hF dX12_leads_25
  · replace hF := it_t hF hc
    refine lv_iconst (v := (-1)) X.1 X.2.1 dX12_leads_12 (by decide) ?_
    exact gx_iret X hG hS hE hF dX12_leads_13
theorem c_X12_hands (l : Launch) (D : va_G) (cA : Nat → ClassId) (base : Nat) (ad : Nat → Nat) (σ : Hp) (n : Nat) (a0 : Nat) (hT_a0 : hT σ a0 12) {τ : Hp} {r : Int32} (hF : F_X12_hands n a0 σ = some (r, τ)) : MI l yX12_hands cX12_hands 2 (some .int) rm_X12_hands D cA base ad σ [.ref (ad a0)] r τ := by
  refine Met.ofW (cc := cX12_hands) (maxL := 2) (ret := (some .int)) (by decide) rfl ?_
  intro p e s m args below meth c s₁ B hml hv
  obtain ⟨rfl, hv⟩ := hv
  have X : SX D cA base p s m ([.ref (ad a0)] : List Value).toArray meth c cX12_hands 2 (some .int) RX12 := sx_of B hml hv
  have hG := hv.1
  have hS : va_S (bA base) s.heap s.heap [] := va_S.rf
  have hE := xT.rf σ
  have hl := lv_entry ([.ref (ad a0)]) (n := 2) (Nat.le_of_ble_eq_true rfl)
  rw [lg_entry_eq]
  generalize (lg_sl ([.ref (ad a0)]) ++ List.replicate (2 - (lg_sl ([.ref (ad a0)])).length) Slot.unset).toArray = ls at hl ⊢
  have hl : lv_has ls 2 [(0, .ref (ad a0))] := hl
  unfold F_X12_hands at hF
  refine lv_aload_n X.1 X.2.1 dX12_hands_0 rfl (lv_at hl 0 rfl) ?_
  obtain ⟨i1, hr, hF⟩ := b1_ex hF
  have hT_i1 : hT σ i1 13 := gw_T hG hT_a0 (by decide) hr
  refine gx_get 0 (v := .ref (ad i1)) X hG hT_a0.1 (hT_a0.eq (by decide)) (by decide) rfl inX12 (by decide) k_960 (fun _ h => h) (gx_rfv hr) dX12_hands_1 ?_
  refine lv_iconst (v := 1) X.1 X.2.1 dX12_hands_4 (by decide) ?_
  refine gx_iald X hG hT_i1 hF dX12_hands_5 (fun hF => ?_)
  refine lv_if_ne (tgt := 12) X.1 X.2.1 dX12_hands_6 (by decide) (fun hc => ?_) (fun hc => ?_)
  · replace hF := it_f hF hc
    refine lv_aload_n X.1 X.2.1 dX12_hands_12 rfl (lv_at hl 0 rfl) ?_
    refine lv_aload_n X.1 X.2.1 dX12_hands_13 rfl (lv_at hl 0 rfl) ?_
    obtain ⟨i2, hr, hF⟩ := b1_ex hF
    have hT_i2 : hT σ i2 13 := gw_T hG hT_a0 (by decide) hr
    refine gx_get 5 (v := .ref (ad i2)) X hG hT_a0.1 (hT_a0.eq (by decide)) (by decide) rfl inX12 (by decide) k_965 (fun _ h => h) (gx_rfv hr) dX12_hands_14 ?_
    obtain ⟨σ3, hz, hF⟩ := b1_ex hF
    refine gx_rV (gx_runV (As := [.ref (ad i2)]) (rest := []) X hG hS hT_a0.1 (hT_a0.eq (by decide)) (by decide) rfl (c_X12_takesAll l D cA base ad σ n a0 i2 hT_a0 hT_i2 hz) k_1188 k_1185 k_1187 ks_34 k_4 (h_X12_takesAll) rfl rfl ⟨by decide, by decide⟩ rfl hl.1 rfl (Nat.le_of_ble_eq_true rfl) dX12_hands_17 ⟨Nat.zero_le _, Nat.zero_le _⟩) hS (fun H locs hG hS hX => ?_)
    have hT_a0 := hX.T hT_a0
    replace hE := hE.trans hX
    refine lv_aload_n X.1 X.2.1 dX12_hands_20 rfl (lv_at hl 0 rfl) ?_
    refine lv_aload_n X.1 X.2.1 dX12_hands_21 rfl (lv_at hl 0 rfl) ?_
    refine lv_aload_n X.1 X.2.1 dX12_hands_22 rfl (lv_at hl 0 rfl) ?_
    obtain ⟨i4, hr, hF⟩ := b1_ex hF
    have hT_i4 : hT σ3 i4 13 := gw_T hG hT_a0 (by decide) hr
    refine gx_get 0 (v := .ref (ad i4)) X hG hT_a0.1 (hT_a0.eq (by decide)) (by decide) rfl inX12 (by decide) k_960 (fun _ h => h) (gx_rfv hr) dX12_hands_23 ?_
    refine lv_iconst (v := 1) X.1 X.2.1 dX12_hands_26 (by decide) ?_
    refine gx_iald X hG hT_i4 hF dX12_hands_27 (fun hF => ?_)
    obtain ⟨r6, σ5, hz, hF⟩ := b2_ex hF
    refine gx_rI (gx_runV (As := [.int (hI σ3 i4 (1 : Int32).toNatClampNeg)]) (rest := [.ref (ad a0)]) X hG hS hT_a0.1 (hT_a0.eq (by decide)) (by decide) rfl (c_X12_leaderOf l D cA base ad σ3 n a0 (hI σ3 i4 (1 : Int32).toNatClampNeg) hT_a0 hz) k_1192 k_1189 k_1191 ks_35 k_4 (h_X12_leaderOf) rfl rfl ⟨by decide, by decide⟩ rfl hl.1 rfl (Nat.le_of_ble_eq_true rfl) dX12_hands_28 ⟨Nat.zero_le _, Nat.zero_le _⟩) hS (fun H locs hG hS hX => ?_)
    have hT_a0 := hX.T hT_a0
    replace hE := hE.trans hX
    refine lv_aload_n X.1 X.2.1 dX12_hands_31 rfl (lv_at hl 0 rfl) ?_
    obtain ⟨r8, σ7, hz, hF⟩ := b2_ex hF
    refine gx_rI (gx_runV (As := []) (rest := [.int r6, .ref (ad a0)]) X hG hS hT_a0.1 (hT_a0.eq (by decide)) (by decide) rfl (c_X12_neededNow l D cA base ad σ5 n a0 hT_a0 hz) k_1217 k_1214 k_1216 ks_40 k_4 (h_X12_neededNow) rfl rfl ⟨by decide, by decide⟩ rfl hl.1 rfl (Nat.le_of_ble_eq_true rfl) dX12_hands_32 ⟨Nat.zero_le _, Nat.zero_le _⟩) hS (fun H locs hG hS hX => ?_)
    have hT_a0 := hX.T hT_a0
    replace hE := hE.trans hX
    refine lv_iconst (v := 1) X.1 X.2.1 dX12_hands_35 (by decide) ?_
    obtain ⟨r10, σ9, hz, hF⟩ := b2_ex hF
    refine gx_rI (gx_runV (As := [.int r6, .int r8, .int 1]) (rest := []) X hG hS hT_a0.1 (hT_a0.eq (by decide)) (by decide) rfl (c_X12_runs l D cA base ad σ7 n a0 r6 r8 1 hT_a0 hz) k_1274 k_1271 k_1273 ks_50 k_4 (h_X12_runs) rfl rfl ⟨by decide, by decide⟩ rfl hl.1 rfl (Nat.le_of_ble_eq_true rfl) dX12_hands_36 ⟨Nat.zero_le _, Nat.zero_le _⟩) hS (fun H locs hG hS hX => ?_)
    have hT_a0 := hX.T hT_a0
    replace hE := hE.trans hX
    refine lv_istore_n (lv' := [(1, .int r10), (0, .ref (ad a0))]) X.1 X.2.1 dX12_hands_39 rfl hl (by decide) rfl (fun ls hl => ?_)
    refine lv_aload_n X.1 X.2.1 dX12_hands_40 rfl (lv_at hl 1 rfl) ?_
    refine lv_aload_n X.1 X.2.1 dX12_hands_41 rfl (lv_at hl 1 rfl) ?_
    obtain ⟨i11, hr, hF⟩ := b1_ex hF
    have hT_i11 : hT σ9 i11 13 := gw_T hG hT_a0 (by decide) hr
    refine gx_get 5 (v := .ref (ad i11)) X hG hT_a0.1 (hT_a0.eq (by decide)) (by decide) rfl inX12 (by decide) k_965 (fun _ h => h) (gx_rfv hr) dX12_hands_42 ?_
    obtain ⟨σ12, hz, hF⟩ := b1_ex hF
    refine gx_rV (gx_runV (As := [.ref (ad i11)]) (rest := []) X hG hS hT_a0.1 (hT_a0.eq (by decide)) (by decide) rfl (c_X12_takesAll l D cA base ad σ9 n a0 i11 hT_a0 hT_i11 hz) k_1188 k_1185 k_1187 ks_34 k_4 (h_X12_takesAll) rfl rfl ⟨by decide, by decide⟩ rfl hl.1 rfl (Nat.le_of_ble_eq_true rfl) dX12_hands_45 ⟨Nat.zero_le _, Nat.zero_le _⟩) hS (fun H locs hG hS hX => ?_)
    have hT_a0 := hX.T hT_a0
    replace hE := hE.trans hX
    refine lv_bipush (v := 10) X.1 X.2.1 dX12_hands_48 (by decide) ?_
    refine lv_iload_n X.1 X.2.1 dX12_hands_50 rfl (lv_at hl 0 rfl) ?_
    refine lv_imul X.1 X.2.1 dX12_hands_51 ?_
    refine lv_aload_n X.1 X.2.1 dX12_hands_52 rfl (lv_at hl 1 rfl) ?_
    refine lv_aload_n X.1 X.2.1 dX12_hands_53 rfl (lv_at hl 1 rfl) ?_
    refine lv_aload_n X.1 X.2.1 dX12_hands_54 rfl (lv_at hl 1 rfl) ?_
    obtain ⟨i13, hr, hF⟩ := b1_ex hF
    have hT_i13 : hT σ12 i13 13 := gw_T hG hT_a0 (by decide) hr
    refine gx_get 0 (v := .ref (ad i13)) X hG hT_a0.1 (hT_a0.eq (by decide)) (by decide) rfl inX12 (by decide) k_960 (fun _ h => h) (gx_rfv hr) dX12_hands_55 ?_
    refine lv_iconst (v := 1) X.1 X.2.1 dX12_hands_58 (by decide) ?_
    refine gx_iald X hG hT_i13 hF dX12_hands_59 (fun hF => ?_)
    obtain ⟨r15, σ14, hz, hF⟩ := b2_ex hF
    refine gx_rI (gx_runV (As := [.int (hI σ12 i13 (1 : Int32).toNatClampNeg)]) (rest := [.ref (ad a0), .int (10 * r10)]) X hG hS hT_a0.1 (hT_a0.eq (by decide)) (by decide) rfl (c_X12_leaderOf l D cA base ad σ12 n a0 (hI σ12 i13 (1 : Int32).toNatClampNeg) hT_a0 hz) k_1192 k_1189 k_1191 ks_35 k_4 (h_X12_leaderOf) rfl rfl ⟨by decide, by decide⟩ rfl hl.1 rfl (Nat.le_of_ble_eq_true rfl) dX12_hands_60 ⟨Nat.zero_le _, Nat.zero_le _⟩) hS (fun H locs hG hS hX => ?_)
    have hT_a0 := hX.T hT_a0
    replace hE := hE.trans hX
    refine lv_aload_n X.1 X.2.1 dX12_hands_63 rfl (lv_at hl 1 rfl) ?_
    obtain ⟨r17, σ16, hz, hF⟩ := b2_ex hF
    refine gx_rI (gx_runV (As := []) (rest := [.int r15, .ref (ad a0), .int (10 * r10)]) X hG hS hT_a0.1 (hT_a0.eq (by decide)) (by decide) rfl (c_X12_neededNow l D cA base ad σ14 n a0 hT_a0 hz) k_1217 k_1214 k_1216 ks_40 k_4 (h_X12_neededNow) rfl rfl ⟨by decide, by decide⟩ rfl hl.1 rfl (Nat.le_of_ble_eq_true rfl) dX12_hands_64 ⟨Nat.zero_le _, Nat.zero_le _⟩) hS (fun H locs hG hS hX => ?_)
    have hT_a0 := hX.T hT_a0
    replace hE := hE.trans hX
    refine lv_iconst (v := 0) X.1 X.2.1 dX12_hands_67 (by decide) ?_
    obtain ⟨r19, σ18, hz, hF⟩ := b2_ex hF
    refine gx_rI (gx_runV (As := [.int r15, .int r17, .int 0]) (rest := [.int (10 * r10)]) X hG hS hT_a0.1 (hT_a0.eq (by decide)) (by decide) rfl (c_X12_runs l D cA base ad σ16 n a0 r15 r17 0 hT_a0 hz) k_1274 k_1271 k_1273 ks_50 k_4 (h_X12_runs) rfl rfl ⟨by decide, by decide⟩ rfl hl.1 rfl (Nat.le_of_ble_eq_true rfl) dX12_hands_68 ⟨Nat.zero_le _, Nat.zero_le _⟩) hS (fun H locs hG hS hX => ?_)
    have hT_a0 := hX.T hT_a0
    replace hE := hE.trans hX
    refine lv_iadd X.1 X.2.1 dX12_hands_71 ?_
    exact gx_iret X hG hS hE hF dX12_hands_72
  · replace hF := it_t hF hc
    refine lv_bipush (v := (-3)) X.1 X.2.1 dX12_hands_9 (by decide) ?_
    exact gx_iret X hG hS hE hF dX12_hands_11
end W_model10
