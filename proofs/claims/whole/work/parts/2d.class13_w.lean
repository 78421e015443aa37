/-! class13: printed by wip/whole/gen.py -/
section W_class13
variable {p : Program} {l : Launch} {e : Env} {s : State} {m : MethodId} {args : Array Value} {below : List Frame} {meth : Method} {c : Code} {D : va_G} {cA : Nat → ClassId} {base : Nat} {ad : Nat → Nat}
def F_D_loudness (n : Nat) (i : Nat) (a2 : Int32) (σ : Hp) : Option (Int32 × Hp) := if hK σ i = 0 then F_X0_loudness n i a2 σ else if hK σ i = 2 then F_X2_loudness n i a2 σ else if hK σ i = 4 then F_X4_loudness n i a2 σ else if hK σ i = 6 then F_X6_loudness n i a2 σ else if hK σ i = 7 then F_X7_loudness n i a2 σ else if hK σ i = 8 then F_X8_loudness n i a2 σ else if hK σ i = 9 then F_X9_loudness n i a2 σ else F_X10_loudness n i a2 σ
abbrev rm_X11_voice : Room := { frames := 3, cells := 0, slots := 0, locals := 63 }
theorem h_X11_voice : yX11_voice.cls = RX11 ∧ yX11_voice.cls ≠ "java/lang/invoke/MethodHandle" ∧ yX11_voice.cls ≠ "java/lang/invoke/VarHandle" ∧ (parseMethodDescriptor yX11_voice.desc).map (fun d => d.parameters.length) = some 1 := by decide +kernel
def F_X11_voice (n : Nat) (a0 : Nat) (a1 : Int32) (σ : Hp) : Option (Int32 × Hp) := b2 (F_X11_shelfAt n a0 a1 σ) fun (r2 : Option Nat) (σ1 : Hp) => om r2 (some ((-1), σ1)) (fun i3 => b2 (F_X5_isEmpty n i3 σ1) fun (r5 : Int32) (σ4 : Hp) => if r5 = 0 then (lt (hR σ4 i3 0) fun (q6 : Option Nat) => om q6 (some ((-12), σ4)) (fun i7 => b2 (F_D_loudness n i7 (hI σ4 i3 1) σ4) fun (r9 : Int32) (σ8 : Hp) => some (r9, σ8))) else (some ((-11), σ4)))
theorem run_loudness {R : Room} {H : Heap} {locs : List Loc} {nL : Nat} {ret : Option FieldType} {cc : ByteArray} {pc : Nat} {ls : Array Slot} {st0 rest : List Value} {σ τ : Hp} {r : Int32} {n : Nat} {i : Nat} {a2 : Int32} (X : SX D cA base p s m args meth c cc nL ret RX11) (hG : GW D cA base ad σ H) (hS : va_S (bA base) s.heap H locs) (h : hT σ i 100) (hF : F_D_loudness n i a2 σ = some (r, τ)) (hl : Cond.methodLink RX11 268 yX10_loudness ∈ TB) (hR : 3 ≤ R.frames ∧ 63 ≤ R.locals) (hsize : ls.size = nL) (hstack : st0 = ([.int a2] : List Value).reverse ++ .ref (ad i) :: rest) (hW : (rest.map fun v => v.category).sum ≤ 8) (hdg : decode cc pc = .ok (.invokevirtual 268, 3)) : va_Run p l e R s m args below meth c H locs 0 0 0 0 (F0 m pc ls st0) rest (va_Qi (fun v (_ : Unit) => v = r ∧ xT σ τ) (fun _ t => GS D cA base ad τ t) (bA base) (Value.ref (ad i) :: [.int a2]).toArray) (bA base) := by
  unfold F_D_loudness at hF
  have hk := isT_100 h.2 (Or.inl rfl)
  generalize hke : hK σ i = k at hk hF
  rcases hk with rfl | rfl | rfl | rfl | rfl | rfl | rfl | rfl
  · replace hF : F_X0_loudness n i a2 σ = some (r, τ) := hF
    exact gx_runO (owner := "ElevenOne$Turn") (x := yX10_loudness) (As := [.int a2]) X hG hS h.1 hke (by decide) rfl (c_X0_loudness l D cA base ad σ n i a2 ((h.of hke rfl).to (by decide) rfl) hF) k_788 hl k_785 k_783 k_786 k_787 k_7 k_815 ⟨by decide, by decide, h_X10_loudness.2.2.2⟩ rfl rfl ⟨Nat.le_trans (by decide) hR.1, Nat.le_trans (by decide) hR.2⟩ rfl hsize hstack hW hdg ⟨Nat.zero_le _, Nat.zero_le _⟩
  · replace hF : F_X2_loudness n i a2 σ = some (r, τ) := hF
    exact gx_runO (owner := "ElevenOne$Turn") (x := yX10_loudness) (As := [.int a2]) X hG hS h.1 hke (by decide) rfl (c_X2_loudness l D cA base ad σ n i a2 (h.of hke rfl) hF) k_792 hl k_785 k_783 k_790 k_791 k_8 k_815 ⟨by decide, by decide, h_X10_loudness.2.2.2⟩ rfl rfl ⟨Nat.le_trans (by decide) hR.1, Nat.le_trans (by decide) hR.2⟩ rfl hsize hstack hW hdg ⟨Nat.zero_le _, Nat.zero_le _⟩
  · replace hF : F_X4_loudness n i a2 σ = some (r, τ) := hF
    exact gx_runO (owner := "ElevenOne$Turn") (x := yX10_loudness) (As := [.int a2]) X hG hS h.1 hke (by decide) rfl (c_X4_loudness l D cA base ad σ n i a2 (h.of hke rfl) hF) k_796 hl k_785 k_783 k_794 k_795 k_10 k_815 ⟨by decide, by decide, h_X10_loudness.2.2.2⟩ rfl rfl ⟨Nat.le_trans (by decide) hR.1, Nat.le_trans (by decide) hR.2⟩ rfl hsize hstack hW hdg ⟨Nat.zero_le _, Nat.zero_le _⟩
  · replace hF : F_X6_loudness n i a2 σ = some (r, τ) := hF
    exact gx_runO (owner := "ElevenOne$Turn") (x := yX10_loudness) (As := [.int a2]) X hG hS h.1 hke (by decide) rfl (c_X6_loudness l D cA base ad σ n i a2 ((h.of hke rfl).to (by decide) rfl) hF) k_800 hl k_785 k_783 k_798 k_799 k_11 k_815 ⟨by decide, by decide, h_X10_loudness.2.2.2⟩ rfl rfl ⟨Nat.le_trans (by decide) hR.1, Nat.le_trans (by decide) hR.2⟩ rfl hsize hstack hW hdg ⟨Nat.zero_le _, Nat.zero_le _⟩
  · replace hF : F_X7_loudness n i a2 σ = some (r, τ) := hF
    exact gx_runO (owner := "ElevenOne$Turn") (x := yX10_loudness) (As := [.int a2]) X hG hS h.1 hke (by decide) rfl (c_X7_loudness l D cA base ad σ n i a2 (h.of hke rfl) hF) k_804 hl k_785 k_783 k_802 k_803 k_12 k_815 ⟨by decide, by decide, h_X10_loudness.2.2.2⟩ rfl rfl ⟨Nat.le_trans (by decide) hR.1, Nat.le_trans (by decide) hR.2⟩ rfl hsize hstack hW hdg ⟨Nat.zero_le _, Nat.zero_le _⟩
  · replace hF : F_X8_loudness n i a2 σ = some (r, τ) := hF
    exact gx_runO (owner := "ElevenOne$Turn") (x := yX10_loudness) (As := [.int a2]) X hG hS h.1 hke (by decide) rfl (c_X8_loudness l D cA base ad σ n i a2 (h.of hke rfl) hF) k_808 hl k_785 k_783 k_806 k_807 k_9 k_815 ⟨by decide, by decide, h_X10_loudness.2.2.2⟩ rfl rfl ⟨Nat.le_trans (by decide) hR.1, Nat.le_trans (by decide) hR.2⟩ rfl hsize hstack hW hdg ⟨Nat.zero_le _, Nat.zero_le _⟩
  · replace hF : F_X9_loudness n i a2 σ = some (r, τ) := hF
    exact gx_runO (owner := "ElevenOne$Turn") (x := yX10_loudness) (As := [.int a2]) X hG hS h.1 hke (by decide) rfl (c_X9_loudness l D cA base ad σ n i a2 ((h.of hke rfl).to (by decide) rfl) hF) k_811 hl k_785 k_783 k_814 k_810 k_6 k_815 ⟨by decide, by decide, h_X10_loudness.2.2.2⟩ rfl rfl ⟨Nat.le_trans (by decide) hR.1, Nat.le_trans (by decide) hR.2⟩ rfl hsize hstack hW hdg ⟨Nat.zero_le _, Nat.zero_le _⟩
  · replace hF : F_X10_loudness n i a2 σ = some (r, τ) := hF
    exact gx_runV (As := [.int a2]) X hG hS h.1 hke (by decide) rfl (c_X10_loudness l D cA base ad σ n i a2 h hF) k_815 hl k_783 k_784 k_5 h_X10_loudness rfl rfl ⟨Nat.le_trans (by decide) hR.1, Nat.le_trans (by decide) hR.2⟩ rfl hsize hstack hW hdg ⟨Nat.zero_le _, Nat.zero_le _⟩
theorem c_X11_voice (l : Launch) (D : va_G) (cA : Nat → ClassId) (base : Nat) (ad : Nat → Nat) (σ : Hp) (n : Nat) (a0 : Nat) (a1 : Int32) (hT_a0 : hT σ a0 11) {τ : Hp} {r : Int32} (hF : F_X11_voice n a0 a1 σ = some (r, τ)) : MI l yX11_voice cX11_voice 4 (some .int) rm_X11_voice D cA base ad σ [.ref (ad a0), .int a1] r τ := by
  refine Met.ofW (cc := cX11_voice) (maxL := 4) (ret := (some .int)) (by decide) rfl ?_
  intro p e s m args below meth c s₁ B hml hv
  obtain ⟨rfl, hv⟩ := hv
  have X : SX D cA base p s m ([.ref (ad a0), .int a1] : List Value).toArray meth c cX11_voice 4 (some .int) RX11 := sx_of B hml hv
  have hG := hv.1
  have hS : va_S (bA base) s.heap s.heap [] := va_S.rf
  have hE := xT.rf σ
  have hl := lv_entry ([.ref (ad a0), .int a1]) (n := 4) (Nat.le_of_ble_eq_true rfl)
  rw [lg_entry_eq]
  generalize (lg_sl ([.ref (ad a0), .int a1]) ++ List.replicate (4 - (lg_sl ([.ref (ad a0), .int a1])).length) Slot.unset).toArray = ls at hl ⊢
  have hl : lv_has ls 4 [(0, .ref (ad a0)), (1, .int a1)] := hl
  unfold F_X11_voice at hF
  refine lv_aload_n X.1 X.2.1 dX11_voice_0 rfl (lv_at hl 0 rfl) ?_
  refine lv_iload_n X.1 X.2.1 dX11_voice_1 rfl (lv_at hl 1 rfl) ?_
  obtain ⟨r2, σ1, hz, hF⟩ := b2_ex hF
  refine gx_rQ (gx_runV (As := [.int a1]) (rest := []) X hG hS hT_a0.1 (hT_a0.eq (by decide)) (by decide) rfl (c_X11_shelfAt l D cA base ad σ n a0 a1 hT_a0 hz) k_435 k_432 k_434 ks_1 k_1 (h_X11_shelfAt) rfl rfl ⟨by decide, by decide⟩ rfl hl.1 rfl (Nat.le_of_ble_eq_true rfl) dX11_voice_2 ⟨Nat.zero_le _, Nat.zero_le _⟩) hS (fun H locs hG hS hX hO_r2 => ?_)
  have hT_a0 := hX.T hT_a0
  replace hE := hE.trans hX
  refine gx_astore_n (lv' := [(2, va_rf (Option.map ad r2)), (0, .ref (ad a0)), (1, .int a1)]) X.1 X.2.1 dX11_voice_5 rfl hl (by decide) (by cases r2 <;> rfl) (fun ls hl => ?_)
  refine gx_aload_n X.1 X.2.1 dX11_voice_6 rfl (lv_at hl 0 rfl) ?_
  refine gx_ifnonnull (tgt := 12) X.1 X.2.1 dX11_voice_7 (by decide) hF (fun hr hF2i3 => ?_) (fun i3 hr hF2i3 => ?_)
  · subst hr
    have hF := hF2i3
    have hl : lv_has ls 4 [(2, .null), (0, .ref (ad a0)), (1, .int a1)] := hl
    refine lv_iconst (v := (-1)) X.1 X.2.1 dX11_voice_10 (by decide) ?_
    exact gx_iret X hG hS hE hF dX11_voice_11
  · subst hr
    have hF := hF2i3
    have hT_i3 := hO_r2 i3 rfl
    have hl : lv_has ls 4 [(2, .ref (ad i3)), (0, .ref (ad a0)), (1, .int a1)] := hl
    refine lv_aload_n X.1 X.2.1 dX11_voice_12 rfl (lv_at hl 0 rfl) ?_
    obtain ⟨r5, σ4, hz, hF⟩ := b2_ex hF
    refine gx_rI (gx_runV (As := []) (rest := []) X hG hS hT_i3.1 (hT_i3.eq (by decide)) (by decide) rfl (c_X5_isEmpty l D cA base ad σ1 n i3 hT_i3 hz) k_439 k_436 k_437 k_438 k_3 (h_X5_isEmpty) rfl rfl ⟨by decide, by decide⟩ rfl hl.1 rfl (Nat.le_of_ble_eq_true rfl) dX11_voice_13 ⟨Nat.zero_le _, Nat.zero_le _⟩) hS (fun H locs hG hS hX => ?_)
    have hT_a0 := hX.T hT_a0
    have hT_i3 := hX.T hT_i3
    replace hE := hE.trans hX
    refine lv_if_eq (tgt := 22) X.1 X.2.1 dX11_voice_16 (by decide) (fun hc => ?_) (fun hc => ?_)
    · replace hF := it_t hF hc
      refine lv_aload_n X.1 X.2.1 dX11_voice_22 rfl (lv_at hl 0 rfl) ?_
      obtain ⟨q6, hr, hF⟩ := lt_ex hF
      have hO_q6 : oT σ4 q6 100 := by rw [hr]; exact gw_O hG hT_i3 (by decide)
      refine gx_getN 0 (v := va_rf (Option.map ad q6)) X hG hT_i3.1 (hT_i3.eq (by decide)) (by decide) rfl inX5 (by decide) q_131 (fun _ h => h) (by rw [hr]; rfl) dX11_voice_23 ?_
      refine gx_astore_n (lv' := [(3, va_rf (Option.map ad q6)), (2, .ref (ad i3)), (0, .ref (ad a0)), (1, .int a1)]) X.1 X.2.1 dX11_voice_26 rfl hl (by decide) (by cases q6 <;> rfl) (fun ls hl => ?_)
      refine gx_aload_n X.1 X.2.1 dX11_voice_27 rfl (lv_at hl 0 rfl) ?_
      refine gx_ifnonnull (tgt := 36) X.1 X.2.1 dX11_voice_28 (by decide) hF (fun hr hF2i7 => ?_) (fun i7 hr hF2i7 => ?_)
      · subst hr
        have hF := hF2i7
        have hl : lv_has ls 4 [(3, .null), (2, .ref (ad i3)), (0, .ref (ad a0)), (1, .int a1)] := hl
        refine lv_bipush (v := (-12)) X.1 X.2.1 dX11_voice_31 (by decide) ?_
        refine lv_goto (tgt := 44) X.1 X.2.1 dX11_voice_33 (by decide) ?_
        exact gx_iret X hG hS hE hF dX11_voice_44
      · subst hr
        have hF := hF2i7
        have hT_i7 := hO_q6 i7 rfl
        have hl : lv_has ls 4 [(3, .ref (ad i7)), (2, .ref (ad i3)), (0, .ref (ad a0)), (1, .int a1)] := hl
        refine lv_aload_n X.1 X.2.1 dX11_voice_36 rfl (lv_at hl 0 rfl) ?_
        refine lv_aload_n X.1 X.2.1 dX11_voice_37 rfl (lv_at hl 1 rfl) ?_
        refine gx_getN 1 (v := .int (hI σ4 i3 1)) X hG hT_i3.1 (hT_i3.eq (by decide)) (by decide) rfl inX5 (by decide) q_133 (fun _ h => h) rfl dX11_voice_38 ?_
        obtain ⟨r9, σ8, hz, hF⟩ := b2_ex hF
        refine gx_rI (run_loudness (rest := []) X hG hS hT_i7 hz k_782 ⟨by decide, by decide⟩ hl.1 rfl (Nat.le_of_ble_eq_true rfl) dX11_voice_41) hS (fun H locs hG hS hX => ?_)
        have hT_a0 := hX.T hT_a0
        have hT_i3 := hX.T hT_i3
        have hT_i7 := hX.T hT_i7
        replace hE := hE.trans hX
        exact gx_iret X hG hS hE hF dX11_voice_44
    · replace hF := it_f hF hc
      refine lv_bipush (v := (-11)) X.1 X.2.1 dX11_voice_19 (by decide) ?_
      exact gx_iret X hG hS hE hF dX11_voice_21
end W_class13
