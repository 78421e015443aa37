/-! throws and catches; set -/
section THR
variable {p : Program} {l : Launch} {e : Env} {R : Room} {s : State} {m : MethodId} {args : Array Value} {below : List Frame} {meth : Method} {c : Code} {H : Heap} {locs : List Loc} {cells slots : Nat} {Q : State → Prop}
variable {D : va_G} {cA : Nat → ClassId} {base : Nat} {ad : Nat → Nat} {σ : Hp} {cc : ByteArray} {nL : Nat} {ret : Option FieldType} {own : String} {ta tb : Nat} {sa : Nat → Nat}
variable {pc : Nat} {ls : Array Slot} {rest st0 : List Value}
variable {y : MethodName} {b : ByteArray} {maxL mc ms n index : Nat} {rt : Option FieldType} {rm : Room} {Qc : Array Value → State → Outcome → State → Prop} {XC : String → State → State → Prop} {As : List Value}
theorem vxx_runV {C : String} {T : u_T} {N ci i : Nat} (X : SX D cA base p s m args meth c cc nL ret own) (hXX : EXX base ta tb sa s) (hG : GW D cA base ad σ H) (hS : va_S (bA base) s.heap H locs) (hi : i < hN σ) (hk : hK σ i = ci) (h13 : ci < 13) (hc : vwCl[ci]? = some (C, T, N))
    (hM : vx_Met l y (.code y b maxL rt :: TB) rm (va_Pc (.ref (ad i) :: As) (GX D cA base ad σ ta tb sa)) Qc XC mc ms (bA base)) (hcode : Cond.code y b maxL rt ∈ TB) (hl : Cond.methodLink own index y ∈ TB) (hin : Cond.instanceMethod y ∈ TB) (hse : Cond.selects C y y ∈ TB) (hini : Cond.initialized C ∈ TB)
    (hd : y.cls = C ∧ y.cls ≠ "java/lang/invoke/MethodHandle" ∧ y.cls ≠ "java/lang/invoke/VarHandle" ∧ (parseMethodDescriptor y.desc).map (fun d => d.parameters.length) = some n) (hrc : rm.cells = mc) (hrs : rm.slots = ms) (hR : rm.frames + 1 ≤ R.frames ∧ 8 + (maxL + 11) + rm.locals ≤ R.locals) (hn : As.length = n) (hsize : ls.size = nL) (hstack : st0 = As.reverse ++ .ref (ad i) :: rest) (hW : (rest.map fun v => v.category).sum ≤ 8) (hdg : decode cc pc = .ok (.invokevirtual index, 3)) (hf : cells + mc ≤ R.cells ∧ slots + ms ≤ R.slots) :
    vx_Run p l e R s m args below meth c H locs cells slots mc ms (F0 m pc ls st0) rest (Qc (Value.ref (ad i) :: As).toArray) XC (bA base) :=
  vx_runV (sx_fix X) hM (cwV n X.2.2.2.2.1 (tb_in (tb_a (tb_c hl (tb_c hin (tb_c hse (tb_c hini tb_n)))) (tb_c hcode tb_0))) rfl hrc hrs hd hR) ⟨gx_blind, gs_recv X hG hi hk h13 hc, gx_callX X hXX hG hS _⟩ rfl hn hsize hstack (by show 2 * 0 + _ ≤ 8; omega) hdg hf
theorem vxx_runO {C owner : String} {T : u_T} {N ci i : Nat} {x : MethodName} {b0 : ByteArray} {m0 : Nat} {r0 : Option FieldType} (X : SX D cA base p s m args meth c cc nL ret own) (hXX : EXX base ta tb sa s) (hG : GW D cA base ad σ H) (hS : va_S (bA base) s.heap H locs) (hi : i < hN σ) (hk : hK σ i = ci) (h13 : ci < 13) (hc : vwCl[ci]? = some (C, T, N))
    (hM : vx_Met l y (.code y b maxL rt :: TB) rm (va_Pc (.ref (ad i) :: As) (GX D cA base ad σ ta tb sa)) Qc XC mc ms (bA base)) (hcode : Cond.code y b maxL rt ∈ TB) (hl : Cond.methodLink own index x ∈ TB) (hsm : Cond.sameMethod x.cls owner x.name x.desc ∈ TB) (hin0 : Cond.instanceMethod ⟨owner, x.name, x.desc⟩ ∈ TB) (hse : Cond.selects C x y ∈ TB) (hin : Cond.instanceMethod y ∈ TB) (hini : Cond.initialized y.cls ∈ TB) (h0 : Cond.code ⟨owner, x.name, x.desc⟩ b0 m0 r0 ∈ TB)
    (hd : owner ≠ "java/lang/invoke/MethodHandle" ∧ owner ≠ "java/lang/invoke/VarHandle" ∧ (parseMethodDescriptor x.desc).map (fun d => d.parameters.length) = some n) (hrc : rm.cells = mc) (hrs : rm.slots = ms) (hR : rm.frames + 1 ≤ R.frames ∧ 8 + (maxL + 11) + rm.locals ≤ R.locals) (hn : As.length = n) (hsize : ls.size = nL) (hstack : st0 = As.reverse ++ .ref (ad i) :: rest) (hW : (rest.map fun v => v.category).sum ≤ 8) (hdg : decode cc pc = .ok (.invokevirtual index, 3)) (hf : cells + mc ≤ R.cells ∧ slots + ms ≤ R.slots) :
    vx_Run p l e R s m args below meth c H locs cells slots mc ms (F0 m pc ls st0) rest (Qc (Value.ref (ad i) :: As).toArray) XC (bA base) :=
  vx_runU (sx_fix X) hM (va_cwO n X.2.2.2.2.1 (tb_in (by unfold va_wsO; exact tb_a (tb_c hl (tb_c hsm (tb_c hin0 (tb_c hse (tb_c hin (tb_c hini tb_n)))))) (tb_c hcode tb_0))) rfl hrc hrs h0 hd hR) ⟨gx_blind, gs_recv X hG hi hk h13 hc, gx_callX X hXX hG hS _⟩ rfl hn hsize hstack (by show 2 * 0 + _ ≤ 8; omega) hdg hf
theorem vxx_runU {C owner : String} {T : u_T} {N ci i : Nat} {x : MethodName} (X : SX D cA base p s m args meth c cc nL ret own) (hXX : EXX base ta tb sa s) (hG : GW D cA base ad σ H) (hS : va_S (bA base) s.heap H locs) (hi : i < hN σ) (hk : hK σ i = ci) (h13 : ci < 13) (hc : vwCl[ci]? = some (C, T, N))
    (hM : vx_Met l y (.code y b maxL rt :: TB) rm (va_Pc (.ref (ad i) :: As) (GX D cA base ad σ ta tb sa)) Qc XC mc ms (bA base)) (hcode : Cond.code y b maxL rt ∈ TB) (hl : Cond.methodLink own index x ∈ TB) (hsm : Cond.sameMethod x.cls owner x.name x.desc ∈ TB) (hse : Cond.selects C x y ∈ TB) (hin : Cond.instanceMethod y ∈ TB) (hini : Cond.initialized y.cls ∈ TB) (hyx : y = ⟨owner, x.name, x.desc⟩)
    (hd : owner ≠ "java/lang/invoke/MethodHandle" ∧ owner ≠ "java/lang/invoke/VarHandle" ∧ (parseMethodDescriptor x.desc).map (fun d => d.parameters.length) = some n) (hrc : rm.cells = mc) (hrs : rm.slots = ms) (hR : rm.frames + 1 ≤ R.frames ∧ 8 + (maxL + 11) + rm.locals ≤ R.locals) (hn : As.length = n) (hsize : ls.size = nL) (hstack : st0 = As.reverse ++ .ref (ad i) :: rest) (hW : (rest.map fun v => v.category).sum ≤ 8) (hdg : decode cc pc = .ok (.invokevirtual index, 3)) (hf : cells + mc ≤ R.cells ∧ slots + ms ≤ R.slots) :
    vx_Run p l e R s m args below meth c H locs cells slots mc ms (F0 m pc ls st0) rest (Qc (Value.ref (ad i) :: As).toArray) XC (bA base) :=
  vx_runU (sx_fix X) hM (va_cwU n X.2.2.2.2.1 (tb_in (by unfold va_wsU; exact tb_a (tb_c hl (tb_c hsm (tb_c hse (tb_c hin (tb_c hini tb_n))))) (tb_c hcode tb_0))) rfl hrc hrs hyx hd hR) ⟨gx_blind, gs_recv X hG hi hk h13 hc, gx_callX X hXX hG hS _⟩ rfl hn hsize hstack (by show 2 * 0 + _ ≤ 8; omega) hdg hf
theorem sx_ofW {e : Env} {s₁ : State} {hh : List (Nat × Nat × Nat × Nat)} {ad : Nat → Nat} {σ : Hp} (B : BodyLoose p l y (headSpec (Cond.codeWith y b maxL rt hh :: TB) rm) b maxL rt e s m args below meth c s₁) (hml : c.maxLocals = maxL) (h : GS D cA base ad σ s) : SX D cA base p s m args meth c b maxL rt y.cls :=
  ⟨B.exec, B.bytes, hml, B.returns, fun w hw => atoms_spec (ws := Cond.codeWith y b maxL rt hh :: TB) B.pre w (List.mem_cons_of_mem _ hw), findClass_of_methodNamed B.named, B.notSynchronized, h.2.1, h.2.2.1, h.2.2.2⟩
theorem ex_nISE : ∀ w ∈ [Cond.castable nISE nISE], w ∈ exL := by decide +kernel
theorem ex_nIAE : ∀ w ∈ [Cond.castable nIAE nIAE], w ∈ exL := by decide +kernel
theorem ex_nUOE : ∀ w ∈ [Cond.castable nUOE nUOE], w ∈ exL := by decide +kernel
/-- what toss answers of a TURN -/
def tossV (σ : Hp) (q : Nat) : Int32 := if hK σ q = 6 ∨ hK σ q = 7 then -15 else if hI σ q 2 ≤ 0 then -15 else if hK σ q = 2 then hI σ q 0 + 100 else if hK σ q = 8 then hI σ q 2 + 200 else hI σ q 0

theorem h_X10_fail : yX10_fail.cls = RX10 ∧ yX10_fail.cls ≠ "java/lang/invoke/MethodHandle" ∧ yX10_fail.cls ≠ "java/lang/invoke/VarHandle" ∧ (parseMethodDescriptor yX10_fail.desc).map (fun d => d.parameters.length) = some 0 := by decide +kernel
set_option maxRecDepth 20000 in
theorem f_X10_fail (l : Launch) (hl0 : l.stackTraces = false) (D : va_G) (cA : Nat → ClassId) (base : Nat) (ad : Nat → Nat) (σ : Hp) {ta tb : Nat} {sa : Nat → Nat} {i : Nat} (hT_i : hT σ i 100) :
    vx_Met l yX10_fail (.code yX10_fail cX10_fail 1 none :: TB) rmf (va_Pc [.ref (ad i)] (GX D cA base ad σ ta tb sa)) (va_Qv (fun (_ : Unit) => hI σ i 2 ≤ 0) (fun _ t => GS D cA base ad σ t) (bA base)) (XT D cA base ad σ (¬ hI σ i 2 ≤ 0) nISE) 1 6 (bA base) := by
  refine vx_ofW (cc := cX10_fail) (maxL := 1) (ret := none) (by decide) rfl ?_
  intro p e s m args below meth c s₁ B hml hnt hv
  obtain ⟨rfl, hv, hXX⟩ := hv
  have X : SX D cA base p s m ([.ref (ad i)] : List Value).toArray meth c cX10_fail 1 none RX10 := sx_of B hml hv
  have hG := hv.1
  have hS : va_S (bA base) s.heap s.heap [] := va_S.rf
  have hl := lv_entry ([.ref (ad i)]) (n := 1) (Nat.le_of_ble_eq_true rfl)
  rw [lg_entry_eq]
  generalize (lg_sl ([.ref (ad i)]) ++ List.replicate (1 - (lg_sl ([.ref (ad i)])).length) Slot.unset).toArray = ls at hl ⊢
  have hl : lv_has ls 1 [(0, .ref (ad i))] := hl
  refine lv_aload_n X.1 X.2.1 dX10_fail_0 rfl (lv_at hl 0 rfl) ?_
  refine gx_getT 2 (v := .int (hI σ i 2)) X hG hT_i (by decide) k_202 (fun _ h => h) rfl dX10_fail_1 ?_
  refine lv_if_le (tgt := 17) X.1 X.2.1 dX10_fail_4 (by decide) (fun hc => ?_) (fun hc => ?_)
  · refine vx_ret ?_
    refine W.widen (k := 1) (n := 6) (by decide) (by decide) ?_
    exact W.vret X.1 X.2.1 X.2.2.2.1 (fun t ht hW => ⟨⟨(), rfl, hc, gs_end X hG hS ht hW⟩, hS.F ht⟩) hS.2.2 dX10_fail_17 X.2.2.2.2.2.2.1
  · exact vx_throwS (own := RX10) (cls := nISE) (names := upN) X.1 X.2.1 hl0 X.2.2.2.2.2.1 (by decide +kernel) (by decide +kernel) (X.w k_925) (X.w k_20) hXX.2.2.1.1 (ex_hat X hXX inA) (ex_ot inA rfl rfl) hXX.2.1.1 hXX.2.1.2 hS (hl.1.trans X.2.2.1.symm) dX10_fail_7 dX10_fail_10 dX10_fail_11 dX10_fail_13 dX10_fail_16 (fun x hx => (hnt x hx).elim) (by decide) (by decide) (by decide) (by decide) X.2.2.2.2.2.2.1 (fun t ha hz hq => xt_end hG hS hc hz hq) hS.2.2 (by decide) (by decide)
set_option maxRecDepth 20000 in
theorem f_X2_fail (l : Launch) (hl0 : l.stackTraces = false) (D : va_G) (cA : Nat → ClassId) (base : Nat) (ad : Nat → Nat) (σ : Hp) {ta tb : Nat} {sa : Nat → Nat} {i : Nat} (hT_i : hT σ i 2) :
    vx_Met l yX2_fail (.code yX2_fail cX2_fail 1 none :: TB) rmf (va_Pc [.ref (ad i)] (GX D cA base ad σ ta tb sa)) (va_Qv (fun (_ : Unit) => hI σ i 2 ≤ 0) (fun _ t => GS D cA base ad σ t) (bA base)) (XT D cA base ad σ (¬ hI σ i 2 ≤ 0) nIAE) 1 6 (bA base) := by
  refine vx_ofW (cc := cX2_fail) (maxL := 1) (ret := none) (by decide) rfl ?_
  intro p e s m args below meth c s₁ B hml hnt hv
  obtain ⟨rfl, hv, hXX⟩ := hv
  have X : SX D cA base p s m ([.ref (ad i)] : List Value).toArray meth c cX2_fail 1 none RX2 := sx_of B hml hv
  have hG := hv.1
  have hS : va_S (bA base) s.heap s.heap [] := va_S.rf
  have hl := lv_entry ([.ref (ad i)]) (n := 1) (Nat.le_of_ble_eq_true rfl)
  rw [lg_entry_eq]
  generalize (lg_sl ([.ref (ad i)]) ++ List.replicate (1 - (lg_sl ([.ref (ad i)])).length) Slot.unset).toArray = ls at hl ⊢
  have hl : lv_has ls 1 [(0, .ref (ad i))] := hl
  refine lv_aload_n X.1 X.2.1 dX2_fail_0 rfl (lv_at hl 0 rfl) ?_
  refine gx_getT 2 (v := .int (hI σ i 2)) X hG (hT_i.up (by decide)) (by decide) k_207 (fun x9 h9 => u_same (X.w k_208) x9 h9) rfl dX2_fail_1 ?_
  refine lv_if_le (tgt := 17) X.1 X.2.1 dX2_fail_4 (by decide) (fun hc => ?_) (fun hc => ?_)
  · refine vx_ret ?_
    refine W.widen (k := 1) (n := 6) (by decide) (by decide) ?_
    exact W.vret X.1 X.2.1 X.2.2.2.1 (fun t ht hW => ⟨⟨(), rfl, hc, gs_end X hG hS ht hW⟩, hS.F ht⟩) hS.2.2 dX2_fail_17 X.2.2.2.2.2.2.1
  · exact vx_throwS (own := RX2) (cls := nIAE) (names := upN) X.1 X.2.1 hl0 X.2.2.2.2.2.1 (by decide +kernel) (by decide +kernel) (X.w k_831) (X.w k_19) hXX.2.2.1.2.1 (ex_hat X hXX inB) (ex_ot inB rfl rfl) hXX.2.1.1 hXX.2.1.2 hS (hl.1.trans X.2.2.1.symm) dX2_fail_7 dX2_fail_10 dX2_fail_11 dX2_fail_13 dX2_fail_16 (fun x hx => (hnt x hx).elim) (by decide) (by decide) (by decide) (by decide) X.2.2.2.2.2.2.1 (fun t ha hz hq => xt_end hG hS hc hz hq) hS.2.2 (by decide) (by decide)
set_option maxRecDepth 20000 in
theorem f_X8_fail (l : Launch) (hl0 : l.stackTraces = false) (D : va_G) (cA : Nat → ClassId) (base : Nat) (ad : Nat → Nat) (σ : Hp) {ta tb : Nat} {sa : Nat → Nat} {i : Nat} (hT_i : hT σ i 8) :
    vx_Met l yX8_fail (.code yX8_fail cX8_fail 1 none :: TB) rmf (va_Pc [.ref (ad i)] (GX D cA base ad σ ta tb sa)) (va_Qv (fun (_ : Unit) => hI σ i 2 ≤ 0) (fun _ t => GS D cA base ad σ t) (bA base)) (XT D cA base ad σ (¬ hI σ i 2 ≤ 0) nUOE) 1 6 (bA base) := by
  refine vx_ofW (cc := cX8_fail) (maxL := 1) (ret := none) (by decide) rfl ?_
  intro p e s m args below meth c s₁ B hml hnt hv
  obtain ⟨rfl, hv, hXX⟩ := hv
  have X : SX D cA base p s m ([.ref (ad i)] : List Value).toArray meth c cX8_fail 1 none RX8 := sx_of B hml hv
  have hG := hv.1
  have hS : va_S (bA base) s.heap s.heap [] := va_S.rf
  have hl := lv_entry ([.ref (ad i)]) (n := 1) (Nat.le_of_ble_eq_true rfl)
  rw [lg_entry_eq]
  generalize (lg_sl ([.ref (ad i)]) ++ List.replicate (1 - (lg_sl ([.ref (ad i)])).length) Slot.unset).toArray = ls at hl ⊢
  have hl : lv_has ls 1 [(0, .ref (ad i))] := hl
  refine lv_aload_n X.1 X.2.1 dX8_fail_0 rfl (lv_at hl 0 rfl) ?_
  refine gx_getT 2 (v := .int (hI σ i 2)) X hG (hT_i.up (by decide)) (by decide) k_209 (fun x9 h9 => u_same (X.w k_210) x9 h9) rfl dX8_fail_1 ?_
  refine lv_if_le (tgt := 17) X.1 X.2.1 dX8_fail_4 (by decide) (fun hc => ?_) (fun hc => ?_)
  · refine vx_ret ?_
    refine W.widen (k := 1) (n := 6) (by decide) (by decide) ?_
    exact W.vret X.1 X.2.1 X.2.2.2.1 (fun t ht hW => ⟨⟨(), rfl, hc, gs_end X hG hS ht hW⟩, hS.F ht⟩) hS.2.2 dX8_fail_17 X.2.2.2.2.2.2.1
  · exact vx_throwS (own := RX8) (cls := nUOE) (names := upN) X.1 X.2.1 hl0 X.2.2.2.2.2.1 (by decide +kernel) (by decide +kernel) (X.w k_907) (X.w k_21) hXX.2.2.1.2.2.1 (ex_hat X hXX inC) (ex_ot inC rfl rfl) hXX.2.1.1 hXX.2.1.2 hS (hl.1.trans X.2.2.1.symm) dX8_fail_7 dX8_fail_10 dX8_fail_11 dX8_fail_13 dX8_fail_16 (fun x hx => (hnt x hx).elim) (by decide) (by decide) (by decide) (by decide) X.2.2.2.2.2.2.1 (fun t ha hz hq => xt_end hG hS hc hz hq) hS.2.2 (by decide) (by decide)
abbrev rm_X6_fail : Room := { frames := 0, cells := 0, slots := 0, locals := 0 }
theorem h_X6_fail : yX6_fail.cls = RX6 ∧ yX6_fail.cls ≠ "java/lang/invoke/MethodHandle" ∧ yX6_fail.cls ≠ "java/lang/invoke/VarHandle" ∧ (parseMethodDescriptor yX6_fail.desc).map (fun d => d.parameters.length) = some 0 := by decide +kernel
def F_X6_fail (n : Nat) (a0 : Nat) (σ : Hp) : Option Hp := some σ
theorem c_X6_fail (l : Launch) (D : va_G) (cA : Nat → ClassId) (base : Nat) (ad : Nat → Nat) (σ : Hp) (n : Nat) (a0 : Nat) (hT_a0 : hT σ a0 103) {τ : Hp} (hF : F_X6_fail n a0 σ = some τ) : MV l yX6_fail cX6_fail 1 rm_X6_fail D cA base ad σ [.ref (ad a0)] τ := by
  refine Met.ofW (cc := cX6_fail) (maxL := 1) (ret := none) (by decide) rfl ?_
  intro p e s m args below meth c s₁ B hml hv
  obtain ⟨rfl, hv⟩ := hv
  have X : SX D cA base p s m ([.ref (ad a0)] : List Value).toArray meth c cX6_fail 1 none RX6 := sx_of B hml hv
  have hG := hv.1
  have hS : va_S (bA base) s.heap s.heap [] := va_S.rf
  have hE := xT.rf σ
  have hl := lv_entry ([.ref (ad a0)]) (n := 1) (Nat.le_of_ble_eq_true rfl)
  rw [lg_entry_eq]
  generalize (lg_sl ([.ref (ad a0)]) ++ List.replicate (1 - (lg_sl ([.ref (ad a0)])).length) Slot.unset).toArray = ls at hl ⊢
  have hl : lv_has ls 1 [(0, .ref (ad a0))] := hl
  unfold F_X6_fail at hF
  exact gx_vret X hG hS hE hF dX6_fail_0
abbrev rmt : Room := { frames := 7, cells := 1, slots := 6, locals := 220 }
theorem toss_h41 {σ0 τ : Hp} {r : Int32} {q q9 : Nat} (X : SX D cA base p s m args meth c cX11_toss 5 (some .int) RX11) (hG : GW D cA base ad σ H) (hS : va_S (bA base) s.heap H locs) (hE : xT σ0 σ) (hT_q : hT σ q 100) (hl : lv_has ls 5 [(3, .ref (ad q))]) (hF : (some (hI σ q 0, σ) : Option (Int32 × Hp)) = some (r, τ)) : W p l e rmt s m args below meth c H locs 1 6 (MQ below (va_Qi (fun v (_ : Unit) => v = r ∧ xT σ0 τ) (fun _ t => GS D cA base ad τ t) (bA base)) args s 1 6 (bA base)) (F0 m 41 ls [.ref q9]) := by
  refine lv_astore (lv' := [(4, .ref q9), (3, .ref (ad q))]) X.1 X.2.1 dX11_toss_41 hl (by decide) rfl (fun ls hl => ?_)
  refine lv_aload_n X.1 X.2.1 dX11_toss_43 rfl (lv_at hl 1 rfl) ?_
  refine gx_getT 0 (v := .int (hI σ q 0)) X hG hT_q (by decide) k_199 (fun _ h => h) rfl dX11_toss_44 ?_
  exact gx_iretM X hG hS hE hF dX11_toss_47
theorem toss_h48 {σ0 τ : Hp} {r : Int32} {q q9 : Nat} (X : SX D cA base p s m args meth c cX11_toss 5 (some .int) RX11) (hG : GW D cA base ad σ H) (hS : va_S (bA base) s.heap H locs) (hE : xT σ0 σ) (hT_q : hT σ q 100) (hl : lv_has ls 5 [(3, .ref (ad q))]) (hF : (some (hI σ q 0 + 100, σ) : Option (Int32 × Hp)) = some (r, τ)) : W p l e rmt s m args below meth c H locs 1 6 (MQ below (va_Qi (fun v (_ : Unit) => v = r ∧ xT σ0 τ) (fun _ t => GS D cA base ad τ t) (bA base)) args s 1 6 (bA base)) (F0 m 48 ls [.ref q9]) := by
  refine lv_astore (lv' := [(4, .ref q9), (3, .ref (ad q))]) X.1 X.2.1 dX11_toss_48 hl (by decide) rfl (fun ls hl => ?_)
  refine lv_aload_n X.1 X.2.1 dX11_toss_50 rfl (lv_at hl 1 rfl) ?_
  refine gx_getT 0 (v := .int (hI σ q 0)) X hG hT_q (by decide) k_199 (fun _ h => h) rfl dX11_toss_51 ?_
  refine lv_bipush (v := 100) X.1 X.2.1 dX11_toss_54 (by decide) ?_
  refine lv_iadd X.1 X.2.1 dX11_toss_56 ?_
  exact gx_iretM X hG hS hE hF dX11_toss_57
theorem toss_h58 {σ0 τ : Hp} {r : Int32} {q q9 : Nat} (X : SX D cA base p s m args meth c cX11_toss 5 (some .int) RX11) (hG : GW D cA base ad σ H) (hS : va_S (bA base) s.heap H locs) (hE : xT σ0 σ) (hT_q : hT σ q 100) (hl : lv_has ls 5 [(3, .ref (ad q))]) (hF : (some (hI σ q 2 + 200, σ) : Option (Int32 × Hp)) = some (r, τ)) : W p l e rmt s m args below meth c H locs 1 6 (MQ below (va_Qi (fun v (_ : Unit) => v = r ∧ xT σ0 τ) (fun _ t => GS D cA base ad τ t) (bA base)) args s 1 6 (bA base)) (F0 m 58 ls [.ref q9]) := by
  refine lv_astore (lv' := [(4, .ref q9), (3, .ref (ad q))]) X.1 X.2.1 dX11_toss_58 hl (by decide) rfl (fun ls hl => ?_)
  refine lv_aload_n X.1 X.2.1 dX11_toss_60 rfl (lv_at hl 1 rfl) ?_
  refine gx_getT 2 (v := .int (hI σ q 2)) X hG hT_q (by decide) k_211 (fun _ h => h) rfl dX11_toss_61 ?_
  refine lv_sipush (v := 200) X.1 X.2.1 dX11_toss_64 (by decide) ?_
  refine lv_iadd X.1 X.2.1 dX11_toss_67 ?_
  exact gx_iretM X hG hS hE hF dX11_toss_68
theorem toss_ok {σ0 τ : Hp} {r : Int32} {q : Nat} {k9 n9 : Nat} (X : SX D cA base p s m args meth c cX11_toss 5 (some .int) RX11) (hG : GW D cA base ad σ H) (hS : va_S (bA base) s.heap H locs) (hE : xT σ0 σ) (hT_q : hT σ q 100) (hl : lv_has ls 5 [(3, .ref (ad q))]) (hk9 : k9 ≤ 1) (hn9 : n9 ≤ 6) (hF : (some (-15, σ) : Option (Int32 × Hp)) = some (r, τ)) : W p l e rmt s m args below meth c H locs k9 n9 (MQ below (va_Qi (fun v (_ : Unit) => v = r ∧ xT σ0 τ) (fun _ t => GS D cA base ad τ t) (bA base)) args s 1 6 (bA base)) (F0 m 38 ls []) := by
  refine W.widen (k := 1) (n := 6) hk9 hn9 ?_
  refine lv_goto (tgt := 69) X.1 X.2.1 dX11_toss_38 (by decide) ?_
  refine lv_bipush (v := -15) X.1 X.2.1 dX11_toss_69 (by decide) ?_
  exact gx_iretM X hG hS hE hF dX11_toss_71
theorem toss_tail {σ0 τ : Hp} {r : Int32} {q : Nat} (hl0 : l.stackTraces = false) (hXX : EXX base ta tb sa s) (htab : c.exceptionTable.toList = tableOf [(34, 38, 41, 258), (34, 38, 48, 251), (34, 38, 58, 277)]) (X : SX D cA base p s m args meth c cX11_toss 5 (some .int) RX11) (hG : GW D cA base ad σ H) (hS : va_S (bA base) s.heap H locs) (hE : xT σ0 σ) (hT_q : hT σ q 100) (hl : lv_has ls 5 [(3, .ref (ad q))]) (hF : (some (tossV σ q, σ) : Option (Int32 × Hp)) = some (r, τ)) : W p l e rmt s m args below meth c H locs 0 0 (MQ below (va_Qi (fun v (_ : Unit) => v = r ∧ xT σ0 τ) (fun _ t => GS D cA base ad τ t) (bA base)) args s 1 6 (bA base)) (F0 m 35 ls [.ref (ad q)]) := by
  have hk := isT_100 hT_q.2 (Or.inl rfl)
  generalize hke : hK σ q = k at hk
  rcases hk with rfl | rfl | rfl | rfl | rfl | rfl | rfl | rfl
  · refine vx_callv (vxx_runU (owner := "ElevenOne$Turn") (As := []) (rest := []) X hXX hG hS hT_q.1 hke (by decide) rfl (f_X10_fail l hl0 D cA base ad σ hT_q) k_924 k_823 k_826 k_827 k_824 k_5 rfl ⟨by decide, by decide, h_X10_fail.2.2.2⟩ rfl rfl ⟨by decide, by decide⟩ rfl hl.1 rfl (by decide) dX11_toss_35 ⟨by decide, by decide⟩) hS (fun _ _ h => h) (fun _ h => h) (fun _ _ h => h) (fun E ce q9 u t H1 locs1 ht hvm hp hB hz hk1 hS1 hce hcv hcl => ?_) (fun u t H1 locs1 ht hvm hp hB hz hk1 hS1 => ?_)
    · obtain ⟨rfl, hG1⟩ := hB
      rw [ht] at hG1
      refine vx_catch (own := RX11) (name := nISE) X.2.2.2.2.2.1 [] (⟨34, 38, 41, 258⟩ : ExceptionTableEntry) [(⟨34, 38, 48, 251⟩ : ExceptionTableEntry), (⟨34, 38, 58, 277⟩ : ExceptionTableEntry)] htab (fun z hz => by cases hz) rfl (by decide) (X.w k_820) (ex_hat X hXX (L := [Cond.castable nISE nISE]) (ex_nISE) _ List.mem_cons_self) hce hcv hcl ?_
      refine toss_h41 X hG1 hS1 hE hT_q hl ?_
      rw [← hF]; simp [tossV, hke, hp]
    · refine toss_ok X (by rw [← ht]; exact hB.1) hS1 hE hT_q hl (by decide) (by decide) ?_
      rw [← hF]; simp [tossV, hke, hp]
  · refine vx_callv (vxx_runO (owner := "ElevenOne$Turn") (x := yX10_fail) (As := []) (rest := []) X hXX hG hS hT_q.1 hke (by decide) rfl (f_X2_fail l hl0 D cA base ad σ (hT_q.of hke rfl)) k_830 k_823 k_826 k_824 k_828 k_829 k_8 k_924 ⟨by decide, by decide, h_X10_fail.2.2.2⟩ rfl rfl ⟨by decide, by decide⟩ rfl hl.1 rfl (by decide) dX11_toss_35 ⟨by decide, by decide⟩) hS (fun _ _ h => h) (fun _ h => h) (fun _ _ h => h) (fun E ce q9 u t H1 locs1 ht hvm hp hB hz hk1 hS1 hce hcv hcl => ?_) (fun u t H1 locs1 ht hvm hp hB hz hk1 hS1 => ?_)
    · obtain ⟨rfl, hG1⟩ := hB
      rw [ht] at hG1
      refine vx_catch (own := RX11) (name := nIAE) X.2.2.2.2.2.1 [(⟨34, 38, 41, 258⟩ : ExceptionTableEntry)] (⟨34, 38, 48, 251⟩ : ExceptionTableEntry) [(⟨34, 38, 58, 277⟩ : ExceptionTableEntry)] htab (fun z hz => by rcases List.mem_cons.mp hz with rfl | hz; exact Or.inr ⟨by decide, nISE, X.w k_820, hXX.2.2.2.1.1⟩; cases hz) rfl (by decide) (X.w k_821) (ex_hat X hXX (L := [Cond.castable nIAE nIAE]) (ex_nIAE) _ List.mem_cons_self) hce hcv hcl ?_
      refine toss_h48 X hG1 hS1 hE hT_q hl ?_
      rw [← hF]; simp [tossV, hke, hp]
    · refine toss_ok X (by rw [← ht]; exact hB.1) hS1 hE hT_q hl (by decide) (by decide) ?_
      rw [← hF]; simp [tossV, hke, hp]
  · refine vx_callv (vxx_runU (owner := "ElevenOne$Turn") (As := []) (rest := []) X hXX hG hS hT_q.1 hke (by decide) rfl (f_X10_fail l hl0 D cA base ad σ hT_q) k_924 k_823 k_826 k_899 k_824 k_5 rfl ⟨by decide, by decide, h_X10_fail.2.2.2⟩ rfl rfl ⟨by decide, by decide⟩ rfl hl.1 rfl (by decide) dX11_toss_35 ⟨by decide, by decide⟩) hS (fun _ _ h => h) (fun _ h => h) (fun _ _ h => h) (fun E ce q9 u t H1 locs1 ht hvm hp hB hz hk1 hS1 hce hcv hcl => ?_) (fun u t H1 locs1 ht hvm hp hB hz hk1 hS1 => ?_)
    · obtain ⟨rfl, hG1⟩ := hB
      rw [ht] at hG1
      refine vx_catch (own := RX11) (name := nISE) X.2.2.2.2.2.1 [] (⟨34, 38, 41, 258⟩ : ExceptionTableEntry) [(⟨34, 38, 48, 251⟩ : ExceptionTableEntry), (⟨34, 38, 58, 277⟩ : ExceptionTableEntry)] htab (fun z hz => by cases hz) rfl (by decide) (X.w k_820) (ex_hat X hXX (L := [Cond.castable nISE nISE]) (ex_nISE) _ List.mem_cons_self) hce hcv hcl ?_
      refine toss_h41 X hG1 hS1 hE hT_q hl ?_
      rw [← hF]; simp [tossV, hke, hp]
    · refine toss_ok X (by rw [← ht]; exact hB.1) hS1 hE hT_q hl (by decide) (by decide) ?_
      rw [← hF]; simp [tossV, hke, hp]
  · refine gx_rV (gx_runO (owner := "ElevenOne$Turn") (x := yX10_fail) (As := []) (rest := []) X hG hS hT_q.1 hke (by decide) rfl (c_X6_fail l D cA base ad σ 0 q ((hT_q.of hke rfl).to (by decide) rfl) rfl) k_902 k_823 k_826 k_824 k_900 k_901 k_11 k_924 ⟨by decide, by decide, h_X10_fail.2.2.2⟩ rfl rfl ⟨by decide, by decide⟩ rfl hl.1 rfl (by decide) dX11_toss_35 ⟨by decide, by decide⟩) hS (fun H locs hG hS hX => ?_)
    refine toss_ok X hG hS (hE.trans hX) (hX.T hT_q) hl (by decide) (by decide) ?_
    rw [← hF]; simp [tossV, hke]
  · refine gx_rV (gx_runO (owner := "ElevenOne$Turn") (x := yX10_fail) (As := []) (rest := []) X hG hS hT_q.1 hke (by decide) rfl (c_X6_fail l D cA base ad σ 0 q ((hT_q.of hke rfl).to (by decide) rfl) rfl) k_902 k_823 k_826 k_824 k_903 k_901 k_11 k_924 ⟨by decide, by decide, h_X10_fail.2.2.2⟩ rfl rfl ⟨by decide, by decide⟩ rfl hl.1 rfl (by decide) dX11_toss_35 ⟨by decide, by decide⟩) hS (fun H locs hG hS hX => ?_)
    refine toss_ok X hG hS (hE.trans hX) (hX.T hT_q) hl (by decide) (by decide) ?_
    rw [← hF]; simp [tossV, hke]
  · refine vx_callv (vxx_runO (owner := "ElevenOne$Turn") (x := yX10_fail) (As := []) (rest := []) X hXX hG hS hT_q.1 hke (by decide) rfl (f_X8_fail l hl0 D cA base ad σ (hT_q.of hke rfl)) k_906 k_823 k_826 k_824 k_904 k_905 k_9 k_924 ⟨by decide, by decide, h_X10_fail.2.2.2⟩ rfl rfl ⟨by decide, by decide⟩ rfl hl.1 rfl (by decide) dX11_toss_35 ⟨by decide, by decide⟩) hS (fun _ _ h => h) (fun _ h => h) (fun _ _ h => h) (fun E ce q9 u t H1 locs1 ht hvm hp hB hz hk1 hS1 hce hcv hcl => ?_) (fun u t H1 locs1 ht hvm hp hB hz hk1 hS1 => ?_)
    · obtain ⟨rfl, hG1⟩ := hB
      rw [ht] at hG1
      refine vx_catch (own := RX11) (name := nUOE) X.2.2.2.2.2.1 [(⟨34, 38, 41, 258⟩ : ExceptionTableEntry), (⟨34, 38, 48, 251⟩ : ExceptionTableEntry)] (⟨34, 38, 58, 277⟩ : ExceptionTableEntry) [] htab (fun z hz => by rcases List.mem_cons.mp hz with rfl | hz; exact Or.inr ⟨by decide, nISE, X.w k_820, hXX.2.2.2.1.2.1⟩; rcases List.mem_cons.mp hz with rfl | hz; exact Or.inr ⟨by decide, nIAE, X.w k_821, hXX.2.2.2.1.2.2.1⟩; cases hz) rfl (by decide) (X.w k_822) (ex_hat X hXX (L := [Cond.castable nUOE nUOE]) (ex_nUOE) _ List.mem_cons_self) hce hcv hcl ?_
      refine toss_h58 X hG1 hS1 hE hT_q hl ?_
      rw [← hF]; simp [tossV, hke, hp]
    · refine toss_ok X (by rw [← ht]; exact hB.1) hS1 hE hT_q hl (by decide) (by decide) ?_
      rw [← hF]; simp [tossV, hke, hp]
  · refine vx_callv (vxx_runU (owner := "ElevenOne$Turn") (As := []) (rest := []) X hXX hG hS hT_q.1 hke (by decide) rfl (f_X10_fail l hl0 D cA base ad σ hT_q) k_924 k_823 k_826 k_923 k_824 k_5 rfl ⟨by decide, by decide, h_X10_fail.2.2.2⟩ rfl rfl ⟨by decide, by decide⟩ rfl hl.1 rfl (by decide) dX11_toss_35 ⟨by decide, by decide⟩) hS (fun _ _ h => h) (fun _ h => h) (fun _ _ h => h) (fun E ce q9 u t H1 locs1 ht hvm hp hB hz hk1 hS1 hce hcv hcl => ?_) (fun u t H1 locs1 ht hvm hp hB hz hk1 hS1 => ?_)
    · obtain ⟨rfl, hG1⟩ := hB
      rw [ht] at hG1
      refine vx_catch (own := RX11) (name := nISE) X.2.2.2.2.2.1 [] (⟨34, 38, 41, 258⟩ : ExceptionTableEntry) [(⟨34, 38, 48, 251⟩ : ExceptionTableEntry), (⟨34, 38, 58, 277⟩ : ExceptionTableEntry)] htab (fun z hz => by cases hz) rfl (by decide) (X.w k_820) (ex_hat X hXX (L := [Cond.castable nISE nISE]) (ex_nISE) _ List.mem_cons_self) hce hcv hcl ?_
      refine toss_h41 X hG1 hS1 hE hT_q hl ?_
      rw [← hF]; simp [tossV, hke, hp]
    · refine toss_ok X (by rw [← ht]; exact hB.1) hS1 hE hT_q hl (by decide) (by decide) ?_
      rw [← hF]; simp [tossV, hke, hp]
  · refine vx_callv (vxx_runV (As := []) (rest := []) X hXX hG hS hT_q.1 hke (by decide) rfl (f_X10_fail l hl0 D cA base ad σ hT_q) k_924 k_823 k_824 k_825 k_5 h_X10_fail rfl rfl ⟨by decide, by decide⟩ rfl hl.1 rfl (by decide) dX11_toss_35 ⟨by decide, by decide⟩) hS (fun _ _ h => h) (fun _ h => h) (fun _ _ h => h) (fun E ce q9 u t H1 locs1 ht hvm hp hB hz hk1 hS1 hce hcv hcl => ?_) (fun u t H1 locs1 ht hvm hp hB hz hk1 hS1 => ?_)
    · obtain ⟨rfl, hG1⟩ := hB
      rw [ht] at hG1
      refine vx_catch (own := RX11) (name := nISE) X.2.2.2.2.2.1 [] (⟨34, 38, 41, 258⟩ : ExceptionTableEntry) [(⟨34, 38, 48, 251⟩ : ExceptionTableEntry), (⟨34, 38, 58, 277⟩ : ExceptionTableEntry)] htab (fun z hz => by cases hz) rfl (by decide) (X.w k_820) (ex_hat X hXX (L := [Cond.castable nISE nISE]) (ex_nISE) _ List.mem_cons_self) hce hcv hcl ?_
      refine toss_h41 X hG1 hS1 hE hT_q hl ?_
      rw [← hF]; simp [tossV, hke, hp]
    · refine toss_ok X (by rw [← ht]; exact hB.1) hS1 hE hT_q hl (by decide) (by decide) ?_
      rw [← hF]; simp [tossV, hke, hp]
def F_X11_toss (n : Nat) (a0 : Nat) (a1 : Int32) (σ : Hp) : Option (Int32 × Hp) := b2 (F_X11_shelfAt n a0 a1 σ) fun (r2 : Option Nat) (σ1 : Hp) => om r2 (some ((-1), σ1)) (fun i3 => b2 (F_X5_isEmpty n i3 σ1) fun (r5 : Int32) (σ4 : Hp) => if r5 = 0 then (lt (hR σ4 i3 0) fun (q6 : Option Nat) => om q6 (some ((-12), σ4)) (fun i7 => some (tossV σ4 i7, σ4))) else (some ((-11), σ4)))
theorem c_X11_toss (l : Launch) (hl0 : l.stackTraces = false) (D : va_G) (cA : Nat → ClassId) (base : Nat) (ad : Nat → Nat) (σ : Hp) (n : Nat) (a0 : Nat) (a1 : Int32) (hT_a0 : hT σ a0 11) {ta tb : Nat} {sa : Nat → Nat} {τ : Hp} {r : Int32} (hF : F_X11_toss n a0 a1 σ = some (r, τ)) : Met l yX11_toss (.codeWith yX11_toss cX11_toss 5 (some .int) [(34, 38, 41, 258), (34, 38, 48, 251), (34, 38, 58, 277)] :: TB) rmt (va_Pc [.ref (ad a0), .int a1] (GX D cA base ad σ ta tb sa)) (va_Qi (fun v (_ : Unit) => v = r ∧ xT σ τ) (fun _ t => GS D cA base ad τ t) (bA base)) 1 6 (bA base) := by
  refine va_MetW (cc := cX11_toss) (maxL := 5) (ret := (some .int)) (by decide) rfl ?_
  intro p e s m args below meth c s₁ B hml hv
  obtain ⟨rfl, hv, hXX⟩ := hv
  have X : SX D cA base p s m ([.ref (ad a0), .int a1] : List Value).toArray meth c cX11_toss 5 (some .int) RX11 := sx_ofW B hml hv
  have hG := hv.1
  have hS : va_S (bA base) s.heap s.heap [] := va_S.rf
  have hE := xT.rf σ
  have hl := lv_entry ([.ref (ad a0), .int a1]) (n := 5) (Nat.le_of_ble_eq_true rfl)
  rw [lg_entry_eq]
  generalize (lg_sl ([.ref (ad a0), .int a1]) ++ List.replicate (5 - (lg_sl ([.ref (ad a0), .int a1])).length) Slot.unset).toArray = ls at hl ⊢
  have hl : lv_has ls 5 [(0, .ref (ad a0)), (1, .int a1)] := hl
  have htab : c.exceptionTable.toList = tableOf [(34, 38, 41, 258), (34, 38, 48, 251), (34, 38, 58, 277)] := vx_table (x := yX11_toss) B (atoms_spec (ws := Cond.codeWith yX11_toss cX11_toss 5 (some .int) [(34, 38, 41, 258), (34, 38, 48, 251), (34, 38, 58, 277)] :: TB) B.pre _ List.mem_cons_self)
  unfold F_X11_toss at hF
  refine lv_aload_n X.1 X.2.1 dX11_toss_0 rfl (lv_at hl 0 rfl) ?_
  refine lv_iload_n X.1 X.2.1 dX11_toss_1 rfl (lv_at hl 1 rfl) ?_
  obtain ⟨r2, σ1, hz, hF⟩ := b2_ex hF
  refine gx_rQ (gx_runV (As := [.int a1]) (rest := []) X hG hS hT_a0.1 (hT_a0.eq (by decide)) (by decide) rfl (c_X11_shelfAt l D cA base ad σ n a0 a1 hT_a0 hz) k_435 k_432 k_434 ks_1 k_1 (h_X11_shelfAt) rfl rfl ⟨by decide, by decide⟩ rfl hl.1 rfl (Nat.le_of_ble_eq_true rfl) dX11_toss_2 ⟨Nat.zero_le _, Nat.zero_le _⟩) hS (fun H locs hG hS hX hO_r2 => ?_)
  have hT_a0 := hX.T hT_a0
  replace hE := hE.trans hX
  refine gx_astore_n (lv' := [(2, va_rf (Option.map ad r2)), (0, .ref (ad a0)), (1, .int a1)]) X.1 X.2.1 dX11_toss_5 rfl hl (by decide) (by cases r2 <;> rfl) (fun ls hl => ?_)
  refine gx_aload_n X.1 X.2.1 dX11_toss_6 rfl (lv_at hl 0 rfl) ?_
  refine gx_ifnonnull (tgt := 12) X.1 X.2.1 dX11_toss_7 (by decide) hF (fun hr hF2i3 => ?_) (fun i3 hr hF2i3 => ?_)
  · subst hr
    have hF := hF2i3
    have hl : lv_has ls 5 [(2, .null), (0, .ref (ad a0)), (1, .int a1)] := hl
    refine lv_iconst (v := (-1)) X.1 X.2.1 dX11_toss_10 (by decide) ?_
    refine W.widen (k := 1) (n := 6) (by decide) (by decide) (gx_iretM X hG hS hE hF dX11_toss_11)
  · subst hr
    have hF := hF2i3
    have hT_i3 := hO_r2 i3 rfl
    have hl : lv_has ls 5 [(2, .ref (ad i3)), (0, .ref (ad a0)), (1, .int a1)] := hl
    refine lv_aload_n X.1 X.2.1 dX11_toss_12 rfl (lv_at hl 0 rfl) ?_
    obtain ⟨r5, σ4, hz, hF⟩ := b2_ex hF
    refine gx_rI (gx_runV (As := []) (rest := []) X hG hS hT_i3.1 (hT_i3.eq (by decide)) (by decide) rfl (c_X5_isEmpty l D cA base ad σ1 n i3 hT_i3 hz) k_439 k_436 k_437 k_438 k_3 (h_X5_isEmpty) rfl rfl ⟨by decide, by decide⟩ rfl hl.1 rfl (Nat.le_of_ble_eq_true rfl) dX11_toss_13 ⟨Nat.zero_le _, Nat.zero_le _⟩) hS (fun H locs hG hS hX => ?_)
    have hT_a0 := hX.T hT_a0
    have hT_i3 := hX.T hT_i3
    replace hE := hE.trans hX
    refine lv_if_eq (tgt := 22) X.1 X.2.1 dX11_toss_16 (by decide) (fun hc => ?_) (fun hc => ?_)
    · replace hF := it_t hF hc
      refine lv_aload_n X.1 X.2.1 dX11_toss_22 rfl (lv_at hl 0 rfl) ?_
      obtain ⟨q6, hr, hF⟩ := lt_ex hF
      have hO_q6 : oT σ4 q6 100 := by rw [hr]; exact gw_O hG hT_i3 (by decide)
      refine gx_getN 0 (v := va_rf (Option.map ad q6)) X hG hT_i3.1 (hT_i3.eq (by decide)) (by decide) rfl inX5 (by decide) q_131 (fun _ h => h) (by rw [hr]; rfl) dX11_toss_23 ?_
      refine gx_astore_n (lv' := [(3, va_rf (Option.map ad q6)), (2, .ref (ad i3)), (0, .ref (ad a0)), (1, .int a1)]) X.1 X.2.1 dX11_toss_26 rfl hl (by decide) (by cases q6 <;> rfl) (fun ls hl => ?_)
      refine gx_aload_n X.1 X.2.1 dX11_toss_27 rfl (lv_at hl 0 rfl) ?_
      refine gx_ifnonnull (tgt := 34) X.1 X.2.1 dX11_toss_28 (by decide) hF (fun hr hF2i7 => ?_) (fun i7 hr hF2i7 => ?_)
      · subst hr
        have hF := hF2i7
        have hl : lv_has ls 5 [(3, .null), (2, .ref (ad i3)), (0, .ref (ad a0)), (1, .int a1)] := hl
        refine lv_bipush (v := (-12)) X.1 X.2.1 dX11_toss_31 (by decide) ?_
        refine W.widen (k := 1) (n := 6) (by decide) (by decide) (gx_iretM X hG hS hE hF dX11_toss_33)
      · subst hr
        have hF := hF2i7
        have hT_i7 := hO_q6 i7 rfl
        have hl : lv_has ls 5 [(3, .ref (ad i7)), (2, .ref (ad i3)), (0, .ref (ad a0)), (1, .int a1)] := hl
        refine lv_aload_n X.1 X.2.1 dX11_toss_34 rfl (lv_at hl 0 rfl) ?_
        exact toss_tail hl0 hXX htab X hG hS hE hT_i7 (lv_sub hl [0] rfl) hF
    · replace hF := it_f hF hc
      refine lv_bipush (v := (-11)) X.1 X.2.1 dX11_toss_19 (by decide) ?_
      refine W.widen (k := 1) (n := 6) (by decide) (by decide) (gx_iretM X hG hS hE hF dX11_toss_21)
def ruleAt (f : Nat → Int32) (v : Int32) : Int32 := if v < 0 then 0 else if 4 ≤ v then 0 else f v.toNatClampNeg
/-- at(row, i) of a static row -/
theorem c_at_st (l : Launch) (D : va_G) (cA : Nat → ClassId) (base : Nat) (ad : Nat → Nat) (σ : Hp) {t : Nat} {f : Nat → Int32} {v : Int32} : Met l yX11_at (.code yX11_at cX11_at 2 (some .int) :: TB) rm_X11_at (va_Pc [.ref t, .int v] (fun U => GS D cA base ad σ U ∧ va_T .int t 4 (fun j => .int (f j)) (bA base) U U.heap)) (va_Qi (fun r (_ : Unit) => r = ruleAt f v ∧ xT σ σ) (fun _ t => GS D cA base ad σ t) (bA base)) 0 0 (bA base) := by
  refine Met.ofW (cc := cX11_at) (maxL := 2) (ret := (some .int)) (by decide) rfl ?_
  intro p e s m args below meth c s₁ B hml hv
  obtain ⟨rfl, hv, hT⟩ := hv
  have X : SX D cA base p s m ([.ref t, .int v] : List Value).toArray meth c cX11_at 2 (some .int) RX11 := sx_of B hml hv
  have hG := hv.1
  have hS : va_S (bA base) s.heap s.heap [] := va_S.rf
  have hE := xT.rf σ
  have hl := lv_entry ([.ref t, .int v]) (n := 2) (Nat.le_of_ble_eq_true rfl)
  rw [lg_entry_eq]
  generalize (lg_sl ([.ref t, .int v]) ++ List.replicate (2 - (lg_sl ([.ref t, .int v])).length) Slot.unset).toArray = ls at hl ⊢
  have hl : lv_has ls 2 [(0, .ref t), (1, .int v)] := hl
  refine lv_iload_n X.1 X.2.1 dX11_at_0 rfl (lv_at hl 1 rfl) ?_
  refine lv_if_lt (tgt := 16) X.1 X.2.1 dX11_at_1 (by decide) (fun hc => ?_) (fun hc => ?_)
  · refine lv_iconst (v := 0) X.1 X.2.1 dX11_at_16 (by decide) ?_
    exact gx_iret X hG hS hE (by simp [ruleAt, hc]) dX11_at_17
  · refine lv_iload_n X.1 X.2.1 dX11_at_4 rfl (lv_at hl 1 rfl) ?_
    refine lv_aload_n X.1 X.2.1 dX11_at_5 rfl (lv_at hl 0 rfl) ?_
    refine va_tlen X.1 X.2.1 hT hS (v := 4) (by decide) dX11_at_6 ?_
    refine lv_icmp_ge (tgt := 16) X.1 X.2.1 dX11_at_7 (by decide) (fun hc2 => ?_) (fun hc2 => ?_)
    · refine lv_iconst (v := 0) X.1 X.2.1 dX11_at_16 (by decide) ?_
      exact gx_iret X hG hS hE (by simp [ruleAt, hc, hc2]) dX11_at_17
    · refine lv_aload_n X.1 X.2.1 dX11_at_10 rfl (lv_at hl 0 rfl) ?_
      refine lv_iload_n X.1 X.2.1 dX11_at_11 rfl (lv_at hl 1 rfl) ?_
      have hin : vp_in v 4 := by
        obtain ⟨j, hj, rfl⟩ := nI_of hc
        rw [show (4 : Int32) = nI 4 from rfl, nI_leI (by decide) hj] at hc2
        exact vp_in_nI (by omega) (by decide)
      refine va_ti X.1 X.2.1 hT hS hin rfl dX11_at_12 ?_
      refine lv_goto (tgt := 17) X.1 X.2.1 dX11_at_13 (by decide) ?_
      exact gx_iret X hG hS hE (by simp [ruleAt, hc, hc2]) dX11_at_17
theorem run_at_st {t : Nat} {f : Nat → Int32} {v : Int32} (X : SX D cA base p s m args meth c cc nL ret own) (hT : va_T .int t 4 (fun j => .int (f j)) (bA base) s s.heap) (hG : GW D cA base ad σ H) (hS : va_S (bA base) s.heap H locs) (hcode : Cond.code yX11_at cX11_at 2 (some .int) ∈ TB) (hl : Cond.methodLink own index yX11_at ∈ TB) (hst : Cond.static yX11_at ∈ TB) (hini : Cond.initialized "ElevenOne" ∈ TB) (hR : 1 ≤ R.frames ∧ 21 ≤ R.locals) (hsize : ls.size = nL) (hstack : st0 = ([.ref t, .int v] : List Value).reverse ++ rest) (hW : (rest.map fun v => v.category).sum ≤ 8) (hdg : decode cc pc = .ok (.invokestatic index, 3)) (hf : cells + 0 ≤ R.cells ∧ slots + 0 ≤ R.slots) :
    va_Run p l e R s m args below meth c H locs cells slots 0 0 (F0 m pc ls st0) rest (va_Qi (fun r (_ : Unit) => r = ruleAt f v ∧ xT σ σ) (fun _ t => GS D cA base ad σ t) (bA base) ([.ref t, .int v] : List Value).toArray) (bA base) :=
  va_runS (sx_fix X) (c_at_st l D cA base ad σ) (va_cwS 2 X.2.2.2.2.1 (tb_in (by unfold va_wsS; exact tb_a (tb_c hl (tb_c hst (tb_c hini tb_n))) (tb_c hcode tb_0))) rfl rfl rfl h_X11_at.2 ⟨hR.1, hR.2⟩)
    ⟨fun a U g mk h => ⟨h.1, ⟨h.2.1.1, va_K.moved (u := U) (U := U.calling g mk a) (Vm.Alike.refl U.vm) h.2.1.2.1, NX.same (s := U) (U := U.calling g mk a) rfl h.2.1.2.2.1, h.2.1.2.2.2⟩, va_T.moved (u := U) (U := U.calling g mk a) (Vm.Alike.refl U.vm) h.2.2⟩,
     fun U hU hW => ⟨rfl, (gs_call X hG hS [.ref t, .int v] U hU hW).2, by
      rw [hU]
      exact va_T.moved hW.alike (hT.kept (fun a h1 h2 => hS.2.1 a h1 h2))⟩⟩ rfl rfl hsize hstack (by show 2 * 0 + _ ≤ 8; omega) hdg hf
theorem el_ret {σ0 τ : Hp} {k : Int32} {v w : Int64} (X : SX D cA base p s m args meth c cc nL (some .long) own) (hG : GW D cA base ad σ H) (hS : va_S (bA base) s.heap H locs) (hE : xT σ0 σ) (hF : (some ((0, w), σ) : Option ((Int32 × Int64) × Hp)) = some ((k, v), τ)) (hdg : decode cc pc = .ok (.lreturn, 1)) : W p l e R s m args below meth c H locs cells slots (MQ below (va_Ql (fun w (_ : Unit) => k = 0 ∧ w = v ∧ xT σ0 τ) (fun _ t => GS D cA base ad τ t) (bA base)) args s cells slots (bA base)) (F0 m pc ls [.long w]) := by
  have hF := Option.some.inj hF
  cases hF
  exact W.lret X.1 X.2.1 X.2.2.2.1 (fun t ht hW => ⟨⟨v, (), rfl, ⟨rfl, rfl, hE⟩, gs_end X hG hS ht hW⟩, hS.F ht⟩) hS.2.2 hdg X.2.2.2.2.2.2.1
/-- the world behind the throws of element -/
def XE (D : va_G) (cA : Nat → ClassId) (base : Nat) (ad : Nat → Nat) (σ τ : Hp) (k : Int32) : String → State → State → Prop := vx_X (fun (_ : Unit) => xT σ τ) (fun E _ t => ((k = 1 ∧ E = nIAE) ∨ (k = 2 ∧ E = nISE)) ∧ GW D cA base ad τ t.heap) (bA base)

abbrev rm_X11_set : Room := { frames := 2, cells := 0, slots := 0, locals := 30 }
theorem h_X11_set : yX11_set.cls = RX11 ∧ yX11_set.cls ≠ "java/lang/invoke/MethodHandle" ∧ yX11_set.cls ≠ "java/lang/invoke/VarHandle" ∧ (parseMethodDescriptor yX11_set.desc).map (fun d => d.parameters.length) = some 2 := by decide +kernel
def F_X11_set (n : Nat) (a0 : Nat) (a1 : Int32) (a2 : Int32) (σ : Hp) : Option (Int32 × Hp) := if a1 < 0 then (some ((-1), σ)) else (if 3 < a1 then (some ((-1), σ)) else (lt (ruleAt rL a1) fun (x1 : Int32) => if a2 < x1 then (some ((-1), σ)) else (lt (ruleAt rM a1) fun (x2 : Int32) => if a2 ≤ x2 then (b1 (hR σ a0 0) fun (i3 : Nat) => b1 (hR σ i3 7) fun (i4 : Nat) => b2 (F_X11_at n i4 a1 σ) fun (r6 : Int32) (σ5 : Hp) => b1 (hR σ5 a0 0) fun (i7 : Nat) => b1 (hR σ5 i7 7) fun (i8 : Nat) => b1 (F_X11_store n i8 a1 a2 σ5) fun (σ9 : Hp) => some (r6, σ9)) else (some ((-1), σ)))))
theorem c_X11_set (l : Launch) (D : va_G) (cA : Nat → ClassId) (base : Nat) (ad : Nat → Nat) (σ : Hp) (n : Nat) (a0 : Nat) (a1 : Int32) (a2 : Int32) (hT_a0 : hT σ a0 11) {ta tb : Nat} {sa : Nat → Nat} {τ : Hp} {r : Int32} (hF : F_X11_set n a0 a1 a2 σ = some (r, τ)) : Met l yX11_set (.code yX11_set cX11_set 4 (some .int) :: TB) rm_X11_set (va_Pc [.ref (ad a0), .int a1, .int a2] (GX D cA base ad σ ta tb sa)) (va_Qi (fun v (_ : Unit) => v = r ∧ xT σ τ) (fun _ t => GS D cA base ad τ t) (bA base)) 0 0 (bA base) := by
  refine Met.ofW (cc := cX11_set) (maxL := 4) (ret := (some .int)) (by decide) rfl ?_
  intro p e s m args below meth c s₁ B hml hv
  obtain ⟨rfl, hv, hXX⟩ := hv
  have X : SX D cA base p s m ([.ref (ad a0), .int a1, .int a2] : List Value).toArray meth c cX11_set 4 (some .int) RX11 := sx_of B hml hv
  have hG := hv.1
  have hS : va_S (bA base) s.heap s.heap [] := va_S.rf
  have hE := xT.rf σ
  have hl := lv_entry ([.ref (ad a0), .int a1, .int a2]) (n := 4) (Nat.le_of_ble_eq_true rfl)
  rw [lg_entry_eq]
  generalize (lg_sl ([.ref (ad a0), .int a1, .int a2]) ++ List.replicate (4 - (lg_sl ([.ref (ad a0), .int a1, .int a2])).length) Slot.unset).toArray = ls at hl ⊢
  have hl : lv_has ls 4 [(0, .ref (ad a0)), (1, .int a1), (2, .int a2)] := hl
  unfold F_X11_set at hF
  refine lv_iload_n X.1 X.2.1 dX11_set_0 rfl (lv_at hl 1 rfl) ?_
  refine lv_if_lt (tgt := 31) X.1 X.2.1 dX11_set_1 (by decide) (fun hc => ?_) (fun hc => ?_)
  · replace hF := it_t hF hc
    refine lv_iconst (v := (-1)) X.1 X.2.1 dX11_set_31 (by decide) ?_
    exact gx_iret X hG hS hE hF dX11_set_32
  · replace hF := it_f hF hc
    refine lv_iload_n X.1 X.2.1 dX11_set_4 rfl (lv_at hl 1 rfl) ?_
    refine lv_iconst (v := 3) X.1 X.2.1 dX11_set_5 (by decide) ?_
    refine lv_icmp_gt (tgt := 31) X.1 X.2.1 dX11_set_6 (by decide) (fun hc => ?_) (fun hc => ?_)
    · replace hF := it_t hF hc
      refine lv_iconst (v := (-1)) X.1 X.2.1 dX11_set_31 (by decide) ?_
      exact gx_iret X hG hS hE hF dX11_set_32
    · replace hF := it_f hF hc
      refine lv_iload_n X.1 X.2.1 dX11_set_9 rfl (lv_at hl 2 rfl) ?_
      refine va_gets X.1 X.2.1 hXX.1.1 hS X.2.2.2.2.2.1 (X.w k_524) (fun _ h => h) dX11_set_10 ?_
      refine lv_iload_n X.1 X.2.1 dX11_set_13 rfl (lv_at hl 1 rfl) ?_
      refine gx_rI (run_at_st (rest := [.int a2]) X hXX.1.2.1 hG hS k_362 k_375 k_361 k_1 ⟨by decide, by decide⟩ hl.1 rfl (Nat.le_of_ble_eq_true rfl) dX11_set_14 ⟨Nat.zero_le _, Nat.zero_le _⟩) hS (fun H locs hG hS hX => ?_)
      refine lv_topi (fun x1 ex1 => ?_)
      replace hF := lt_nm hF ex1
      refine lv_icmp_lt (tgt := 31) X.1 X.2.1 dX11_set_17 (by decide) (fun hc => ?_) (fun hc => ?_)
      · replace hF := it_t hF hc
        refine lv_iconst (v := (-1)) X.1 X.2.1 dX11_set_31 (by decide) ?_
        exact gx_iret X hG hS hE hF dX11_set_32
      · replace hF := it_f hF hc
        refine lv_iload_n X.1 X.2.1 dX11_set_20 rfl (lv_at hl 2 rfl) ?_
        refine va_gets X.1 X.2.1 hXX.1.2.2.1 hS X.2.2.2.2.2.1 (X.w k_526) (fun _ h => h) dX11_set_21 ?_
        refine lv_iload_n X.1 X.2.1 dX11_set_24 rfl (lv_at hl 1 rfl) ?_
        refine gx_rI (run_at_st (rest := [.int a2]) X hXX.1.2.2.2 hG hS k_362 k_375 k_361 k_1 ⟨by decide, by decide⟩ hl.1 rfl (Nat.le_of_ble_eq_true rfl) dX11_set_25 ⟨Nat.zero_le _, Nat.zero_le _⟩) hS (fun H locs hG hS hX => ?_)
        refine lv_topi (fun x2 ex2 => ?_)
        replace hF := lt_nm hF ex2
        refine lv_icmp_le (tgt := 33) X.1 X.2.1 dX11_set_28 (by decide) (fun hc => ?_) (fun hc => ?_)
        · replace hF := it_t hF hc
          refine lv_aload_n X.1 X.2.1 dX11_set_33 rfl (lv_at hl 0 rfl) ?_
          obtain ⟨i3, hr, hF⟩ := b1_ex hF
          have hT_i3 : hT σ i3 3 := gw_T hG hT_a0 (by decide) hr
          refine gx_get 0 (v := .ref (ad i3)) X hG hT_a0.1 (hT_a0.eq (by decide)) (by decide) rfl inX11 (by decide) k_151 (fun _ h => h) (gx_rfv hr) dX11_set_34 ?_
          obtain ⟨i4, hr, hF⟩ := b1_ex hF
          have hT_i4 : hT σ i4 13 := gw_T hG hT_i3 (by decide) hr
          refine gx_getN 7 (v := .ref (ad i4)) X hG hT_i3.1 (hT_i3.eq (by decide)) (by decide) rfl inX3 (by decide) q_57 (fun _ h => h) (gx_rfv hr) dX11_set_37 ?_
          refine lv_iload_n X.1 X.2.1 dX11_set_40 rfl (lv_at hl 1 rfl) ?_
          obtain ⟨r6, σ5, hz, hF⟩ := b2_ex hF
          refine gx_rI (gx_runS (As := [.ref (ad i4), .int a1]) (rest := []) X hG hS (c_X11_at l D cA base ad σ n i4 a1 hT_i4 hz) k_362 k_375 k_361 k_1 (h_X11_at.2) rfl rfl ⟨by decide, by decide⟩ rfl hl.1 rfl (Nat.le_of_ble_eq_true rfl) dX11_set_41 ⟨Nat.zero_le _, Nat.zero_le _⟩) hS (fun H locs hG hS hX => ?_)
          have hT_a0 := hX.T hT_a0
          replace hE := hE.trans hX
          refine lv_istore_n (lv' := [(3, .int r6), (0, .ref (ad a0)), (1, .int a1), (2, .int a2)]) X.1 X.2.1 dX11_set_44 rfl hl (by decide) rfl (fun ls hl => ?_)
          refine lv_aload_n X.1 X.2.1 dX11_set_45 rfl (lv_at hl 1 rfl) ?_
          obtain ⟨i7, hr, hF⟩ := b1_ex hF
          have hT_i7 : hT σ5 i7 3 := gw_T hG hT_a0 (by decide) hr
          refine gx_get 0 (v := .ref (ad i7)) X hG hT_a0.1 (hT_a0.eq (by decide)) (by decide) rfl inX11 (by decide) k_151 (fun _ h => h) (gx_rfv hr) dX11_set_46 ?_
          obtain ⟨i8, hr, hF⟩ := b1_ex hF
          have hT_i8 : hT σ5 i8 13 := gw_T hG hT_i7 (by decide) hr
          refine gx_getN 7 (v := .ref (ad i8)) X hG hT_i7.1 (hT_i7.eq (by decide)) (by decide) rfl inX3 (by decide) q_57 (fun _ h => h) (gx_rfv hr) dX11_set_49 ?_
          refine lv_iload_n X.1 X.2.1 dX11_set_52 rfl (lv_at hl 2 rfl) ?_
          refine lv_iload_n X.1 X.2.1 dX11_set_53 rfl (lv_at hl 3 rfl) ?_
          obtain ⟨σ9, hz, hF⟩ := b1_ex hF
          refine gx_rV (gx_runS (As := [.ref (ad i8), .int a1, .int a2]) (rest := []) X hG hS (c_X11_store l D cA base ad σ5 n i8 a1 a2 hT_i8 hz) k_173 k_171 k_172 k_1 (h_X11_store.2) rfl rfl ⟨by decide, by decide⟩ rfl hl.1 rfl (Nat.le_of_ble_eq_true rfl) dX11_set_54 ⟨Nat.zero_le _, Nat.zero_le _⟩) hS (fun H locs hG hS hX => ?_)
          have hT_a0 := hX.T hT_a0
          replace hE := hE.trans hX
          refine lv_iload_n X.1 X.2.1 dX11_set_57 rfl (lv_at hl 0 rfl) ?_
          exact gx_iret X hG hS hE hF dX11_set_58
        · replace hF := it_f hF hc
          refine lv_iconst (v := (-1)) X.1 X.2.1 dX11_set_31 (by decide) ?_
          exact gx_iret X hG hS hE hF dX11_set_32
abbrev rm_X11_element : Room := { frames := 6, cells := 1, slots := 6, locals := 200 }
theorem h_X11_element : yX11_element.cls = RX11 ∧ yX11_element.cls ≠ "java/lang/invoke/MethodHandle" ∧ yX11_element.cls ≠ "java/lang/invoke/VarHandle" ∧ (parseMethodDescriptor yX11_element.desc).map (fun d => d.parameters.length) = some 2 := by decide +kernel
def F_X11_element (n : Nat) (a0 : Nat) (a1 : Int32) (a2 : Int32) (σ : Hp) : Option ((Int32 × Int64) × Hp) := b2 (F_X11_shelfAt n a0 a1 σ) fun (r2 : Option Nat) (σ1 : Hp) => om r2 (some ((1, 0), σ1)) (fun i3 => b2 (F_X5_isRow n i3 σ1) fun (r5 : Int32) (σ4 : Hp) => if r5 = 0 then (some ((2, 0), σ4)) else (b2 (F_X5_hasPlaces n i3 a2 1 σ4) fun (r7 : Int32) (σ6 : Hp) => if r7 = 0 then (some ((2, 0), σ6)) else (b1 (hR σ6 i3 4) fun (i8 : Nat) => b2 (F_X11_at n i8 a2 σ6) fun (r10 : Int32) (σ9 : Hp) => some ((0, r10.toInt64), σ9))))
set_option maxRecDepth 20000 in
theorem c_X11_element (l : Launch) (hl0 : l.stackTraces = false) (D : va_G) (cA : Nat → ClassId) (base : Nat) (ad : Nat → Nat) (σ : Hp) (n : Nat) (a0 : Nat) (a1 : Int32) (a2 : Int32) (hT_a0 : hT σ a0 11) {ta tb : Nat} {sa : Nat → Nat} {τ : Hp} {k : Int32} {v : Int64} (hF : F_X11_element n a0 a1 a2 σ = some ((k, v), τ)) : vx_Met l yX11_element (.code yX11_element cX11_element 4 (some .long) :: TB) rm_X11_element (va_Pc [.ref (ad a0), .int a1, .int a2] (GX D cA base ad σ ta tb sa)) (va_Ql (fun w (_ : Unit) => k = 0 ∧ w = v ∧ xT σ τ) (fun _ t => GS D cA base ad τ t) (bA base)) (XE D cA base ad σ τ k) 1 6 (bA base) := by
  refine vx_ofW (cc := cX11_element) (maxL := 4) (ret := (some .long)) (by decide) rfl ?_
  intro p e s m args below meth c s₁ B hml hnt hv
  obtain ⟨rfl, hv, hXX⟩ := hv
  have X : SX D cA base p s m ([.ref (ad a0), .int a1, .int a2] : List Value).toArray meth c cX11_element 4 (some .long) RX11 := sx_of B hml hv
  have hG := hv.1
  have hS : va_S (bA base) s.heap s.heap [] := va_S.rf
  have hE := xT.rf σ
  have hl := lv_entry ([.ref (ad a0), .int a1, .int a2]) (n := 4) (Nat.le_of_ble_eq_true rfl)
  rw [lg_entry_eq]
  generalize (lg_sl ([.ref (ad a0), .int a1, .int a2]) ++ List.replicate (4 - (lg_sl ([.ref (ad a0), .int a1, .int a2])).length) Slot.unset).toArray = ls at hl ⊢
  have hl : lv_has ls 4 [(0, .ref (ad a0)), (1, .int a1), (2, .int a2)] := hl
  unfold F_X11_element at hF
  refine lv_aload_n X.1 X.2.1 dX11_element_0 rfl (lv_at hl 0 rfl) ?_
  refine lv_iload_n X.1 X.2.1 dX11_element_1 rfl (lv_at hl 1 rfl) ?_
  obtain ⟨r2, σ1, hz, hF⟩ := b2_ex hF
  refine gx_rQ (gx_runV (As := [.int a1]) (rest := []) X hG hS hT_a0.1 (hT_a0.eq (by decide)) (by decide) rfl (c_X11_shelfAt l D cA base ad σ n a0 a1 hT_a0 hz) k_435 k_432 k_434 ks_1 k_1 (h_X11_shelfAt) rfl rfl ⟨by decide, by decide⟩ rfl hl.1 rfl (Nat.le_of_ble_eq_true rfl) dX11_element_2 ⟨Nat.zero_le _, Nat.zero_le _⟩) hS (fun H locs hG hS hX hO_r2 => ?_)
  have hT_a0 := hX.T hT_a0
  replace hE := hE.trans hX
  refine gx_astore_n (lv' := [(3, va_rf (Option.map ad r2)), (0, .ref (ad a0)), (1, .int a1), (2, .int a2)]) X.1 X.2.1 dX11_element_5 rfl hl (by decide) (by cases r2 <;> rfl) (fun ls hl => ?_)
  refine gx_aload_n X.1 X.2.1 dX11_element_6 rfl (lv_at hl 0 rfl) ?_
  refine gx_ifnonnull (tgt := 20) X.1 X.2.1 dX11_element_7 (by decide) hF (fun hr hF2i3 => ?_) (fun i3 hr hF2i3 => ?_)
  · subst hr
    have hF := hF2i3
    have hl : lv_has ls 4 [(3, .null), (0, .ref (ad a0)), (1, .int a1), (2, .int a2)] := hl
    replace hF := Option.some.inj hF
    cases hF
    exact vx_throwS (own := RX11) (cls := nIAE) (names := upN) X.1 X.2.1 hl0 X.2.2.2.2.2.1 (by decide +kernel) (by decide +kernel) (X.w k_821) (X.w k_19) hXX.2.2.1.2.2.2.1 (ex_hat X hXX inD) (ex_ot inD rfl rfl) hXX.2.1.1 hXX.2.1.2 hS (hl.1.trans X.2.2.1.symm) dX11_element_10 dX11_element_13 dX11_element_14 dX11_element_16 dX11_element_19 (fun x hx => (hnt x hx).elim) (by decide) (by decide) (by decide) (by decide) X.2.2.2.2.2.2.1 (fun t ha hz hq => ⟨(), hE, ⟨Or.inl ⟨rfl, rfl⟩, hG.kept hq⟩, ⟨Nat.le_trans hS.1 hz, fun q h1 h2 => (hq q (Nat.lt_of_lt_of_le h1 hS.1)).trans (hS.2.1 q h1 h2)⟩⟩) hS.2.2 (by decide) (by decide)
  · subst hr
    have hF := hF2i3
    have hT_i3 := hO_r2 i3 rfl
    have hl : lv_has ls 4 [(3, .ref (ad i3)), (0, .ref (ad a0)), (1, .int a1), (2, .int a2)] := hl
    refine lv_aload_n X.1 X.2.1 dX11_element_20 rfl (lv_at hl 0 rfl) ?_
    obtain ⟨r5, σ4, hz, hF⟩ := b2_ex hF
    refine gx_rI (gx_runV (As := []) (rest := []) X hG hS hT_i3.1 (hT_i3.eq (by decide)) (by decide) rfl (c_X5_isRow l D cA base ad σ1 n i3 hT_i3 hz) k_443 k_765 k_441 k_442 k_3 (h_X5_isRow) rfl rfl ⟨by decide, by decide⟩ rfl hl.1 rfl (Nat.le_of_ble_eq_true rfl) dX11_element_21 ⟨Nat.zero_le _, Nat.zero_le _⟩) hS (fun H locs hG hS hX => ?_)
    have hT_a0 := hX.T hT_a0
    have hT_i3 := hX.T hT_i3
    replace hE := hE.trans hX
    refine lv_if_eq (tgt := 36) X.1 X.2.1 dX11_element_24 (by decide) (fun hc => ?_) (fun hc => ?_)
    · replace hF := it_t hF hc
      replace hF := Option.some.inj hF
      cases hF
      exact vx_throwSW (own := RX11) (cls := nISE) (names := upN) X.1 X.2.1 hl0 X.2.2.2.2.2.1 (by decide +kernel) (by decide +kernel) (X.w k_820) (X.w k_20) hXX.2.2.1.2.2.2.2 (ex_hat X hXX inE) (ex_ot inE rfl rfl) hXX.2.1.1 hXX.2.1.2 hS (hl.1.trans X.2.2.1.symm) dX11_element_36 dX11_element_39 dX11_element_40 dX11_element_43 dX11_element_46 (fun x hx => (hnt x hx).elim) (by decide) (by decide) (by decide) (by decide) X.2.2.2.2.2.2.1 (fun t ha hz hq => ⟨(), hE, ⟨Or.inr ⟨rfl, rfl⟩, hG.kept hq⟩, ⟨Nat.le_trans hS.1 hz, fun q h1 h2 => (hq q (Nat.lt_of_lt_of_le h1 hS.1)).trans (hS.2.1 q h1 h2)⟩⟩) hS.2.2 (by decide) (by decide)
    · replace hF := it_f hF hc
      refine lv_aload_n X.1 X.2.1 dX11_element_27 rfl (lv_at hl 0 rfl) ?_
      refine lv_iload_n X.1 X.2.1 dX11_element_28 rfl (lv_at hl 3 rfl) ?_
      refine lv_iconst (v := 1) X.1 X.2.1 dX11_element_29 (by decide) ?_
      obtain ⟨r7, σ6, hz, hF⟩ := b2_ex hF
      refine gx_rI (gx_runV (As := [.int a2, .int 1]) (rest := []) X hG hS hT_i3.1 (hT_i3.eq (by decide)) (by decide) rfl (c_X5_hasPlaces l D cA base ad σ4 n i3 a2 1 hT_i3 hz) k_769 k_766 k_767 k_768 k_3 (h_X5_hasPlaces) rfl rfl ⟨by decide, by decide⟩ rfl hl.1 rfl (Nat.le_of_ble_eq_true rfl) dX11_element_30 ⟨Nat.zero_le _, Nat.zero_le _⟩) hS (fun H locs hG hS hX => ?_)
      have hT_a0 := hX.T hT_a0
      have hT_i3 := hX.T hT_i3
      replace hE := hE.trans hX
      refine lv_if_ne (tgt := 47) X.1 X.2.1 dX11_element_33 (by decide) (fun hc => ?_) (fun hc => ?_)
      · replace hF := it_f hF hc
        refine lv_aload_n X.1 X.2.1 dX11_element_47 rfl (lv_at hl 0 rfl) ?_
        obtain ⟨i8, hr, hF⟩ := b1_ex hF
        have hT_i8 : hT σ6 i8 13 := gw_T hG hT_i3 (by decide) hr
        refine gx_getN 4 (v := .ref (ad i8)) X hG hT_i3.1 (hT_i3.eq (by decide)) (by decide) rfl inX5 (by decide) q_139 (fun _ h => h) (gx_rfv hr) dX11_element_48 ?_
        refine lv_iload_n X.1 X.2.1 dX11_element_51 rfl (lv_at hl 3 rfl) ?_
        obtain ⟨r10, σ9, hz, hF⟩ := b2_ex hF
        refine gx_rI (gx_runS (As := [.ref (ad i8), .int a2]) (rest := []) X hG hS (c_X11_at l D cA base ad σ6 n i8 a2 hT_i8 hz) k_362 k_375 k_361 k_1 (h_X11_at.2) rfl rfl ⟨by decide, by decide⟩ rfl hl.1 rfl (Nat.le_of_ble_eq_true rfl) dX11_element_52 ⟨Nat.zero_le _, Nat.zero_le _⟩) hS (fun H locs hG hS hX => ?_)
        have hT_a0 := hX.T hT_a0
        have hT_i3 := hX.T hT_i3
        replace hE := hE.trans hX
        refine lv_i2l X.1 X.2.1 dX11_element_55 rfl ?_
        refine vx_ret ?_
        refine W.widen (k := 1) (n := 6) (by decide) (by decide) ?_
        exact el_ret X hG hS hE hF dX11_element_56
      · replace hF := it_t hF hc
        replace hF := Option.some.inj hF
        cases hF
        exact vx_throwSW (own := RX11) (cls := nISE) (names := upN) X.1 X.2.1 hl0 X.2.2.2.2.2.1 (by decide +kernel) (by decide +kernel) (X.w k_820) (X.w k_20) hXX.2.2.1.2.2.2.2 (ex_hat X hXX inE) (ex_ot inE rfl rfl) hXX.2.1.1 hXX.2.1.2 hS (hl.1.trans X.2.2.1.symm) dX11_element_36 dX11_element_39 dX11_element_40 dX11_element_43 dX11_element_46 (fun x hx => (hnt x hx).elim) (by decide) (by decide) (by decide) (by decide) X.2.2.2.2.2.2.1 (fun t ha hz hq => ⟨(), hE, ⟨Or.inr ⟨rfl, rfl⟩, hG.kept hq⟩, ⟨Nat.le_trans hS.1 hz, fun q h1 h2 => (hq q (Nat.lt_of_lt_of_le h1 hS.1)).trans (hS.2.1 q h1 h2)⟩⟩) hS.2.2 (by decide) (by decide)
abbrev cL_element : ByteArray := method_3_code
def yL_element : MethodName := ⟨"ElevenOneLaw", "element", "(LElevenOne;II[J)I"⟩
theorem dL_element_0 : decode cL_element 0 = .ok (.aload_n 3, 1) := by decide +kernel
theorem dL_element_1 : decode cL_element 1 = .ok (.iconst 0, 1) := by decide +kernel
theorem dL_element_2 : decode cL_element 2 = .ok (.aload_n 0, 1) := by decide +kernel
theorem dL_element_3 : decode cL_element 3 = .ok (.iload_n 1, 1) := by decide +kernel
theorem dL_element_4 : decode cL_element 4 = .ok (.iload_n 2, 1) := by decide +kernel
theorem dL_element_5 : decode cL_element 5 = .ok (.invokevirtual 7, 3) := by decide +kernel
theorem dL_element_8 : decode cL_element 8 = .ok (.lastore, 1) := by decide +kernel
theorem dL_element_9 : decode cL_element 9 = .ok (.goto 11, 3) := by decide +kernel
theorem dL_element_12 : decode cL_element 12 = .ok (.astore 4, 2) := by decide +kernel
theorem dL_element_14 : decode cL_element 14 = .ok (.iconst 1, 1) := by decide +kernel
theorem dL_element_15 : decode cL_element 15 = .ok (.ireturn, 1) := by decide +kernel
theorem dL_element_16 : decode cL_element 16 = .ok (.astore 4, 2) := by decide +kernel
theorem dL_element_18 : decode cL_element 18 = .ok (.iconst 2, 1) := by decide +kernel
theorem dL_element_19 : decode cL_element 19 = .ok (.ireturn, 1) := by decide +kernel
theorem dL_element_20 : decode cL_element 20 = .ok (.iconst 0, 1) := by decide +kernel
theorem dL_element_21 : decode cL_element 21 = .ok (.ireturn, 1) := by decide +kernel
abbrev rm_L_element : Room := { frames := 7, cells := 1, slots := 6, locals := 223 }
theorem h_L_element : yL_element.cls ≠ "java/lang/invoke/MethodHandle" ∧ yL_element.cls ≠ "java/lang/invoke/VarHandle" ∧ (parseMethodDescriptor yL_element.desc).map (fun d => d.parameters.length) = some 4 := by decide +kernel
def F_L_element (n : Nat) (a0 : Nat) (a1 a2 : Int32) (a3 : Nat) (σ : Hp) : Option (Int32 × Hp) := b2 (F_X11_element n a0 a1 a2 σ) fun (kv : Int32 × Int64) (σ1 : Hp) => if kv.1 = 0 then ck (¬ ((0 : Int32) < 0 ∨ hL σ1 a3 ≤ (0 : Int32).toNatClampNeg)) (lt (pJ σ1 a3 (0 : Int32).toNatClampNeg kv.2) fun (σ2 : Hp) => some (0, σ2)) else some (kv.1, σ1)
theorem c_L_element (l : Launch) (hl0 : l.stackTraces = false) (D : va_G) (cA : Nat → ClassId) (base : Nat) (ad : Nat → Nat) (σ : Hp) (n : Nat) (a0 : Nat) (a1 a2 : Int32) (a3 : Nat) (hT_a0 : hT σ a0 11) (hT_a3 : hT σ a3 17) {ta tb : Nat} {sa : Nat → Nat} {τ : Hp} {r : Int32} (hF : F_L_element n a0 a1 a2 a3 σ = some (r, τ)) : Met l yL_element (.codeWith yL_element cL_element 5 (some .int) [(0, 9, 12, 13), (0, 9, 16, 15)] :: TB) rm_L_element (va_Pc [.ref (ad a0), .int a1, .int a2, .ref (ad a3)] (GX D cA base ad σ ta tb sa)) (va_Qi (fun v (_ : Unit) => v = r ∧ xT σ τ) (fun _ t => GS D cA base ad τ t) (bA base)) 1 6 (bA base) := by
  refine va_MetW (cc := cL_element) (maxL := 5) (ret := (some .int)) (by decide) rfl ?_
  intro p e s m args below meth c s₁ B hml hv
  obtain ⟨rfl, hv, hXX⟩ := hv
  have X : SX D cA base p s m ([.ref (ad a0), .int a1, .int a2, .ref (ad a3)] : List Value).toArray meth c cL_element 5 (some .int) R_law := sx_ofW B hml hv
  have hG := hv.1
  have hS : va_S (bA base) s.heap s.heap [] := va_S.rf
  have hE := xT.rf σ
  have hl := lv_entry ([.ref (ad a0), .int a1, .int a2, .ref (ad a3)]) (n := 5) (Nat.le_of_ble_eq_true rfl)
  rw [lg_entry_eq]
  generalize (lg_sl ([.ref (ad a0), .int a1, .int a2, .ref (ad a3)]) ++ List.replicate (5 - (lg_sl ([.ref (ad a0), .int a1, .int a2, .ref (ad a3)])).length) Slot.unset).toArray = ls at hl ⊢
  have hl : lv_has ls 5 [(0, .ref (ad a0)), (1, .int a1), (2, .int a2), (3, .ref (ad a3))] := hl
  have htab : c.exceptionTable.toList = tableOf [(0, 9, 12, 13), (0, 9, 16, 15)] := vx_table (x := yL_element) B (atoms_spec (ws := Cond.codeWith yL_element cL_element 5 (some .int) [(0, 9, 12, 13), (0, 9, 16, 15)] :: TB) B.pre _ List.mem_cons_self)
  unfold F_L_element at hF
  obtain ⟨⟨k, v⟩, σ1, hz, hF⟩ := b2_ex hF
  refine lv_aload_n X.1 X.2.1 dL_element_0 rfl (lv_at hl 3 rfl) ?_
  refine lv_iconst (v := 0) X.1 X.2.1 dL_element_1 (by decide) ?_
  refine lv_aload_n X.1 X.2.1 dL_element_2 rfl (lv_at hl 0 rfl) ?_
  refine lv_iload_n X.1 X.2.1 dL_element_3 rfl (lv_at hl 1 rfl) ?_
  refine lv_iload_n X.1 X.2.1 dL_element_4 rfl (lv_at hl 2 rfl) ?_
  refine vx_calll (vxx_runV (As := [.int a1, .int a2]) (rest := [.int 0, .ref (ad a3)]) X hXX hG hS hT_a0.1 (hT_a0.eq (by decide)) (by decide) rfl (c_X11_element l hl0 D cA base ad σ n a0 a1 a2 hT_a0 hz) k_949 k_946 k_947 k_948 k_1 h_X11_element rfl rfl ⟨by decide, by decide⟩ rfl hl.1 rfl (Nat.le_of_ble_eq_true rfl) dL_element_5 ⟨by decide, by decide⟩) hS (fun _ _ h => h) (fun _ h => h) (fun _ _ h => h) (fun E ce q9 u t H1 locs1 ht hvm hp hB hz hk1 hS1 hce hcv hcl => ?_) (fun r u t H1 locs1 ht hvm hp hB hz hk1 hS1 => ?_)
  · obtain ⟨hB, hG1⟩ := hB
    rw [ht] at hG1
    rcases hB with ⟨hk, rfl⟩ | ⟨hk, rfl⟩
    · refine vx_catch (own := R_law) (name := nIAE) X.2.2.2.2.2.1 [] (⟨0, 9, 12, 13⟩ : ExceptionTableEntry) [(⟨0, 9, 16, 15⟩ : ExceptionTableEntry)] htab (fun z hz => by cases hz) rfl (by decide) (X.w k_944) (ex_hat X hXX (L := [Cond.castable nIAE nIAE]) (ex_nIAE) _ List.mem_cons_self) hce hcv hcl ?_
      refine lv_astore (lv' := [(4, .ref q9), (0, .ref (ad a0)), (1, .int a1), (2, .int a2), (3, .ref (ad a3))]) X.1 X.2.1 dL_element_12 hl (by decide) rfl (fun ls hl => ?_)
      refine lv_iconst (v := 1) X.1 X.2.1 dL_element_14 (by decide) ?_
      exact gx_iretM X hG1 hS1 (hE.trans hp) (by rw [← hF]; simp [hk]) dL_element_15
    · refine vx_catch (own := R_law) (name := nISE) X.2.2.2.2.2.1 [(⟨0, 9, 12, 13⟩ : ExceptionTableEntry)] (⟨0, 9, 16, 15⟩ : ExceptionTableEntry) [] htab (fun z hz => by rcases List.mem_cons.mp hz with rfl | hz; exact Or.inr ⟨by decide, nIAE, X.w k_944, hXX.2.2.2.1.2.2.2⟩; cases hz) rfl (by decide) (X.w k_945) (ex_hat X hXX (L := [Cond.castable nISE nISE]) (ex_nISE) _ List.mem_cons_self) hce hcv hcl ?_
      refine lv_astore (lv' := [(4, .ref q9), (0, .ref (ad a0)), (1, .int a1), (2, .int a2), (3, .ref (ad a3))]) X.1 X.2.1 dL_element_16 hl (by decide) rfl (fun ls hl => ?_)
      refine lv_iconst (v := 2) X.1 X.2.1 dL_element_18 (by decide) ?_
      exact gx_iretM X hG1 hS1 (hE.trans hp) (by rw [← hF]; simp [hk]) dL_element_19
  · obtain ⟨hk, rfl, hx⟩ := hp
    have hG1 := hB.1
    rw [ht] at hG1
    replace hF := it_t hF hk
    have hT_a3 := hx.T hT_a3
    refine gx_last X hG1 hS1 hT_a3 hF dL_element_8 (fun σ2 H locs hG hS hX hF => ?_)
    refine lv_goto (tgt := 20) X.1 X.2.1 dL_element_9 (by decide) ?_
    refine lv_iconst (v := 0) X.1 X.2.1 dL_element_20 (by decide) ?_
    refine W.widen (k := 1) (n := 6) (by decide) (by decide) ?_
    exact gx_iretM X hG hS ((hE.trans hx).trans hX) hF dL_element_21
end THR
