/-! the law's walk -/
section LAWH
variable {p : Program} {l : Launch} {e : Env} {R : Room} {s : State} {m : MethodId} {args : Array Value} {below : List Frame} {meth : Method} {c : Code} {H : Heap} {locs : List Loc} {cells slots : Nat} {Q : State → Prop}
variable {D : va_G} {cA : Nat → ClassId} {base : Nat} {ad : Nat → Nat} {σ : Hp} {cc : ByteArray} {nL : Nat} {ret : Option FieldType} {own : String} {ta tb : Nat} {sa : Nat → Nat}
variable {pc : Nat} {ls : Array Slot} {rest st0 : List Value}
variable {y : MethodName} {b : ByteArray} {maxL mc ms n index : Nat} {rt : Option FieldType} {rm : Room} {Qc : Array Value → State → Outcome → State → Prop} {As : List Value} {hh : List (Nat × Nat × Nat × Nat)}
theorem gxx_runV {C : String} {T : u_T} {N ci i : Nat} (X : SX D cA base p s m args meth c cc nL ret own) (hXX : EXX base ta tb sa s) (hG : GW D cA base ad σ H) (hS : va_S (bA base) s.heap H locs) (hi : i < hN σ) (hk : hK σ i = ci) (h13 : ci < 13) (hc : vwCl[ci]? = some (C, T, N))
    (hM : Met l y (.code y b maxL rt :: TB) rm (va_Pc (.ref (ad i) :: As) (GX D cA base ad σ ta tb sa)) Qc mc ms (bA base)) (hcode : Cond.code y b maxL rt ∈ TB) (hl : Cond.methodLink own index y ∈ TB) (hin : Cond.instanceMethod y ∈ TB) (hse : Cond.selects C y y ∈ TB) (hini : Cond.initialized C ∈ TB)
    (hd : y.cls = C ∧ y.cls ≠ "java/lang/invoke/MethodHandle" ∧ y.cls ≠ "java/lang/invoke/VarHandle" ∧ (parseMethodDescriptor y.desc).map (fun d => d.parameters.length) = some n) (hrc : rm.cells = mc) (hrs : rm.slots = ms) (hR : rm.frames + 1 ≤ R.frames ∧ 8 + (maxL + 11) + rm.locals ≤ R.locals) (hn : As.length = n) (hsize : ls.size = nL) (hstack : st0 = As.reverse ++ .ref (ad i) :: rest) (hW : (rest.map fun v => v.category).sum ≤ 8) (hdg : decode cc pc = .ok (.invokevirtual index, 3)) (hf : cells + mc ≤ R.cells ∧ slots + ms ≤ R.slots) :
    va_Run p l e R s m args below meth c H locs cells slots mc ms (F0 m pc ls st0) rest (Qc (Value.ref (ad i) :: As).toArray) (bA base) :=
  va_runV (sx_fix X) hM (cwV n X.2.2.2.2.1 (tb_in (tb_a (tb_c hl (tb_c hin (tb_c hse (tb_c hini tb_n)))) (tb_c hcode tb_0))) rfl hrc hrs hd hR) ⟨gx_blind, gs_recv X hG hi hk h13 hc, gx_callX X hXX hG hS _⟩ rfl hn hsize hstack (by show 2 * 0 + _ ≤ 8; omega) hdg hf
theorem gxx_runVW {C : String} {T : u_T} {N ci i : Nat} (X : SX D cA base p s m args meth c cc nL ret own) (hXX : EXX base ta tb sa s) (hG : GW D cA base ad σ H) (hS : va_S (bA base) s.heap H locs) (hi : i < hN σ) (hk : hK σ i = ci) (h13 : ci < 13) (hc : vwCl[ci]? = some (C, T, N))
    (hM : Met l y (.codeWith y b maxL rt hh :: TB) rm (va_Pc (.ref (ad i) :: As) (GX D cA base ad σ ta tb sa)) Qc mc ms (bA base)) (hcode : Cond.codeWith y b maxL rt hh ∈ TB) (hl : Cond.methodLink own index y ∈ TB) (hin : Cond.instanceMethod y ∈ TB) (hse : Cond.selects C y y ∈ TB) (hini : Cond.initialized C ∈ TB)
    (hd : y.cls = C ∧ y.cls ≠ "java/lang/invoke/MethodHandle" ∧ y.cls ≠ "java/lang/invoke/VarHandle" ∧ (parseMethodDescriptor y.desc).map (fun d => d.parameters.length) = some n) (hrc : rm.cells = mc) (hrs : rm.slots = ms) (hR : rm.frames + 1 ≤ R.frames ∧ 8 + (maxL + 11) + rm.locals ≤ R.locals) (hn : As.length = n) (hsize : ls.size = nL) (hstack : st0 = As.reverse ++ .ref (ad i) :: rest) (hW : (rest.map fun v => v.category).sum ≤ 8) (hdg : decode cc pc = .ok (.invokevirtual index, 3)) (hf : cells + mc ≤ R.cells ∧ slots + ms ≤ R.slots) :
    va_Run p l e R s m args below meth c H locs cells slots mc ms (F0 m pc ls st0) rest (Qc (Value.ref (ad i) :: As).toArray) (bA base) :=
  vx_runVW (sx_fix X) hM (vx_cwVW n X.2.2.2.2.1 (tb_in (tb_a (tb_c hl (tb_c hin (tb_c hse (tb_c hini tb_n)))) (tb_c hcode tb_0))) rfl hrc hrs hd hR) ⟨gx_blind, gs_recv X hG hi hk h13 hc, gx_callX X hXX hG hS _⟩ rfl hn hsize hstack (by show 2 * 0 + _ ≤ 8; omega) hdg hf
theorem gxx_runSW (X : SX D cA base p s m args meth c cc nL ret own) (hXX : EXX base ta tb sa s) (hG : GW D cA base ad σ H) (hS : va_S (bA base) s.heap H locs)
    (hM : Met l y (.codeWith y b maxL rt hh :: TB) rm (va_Pc As (GX D cA base ad σ ta tb sa)) Qc mc ms (bA base)) (hcode : Cond.codeWith y b maxL rt hh ∈ TB) (hl : Cond.methodLink own index y ∈ TB) (hst : Cond.static y ∈ TB) (hini : Cond.initialized y.cls ∈ TB)
    (hd : y.cls ≠ "java/lang/invoke/MethodHandle" ∧ y.cls ≠ "java/lang/invoke/VarHandle" ∧ (parseMethodDescriptor y.desc).map (fun d => d.parameters.length) = some n) (hrc : rm.cells = mc) (hrs : rm.slots = ms) (hR : rm.frames + 1 ≤ R.frames ∧ 8 + (maxL + 11) + rm.locals ≤ R.locals) (hn : As.length = n) (hsize : ls.size = nL) (hstack : st0 = As.reverse ++ rest) (hW : (rest.map fun v => v.category).sum ≤ 8) (hdg : decode cc pc = .ok (.invokestatic index, 3)) (hf : cells + mc ≤ R.cells ∧ slots + ms ≤ R.slots) :
    va_Run p l e R s m args below meth c H locs cells slots mc ms (F0 m pc ls st0) rest (Qc As.toArray) (bA base) :=
  vx_runSW (sx_fix X) hM (vx_cwSW n X.2.2.2.2.1 (tb_in (by unfold va_wsS; exact tb_a (tb_c hl (tb_c hst (tb_c hini tb_n))) (tb_c hcode tb_0))) rfl hrc hrs hd hR) ⟨gx_blind, gx_callX X hXX hG hS _⟩ rfl hn hsize hstack (by show 2 * 0 + _ ≤ 8; omega) hdg hf
theorem gx_rIm {a : Array Value} {r : Int32} {τ : Hp} (hr : va_Run p l e R s m args below meth c H locs cells slots mc ms (F0 m pc ls st0) rest (va_Qi (fun v (_ : Unit) => v = r ∧ xT σ τ) (fun _ t => GS D cA base ad τ t) (bA base) a) (bA base)) (hS : va_S (bA base) s.heap H locs)
    (kk : ∀ (H1 : Heap) (locs1 : List Loc), GW D cA base ad τ H1 → va_S (bA base) s.heap H1 locs1 → xT σ τ → W p l e R s m args below meth c H1 locs1 (cells + mc) (slots + ms) Q (F0 m (pc + 3) ls (.int r :: rest))) : W p l e R s m args below meth c H locs cells slots Q (F0 m pc ls st0) := by
  refine va_calli hr hS (fun _ _ h => h) (fun _ h => h) (fun r1 u t H1 locs1 ht hvm hp hB hz hk hS1 => ?_)
  obtain ⟨rfl, hx⟩ := hp
  exact kk H1 locs1 (by rw [← ht]; exact hB.1) hS1 hx
theorem gx_newJ {x : Int32} {M : Nat} {ρ : Type} {rr : ρ} {f : Nat → Hp → Option ρ} (X : SX D cA base p s m args meth c cc nL ret own) (hG : GW D cA base ad σ H) (hS : va_S (bA base) s.heap H locs) (harr : Cond.arrayClass .long ∈ TB) (hcells : cells + 1 ≤ R.cells) (hslots : slots + M ≤ R.slots) (hM : M ≤ 100000) (hdg : decode cc pc = .ok (.newarray .long, 2)) (hF : ck (¬ x < 0 ∧ x.toNatClampNeg ≤ M) (nb σ 17 x.toNatClampNeg f) = some rr)
    (kk : ∀ (i : Nat) (τ : Hp) (u : Nat → Nat) (H1 : Heap), GW D cA base u τ H1 → va_S (bA base) s.heap H1 locs → xT σ τ → adE σ ad u → hT τ i 17 → f i τ = some rr → W p l e R s m args below meth c H1 locs (cells + 1) (slots + M) Q (F0 m (pc + 2) ls (.ref (u i) :: rest))) : W p l e R s m args below meth c H locs cells slots Q (F0 m pc ls (.int x :: rest)) := by
  obtain ⟨⟨hn, hx⟩, hF⟩ := ck_ex hF
  refine va_newaK (atype := .long) X.1 X.2.1 (X.w harr) rfl hdg rfl hn rfl (by show x.toNatClampNeg * 8 ≤ _; omega) hcells (Nat.le_trans (Nat.add_le_add_left hx _) hslots) rfl fun H1 cA2 e1 z1 o1 hAr hNm => ?_
  have hu : up1 ad (hN σ) H.size (hN σ) = H.size := by rw [up1, if_pos rfl]
  have hcA : cA2 = cA 17 := by
    have h0 := (X.2.2.2.2.2.2.2.1.2 4 (cA 17, .long) rfl).2
    exact Option.some.inj (hNm.symm.trans h0)
  refine W.widen (k := cells + 1) (n := slots + M) (Nat.le_refl _) (Nat.add_le_add_left hx _) ?_
  have k2 := kk (hN σ) (nw σ 17 x.toNatClampNeg) (up1 ad (hN σ) H.size) H1 (hG.new (base_le X hS) o1 ?_) (s_new hS z1 o1) (xT.N σ 17 _) (fun k hk => by rw [up1, if_neg (by omega)]) ⟨Nat.lt_succ_self _, by rw [nw_new.1]; rfl⟩ hF
  · rw [hu] at k2
    exact k2
  · rw [cell_17 (nw_new (σ := σ) (k := 17) (n := x.toNatClampNeg)).1]
    show H1[H.size]? = some (vp_cell _ _)
    rw [nw_new.2.1, nw_new.2.2.2.2, vp_cell_l, ← hcA]
    exact e1
end LAWH

