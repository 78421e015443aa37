/-! small rows that the printed walks use -/
theorem lt_nm {α ρ : Type} {a x : α} {f : α → Option ρ} {r : ρ} (h : lt a f = some r) (e : x = a) : f x = some r := by subst e; exact h
theorem gx_rfv {ad : Nat → Nat} {o : Option Nat} {i : Nat} (h : o = some i) : some (va_rf (Option.map ad o)) = some (Value.ref (ad i)) := by rw [h]; rfl
theorem gx_cat (r : Option Nat) : (va_rf r).category = 1 := by cases r <;> rfl
theorem hT.to {σ : Hp} {i t t2 : Nat} (h : hT σ i t) (ht : t < 100) (e : isT t2 t = true) : hT σ i t2 := ⟨h.1, by rw [h.eq ht]; exact e⟩
theorem gx_nar {C : String} (r : Option Nat) : narrow (.object C) (va_rf r) = va_rf r := by cases r <;> rfl
theorem gx_fit {C : String} (r : Option Nat) : fits (.object C) (va_rf r) = true := by cases r <;> rfl
theorem gx_narA {t : FieldType} (r : Option Nat) : narrow (.array t) (va_rf r) = va_rf r := by cases r <;> rfl
theorem gx_fitA {t : FieldType} (r : Option Nat) : fits (.array t) (va_rf r) = true := by cases r <;> rfl
section HELP
variable {p : Program} {l : Launch} {e : Env} {R : Room} {s : State} {m : MethodId} {args : Array Value} {below : List Frame} {meth : Method} {c : Code} {H : Heap} {locs : List Loc} {cells slots : Nat} {Q : State → Prop}
variable {D : va_G} {cA : Nat → ClassId} {base : Nat} {ad : Nat → Nat} {σ : Hp} {cc : ByteArray} {nL : Nat} {ret : Option FieldType} {own : String}
variable {pc : Nat} {ls : Array Slot} {rest st0 : List Value}
variable {y : MethodName} {b : ByteArray} {maxL mc ms n index : Nat} {rt : Option FieldType} {rm : Room} {Qc : Array Value → State → Outcome → State → Prop} {As : List Value}
/-- super.name(..) on a TURN of any kind -/
theorem gx_runPT {i : Nat} (X : SX D cA base p s m args meth c cc nL ret own) (hG : GW D cA base ad σ H) (hS : va_S (bA base) s.heap H locs) (h : hT σ i 100)
    (hM : Met l y (.code y b maxL rt :: TB) rm (va_Pc (.ref (ad i) :: As) (GS D cA base ad σ)) Qc mc ms (bA base)) (hcode : Cond.code y b maxL rt ∈ TB) (hl : Cond.methodLink own index y ∈ TB) (hsm : Cond.sameMethod y.cls y.cls y.name y.desc ∈ TB) (hsu : Cond.superclass own y.cls ∈ TB) (hin : Cond.instanceMethod y ∈ TB) (hini : Cond.initialized y.cls ∈ TB)
    (hd : y.name ≠ "<init>" ∧ (parseMethodDescriptor y.desc).map (fun d => d.parameters.length) = some n) (hrc : rm.cells = mc) (hrs : rm.slots = ms) (hR : rm.frames + 1 ≤ R.frames ∧ 8 + (maxL + 11) + rm.locals ≤ R.locals) (hn : As.length = n) (hsize : ls.size = nL) (hstack : st0 = As.reverse ++ .ref (ad i) :: rest) (hW : (rest.map fun v => v.category).sum ≤ 8) (hdg : decode cc pc = .ok (.invokespecial index, 3)) (hf : cells + mc ≤ R.cells ∧ slots + ms ≤ R.slots) :
    va_Run p l e R s m args below meth c H locs cells slots mc ms (F0 m pc ls st0) rest (Qc (Value.ref (ad i) :: As).toArray) (bA base) := by
  obtain ⟨C, T, h1, h2, rfl, h3, h4, -⟩ := turnK (isT_100 h.2 (Or.inl rfl))
  exact gx_runP X hG hS h.1 rfl h3 h1 hM hcode hl hsm hsu hin hini hd hrc hrs hR hn hsize hstack hW hdg hf
end HELP

