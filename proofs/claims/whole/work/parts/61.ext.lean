/-! what a few methods need of the machine besides: two static rows, what a throw asks, strings, casts -/
def upN : List String := ["java/lang/RuntimeException", "java/lang/Exception"]
def nISE : String := "java/lang/IllegalStateException"
def nIAE : String := "java/lang/IllegalArgumentException"
def nUOE : String := "java/lang/UnsupportedOperationException"
def exA : List Cond := vx_atS RX10 39 nISE upN
def exB : List Cond := vx_atS RX2 50 nIAE upN
def exC : List Cond := vx_atS RX8 61 nUOE upN
def exD : List Cond := vx_atS RX11 255 nIAE upN
def exE : List Cond := vx_atS RX11 262 nISE upN
def exL : List Cond := exA ++ (exB ++ (exC ++ (exD ++ exE)))
def EXL : List Cond := exL.filter (fun w => !goodWord w)
def exW : Cond → Bool
  | .declares _ => true
  | .castable _ _ => true
  | _ => false
theorem EXL_n : EXL.all exW = true := by decide +kernel
theorem exW_on {w : Cond} (h : exW w = true) : w.onTables = true := by cases w <;> first | rfl | (cases h)
theorem exW_moved {w : Cond} (h : exW w = true) {s U : State} (hW : s.WarmedH U.vm) (hZ : va_Nw w s) : va_Nw w U := by
  cases w <;> first | exact va_Nw.warmD hW hZ | exact va_Nw.warmC hW hZ | (cases h)
theorem exG : ∀ w ∈ exL.filter goodWord, w ∈ TB := fun w h => by
  have h2 := (goodIn_of (big := tables_1) (exL.filter goodWord) (by decide +kernel)) w h
  exact List.mem_filter.mpr ⟨List.mem_append_right _ h2.1, (List.mem_filter.mp h).2⟩
theorem exO : exL.all vx_ot = true := by decide +kernel
def rL (j : Nat) : Int32 := if j = 0 then 1 else if j = 3 then 1 else 0
def rM (j : Nat) : Int32 := if j = 0 then 12 else if j = 1 then 11 else if j = 2 then 1 else 3000
def EXX (base ta tb : Nat) (sa : Nat → Nat) (U : State) : Prop :=
  (va_Z "ElevenOne" "RULE_LEAST" "[I" (.ref ta) (bA base) U U.heap ∧ va_T .int ta 4 (fun j => .int (rL j)) (bA base) U U.heap ∧ va_Z "ElevenOne" "RULE_MOST" "[I" (.ref tb) (bA base) U U.heap ∧ va_T .int tb 4 (fun j => .int (rM j)) (bA base) U U.heap) ∧
  (vx_Zq Bundle.tN "UNASSIGNED_STACK" Bundle.steD (bA base) U U.heap ∧ vx_Zq Bundle.tN "SUPPRESSED_SENTINEL" Bundle.listD (bA base) U U.heap) ∧
  (vk_R RX10 37 "a juror that heeds others fails" (sa 0) U ∧ vk_R RX2 48 "a pressing juror that heeds others fails" (sa 1) U ∧ vk_R RX8 59 "a story that heeds others fails" (sa 2) U ∧ vk_R RX11 253 "no such shelf" (sa 3) U ∧ vk_R RX11 260 "no row, or no such place in it" (sa 4) U) ∧
  (va_Nc nIAE nISE U ∧ va_Nc nUOE nISE U ∧ va_Nc nUOE nIAE U ∧ va_Nc nISE nIAE U) ∧
  (∀ w ∈ EXL, va_Nw w U)
theorem EXX.same {base ta tb : Nat} {sa : Nat → Nat} {s U : State} (hv : s.vm = U.vm) (hh : s.heap = U.heap) (h : EXX base ta tb sa s) : EXX base ta tb sa U := by
  have ha : s.vm.Alike U.vm := by rw [hv]; exact Vm.Alike.refl _
  obtain ⟨⟨a1, a2, a3, a4⟩, ⟨b1, b2⟩, ⟨c1, c2, c3, c4, c5⟩, ⟨d1, d2, d3, d4⟩, e⟩ := h
  unfold EXX
  rw [← hh]
  exact ⟨⟨a1.moved ha, a2.moved ha, a3.moved ha, a4.moved ha⟩, ⟨b1.moved ha, b2.moved ha⟩, ⟨c1.same hv.symm, c2.same hv.symm, c3.same hv.symm, c4.same hv.symm, c5.same hv.symm⟩, ⟨d1.moved ha, d2.moved ha, d3.moved ha, d4.moved ha⟩, fun w hw => (e w hw).same (exW_on (List.all_eq_true.mp EXL_n w hw)) hv⟩
theorem EXX.call {base ta tb : Nat} {sa : Nat → Nat} {s U : State} {H : Heap} {locs : List Loc} (h : EXX base ta tb sa s) (hS : va_S (bA base) s.heap H locs) (hU : U.heap = H) (hW : s.WarmedH U.vm) : EXX base ta tb sa U := by
  have ha : s.vm.Alike U.vm := hW.alike
  have hk : ∀ a : Nat, a < s.heap.size → ¬ bA base a → H[a]? = s.heap[a]? := fun a h1 h2 => hS.2.1 a h1 h2
  obtain ⟨⟨a1, a2, a3, a4⟩, ⟨b1, b2⟩, ⟨c1, c2, c3, c4, c5⟩, ⟨d1, d2, d3, d4⟩, e⟩ := h
  unfold EXX
  rw [hU]
  exact ⟨⟨(a1.kept hk).moved ha, (a2.kept hk).moved ha, (a3.kept hk).moved ha, (a4.kept hk).moved ha⟩, ⟨(b1.kept hk).moved ha, (b2.kept hk).moved ha⟩, ⟨c1.warm hW, c2.warm hW, c3.warm hW, c4.warm hW, c5.warm hW⟩, ⟨d1.moved ha, d2.moved ha, d3.moved ha, d4.moved ha⟩, fun w hw => exW_moved (List.all_eq_true.mp EXL_n w hw) hW (e w hw)⟩
/-- the world of such a method -/
def GX (D : va_G) (cA : Nat → ClassId) (base : Nat) (ad : Nat → Nat) (σ : Hp) (ta tb : Nat) (sa : Nat → Nat) (U : State) : Prop := GS D cA base ad σ U ∧ EXX base ta tb sa U
theorem gx_blind {D : va_G} {cA : Nat → ClassId} {base : Nat} {ad : Nat → Nat} {σ : Hp} {ta tb : Nat} {sa : Nat → Nat} {av : List Value} : FrameBlind (va_Pc av (GX D cA base ad σ ta tb sa)) := fun a U g mk h =>
  ⟨h.1, ⟨h.2.1.1, va_K.moved (u := U) (U := U.calling g mk a) (Vm.Alike.refl U.vm) h.2.1.2.1, NX.same (s := U) (U := U.calling g mk a) rfl h.2.1.2.2.1, h.2.1.2.2.2⟩, EXX.same (s := U) (U := U.calling g mk a) rfl rfl h.2.2⟩
theorem GW.kept {D : va_G} {cA : Nat → ClassId} {base : Nat} {ad : Nat → Nat} {σ : Hp} {H H1 : Heap} (h : GW D cA base ad σ H) (hq : ∀ q : Nat, q < H.size → H1[q]? = H[q]?) : GW D cA base ad σ H1 :=
  ⟨fun i hi => (h.1 i hi).kept (hq _ (h.1 i hi).lt), h.2⟩
section EXT
variable {p : Program} {l : Launch} {e : Env} {R : Room} {s : State} {m : MethodId} {args : Array Value} {below : List Frame} {meth : Method} {c : Code} {H : Heap} {locs : List Loc} {cells slots : Nat} {Q : State → Prop}
variable {D : va_G} {cA : Nat → ClassId} {base : Nat} {ad : Nat → Nat} {σ : Hp} {cc : ByteArray} {nL : Nat} {ret : Option FieldType} {own : String} {ta tb : Nat} {sa : Nat → Nat}
variable {pc : Nat} {ls : Array Slot} {rest st0 : List Value}
theorem gx_callX (X : SX D cA base p s m args meth c cc nL ret own) (hX : EXX base ta tb sa s) (hG : GW D cA base ad σ H) (hS : va_S (bA base) s.heap H locs) (av : List Value) : ∀ U : State, U.heap = H → s.WarmedH U.vm → va_Pc av (GX D cA base ad σ ta tb sa) av.toArray U := fun U hU hW =>
  ⟨rfl, (gs_call X hG hS av U hU hW).2, hX.call hS hU hW⟩
theorem ex_hat (X : SX D cA base p s m args meth c cc nL ret own) (hX : EXX base ta tb sa s) {L : List Cond} (h : ∀ w ∈ L, w ∈ exL) : ∀ w ∈ L, w.before args s = true := fun w hw => by
  cases hg : goodWord w with
  | true => exact X.w (exG w (List.mem_filter.mpr ⟨h w hw, hg⟩))
  | false =>
    have h2 : w ∈ EXL := List.mem_filter.mpr ⟨h w hw, by rw [hg]; rfl⟩
    exact va_Nw.use (exW_on (List.all_eq_true.mp EXL_n w h2)) (hX.2.2.2.2 w h2)
theorem ex_ot {L : List Cond} (h : ∀ w ∈ L, w ∈ exL) {a b : Cond} (ha : vx_ot a = true) (hb : vx_ot b = true) : ∀ w ∈ a :: b :: L, vx_ot w = true := fun w hw => by
  rcases List.mem_cons.mp hw with rfl | hw
  · exact ha
  · rcases List.mem_cons.mp hw with rfl | hw
    · exact hb
    · exact List.all_eq_true.mp exO w (h w hw)
theorem inA : ∀ w ∈ exA, w ∈ exL := fun _ h => List.mem_append_left _ h
theorem inB : ∀ w ∈ exB, w ∈ exL := fun _ h => List.mem_append_right _ (List.mem_append_left _ h)
theorem inC : ∀ w ∈ exC, w ∈ exL := fun _ h => List.mem_append_right _ (List.mem_append_right _ (List.mem_append_left _ h))
theorem inD : ∀ w ∈ exD, w ∈ exL := fun _ h => List.mem_append_right _ (List.mem_append_right _ (List.mem_append_right _ (List.mem_append_left _ h)))
theorem inE : ∀ w ∈ exE, w ∈ exL := fun _ h => List.mem_append_right _ (List.mem_append_right _ (List.mem_append_right _ (List.mem_append_right _ h)))
/-- a throw's world: as it was -/
def XT (D : va_G) (cA : Nat → ClassId) (base : Nat) (ad : Nat → Nat) (σ : Hp) (ok : Prop) (nm : String) : String → State → State → Prop := vx_X (fun (_ : Unit) => ok) (fun E _ t => E = nm ∧ GW D cA base ad σ t.heap) (bA base)
theorem xt_end {t : State} {ok : Prop} {nm : String} (hG : GW D cA base ad σ H) (hS : va_S (bA base) s.heap H locs) (hok : ok) (hz : H.size ≤ t.heap.size) (hq : ∀ q : Nat, q < H.size → t.heap[q]? = H[q]?) : XT D cA base ad σ ok nm nm s t :=
  ⟨(), hok, ⟨rfl, hG.kept hq⟩, ⟨Nat.le_trans hS.1 hz, fun q h1 h2 => (hq q (Nat.lt_of_lt_of_le h1 hS.1)).trans (hS.2.1 q h1 h2)⟩⟩
theorem gx_iretM {σ0 τ : Hp} {r v : Int32} (X : SX D cA base p s m args meth c cc nL (some .int) own) (hG : GW D cA base ad σ H) (hS : va_S (bA base) s.heap H locs) (hE : xT σ0 σ) (hF : (some (v, σ) : Option (Int32 × Hp)) = some (r, τ)) (hdg : decode cc pc = .ok (.ireturn, 1)) : W p l e R s m args below meth c H locs cells slots (MQ below (va_Qi (fun v (_ : Unit) => v = r ∧ xT σ0 τ) (fun _ t => GS D cA base ad τ t) (bA base)) args s cells slots (bA base)) (F0 m pc ls [.int v]) := by
  have hF := Option.some.inj hF
  cases hF
  exact W.iret X.1 X.2.1 X.2.2.2.1 (fun t ht hW => ⟨⟨r, (), rfl, ⟨rfl, hE⟩, gs_end X hG hS ht hW⟩, hS.F ht⟩) hS.2.2 hdg X.2.2.2.2.2.2.1
end EXT
abbrev rmf : Room := { frames := 6, cells := 1, slots := 6, locals := 200 }
