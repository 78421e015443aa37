/-! the tables' words that any method may use, in one list; those of nest mates and casts beside it -/
def TB : List Cond := lw_tbl.filter goodWord
theorem tb_i {w : Cond} (i : Nat) (h : tables_1[i]? = some w) (g : goodWord w = true) : w ∈ TB := List.mem_filter.mpr ⟨List.mem_append_right _ (List.mem_of_getElem? h), g⟩
theorem tb_s {w : Cond} (i : Nat) (h : (k2_sels lw_privs)[i]? = some w) (g : goodWord w = true) : w ∈ TB := List.mem_filter.mpr ⟨List.mem_append_left _ (List.mem_of_getElem? h), g⟩
theorem tb_good {w : Cond} (h : w ∈ TB) : (w.onTables && w.keeps) = true ∨ ∃ ty, w = .arrayClass ty := good_of_word (List.mem_filter.mp h).2
theorem tb_in {ws : List Cond} (h : ∀ w ∈ ws, w ∈ TB) : GoodIn TB ws := fun w hw => ⟨h w hw, tb_good (h w hw)⟩
theorem tb_0 : ∀ w ∈ TB, w ∈ TB := fun _ h => h
theorem tb_c {w : Cond} {ws : List Cond} (h : w ∈ TB) (g : ∀ w ∈ ws, w ∈ TB) : ∀ x ∈ w :: ws, x ∈ TB := fun x hx => by
  rcases List.mem_cons.mp hx with rfl | hx
  · exact h
  · exact g x hx
theorem tb_a {w1 w2 : List Cond} (h : ∀ w ∈ w1, w ∈ TB) (g : ∀ w ∈ w2, w ∈ TB) : ∀ w ∈ w1 ++ w2, w ∈ TB := fun x hx => by
  rcases List.mem_append.mp hx with hx | hx
  · exact h x hx
  · exact g x hx
theorem tb_n : ∀ w ∈ ([] : List Cond), w ∈ TB := fun w h => by cases h

def NXL : List Cond := [(Jvm.Cond.methodLinkNest "ElevenOne" (9 : Nat) ({ cls := "ElevenOne$Room", name := "<init>", desc := "()V" } : Jvm.MethodName) "ElevenOne"), (Jvm.Cond.fieldLinkNest "ElevenOne" (29 : Nat) "ElevenOne$Room" "things" "I" "ElevenOne"), (Jvm.Cond.fieldLinkNest "ElevenOne" (33 : Nat) "ElevenOne$Room" "speaks" "[I" "ElevenOne"), (Jvm.Cond.fieldLinkNest "ElevenOne$RuleTurn" (7 : Nat) "ElevenOne$Room" "jurors" "I" "ElevenOne"), (Jvm.Cond.fieldLinkNest "ElevenOne$CountTurn" (13 : Nat) "ElevenOne$Room" "jurors" "I" "ElevenOne"), (Jvm.Cond.fieldLinkNest "ElevenOne$PressTurn" (19 : Nat) "ElevenOne$Room" "jurors" "I" "ElevenOne"), (Jvm.Cond.fieldLinkNest "ElevenOne$StoryTurn" (24 : Nat) "ElevenOne$Room" "jurors" "I" "ElevenOne"), (Jvm.Cond.fieldLinkNest "ElevenOne" (48 : Nat) "ElevenOne$Room" "jurors" "I" "ElevenOne"), (Jvm.Cond.fieldLinkNest "ElevenOne" (69 : Nat) "ElevenOne$Room" "told" "[I" "ElevenOne"), (Jvm.Cond.fieldLinkNest "ElevenOne" (45 : Nat) "ElevenOne$Room" "laws" "I" "ElevenOne"), (Jvm.Cond.fieldLinkNest "ElevenOne" (159 : Nat) "ElevenOne$Room" "rule" "[I" "ElevenOne"), (Jvm.Cond.fieldLinkNest "ElevenOne" (59 : Nat) "ElevenOne$Room" "begun" "Z" "ElevenOne"), (Jvm.Cond.fieldLinkNest "ElevenOne$SleepingTurn" (9 : Nat) "ElevenOne$Room" "minute" "I" "ElevenOne"), (Jvm.Cond.fieldLinkNest "ElevenOne" (171 : Nat) "ElevenOne$Room" "minute" "I" "ElevenOne"), (Jvm.Cond.fieldLinkNest "ElevenOne" (174 : Nat) "ElevenOne$Room" "turnsTaken" "I" "ElevenOne"), (Jvm.Cond.fieldLinkNest "ElevenOne$StoryTurn" (20 : Nat) "ElevenOne$Room" "slips" "I" "ElevenOne"), (Jvm.Cond.fieldLinkNest "ElevenOne$PressTurn" (27 : Nat) "ElevenOne$Room" "slips" "I" "ElevenOne"), (Jvm.Cond.fieldLinkNest "ElevenOne" (107 : Nat) "ElevenOne$Room" "slips" "I" "ElevenOne"), (Jvm.Cond.fieldLinkNest "ElevenOne" (183 : Nat) "ElevenOne$Room" "firstSlips" "I" "ElevenOne"), (Jvm.Cond.fieldLinkNest "ElevenOne" (177 : Nat) "ElevenOne$Room" "shared" "I" "ElevenOne"), (Jvm.Cond.fieldLinkNest "ElevenOne" (101 : Nat) "ElevenOne$Room" "held" "[I" "ElevenOne"), (Jvm.Cond.fieldLinkNest "ElevenOne" (192 : Nat) "ElevenOne$Room" "weight" "[I" "ElevenOne"), (Jvm.Cond.fieldLinkNest "ElevenOne$RuleTurn" (13 : Nat) "ElevenOne$Room" "pushed" "[I" "ElevenOne"), (Jvm.Cond.fieldLinkNest "ElevenOne" (104 : Nat) "ElevenOne$Room" "pushed" "[I" "ElevenOne"), (Jvm.Cond.fieldLinkNest "ElevenOne$SleepingTurn" (24 : Nat) "ElevenOne$Room" "gaveInTo" "[I" "ElevenOne"), (Jvm.Cond.methodLinkNest "ElevenOne" (28 : Nat) ({ cls := "ElevenOne$Shelf", name := "<init>", desc := "()V" } : Jvm.MethodName) "ElevenOne"), (Jvm.Cond.fieldLinkNest "ElevenOne" (263 : Nat) "ElevenOne$Shelf" "turn" "LElevenOne$Turn;" "ElevenOne"), (Jvm.Cond.fieldLinkNest "ElevenOne" (267 : Nat) "ElevenOne$Shelf" "things" "I" "ElevenOne"), (Jvm.Cond.fieldLinkNest "ElevenOne" (132 : Nat) "ElevenOne$Shelf" "sort" "I" "ElevenOne"), (Jvm.Cond.fieldLinkNest "ElevenOne" (140 : Nat) "ElevenOne$Shelf" "size" "I" "ElevenOne"), (Jvm.Cond.fieldLinkNest "ElevenOne" (137 : Nat) "ElevenOne$Shelf" "elements" "[I" "ElevenOne"), (Jvm.Cond.methodLinkNest "ElevenOne$Room" (56 : Nat) ({ cls := "ElevenOne", name := "store", desc := "([III)V" } : Jvm.MethodName) "ElevenOne"), (Jvm.Cond.methodLinkNest "ElevenOne$Room" (60 : Nat) ({ cls := "ElevenOne", name := "at", desc := "([II)I" } : Jvm.MethodName) "ElevenOne"), (Jvm.Cond.methodLinkNest "ElevenOne$Law" (90 : Nat) ({ cls := "ElevenOne", name := "at", desc := "([II)I" } : Jvm.MethodName) "ElevenOne"), (Jvm.Cond.methodLinkNest "ElevenOne$Law" (32 : Nat) ({ cls := "ElevenOne", name := "copyAll", desc := "([I[I)V" } : Jvm.MethodName) "ElevenOne"), (Jvm.Cond.methodLinkNest "ElevenOne$Law" (55 : Nat) ({ cls := "ElevenOne", name := "store", desc := "([III)V" } : Jvm.MethodName) "ElevenOne"), (Jvm.Cond.fieldLinkNest "ElevenOne" (146 : Nat) "ElevenOne$Law" "fault" "I" "ElevenOne"), (Jvm.Cond.methodLinkNest "ElevenOne$RuleTurn" (17 : Nat) ({ cls := "ElevenOne", name := "at", desc := "([II)I" } : Jvm.MethodName) "ElevenOne"), (Jvm.Cond.methodLinkNest "ElevenOne$RuleTurn" (23 : Nat) ({ cls := "ElevenOne", name := "store", desc := "([III)V" } : Jvm.MethodName) "ElevenOne"), (Jvm.Cond.methodLinkNest "ElevenOne$SleepingTurn" (35 : Nat) ({ cls := "ElevenOne", name := "store", desc := "([III)V" } : Jvm.MethodName) "ElevenOne"), (Jvm.Cond.methodLinkNest "ElevenOne$Room" (176 : Nat) ({ cls := "ElevenOne", name := "copyAll", desc := "([I[I)V" } : Jvm.MethodName) "ElevenOne")]

def CXL : List Cond := [(Jvm.Cond.castable "ElevenOne$ThingTurn" "ElevenOne$Turn"), (Jvm.Cond.castable "ElevenOne$CountTurn" "ElevenOne$Turn"), (Jvm.Cond.castable "ElevenOne$PressTurn" "ElevenOne$Turn"), (Jvm.Cond.castable "ElevenOne$StoryTurn" "ElevenOne$Turn"), (Jvm.Cond.castable "ElevenOne$RuleTurn" "ElevenOne$Turn"), (Jvm.Cond.castable "ElevenOne$SilentTurn" "ElevenOne$Turn"), (Jvm.Cond.castable "ElevenOne$SleepingTurn" "ElevenOne$Turn")]

def nestW : Cond → Bool
  | .fieldLinkNest _ _ _ _ _ _ => true
  | .methodLinkNest _ _ _ _ => true
  | _ => false
theorem NXL_n : NXL.all nestW = true := by decide +kernel
theorem nest_moved {w : Cond} (h : nestW w = true) {s U : State} (hW : s.WarmedH U.vm) (hZ : va_Nw w s) : va_Nw w U := by
  cases w <;> first | exact va_Nw.warmF hW hZ | exact va_Nw.warmM hW hZ | (cases h)
def castW : Cond → Bool
  | .castable _ _ => true
  | _ => false
theorem CXL_n : CXL.all castW = true := by decide +kernel
theorem cast_moved {w : Cond} (h : castW w = true) {s U : State} (hW : s.WarmedH U.vm) (hZ : va_Nw w s) : va_Nw w U := by
  cases w <;> first | exact va_Nw.warmC hW hZ | (cases h)
def NX (s : State) : Prop := (∀ w ∈ NXL, va_Nw w s) ∧ (∀ w ∈ CXL, va_Nw w s) ∧ va_AO "ElevenOne$Turn" s ∧ va_AO "ElevenOne$Law" s ∧ va_AO "ElevenOne$Shelf" s
theorem NX.moved {s U : State} (hW : s.WarmedH U.vm) (h : NX s) : NX U :=
  ⟨fun w hw => nest_moved (List.all_eq_true.mp NXL_n w hw) hW (h.1 w hw), fun w hw => cast_moved (List.all_eq_true.mp CXL_n w hw) hW (h.2.1 w hw), va_AO.moved hW.alike h.2.2.1, va_AO.moved hW.alike h.2.2.2.1, va_AO.moved hW.alike h.2.2.2.2⟩
theorem nest_on {w : Cond} (h : nestW w = true) : w.onTables = true := by cases w <;> first | rfl | (cases h)
theorem cast_on {w : Cond} (h : castW w = true) : w.onTables = true := by cases w <;> first | rfl | (cases h)
theorem NX.same {s U : State} (hv : s.vm = U.vm) (h : NX s) : NX U := by
  refine ⟨fun w hw => va_Nw.same (nest_on (List.all_eq_true.mp NXL_n w hw)) hv (h.1 w hw), fun w hw => va_Nw.same (cast_on (List.all_eq_true.mp CXL_n w hw)) hv (h.2.1 w hw), va_AO.moved ?_ h.2.2.1, va_AO.moved ?_ h.2.2.2.1, va_AO.moved ?_ h.2.2.2.2⟩ <;> (rw [hv]; exact Vm.Alike.refl _)

theorem inX0 : ∀ w ∈ u_ws RX0 TX0 8, w ∈ TB := fun w h => by
  have h2 := (goodIn_of (big := tables_1) (u_ws RX0 TX0 8) (by decide +kernel)) w h
  exact List.mem_filter.mpr ⟨List.mem_append_right _ h2.1, List.all_eq_true.mp (show (u_ws RX0 TX0 8).all goodWord = true by decide +kernel) w h⟩
theorem inX1 : ∀ w ∈ u_ws RX1 TX1 6, w ∈ TB := fun w h => by
  have h2 := (goodIn_of (big := tables_1) (u_ws RX1 TX1 6) (by decide +kernel)) w h
  exact List.mem_filter.mpr ⟨List.mem_append_right _ h2.1, List.all_eq_true.mp (show (u_ws RX1 TX1 6).all goodWord = true by decide +kernel) w h⟩
theorem inX2 : ∀ w ∈ u_ws RX2 TX2 8, w ∈ TB := fun w h => by
  have h2 := (goodIn_of (big := tables_1) (u_ws RX2 TX2 8) (by decide +kernel)) w h
  exact List.mem_filter.mpr ⟨List.mem_append_right _ h2.1, List.all_eq_true.mp (show (u_ws RX2 TX2 8).all goodWord = true by decide +kernel) w h⟩
theorem inX3 : ∀ w ∈ u_ws RX3 TX3 19, w ∈ TB := fun w h => by
  have h2 := (goodIn_of (big := tables_1) (u_ws RX3 TX3 19) (by decide +kernel)) w h
  exact List.mem_filter.mpr ⟨List.mem_append_right _ h2.1, List.all_eq_true.mp (show (u_ws RX3 TX3 19).all goodWord = true by decide +kernel) w h⟩
theorem inX4 : ∀ w ∈ u_ws RX4 TX4 8, w ∈ TB := fun w h => by
  have h2 := (goodIn_of (big := tables_1) (u_ws RX4 TX4 8) (by decide +kernel)) w h
  exact List.mem_filter.mpr ⟨List.mem_append_right _ h2.1, List.all_eq_true.mp (show (u_ws RX4 TX4 8).all goodWord = true by decide +kernel) w h⟩
theorem inX5 : ∀ w ∈ u_ws RX5 TX5 5, w ∈ TB := fun w h => by
  have h2 := (goodIn_of (big := tables_1) (u_ws RX5 TX5 5) (by decide +kernel)) w h
  exact List.mem_filter.mpr ⟨List.mem_append_right _ h2.1, List.all_eq_true.mp (show (u_ws RX5 TX5 5).all goodWord = true by decide +kernel) w h⟩
theorem inX6 : ∀ w ∈ u_ws RX6 TX6 8, w ∈ TB := fun w h => by
  have h2 := (goodIn_of (big := tables_1) (u_ws RX6 TX6 8) (by decide +kernel)) w h
  exact List.mem_filter.mpr ⟨List.mem_append_right _ h2.1, List.all_eq_true.mp (show (u_ws RX6 TX6 8).all goodWord = true by decide +kernel) w h⟩
theorem inX7 : ∀ w ∈ u_ws RX7 TX7 8, w ∈ TB := fun w h => by
  have h2 := (goodIn_of (big := tables_1) (u_ws RX7 TX7 8) (by decide +kernel)) w h
  exact List.mem_filter.mpr ⟨List.mem_append_right _ h2.1, List.all_eq_true.mp (show (u_ws RX7 TX7 8).all goodWord = true by decide +kernel) w h⟩
theorem inX8 : ∀ w ∈ u_ws RX8 TX8 8, w ∈ TB := fun w h => by
  have h2 := (goodIn_of (big := tables_1) (u_ws RX8 TX8 8) (by decide +kernel)) w h
  exact List.mem_filter.mpr ⟨List.mem_append_right _ h2.1, List.all_eq_true.mp (show (u_ws RX8 TX8 8).all goodWord = true by decide +kernel) w h⟩
theorem inX9 : ∀ w ∈ u_ws RX9 TX9 8, w ∈ TB := fun w h => by
  have h2 := (goodIn_of (big := tables_1) (u_ws RX9 TX9 8) (by decide +kernel)) w h
  exact List.mem_filter.mpr ⟨List.mem_append_right _ h2.1, List.all_eq_true.mp (show (u_ws RX9 TX9 8).all goodWord = true by decide +kernel) w h⟩
theorem inX10 : ∀ w ∈ u_ws RX10 TX10 8, w ∈ TB := fun w h => by
  have h2 := (goodIn_of (big := tables_1) (u_ws RX10 TX10 8) (by decide +kernel)) w h
  exact List.mem_filter.mpr ⟨List.mem_append_right _ h2.1, List.all_eq_true.mp (show (u_ws RX10 TX10 8).all goodWord = true by decide +kernel) w h⟩
theorem inX11 : ∀ w ∈ u_ws RX11 TX11 5, w ∈ TB := fun w h => by
  have h2 := (goodIn_of (big := tables_1) (u_ws RX11 TX11 5) (by decide +kernel)) w h
  exact List.mem_filter.mpr ⟨List.mem_append_right _ h2.1, List.all_eq_true.mp (show (u_ws RX11 TX11 5).all goodWord = true by decide +kernel) w h⟩
theorem inX12 : ∀ w ∈ u_ws RX12 TX12 30, w ∈ TB := fun w h => by
  have h2 := (goodIn_of (big := tables_1) (u_ws RX12 TX12 30) (by decide +kernel)) w h
  exact List.mem_filter.mpr ⟨List.mem_append_right _ h2.1, List.all_eq_true.mp (show (u_ws RX12 TX12 30).all goodWord = true by decide +kernel) w h⟩
