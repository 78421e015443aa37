/-! THE LAW'S START: the machine that its walk asks for -/
theorem nx_in : NXL.all (fun w => decide (w ∈ tables_1)) = true := by decide +kernel
theorem cx_in : CXL.all (fun w => decide (w ∈ tables_1)) = true := by decide +kernel
theorem ex_in : EXL.all (fun w => decide (w ∈ tables_1)) = true := by decide +kernel
theorem ws_in {L : List Cond} (h : L.all (fun w => decide (w ∈ tables_1)) = true) {w : Cond} (hw : w ∈ L) : w ∈ tables_1 := of_decide_eq_true (List.all_eq_true.mp h w hw)
theorem ws_ai {args : Array Value} {s : State} (h : (Cond.arrayClass .int).before args s = true) : ∃ cA, ArrOfT s cA .int ∧ va_RA s cA .int := by
  obtain ⟨cA, kA, comp, h1, h2, h3⟩ := Cond.arrayClass_spec h
  exact ⟨cA, fun n z => ⟨fun k h => (by cases h), kA, h2, comp, h3⟩, h1⟩
theorem ws_al {args : Array Value} {s : State} (h : (Cond.arrayClass .long).before args s = true) : ∃ cA, ArrOfT s cA .long ∧ va_RA s cA .long := by
  obtain ⟨cA, kA, comp, h1, h2, h3⟩ := Cond.arrayClass_spec h
  exact ⟨cA, fun n z => ⟨fun k h => (by cases h), kA, h2, comp, h3⟩, h1⟩
theorem ws_ao {args : Array Value} {s : State} {C : String} (h : (Cond.arrayOver (.object C)).before args s = true) : ∃ cA, ArrOfT s cA (.object C) ∧ va_RA s cA (.object C) := by
  obtain ⟨comp, cA, kA, h1, h2, h3, h4, h5⟩ := Cond.arrayOver_spec h
  exact ⟨cA, fun n z => ⟨fun k h => (by cases h), kA, h3, comp, h4⟩, kA, comp, h3, h4, h1, h5⟩
theorem ws_K {args : Array Value} {s : State} (hT : ∀ w ∈ TB, w.before args s = true) (ht : ∀ w ∈ tables_1, w.before args s = true) : ∃ D cA, va_K D vwCl (tyl cA) s := by
  have hc : ∀ c : Nat, ∃ (cc : ClassId) (ii : Nat → Nat), ∀ q : vw_C, vwCl[c]? = some q → u_Kn s q.1 q.2.1 q.2.2 cc ii := by
    intro c
    match c with
    | 0 =>
      obtain ⟨cc, ii, h⟩ := u_known (C := RX0) (T := TX0) (N := 8) (n := 8) hT inX0 (ht _ (List.mem_of_getElem? (i := 246) (by decide +kernel)))
      exact ⟨cc, ii, fun q hq => by cases hq; exact h⟩
    | 1 =>
      obtain ⟨cc, ii, h⟩ := u_known (C := RX1) (T := TX1) (N := 6) (n := 6) hT inX1 (ht _ (List.mem_of_getElem? (i := 445) (by decide +kernel)))
      exact ⟨cc, ii, fun q hq => by cases hq; exact h⟩
    | 2 =>
      obtain ⟨cc, ii, h⟩ := u_known (C := RX2) (T := TX2) (N := 8) (n := 8) hT inX2 (ht _ (List.mem_of_getElem? (i := 261) (by decide +kernel)))
      exact ⟨cc, ii, fun q hq => by cases hq; exact h⟩
    | 3 =>
      obtain ⟨cc, ii, h⟩ := u_known (C := RX3) (T := TX3) (N := 19) (n := 19) hT inX3 (ht _ (List.mem_of_getElem? (i := 31) (by decide +kernel)))
      exact ⟨cc, ii, fun q hq => by cases hq; exact h⟩
    | 4 =>
      obtain ⟨cc, ii, h⟩ := u_known (C := RX4) (T := TX4) (N := 8) (n := 8) hT inX4 (ht _ (List.mem_of_getElem? (i := 291) (by decide +kernel)))
      exact ⟨cc, ii, fun q hq => by cases hq; exact h⟩
    | 5 =>
      obtain ⟨cc, ii, h⟩ := u_known (C := RX5) (T := TX5) (N := 5) (n := 5) hT inX5 (ht _ (List.mem_of_getElem? (i := 125) (by decide +kernel)))
      exact ⟨cc, ii, fun q hq => by cases hq; exact h⟩
    | 6 =>
      obtain ⟨cc, ii, h⟩ := u_known (C := RX6) (T := TX6) (N := 8) (n := 8) hT inX6 (ht _ (List.mem_of_getElem? (i := 306) (by decide +kernel)))
      exact ⟨cc, ii, fun q hq => by cases hq; exact h⟩
    | 7 =>
      obtain ⟨cc, ii, h⟩ := u_known (C := RX7) (T := TX7) (N := 8) (n := 8) hT inX7 (ht _ (List.mem_of_getElem? (i := 321) (by decide +kernel)))
      exact ⟨cc, ii, fun q hq => by cases hq; exact h⟩
    | 8 =>
      obtain ⟨cc, ii, h⟩ := u_known (C := RX8) (T := TX8) (N := 8) (n := 8) hT inX8 (ht _ (List.mem_of_getElem? (i := 276) (by decide +kernel)))
      exact ⟨cc, ii, fun q hq => by cases hq; exact h⟩
    | 9 =>
      obtain ⟨cc, ii, h⟩ := u_known (C := RX9) (T := TX9) (N := 8) (n := 8) hT inX9 (ht _ (List.mem_of_getElem? (i := 190) (by decide +kernel)))
      exact ⟨cc, ii, fun q hq => by cases hq; exact h⟩
    | 10 =>
      obtain ⟨cc, ii, h⟩ := u_known (C := RX10) (T := TX10) (N := 8) (n := 8) hT inX10 (ht _ (List.mem_of_getElem? (i := 336) (by decide +kernel)))
      exact ⟨cc, ii, fun q hq => by cases hq; exact h⟩
    | 11 =>
      obtain ⟨cc, ii, h⟩ := u_known (C := RX11) (T := TX11) (N := 5) (n := 5) hT inX11 (ht _ (List.mem_of_getElem? (i := 23) (by decide +kernel)))
      exact ⟨cc, ii, fun q hq => by cases hq; exact h⟩
    | 12 =>
      obtain ⟨cc, ii, h⟩ := u_known (C := RX12) (T := TX12) (N := 30) (n := 30) hT inX12 (ht _ (List.mem_of_getElem? (i := 955) (by decide +kernel)))
      exact ⟨cc, ii, fun q hq => by cases hq; exact h⟩
    | c + 13 => exact ⟨0, fun _ => 0, fun q hq => by simp [vwCl] at hq⟩
  obtain ⟨a13, h13⟩ := ws_ai (ht _ (List.mem_of_getElem? (i := 122) (by decide +kernel)))
  obtain ⟨a14, h14⟩ := ws_ao (C := "ElevenOne$Law") (ht _ (List.mem_of_getElem? (i := 39) (by decide +kernel)))
  obtain ⟨a15, h15⟩ := ws_ao (C := "ElevenOne$Shelf") (ht _ (List.mem_of_getElem? (i := 124) (by decide +kernel)))
  obtain ⟨a16, h16⟩ := ws_ao (C := "ElevenOne$Turn") (ht _ (List.mem_of_getElem? (i := 37) (by decide +kernel)))
  obtain ⟨a17, h17⟩ := ws_al (ht _ (List.mem_of_getElem? (i := 1383) (by decide +kernel)))
  refine ⟨(fun c => Classical.choose (hc c), fun c => Classical.choose (Classical.choose_spec (hc c))), fun k => if k = 13 then a13 else if k = 14 then a14 else if k = 15 then a15 else if k = 16 then a16 else a17, fun c q hq => Classical.choose_spec (Classical.choose_spec (hc c)) q hq, fun k q hq => ?_⟩
  match k, hq with
  | 0, hq => cases hq; exact h13
  | 1, hq => cases hq; exact h14
  | 2, hq => cases hq; exact h15
  | 3, hq => cases hq; exact h16
  | 4, hq => cases hq; exact h17
  | k + 5, hq => simp [tyl] at hq
theorem ws_N {args : Array Value} {s : State} (ht : ∀ w ∈ tables_1, w.before args s = true) : NX s :=
  ⟨fun w hw => va_Nw.of (nest_on (List.all_eq_true.mp NXL_n w hw)) (ht w (ws_in nx_in hw)), fun w hw => va_Nw.of (cast_on (List.all_eq_true.mp CXL_n w hw)) (ht w (ws_in cx_in hw)), va_AO.of (ht _ (List.mem_of_getElem? (i := 37) (by decide +kernel))), va_AO.of (ht _ (List.mem_of_getElem? (i := 39) (by decide +kernel))), va_AO.of (ht _ (List.mem_of_getElem? (i := 124) (by decide +kernel)))⟩
theorem ws_l {args : Array Value} {s : State} (ht : ∀ w ∈ tables_1, w.before args s = true) (hs : ∀ w ∈ flatC (Jvm.Cond.and given_1 narrow_1), w.before args s = true) : ∃ t, va_Z "ElevenOne" "RULE_LEAST" "[I" (.ref t) (bA s.heap.size) s s.heap ∧ va_T .int t 4 (fun j => .int (rL j)) (bA s.heap.size) s s.heap := by
  have harr : (Cond.arrayOf (Term.static "ElevenOne" "RULE_LEAST" "[I") .int).before args s = true := hs _ (by decide +kernel)
  have hlen : (Cond.eq (.length (Term.static "ElevenOne" "RULE_LEAST" "[I")) (.int 4)).before args s = true := hs _ (by decide +kernel)
  have e0 : (Cond.eq (.elem (Term.static "ElevenOne" "RULE_LEAST" "[I") (.int 0)) (.int 1)).before args s = true := hs _ (by decide +kernel)
  have e1 : (Cond.eq (.elem (Term.static "ElevenOne" "RULE_LEAST" "[I") (.int 1)) (.int 0)).before args s = true := hs _ (by decide +kernel)
  have e2 : (Cond.eq (.elem (Term.static "ElevenOne" "RULE_LEAST" "[I") (.int 2)) (.int 0)).before args s = true := hs _ (by decide +kernel)
  have e3 : (Cond.eq (.elem (Term.static "ElevenOne" "RULE_LEAST" "[I") (.int 3)) (.int 1)).before args s = true := hs _ (by decide +kernel)
  have hA : ∀ a : Nat, a < s.heap.size → ¬ bA s.heap.size a := fun a h => Nat.not_le.mpr h
  obtain ⟨t, t1, t2⟩ := va_Tof (f := fun j => .int (rL j)) (N := 4) (by decide) harr (va_eqt hlen) (fun j hj => by
    obtain rfl | rfl | rfl | rfl : j = 0 ∨ j = 1 ∨ j = 2 ∨ j = 3 := by omega
    · exact va_eqt e0
    · exact va_eqt e1
    · exact va_eqt e2
    · exact va_eqt e3) hA
  exact ⟨t, va_Zof (ht _ (List.mem_of_getElem? (i := 525) (by decide +kernel))) (ht _ (List.mem_of_getElem? (i := 1) (by decide +kernel))) t1 hA, t2⟩
theorem ws_m {args : Array Value} {s : State} (ht : ∀ w ∈ tables_1, w.before args s = true) (hs : ∀ w ∈ flatC (Jvm.Cond.and given_1 narrow_1), w.before args s = true) : ∃ t, va_Z "ElevenOne" "RULE_MOST" "[I" (.ref t) (bA s.heap.size) s s.heap ∧ va_T .int t 4 (fun j => .int (rM j)) (bA s.heap.size) s s.heap := by
  have harr : (Cond.arrayOf (Term.static "ElevenOne" "RULE_MOST" "[I") .int).before args s = true := hs _ (by decide +kernel)
  have hlen : (Cond.eq (.length (Term.static "ElevenOne" "RULE_MOST" "[I")) (.int 4)).before args s = true := hs _ (by decide +kernel)
  have e0 : (Cond.eq (.elem (Term.static "ElevenOne" "RULE_MOST" "[I") (.int 0)) (.int 12)).before args s = true := hs _ (by decide +kernel)
  have e1 : (Cond.eq (.elem (Term.static "ElevenOne" "RULE_MOST" "[I") (.int 1)) (.int 11)).before args s = true := hs _ (by decide +kernel)
  have e2 : (Cond.eq (.elem (Term.static "ElevenOne" "RULE_MOST" "[I") (.int 2)) (.int 1)).before args s = true := hs _ (by decide +kernel)
  have e3 : (Cond.eq (.elem (Term.static "ElevenOne" "RULE_MOST" "[I") (.int 3)) (.int 3000)).before args s = true := hs _ (by decide +kernel)
  have hA : ∀ a : Nat, a < s.heap.size → ¬ bA s.heap.size a := fun a h => Nat.not_le.mpr h
  obtain ⟨t, t1, t2⟩ := va_Tof (f := fun j => .int (rM j)) (N := 4) (by decide) harr (va_eqt hlen) (fun j hj => by
    obtain rfl | rfl | rfl | rfl : j = 0 ∨ j = 1 ∨ j = 2 ∨ j = 3 := by omega
    · exact va_eqt e0
    · exact va_eqt e1
    · exact va_eqt e2
    · exact va_eqt e3) hA
  exact ⟨t, va_Zof (ht _ (List.mem_of_getElem? (i := 527) (by decide +kernel))) (ht _ (List.mem_of_getElem? (i := 1) (by decide +kernel))) t1 hA, t2⟩
theorem ws_q {args : Array Value} {s : State} {own : String} {k i : Nat} {tx : String} (ht : ∀ w ∈ tables_1, w.before args s = true) (hi : tables_1[i]? = some (.stringRef own k tx)) (h : (Cond.exactly (.string own k) "java/lang/String").before args s = true) : ∃ a, vk_R own k tx a s := by
  obtain ⟨a, c, cell, kk, h1, -⟩ := Cond.exactly_spec h
  exact ⟨a, vk_R.of (ht _ (List.mem_of_getElem? hi)) h1⟩
theorem ws_X {args : Array Value} {s : State} (ht : ∀ w ∈ tables_1, w.before args s = true) (hs : ∀ w ∈ flatC (Jvm.Cond.and given_1 narrow_1), w.before args s = true) : ∃ ta tb sa, EXX s.heap.size ta tb sa s := by
  have hA : ∀ a : Nat, a < s.heap.size → ¬ bA s.heap.size a := fun a h => Nat.not_le.mpr h
  obtain ⟨ta, l1, l2⟩ := ws_l ht hs
  obtain ⟨tb, m1, m2⟩ := ws_m ht hs
  obtain ⟨s0, z0⟩ := ws_q (own := RX10) (k := 37) (tx := "a juror that heeds others fails") (i := 934) ht (by decide +kernel) (hs _ (by decide +kernel))
  obtain ⟨s1, z1⟩ := ws_q (own := RX2) (k := 48) (tx := "a pressing juror that heeds others fails") (i := 872) ht (by decide +kernel) (hs _ (by decide +kernel))
  obtain ⟨s2, z2⟩ := ws_q (own := RX8) (k := 59) (tx := "a story that heeds others fails") (i := 916) ht (by decide +kernel) (hs _ (by decide +kernel))
  obtain ⟨s3, z3⟩ := ws_q (own := RX11) (k := 253) (tx := "no such shelf") (i := 950) ht (by decide +kernel) (hs _ (by decide +kernel))
  obtain ⟨s4, z4⟩ := ws_q (own := RX11) (k := 260) (tx := "no row, or no such place in it") (i := 952) ht (by decide +kernel) (hs _ (by decide +kernel))
  refine ⟨ta, tb, fun k => if k = 0 then s0 else if k = 1 then s1 else if k = 2 then s2 else if k = 3 then s3 else s4, ⟨l1, l2, m1, m2⟩, ⟨vx_Zqof (ht _ (List.mem_of_getElem? (i := 858) (by decide +kernel))) (ht _ (List.mem_of_getElem? (i := 16) (by decide +kernel))) (hs _ (by decide +kernel)) hA, vx_Zqof (ht _ (List.mem_of_getElem? (i := 860) (by decide +kernel))) (ht _ (List.mem_of_getElem? (i := 16) (by decide +kernel))) (hs _ (by decide +kernel)) hA⟩, ⟨z0, z1, z2, z3, z4⟩, ⟨va_Nc.of (hs _ (by decide +kernel)), va_Nc.of (hs _ (by decide +kernel)), va_Nc.of (hs _ (by decide +kernel)), va_Nc.of (hs _ (by decide +kernel))⟩, fun w hw => va_Nw.of (exW_on (List.all_eq_true.mp EXL_n w hw)) (ht w (ws_in ex_in hw))⟩
