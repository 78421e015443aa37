section LAW2
variable {p : Program} {l : Launch} {e : Env} {s : State} {m : MethodId} {below : List Frame} {meth : Method} {c : Code} {H : Heap} {locs : List Loc}
variable {D : va_G} {cA : Nat → ClassId} {ad : Nat → Nat} {ta tb : Nat} {sa : Nat → Nat} {pc : Nat} {ls : Array Slot}
/-- the law's end, with 1 -/
theorem law_end {b : Nat} {k9 n9 : Nat} (X : SX D cA s.heap.size p s m #[Value.ref b] meth c code 8 ret R_law) (hS : va_S (bA s.heap.size) s.heap H locs) (hc : k9 ≤ 601024) (hs : n9 ≤ 7293034) (hdg : decode code pc = .ok (.ireturn, 1)) : W p l e room_1 s m #[Value.ref b] below meth c H locs k9 n9 (lw_Z below #[Value.ref b] s) (F0 m pc ls [.int 1]) := by
  refine va_forget (fun q hq => hS.2.2 q hq) ?_
  refine W.widen hc hs ?_
  exact lw_ret X.1 X.2.1 X.2.2.2.1 X.2.2.2.2.2.2.1 hdg
theorem no_0 {σ τ : Hp} (h : (some (0, σ) : Option (Int32 × Hp)) = some (1, τ)) : False := absurd (Prod.mk.inj (Option.some.inj h)).1 (by decide)

def F_L_law_1205 (K : Nat → Nat → Nat → Int32 → Hp → Option (Int32 × Hp)) (v1 v2 v3 : Nat) (v4 : Int32) (σ : Hp) : Option (Int32 × Hp) := K v1 v2 v3 (v4 + 6) σ
theorem w_L_law_1205 {b L : Nat} {xs : Nat → Int32} {τ : Hp} (hl0 : l.stackTraces = false) (X : SX D cA s.heap.size p s m #[Value.ref b] meth c code 8 ret R_law) (hXX : EXX s.heap.size ta tb sa s) (hX0 : va_X b L xs s s.heap) (hbl : b < s.heap.size) (n : Nat) (f : Nat) (K : Nat → Nat → Nat → Int32 → Hp → Option (Int32 × Hp)) (hK : ∀ (v1 v2 v3 : Nat) (v4 : Int32) (σ : Hp) (ad : Nat → Nat) (H : Heap) (locs : List Loc) (ls : Array Slot) (cells slots : Nat), cells + 10 * f ≤ 600000 → slots + 1000 * f ≤ 7000000 → hT σ v1 11 → hT σ v2 12 → hT σ v3 17 → GW D cA s.heap.size ad σ H → va_S (bA s.heap.size) s.heap H locs → lv_has ls 8 [(0, .ref b), (1, .ref (ad v1)), (2, .ref (ad v2)), (3, .ref (ad v3)), (4, .int v4)] → K v1 v2 v3 v4 σ = some (1, τ) → W p l e room_1 s m #[Value.ref b] below meth c H locs cells slots (lw_Z below #[Value.ref b] s) (F0 m 23 ls [])) : ∀ (v1 v2 v3 : Nat) (v4 : Int32) (σ : Hp) (ad : Nat → Nat) (H : Heap) (locs : List Loc) (ls : Array Slot) (cells slots : Nat), cells + 10 * f ≤ 600000 → slots + 1000 * f ≤ 7000000 → hT σ v1 11 → hT σ v2 12 → hT σ v3 17 → GW D cA s.heap.size ad σ H → va_S (bA s.heap.size) s.heap H locs → lv_has ls 8 [(0, .ref b), (1, .ref (ad v1)), (2, .ref (ad v2)), (3, .ref (ad v3)), (4, .int v4)] → F_L_law_1205 K v1 v2 v3 v4 σ = some (1, τ) → W p l e room_1 s m #[Value.ref b] below meth c H locs cells slots (lw_Z below #[Value.ref b] s) (F0 m 1205 ls []) := by
  intro v1 v2 v3 v4 σ ad H locs ls cells slots hcell hslot hT_v1 hT_v2 hT_v3 hG hS hl hF
  unfold F_L_law_1205 at hF
  refine lv_iinc (v := v4 + 6) (lv' := [(4, .int (v4 + 6)), (0, .ref b), (1, .ref (ad v1)), (2, .ref (ad v2)), (3, .ref (ad v3))]) X.1 X.2.1 dL_law_1205 hl (k := 4) rfl rfl (by decide) rfl (fun ls hl => ?_)
  refine lv_goto (tgt := 23) X.1 X.2.1 dL_law_1208 (by decide) ?_
  exact hK v1 v2 v3 (v4 + 6) σ ad _ _ ls _ _ (by omega) (by omega) hT_v1 hT_v2 hT_v3 hG hS (lv_sub hl [1, 2, 3, 4, 0] rfl) hF
def F_L_law_23 (n L : Nat) (xs : Nat → Int32) : Nat → Nat → Nat → Nat → Int32 → Hp → Option (Int32 × Hp)
  | 0, _, _, _, _, _ => none
  | f + 1, v1, v2, v3, v4, σ => if ((nI L) - 6) < v4 then (some (1, σ)) else (ck (¬ (v4 < 0 ∨ L ≤ v4.toNatClampNeg)) (if ((xs v4.toNatClampNeg) &&& 31) = 0 then (ck (¬ ((v4 + 1) < 0 ∨ L ≤ (v4 + 1).toNatClampNeg)) (b2 (F_X11_thing n v1 (xs (v4 + 1).toNatClampNeg) σ) fun (r2 : Int32) (σ1 : Hp) => ck (¬ ((v4 + 1) < 0 ∨ L ≤ (v4 + 1).toNatClampNeg)) (b2 (F_X12_thing n v2 (xs (v4 + 1).toNatClampNeg) σ1) fun (r4 : Int32) (σ3 : Hp) => if r2 = r4 then (F_L_law_1205 (F_L_law_23 n L xs f) v1 v2 v3 v4 σ3) else (some (0, σ3))))) else (if ((xs v4.toNatClampNeg) &&& 31) = 1 then (ck (¬ ((v4 + 1) < 0 ∨ L ≤ (v4 + 1).toNatClampNeg)) (ck (¬ ((v4 + 2) < 0 ∨ L ≤ (v4 + 2).toNatClampNeg)) (ck (¬ ((v4 + 3) < 0 ∨ L ≤ (v4 + 3).toNatClampNeg)) (ck (¬ ((v4 + 4) < 0 ∨ L ≤ (v4 + 4).toNatClampNeg)) (b2 (F_X11_juror n v1 (xs (v4 + 1).toNatClampNeg) (xs (v4 + 2).toNatClampNeg) (xs (v4 + 3).toNatClampNeg) (xs (v4 + 4).toNatClampNeg) σ) fun (r6 : Int32) (σ5 : Hp) => ck (¬ ((v4 + 1) < 0 ∨ L ≤ (v4 + 1).toNatClampNeg)) (ck (¬ ((v4 + 2) < 0 ∨ L ≤ (v4 + 2).toNatClampNeg)) (ck (¬ ((v4 + 3) < 0 ∨ L ≤ (v4 + 3).toNatClampNeg)) (ck (¬ ((v4 + 4) < 0 ∨ L ≤ (v4 + 4).toNatClampNeg)) (b2 (F_X12_juror n v2 (xs (v4 + 1).toNatClampNeg) (xs (v4 + 2).toNatClampNeg) (xs (v4 + 3).toNatClampNeg) (xs (v4 + 4).toNatClampNeg) σ5) fun (r9 : Int32) (σ8 : Hp) => if r6 = r9 then (F_L_law_1205 (F_L_law_23 n L xs f) v1 v2 v3 v4 σ8) else (some (0, σ8))))))))))) else (if ((xs v4.toNatClampNeg) &&& 31) = 2 then (ck (¬ ((v4 + 1) < 0 ∨ L ≤ (v4 + 1).toNatClampNeg)) (ck (¬ ((v4 + 2) < 0 ∨ L ≤ (v4 + 2).toNatClampNeg)) (b2 (F_X11_holds n v1 (xs (v4 + 1).toNatClampNeg) (xs (v4 + 2).toNatClampNeg) σ) fun (r11 : Int32) (σ10 : Hp) => ck (¬ ((v4 + 1) < 0 ∨ L ≤ (v4 + 1).toNatClampNeg)) (ck (¬ ((v4 + 2) < 0 ∨ L ≤ (v4 + 2).toNatClampNeg)) (b2 (F_X12_holds n v2 (xs (v4 + 1).toNatClampNeg) (xs (v4 + 2).toNatClampNeg) σ10) fun (r13 : Int32) (σ12 : Hp) => if r11 = r13 then (F_L_law_1205 (F_L_law_23 n L xs f) v1 v2 v3 v4 σ12) else (some (0, σ12))))))) else (if ((xs v4.toNatClampNeg) &&& 31) = 3 then (ck (¬ ((v4 + 1) < 0 ∨ L ≤ (v4 + 1).toNatClampNeg)) (ck (¬ ((v4 + 2) < 0 ∨ L ≤ (v4 + 2).toNatClampNeg)) (b2 (F_X11_of n v1 (xs (v4 + 1).toNatClampNeg) (xs (v4 + 2).toNatClampNeg) σ) fun (r15 : Int32) (σ14 : Hp) => ck (¬ ((v4 + 1) < 0 ∨ L ≤ (v4 + 1).toNatClampNeg)) (ck (¬ ((v4 + 2) < 0 ∨ L ≤ (v4 + 2).toNatClampNeg)) (b2 (F_X12_of n v2 (xs (v4 + 1).toNatClampNeg) (xs (v4 + 2).toNatClampNeg) σ14) fun (r17 : Int32) (σ16 : Hp) => if r15 = r17 then (F_L_law_1205 (F_L_law_23 n L xs f) v1 v2 v3 v4 σ16) else (some (0, σ16))))))) else (if ((xs v4.toNatClampNeg) &&& 31) = 4 then (ck (¬ ((v4 + 1) < 0 ∨ L ≤ (v4 + 1).toNatClampNeg)) (b2 (F_X11_leans n v1 (xs (v4 + 1).toNatClampNeg) σ) fun (r19 : Int32) (σ18 : Hp) => ck (¬ ((v4 + 1) < 0 ∨ L ≤ (v4 + 1).toNatClampNeg)) (b2 (F_X12_leans n v2 (xs (v4 + 1).toNatClampNeg) σ18) fun (r21 : Int32) (σ20 : Hp) => if r19 = r21 then (F_L_law_1205 (F_L_law_23 n L xs f) v1 v2 v3 v4 σ20) else (some (0, σ20))))) else (if ((xs v4.toNatClampNeg) &&& 31) = 5 then (ck (¬ ((v4 + 1) < 0 ∨ L ≤ (v4 + 1).toNatClampNeg)) (b2 (F_X11_law n v1 (xs (v4 + 1).toNatClampNeg) σ) fun (r23 : Int32) (σ22 : Hp) => ck (¬ ((v4 + 1) < 0 ∨ L ≤ (v4 + 1).toNatClampNeg)) (b2 (F_X12_law n v2 (xs (v4 + 1).toNatClampNeg) σ22) fun (r26 : Int32) (σ25 : Hp) => if r23 = r26 then (F_L_law_1205 (F_L_law_23 n L xs f) v1 v2 v3 v4 σ25) else (some (0, σ25))))) else (if ((xs v4.toNatClampNeg) &&& 31) = 6 then (ck (¬ ((v4 + 1) < 0 ∨ L ≤ (v4 + 1).toNatClampNeg)) (ck (¬ ((v4 + 2) < 0 ∨ L ≤ (v4 + 2).toNatClampNeg)) (b2 (F_X11_set n v1 (xs (v4 + 1).toNatClampNeg) (xs (v4 + 2).toNatClampNeg) σ) fun (r28 : Int32) (σ27 : Hp) => ck (¬ ((v4 + 1) < 0 ∨ L ≤ (v4 + 1).toNatClampNeg)) (ck (¬ ((v4 + 2) < 0 ∨ L ≤ (v4 + 2).toNatClampNeg)) (b2 (F_X12_set n v2 (xs (v4 + 1).toNatClampNeg) (xs (v4 + 2).toNatClampNeg) σ27) fun (r30 : Int32) (σ29 : Hp) => if r28 = r30 then (F_L_law_1205 (F_L_law_23 n L xs f) v1 v2 v3 v4 σ29) else (some (0, σ29))))))) else (if ((xs v4.toNatClampNeg) &&& 31) = 7 then (b2 (F_X11_begin n v1 σ) fun (r32 : Int32) (σ31 : Hp) => b2 (F_X12_begin n v2 σ31) fun (r34 : Int32) (σ33 : Hp) => if r32 = r34 then (F_L_law_1205 (F_L_law_23 n L xs f) v1 v2 v3 v4 σ33) else (some (0, σ33))) else (if ((xs v4.toNatClampNeg) &&& 31) = 8 then (ck (¬ ((v4 + 1) < 0 ∨ L ≤ (v4 + 1).toNatClampNeg)) (b2 (F_X11_go n v1 (xs (v4 + 1).toNatClampNeg) σ) fun (r36 : Int32) (σ35 : Hp) => ck (¬ ((v4 + 1) < 0 ∨ L ≤ (v4 + 1).toNatClampNeg)) (b2 (F_X12_go n v2 (xs (v4 + 1).toNatClampNeg) σ35) fun (r38 : Int32) (σ37 : Hp) => if r36 = r38 then (F_L_law_1205 (F_L_law_23 n L xs f) v1 v2 v3 v4 σ37) else (some (0, σ37))))) else (if ((xs v4.toNatClampNeg) &&& 31) = 9 then (ck (¬ ((v4 + 1) < 0 ∨ L ≤ (v4 + 1).toNatClampNeg)) (b2 (F_X11_talk n v1 (xs (v4 + 1).toNatClampNeg) σ) fun (r40 : Int32) (σ39 : Hp) => ck (¬ ((v4 + 1) < 0 ∨ L ≤ (v4 + 1).toNatClampNeg)) (b2 (F_X12_talk n v2 (xs (v4 + 1).toNatClampNeg) σ39) fun (r42 : Int32) (σ41 : Hp) => if r40 = r42 then (F_L_law_1205 (F_L_law_23 n L xs f) v1 v2 v3 v4 σ41) else (some (0, σ41))))) else (if ((xs v4.toNatClampNeg) &&& 31) = 10 then (ck (¬ ((v4 + 1) < 0 ∨ L ≤ (v4 + 1).toNatClampNeg)) (b2 (F_X11_run n v1 (xs (v4 + 1).toNatClampNeg) σ) fun (r44 : Int32) (σ43 : Hp) => ck (¬ ((v4 + 1) < 0 ∨ L ≤ (v4 + 1).toNatClampNeg)) (b2 (F_X12_run n v2 (xs (v4 + 1).toNatClampNeg) σ43) fun (r46 : Int32) (σ45 : Hp) => if r44 = r46 then (F_L_law_1205 (F_L_law_23 n L xs f) v1 v2 v3 v4 σ45) else (some (0, σ45))))) else (if ((xs v4.toNatClampNeg) &&& 31) = 11 then (ck (¬ ((v4 + 1) < 0 ∨ L ≤ (v4 + 1).toNatClampNeg)) (if (xs (v4 + 1).toNatClampNeg) = 0 then (b2 (F_X11_slips n v1 0 σ) fun (r48 : Int32) (σ47 : Hp) => ck (¬ ((v4 + 1) < 0 ∨ L ≤ (v4 + 1).toNatClampNeg)) (if (xs (v4 + 1).toNatClampNeg) = 0 then (b2 (F_X12_slips n v2 0 σ47) fun (r50 : Int32) (σ49 : Hp) => if r48 = r50 then (F_L_law_1205 (F_L_law_23 n L xs f) v1 v2 v3 v4 σ49) else (some (0, σ49))) else (b2 (F_X12_slips n v2 1 σ47) fun (r52 : Int32) (σ51 : Hp) => if r48 = r52 then (F_L_law_1205 (F_L_law_23 n L xs f) v1 v2 v3 v4 σ51) else (some (0, σ51))))) else (b2 (F_X11_slips n v1 1 σ) fun (r54 : Int32) (σ53 : Hp) => ck (¬ ((v4 + 1) < 0 ∨ L ≤ (v4 + 1).toNatClampNeg)) (if (xs (v4 + 1).toNatClampNeg) = 0 then (b2 (F_X12_slips n v2 0 σ53) fun (r56 : Int32) (σ55 : Hp) => if r54 = r56 then (F_L_law_1205 (F_L_law_23 n L xs f) v1 v2 v3 v4 σ55) else (some (0, σ55))) else (b2 (F_X12_slips n v2 1 σ53) fun (r58 : Int32) (σ57 : Hp) => if r54 = r58 then (F_L_law_1205 (F_L_law_23 n L xs f) v1 v2 v3 v4 σ57) else (some (0, σ57))))))) else (if ((xs v4.toNatClampNeg) &&& 31) = 12 then (ck (¬ ((v4 + 1) < 0 ∨ L ≤ (v4 + 1).toNatClampNeg)) (ck (¬ ((v4 + 2) < 0 ∨ L ≤ (v4 + 2).toNatClampNeg)) (b2 (F_X11_moved n v1 (xs (v4 + 1).toNatClampNeg) (xs (v4 + 2).toNatClampNeg) σ) fun (r60 : Int32) (σ59 : Hp) => ck (¬ ((v4 + 1) < 0 ∨ L ≤ (v4 + 1).toNatClampNeg)) (ck (¬ ((v4 + 2) < 0 ∨ L ≤ (v4 + 2).toNatClampNeg)) (b2 (F_X12_moved n v2 (xs (v4 + 1).toNatClampNeg) (xs (v4 + 2).toNatClampNeg) σ59) fun (r62 : Int32) (σ61 : Hp) => if r60 = r62 then (F_L_law_1205 (F_L_law_23 n L xs f) v1 v2 v3 v4 σ61) else (some (0, σ61))))))) else (if ((xs v4.toNatClampNeg) &&& 31) = 13 then (ck (¬ ((v4 + 1) < 0 ∨ L ≤ (v4 + 1).toNatClampNeg)) (b2 (F_X11_out n v1 (xs (v4 + 1).toNatClampNeg) σ) fun (r64 : Int32) (σ63 : Hp) => ck (¬ ((v4 + 1) < 0 ∨ L ≤ (v4 + 1).toNatClampNeg)) (b2 (F_X12_out n v2 (xs (v4 + 1).toNatClampNeg) σ63) fun (r66 : Int32) (σ65 : Hp) => if r64 = r66 then (F_L_law_1205 (F_L_law_23 n L xs f) v1 v2 v3 v4 σ65) else (some (0, σ65))))) else (if ((xs v4.toNatClampNeg) &&& 31) = 14 then (b2 (F_X11_one n v1 σ) fun (r68 : Int32) (σ67 : Hp) => b2 (F_X12_one n v2 σ67) fun (r70 : Int32) (σ69 : Hp) => if r68 = r70 then (F_L_law_1205 (F_L_law_23 n L xs f) v1 v2 v3 v4 σ69) else (some (0, σ69))) else (if ((xs v4.toNatClampNeg) &&& 31) = 15 then (ck (¬ ((v4 + 1) < 0 ∨ L ≤ (v4 + 1).toNatClampNeg)) (ck (¬ ((v4 + 2) < 0 ∨ L ≤ (v4 + 2).toNatClampNeg)) (b2 (F_X11_six n v1 (xs (v4 + 1).toNatClampNeg) (xs (v4 + 2).toNatClampNeg) σ) fun (r72 : Int32) (σ71 : Hp) => ck (¬ ((v4 + 1) < 0 ∨ L ≤ (v4 + 1).toNatClampNeg)) (ck (¬ ((v4 + 2) < 0 ∨ L ≤ (v4 + 2).toNatClampNeg)) (b2 (F_X12_six n v2 (xs (v4 + 1).toNatClampNeg) (xs (v4 + 2).toNatClampNeg) σ71) fun (r74 : Int32) (σ73 : Hp) => if r72 = r74 then (F_L_law_1205 (F_L_law_23 n L xs f) v1 v2 v3 v4 σ73) else (some (0, σ73))))))) else (if ((xs v4.toNatClampNeg) &&& 31) = 16 then (ck (¬ ((v4 + 1) < 0 ∨ L ≤ (v4 + 1).toNatClampNeg)) (b2 (F_X11_lost n v1 (xs (v4 + 1).toNatClampNeg) σ) fun (r76 : Int32) (σ75 : Hp) => ck (¬ ((v4 + 1) < 0 ∨ L ≤ (v4 + 1).toNatClampNeg)) (b2 (F_X12_lost n v2 (xs (v4 + 1).toNatClampNeg) σ75) fun (r78 : Int32) (σ77 : Hp) => if r76 = r78 then (F_L_law_1205 (F_L_law_23 n L xs f) v1 v2 v3 v4 σ77) else (some (0, σ77))))) else (if ((xs v4.toNatClampNeg) &&& 31) = 17 then (ck (¬ ((v4 + 1) < 0 ∨ L ≤ (v4 + 1).toNatClampNeg)) (b2 (F_X11_leads n v1 (xs (v4 + 1).toNatClampNeg) σ) fun (r80 : Int32) (σ79 : Hp) => ck (¬ ((v4 + 1) < 0 ∨ L ≤ (v4 + 1).toNatClampNeg)) (b2 (F_X12_leads n v2 (xs (v4 + 1).toNatClampNeg) σ79) fun (r82 : Int32) (σ81 : Hp) => if r80 = r82 then (F_L_law_1205 (F_L_law_23 n L xs f) v1 v2 v3 v4 σ81) else (some (0, σ81))))) else (if ((xs v4.toNatClampNeg) &&& 31) = 18 then (b2 (F_X11_hands n v1 σ) fun (r84 : Int32) (σ83 : Hp) => b2 (F_X12_hands n v2 σ83) fun (r86 : Int32) (σ85 : Hp) => if r84 = r86 then (F_L_law_1205 (F_L_law_23 n L xs f) v1 v2 v3 v4 σ85) else (some (0, σ85))) else (if ((xs v4.toNatClampNeg) &&& 31) = 19 then (ck (¬ ((v4 + 1) < 0 ∨ L ≤ (v4 + 1).toNatClampNeg)) (b2 (F_X11_leftOut n v1 (xs (v4 + 1).toNatClampNeg) σ) fun (r88 : Int32) (σ87 : Hp) => ck (¬ ((v4 + 1) < 0 ∨ L ≤ (v4 + 1).toNatClampNeg)) (b2 (F_X12_leftOut n v2 (xs (v4 + 1).toNatClampNeg) σ87) fun (r90 : Int32) (σ89 : Hp) => if r88 = r90 then (F_L_law_1205 (F_L_law_23 n L xs f) v1 v2 v3 v4 σ89) else (some (0, σ89))))) else (if ((xs v4.toNatClampNeg) &&& 31) = 20 then (ck (¬ ((v4 + 1) < 0 ∨ L ≤ (v4 + 1).toNatClampNeg)) (ck (¬ ((v4 + 2) < 0 ∨ L ≤ (v4 + 2).toNatClampNeg)) (ck (¬ ((v4 + 3) < 0 ∨ L ≤ (v4 + 3).toNatClampNeg)) (ck (¬ ((v4 + 4) < 0 ∨ L ≤ (v4 + 4).toNatClampNeg)) (b2 (F_X11_worlds n v1 (xs (v4 + 1).toNatClampNeg) (xs (v4 + 2).toNatClampNeg) (xs (v4 + 3).toNatClampNeg) (xs (v4 + 4).toNatClampNeg) σ) fun (r92 : Int32) (σ91 : Hp) => ck (¬ ((v4 + 1) < 0 ∨ L ≤ (v4 + 1).toNatClampNeg)) (ck (¬ ((v4 + 2) < 0 ∨ L ≤ (v4 + 2).toNatClampNeg)) (ck (¬ ((v4 + 3) < 0 ∨ L ≤ (v4 + 3).toNatClampNeg)) (ck (¬ ((v4 + 4) < 0 ∨ L ≤ (v4 + 4).toNatClampNeg)) (b2 (F_X12_worlds n v2 (xs (v4 + 1).toNatClampNeg) (xs (v4 + 2).toNatClampNeg) (xs (v4 + 3).toNatClampNeg) (xs (v4 + 4).toNatClampNeg) σ91) fun (r94 : Int32) (σ93 : Hp) => if r92 = r94 then (F_L_law_1205 (F_L_law_23 n L xs f) v1 v2 v3 v4 σ93) else (some (0, σ93))))))))))) else (if ((xs v4.toNatClampNeg) &&& 31) = 21 then (b2 (F_X11_image n v1 σ) fun (r96 : Int32) (σ95 : Hp) => b2 (F_X12_image n v2 σ95) fun (r98 : Int32) (σ97 : Hp) => if r96 = r98 then (F_L_law_1205 (F_L_law_23 n L xs f) v1 v2 v3 v4 σ97) else (some (0, σ97))) else (if ((xs v4.toNatClampNeg) &&& 31) = 22 then (b2 (F_X11_restore n v1 σ) fun (r100 : Int32) (σ99 : Hp) => b2 (F_X12_restore n v2 σ99) fun (r102 : Int32) (σ101 : Hp) => if r100 = r102 then (F_L_law_1205 (F_L_law_23 n L xs f) v1 v2 v3 v4 σ101) else (some (0, σ101))) else (if ((xs v4.toNatClampNeg) &&& 31) = 23 then (ck (¬ ((v4 + 1) < 0 ∨ L ≤ (v4 + 1).toNatClampNeg)) (b2 (F_X11_count n v1 (xs (v4 + 1).toNatClampNeg) σ) fun (r104 : Int32) (σ103 : Hp) => ck (¬ ((v4 + 1) < 0 ∨ L ≤ (v4 + 1).toNatClampNeg)) (b2 (F_X12_count n v2 (xs (v4 + 1).toNatClampNeg) σ103) fun (r106 : Int32) (σ105 : Hp) => if r104 = r106 then (F_L_law_1205 (F_L_law_23 n L xs f) v1 v2 v3 v4 σ105) else (some (0, σ105))))) else (if ((xs v4.toNatClampNeg) &&& 31) = 24 then (ck (¬ ((v4 + 1) < 0 ∨ L ≤ (v4 + 1).toNatClampNeg)) (ck (¬ ((v4 + 2) < 0 ∨ L ≤ (v4 + 2).toNatClampNeg)) (ck (¬ ((v4 + 3) < 0 ∨ L ≤ (v4 + 3).toNatClampNeg)) (b2 (F_X11_keep n v1 (xs (v4 + 1).toNatClampNeg) (xs (v4 + 2).toNatClampNeg) (xs (v4 + 3).toNatClampNeg) σ) fun (r108 : Int32) (σ107 : Hp) => ck (¬ ((v4 + 1) < 0 ∨ L ≤ (v4 + 1).toNatClampNeg)) (ck (¬ ((v4 + 2) < 0 ∨ L ≤ (v4 + 2).toNatClampNeg)) (ck (¬ ((v4 + 3) < 0 ∨ L ≤ (v4 + 3).toNatClampNeg)) (b2 (F_X12_keep n v2 (xs (v4 + 1).toNatClampNeg) (xs (v4 + 2).toNatClampNeg) (xs (v4 + 3).toNatClampNeg) σ107) fun (r110 : Int32) (σ109 : Hp) => if r108 = r110 then (F_L_law_1205 (F_L_law_23 n L xs f) v1 v2 v3 v4 σ109) else (some (0, σ109))))))))) else (if ((xs v4.toNatClampNeg) &&& 31) = 25 then (ck (¬ ((v4 + 1) < 0 ∨ L ≤ (v4 + 1).toNatClampNeg)) (ck (¬ ((v4 + 2) < 0 ∨ L ≤ (v4 + 2).toNatClampNeg)) (ck (¬ ((v4 + 3) < 0 ∨ L ≤ (v4 + 3).toNatClampNeg)) (b2 (F_X11_row n v1 (xs (v4 + 1).toNatClampNeg) (xs (v4 + 2).toNatClampNeg) (xs (v4 + 3).toNatClampNeg) σ) fun (r112 : Int32) (σ111 : Hp) => ck (¬ ((v4 + 1) < 0 ∨ L ≤ (v4 + 1).toNatClampNeg)) (ck (¬ ((v4 + 2) < 0 ∨ L ≤ (v4 + 2).toNatClampNeg)) (ck (¬ ((v4 + 3) < 0 ∨ L ≤ (v4 + 3).toNatClampNeg)) (b2 (F_X12_row n v2 (xs (v4 + 1).toNatClampNeg) (xs (v4 + 2).toNatClampNeg) (xs (v4 + 3).toNatClampNeg) σ111) fun (r114 : Int32) (σ113 : Hp) => if r112 = r114 then (F_L_law_1205 (F_L_law_23 n L xs f) v1 v2 v3 v4 σ113) else (some (0, σ113))))))))) else (if ((xs v4.toNatClampNeg) &&& 31) = 26 then (ck (¬ ((v4 + 1) < 0 ∨ L ≤ (v4 + 1).toNatClampNeg)) (ck (¬ ((v4 + 2) < 0 ∨ L ≤ (v4 + 2).toNatClampNeg)) (ck (¬ ((v4 + 3) < 0 ∨ L ≤ (v4 + 3).toNatClampNeg)) (b2 (F_X11_put n v1 (xs (v4 + 1).toNatClampNeg) (xs (v4 + 2).toNatClampNeg) (xs (v4 + 3).toNatClampNeg) σ) fun (r116 : Int32) (σ115 : Hp) => ck (¬ ((v4 + 1) < 0 ∨ L ≤ (v4 + 1).toNatClampNeg)) (ck (¬ ((v4 + 2) < 0 ∨ L ≤ (v4 + 2).toNatClampNeg)) (ck (¬ ((v4 + 3) < 0 ∨ L ≤ (v4 + 3).toNatClampNeg)) (b2 (F_X12_put n v2 (xs (v4 + 1).toNatClampNeg) (xs (v4 + 2).toNatClampNeg) (xs (v4 + 3).toNatClampNeg) σ115) fun (r118 : Int32) (σ117 : Hp) => if r116 = r118 then (F_L_law_1205 (F_L_law_23 n L xs f) v1 v2 v3 v4 σ117) else (some (0, σ117))))))))) else (if ((xs v4.toNatClampNeg) &&& 31) = 27 then (ck (¬ ((v4 + 1) < 0 ∨ L ≤ (v4 + 1).toNatClampNeg)) (ck (¬ ((v4 + 2) < 0 ∨ L ≤ (v4 + 2).toNatClampNeg)) (b2 (F_L_element n v1 (xs (v4 + 1).toNatClampNeg) (xs (v4 + 2).toNatClampNeg) v3 σ) fun (r120 : Int32) (σ119 : Hp) => ck (¬ ((v4 + 1) < 0 ∨ L ≤ (v4 + 1).toNatClampNeg)) (ck (¬ ((v4 + 2) < 0 ∨ L ≤ (v4 + 2).toNatClampNeg)) (b2 (F_X12_element n v2 (xs (v4 + 1).toNatClampNeg) (xs (v4 + 2).toNatClampNeg) σ119) fun (r122 : Int64) (σ121 : Hp) => b2 (F_X12_thrown n v2 σ121) fun (r124 : Int32) (σ123 : Hp) => if r124 = r120 then (if r120 = 0 then (ck (¬ ((0 : Int32) < 0 ∨ hL σ123 v3 ≤ (0 : Int32).toNatClampNeg)) (if (lg_cmp (hJ σ123 v3 (0 : Int32).toNatClampNeg) r122) = 0 then (F_L_law_1205 (F_L_law_23 n L xs f) v1 v2 v3 v4 σ123) else (some (0, σ123)))) else (F_L_law_1205 (F_L_law_23 n L xs f) v1 v2 v3 v4 σ123)) else (some (0, σ123))))))) else (if ((xs v4.toNatClampNeg) &&& 31) = 28 then (ck (¬ ((v4 + 1) < 0 ∨ L ≤ (v4 + 1).toNatClampNeg)) (ck (¬ ((v4 + 2) < 0 ∨ L ≤ (v4 + 2).toNatClampNeg)) (ck (¬ ((v4 + 3) < 0 ∨ L ≤ (v4 + 3).toNatClampNeg)) (ck (¬ ((v4 + 4) < 0 ∨ L ≤ (v4 + 4).toNatClampNeg)) (ck (¬ ((v4 + 5) < 0 ∨ L ≤ (v4 + 5).toNatClampNeg)) (b2 (F_X11_copy n v1 (xs (v4 + 1).toNatClampNeg) (xs (v4 + 2).toNatClampNeg) (xs (v4 + 3).toNatClampNeg) (xs (v4 + 4).toNatClampNeg) (xs (v4 + 5).toNatClampNeg) σ) fun (r126 : Int32) (σ125 : Hp) => ck (¬ ((v4 + 1) < 0 ∨ L ≤ (v4 + 1).toNatClampNeg)) (ck (¬ ((v4 + 2) < 0 ∨ L ≤ (v4 + 2).toNatClampNeg)) (ck (¬ ((v4 + 3) < 0 ∨ L ≤ (v4 + 3).toNatClampNeg)) (ck (¬ ((v4 + 4) < 0 ∨ L ≤ (v4 + 4).toNatClampNeg)) (ck (¬ ((v4 + 5) < 0 ∨ L ≤ (v4 + 5).toNatClampNeg)) (b2 (F_X12_copy n v2 (xs (v4 + 1).toNatClampNeg) (xs (v4 + 2).toNatClampNeg) (xs (v4 + 3).toNatClampNeg) (xs (v4 + 4).toNatClampNeg) (xs (v4 + 5).toNatClampNeg) σ125) fun (r128 : Int32) (σ127 : Hp) => if r126 = r128 then (F_L_law_1205 (F_L_law_23 n L xs f) v1 v2 v3 v4 σ127) else (some (0, σ127))))))))))))) else (if ((xs v4.toNatClampNeg) &&& 31) = 29 then (ck (¬ ((v4 + 1) < 0 ∨ L ≤ (v4 + 1).toNatClampNeg)) (b2 (F_X11_voice n v1 (xs (v4 + 1).toNatClampNeg) σ) fun (r130 : Int32) (σ129 : Hp) => ck (¬ ((v4 + 1) < 0 ∨ L ≤ (v4 + 1).toNatClampNeg)) (b2 (F_X12_voice n v2 (xs (v4 + 1).toNatClampNeg) σ129) fun (r132 : Int32) (σ131 : Hp) => if r130 = r132 then (F_L_law_1205 (F_L_law_23 n L xs f) v1 v2 v3 v4 σ131) else (some (0, σ131))))) else (if ((xs v4.toNatClampNeg) &&& 31) = 30 then (ck (¬ ((v4 + 1) < 0 ∨ L ≤ (v4 + 1).toNatClampNeg)) (b2 (F_X11_toss n v1 (xs (v4 + 1).toNatClampNeg) σ) fun (r134 : Int32) (σ133 : Hp) => ck (¬ ((v4 + 1) < 0 ∨ L ≤ (v4 + 1).toNatClampNeg)) (b2 (F_X12_toss n v2 (xs (v4 + 1).toNatClampNeg) σ133) fun (r136 : Int32) (σ135 : Hp) => if r134 = r136 then (F_L_law_1205 (F_L_law_23 n L xs f) v1 v2 v3 v4 σ135) else (some (0, σ135))))) else (F_L_law_1205 (F_L_law_23 n L xs f) v1 v2 v3 v4 σ)))))))))))))))))))))))))))))))))
set_option maxHeartbeats 100000000 in
set_option maxRecDepth 100000 in
theorem w_L_law_23 {b L : Nat} {xs : Nat → Int32} {τ : Hp} (hl0 : l.stackTraces = false) (X : SX D cA s.heap.size p s m #[Value.ref b] meth c code 8 ret R_law) (hXX : EXX s.heap.size ta tb sa s) (hX0 : va_X b L xs s s.heap) (hbl : b < s.heap.size) (n : Nat) : ∀ f : Nat, ∀ (v1 v2 v3 : Nat) (v4 : Int32) (σ : Hp) (ad : Nat → Nat) (H : Heap) (locs : List Loc) (ls : Array Slot) (cells slots : Nat), cells + 10 * f ≤ 600000 → slots + 1000 * f ≤ 7000000 → hT σ v1 11 → hT σ v2 12 → hT σ v3 17 → GW D cA s.heap.size ad σ H → va_S (bA s.heap.size) s.heap H locs → lv_has ls 8 [(0, .ref b), (1, .ref (ad v1)), (2, .ref (ad v2)), (3, .ref (ad v3)), (4, .int v4)] → F_L_law_23 n L xs f v1 v2 v3 v4 σ = some (1, τ) → W p l e room_1 s m #[Value.ref b] below meth c H locs cells slots (lw_Z below #[Value.ref b] s) (F0 m 23 ls []) := by
  have hbA : ¬ bA s.heap.size b := Nat.not_le.mpr hbl
  intro f
  induction f with
  | zero => intro v1 v2 v3 v4 σ ad H locs ls cells slots hcell hslot hT_v1 hT_v2 hT_v3 hG hS hl hF
            rw [F_L_law_23] at hF; cases hF
  | succ f ih =>
    intro v1 v2 v3 v4 σ ad H locs ls cells slots hcell hslot hT_v1 hT_v2 hT_v3 hG hS hl hF
    have hE := xT.rf σ
    have hA := adE.rf σ ad
    rw [F_L_law_23] at hF
    refine lv_iload X.1 X.2.1 dL_law_23 (lv_at hl 4 rfl) ?_
    refine lv_aload_n X.1 X.2.1 dL_law_25 rfl (lv_at hl 0 rfl) ?_
    refine va_slen X.1 X.2.1 hX0 hbl hbA hS dL_law_26 ?_
    refine lv_bipush (v := 6) X.1 X.2.1 dL_law_27 (by decide) ?_
    refine lv_isub X.1 X.2.1 dL_law_29 ?_
    refine lv_icmp_gt (tgt := 1211) X.1 X.2.1 dL_law_30 (by decide) (fun hc => ?_) (fun hc => ?_)
    · replace hF := it_t hF hc
      refine lv_iconst (v := 1) X.1 X.2.1 dL_law_1211 (by decide) ?_
      exact law_end X hS (by omega) (by omega) dL_law_1212
    · replace hF := it_f hF hc
      refine lv_aload_n X.1 X.2.1 dL_law_33 rfl (lv_at hl 0 rfl) ?_
      refine lv_iload X.1 X.2.1 dL_law_34 (lv_at hl 4 rfl) ?_
      obtain ⟨hin, hF⟩ := ck_ex hF
      refine va_sld X.1 X.2.1 hX0 hbl hbA hS hin dL_law_36 ?_
      refine lv_bipush (v := 31) X.1 X.2.1 dL_law_37 (by decide) ?_
      refine lv_iand X.1 X.2.1 dL_law_39 ?_
      by_cases hc0 : ((xs v4.toNatClampNeg) &&& 31) = 0
      · replace hF := it_t hF hc0
        refine lv_tableIn (tgt := 180) X.1 X.2.1 dL_law_40 (by rw [hc0]; decide) (by rw [hc0]; decide) (by rw [hc0]; rfl) (by decide) ?_
        refine lv_aload_n X.1 X.2.1 dL_law_180 rfl (lv_at hl 1 rfl) ?_
        refine lv_aload_n X.1 X.2.1 dL_law_181 rfl (lv_at hl 0 rfl) ?_
        refine lv_iload X.1 X.2.1 dL_law_182 (lv_at hl 4 rfl) ?_
        refine lv_iconst (v := 1) X.1 X.2.1 dL_law_184 (by decide) ?_
        refine lv_iadd X.1 X.2.1 dL_law_185 ?_
        obtain ⟨hin, hF⟩ := ck_ex hF
        refine va_sld X.1 X.2.1 hX0 hbl hbA hS hin dL_law_186 ?_
        obtain ⟨r2, σ1, hz, hF⟩ := b2_ex hF
        refine gx_rI (gx_runV (As := [.int (xs (v4 + 1).toNatClampNeg)]) (rest := []) X hG hS hT_v1.1 (hT_v1.eq (by decide)) (by decide) rfl (c_X11_thing l D cA s.heap.size ad σ n v1 (xs (v4 + 1).toNatClampNeg) hT_v1 hz) k_170 k_167 k_168 k_169 k_1 (h_X11_thing) rfl rfl ⟨by decide +kernel, by decide +kernel⟩ rfl hl.1 rfl (Nat.le_of_ble_eq_true rfl) dL_law_187 ⟨by show _ ≤ 601024; omega, by show _ ≤ 7293034; omega⟩) hS (fun H locs hG hS hX => ?_)
        have hT_v1 := hX.T hT_v1
        have hT_v2 := hX.T hT_v2
        have hT_v3 := hX.T hT_v3
        replace hE := hE.trans hX
        refine lv_aload_n X.1 X.2.1 dL_law_190 rfl (lv_at hl 2 rfl) ?_
        refine lv_aload_n X.1 X.2.1 dL_law_191 rfl (lv_at hl 0 rfl) ?_
        refine lv_iload X.1 X.2.1 dL_law_192 (lv_at hl 4 rfl) ?_
        refine lv_iconst (v := 1) X.1 X.2.1 dL_law_194 (by decide) ?_
        refine lv_iadd X.1 X.2.1 dL_law_195 ?_
        obtain ⟨hin, hF⟩ := ck_ex hF
        refine va_sld X.1 X.2.1 hX0 hbl hbA hS hin dL_law_196 ?_
        obtain ⟨r4, σ3, hz, hF⟩ := b2_ex hF
        refine gx_rI (gx_runV (As := [.int (xs (v4 + 1).toNatClampNeg)]) (rest := [.int r2]) X hG hS hT_v2.1 (hT_v2.eq (by decide)) (by decide) rfl (c_X12_thing l D cA s.heap.size ad σ1 n v2 (xs (v4 + 1).toNatClampNeg) hT_v2 hz) k_1058 k_1055 k_1056 k_1057 k_4 (h_X12_thing) rfl rfl ⟨by decide +kernel, by decide +kernel⟩ rfl hl.1 rfl (Nat.le_of_ble_eq_true rfl) dL_law_197 ⟨by show _ ≤ 601024; omega, by show _ ≤ 7293034; omega⟩) hS (fun H locs hG hS hX => ?_)
        have hT_v1 := hX.T hT_v1
        have hT_v2 := hX.T hT_v2
        have hT_v3 := hX.T hT_v3
        replace hE := hE.trans hX
        refine lv_icmp_eq (tgt := 1205) X.1 X.2.1 dL_law_200 (by decide) (fun hc => ?_) (fun hc => ?_)
        · replace hF := it_t hF hc
          exact w_L_law_1205 hl0 X hXX hX0 hbl n f (F_L_law_23 n L xs f) ih v1 v2 v3 v4 σ3 ad _ _ ls _ _ (by omega) (by omega) hT_v1 hT_v2 hT_v3 hG hS (lv_sub hl [0, 1, 2, 3, 4] rfl) hF
        · replace hF := it_f hF hc
          refine lv_iconst (v := 0) X.1 X.2.1 dL_law_203 (by decide) ?_
          exact (no_0 hF).elim
      replace hF := it_f hF hc0
      by_cases hc1 : ((xs v4.toNatClampNeg) &&& 31) = 1
      · replace hF := it_t hF hc1
        refine lv_tableIn (tgt := 205) X.1 X.2.1 dL_law_40 (by rw [hc1]; decide) (by rw [hc1]; decide) (by rw [hc1]; rfl) (by decide) ?_
        refine lv_aload_n X.1 X.2.1 dL_law_205 rfl (lv_at hl 1 rfl) ?_
        refine lv_aload_n X.1 X.2.1 dL_law_206 rfl (lv_at hl 0 rfl) ?_
        refine lv_iload X.1 X.2.1 dL_law_207 (lv_at hl 4 rfl) ?_
        refine lv_iconst (v := 1) X.1 X.2.1 dL_law_209 (by decide) ?_
        refine lv_iadd X.1 X.2.1 dL_law_210 ?_
        obtain ⟨hin, hF⟩ := ck_ex hF
        refine va_sld X.1 X.2.1 hX0 hbl hbA hS hin dL_law_211 ?_
        refine lv_aload_n X.1 X.2.1 dL_law_212 rfl (lv_at hl 0 rfl) ?_
        refine lv_iload X.1 X.2.1 dL_law_213 (lv_at hl 4 rfl) ?_
        refine lv_iconst (v := 2) X.1 X.2.1 dL_law_215 (by decide) ?_
        refine lv_iadd X.1 X.2.1 dL_law_216 ?_
        obtain ⟨hin, hF⟩ := ck_ex hF
        refine va_sld X.1 X.2.1 hX0 hbl hbA hS hin dL_law_217 ?_
        refine lv_aload_n X.1 X.2.1 dL_law_218 rfl (lv_at hl 0 rfl) ?_
        refine lv_iload X.1 X.2.1 dL_law_219 (lv_at hl 4 rfl) ?_
        refine lv_iconst (v := 3) X.1 X.2.1 dL_law_221 (by decide) ?_
        refine lv_iadd X.1 X.2.1 dL_law_222 ?_
        obtain ⟨hin, hF⟩ := ck_ex hF
        refine va_sld X.1 X.2.1 hX0 hbl hbA hS hin dL_law_223 ?_
        refine lv_aload_n X.1 X.2.1 dL_law_224 rfl (lv_at hl 0 rfl) ?_
        refine lv_iload X.1 X.2.1 dL_law_225 (lv_at hl 4 rfl) ?_
        refine lv_iconst (v := 4) X.1 X.2.1 dL_law_227 (by decide) ?_
        refine lv_iadd X.1 X.2.1 dL_law_228 ?_
        obtain ⟨hin, hF⟩ := ck_ex hF
        refine va_sld X.1 X.2.1 hX0 hbl hbA hS hin dL_law_229 ?_
        obtain ⟨r6, σ5, hz, hF⟩ := b2_ex hF
        refine gx_rIa (gx_runV (As := [.int (xs (v4 + 1).toNatClampNeg), .int (xs (v4 + 2).toNatClampNeg), .int (xs (v4 + 3).toNatClampNeg), .int (xs (v4 + 4).toNatClampNeg)]) (rest := []) X hG hS hT_v1.1 (hT_v1.eq (by decide)) (by decide) rfl (c_X11_juror l D cA s.heap.size ad σ n v1 (xs (v4 + 1).toNatClampNeg) (xs (v4 + 2).toNatClampNeg) (xs (v4 + 3).toNatClampNeg) (xs (v4 + 4).toNatClampNeg) hT_v1 hz) k_177 k_174 k_175 k_176 k_1 (h_X11_juror) rfl rfl ⟨by decide +kernel, by decide +kernel⟩ rfl hl.1 rfl (Nat.le_of_ble_eq_true rfl) dL_law_230 ⟨by show _ ≤ 601024; omega, by show _ ≤ 7293034; omega⟩) hS (fun ad7 H locs hG hS hX hA2 => ?_)
        have hl : lv_has ls 8 [(0, .ref b), (1, .ref (ad7 v1)), (2, .ref (ad7 v2)), (3, .ref (ad7 v3)), (4, .int v4)] := by rw [hA2 v1 hT_v1.1, hA2 v2 hT_v2.1, hA2 v3 hT_v3.1]; exact hl
        replace hA := hA.trans hE.1 hA2
        have hT_v1 := hX.T hT_v1
        have hT_v2 := hX.T hT_v2
        have hT_v3 := hX.T hT_v3
        replace hE := hE.trans hX
        refine lv_aload_n X.1 X.2.1 dL_law_233 rfl (lv_at hl 2 rfl) ?_
        refine lv_aload_n X.1 X.2.1 dL_law_234 rfl (lv_at hl 0 rfl) ?_
        refine lv_iload X.1 X.2.1 dL_law_235 (lv_at hl 4 rfl) ?_
        refine lv_iconst (v := 1) X.1 X.2.1 dL_law_237 (by decide) ?_
        refine lv_iadd X.1 X.2.1 dL_law_238 ?_
        obtain ⟨hin, hF⟩ := ck_ex hF
        refine va_sld X.1 X.2.1 hX0 hbl hbA hS hin dL_law_239 ?_
        refine lv_aload_n X.1 X.2.1 dL_law_240 rfl (lv_at hl 0 rfl) ?_
        refine lv_iload X.1 X.2.1 dL_law_241 (lv_at hl 4 rfl) ?_
        refine lv_iconst (v := 2) X.1 X.2.1 dL_law_243 (by decide) ?_
        refine lv_iadd X.1 X.2.1 dL_law_244 ?_
        obtain ⟨hin, hF⟩ := ck_ex hF
        refine va_sld X.1 X.2.1 hX0 hbl hbA hS hin dL_law_245 ?_
        refine lv_aload_n X.1 X.2.1 dL_law_246 rfl (lv_at hl 0 rfl) ?_
        refine lv_iload X.1 X.2.1 dL_law_247 (lv_at hl 4 rfl) ?_
        refine lv_iconst (v := 3) X.1 X.2.1 dL_law_249 (by decide) ?_
        refine lv_iadd X.1 X.2.1 dL_law_250 ?_
        obtain ⟨hin, hF⟩ := ck_ex hF
        refine va_sld X.1 X.2.1 hX0 hbl hbA hS hin dL_law_251 ?_
        refine lv_aload_n X.1 X.2.1 dL_law_252 rfl (lv_at hl 0 rfl) ?_
        refine lv_iload X.1 X.2.1 dL_law_253 (lv_at hl 4 rfl) ?_
        refine lv_iconst (v := 4) X.1 X.2.1 dL_law_255 (by decide) ?_
        refine lv_iadd X.1 X.2.1 dL_law_256 ?_
        obtain ⟨hin, hF⟩ := ck_ex hF
        refine va_sld X.1 X.2.1 hX0 hbl hbA hS hin dL_law_257 ?_
        obtain ⟨r9, σ8, hz, hF⟩ := b2_ex hF
        refine gx_rI (gx_runV (As := [.int (xs (v4 + 1).toNatClampNeg), .int (xs (v4 + 2).toNatClampNeg), .int (xs (v4 + 3).toNatClampNeg), .int (xs (v4 + 4).toNatClampNeg)]) (rest := [.int r6]) X hG hS hT_v2.1 (hT_v2.eq (by decide)) (by decide) rfl (c_X12_juror l D cA s.heap.size ad7 σ5 n v2 (xs (v4 + 1).toNatClampNeg) (xs (v4 + 2).toNatClampNeg) (xs (v4 + 3).toNatClampNeg) (xs (v4 + 4).toNatClampNeg) hT_v2 hz) k_1067 k_1064 k_1065 k_1066 k_4 (h_X12_juror) rfl rfl ⟨by decide +kernel, by decide +kernel⟩ rfl hl.1 rfl (Nat.le_of_ble_eq_true rfl) dL_law_258 ⟨by show _ ≤ 601024; omega, by show _ ≤ 7293034; omega⟩) hS (fun H locs hG hS hX => ?_)
        have hT_v1 := hX.T hT_v1
        have hT_v2 := hX.T hT_v2
        have hT_v3 := hX.T hT_v3
        replace hE := hE.trans hX
        refine lv_icmp_eq (tgt := 1205) X.1 X.2.1 dL_law_261 (by decide) (fun hc => ?_) (fun hc => ?_)
        · replace hF := it_t hF hc
          exact w_L_law_1205 hl0 X hXX hX0 hbl n f (F_L_law_23 n L xs f) ih v1 v2 v3 v4 σ8 ad7 _ _ ls _ _ (by omega) (by omega) hT_v1 hT_v2 hT_v3 hG hS (lv_sub hl [0, 1, 2, 3, 4] rfl) hF
        · replace hF := it_f hF hc
          refine lv_iconst (v := 0) X.1 X.2.1 dL_law_264 (by decide) ?_
          exact (no_0 hF).elim
      replace hF := it_f hF hc1
      by_cases hc2 : ((xs v4.toNatClampNeg) &&& 31) = 2
      · replace hF := it_t hF hc2
        refine lv_tableIn (tgt := 266) X.1 X.2.1 dL_law_40 (by rw [hc2]; decide) (by rw [hc2]; decide) (by rw [hc2]; rfl) (by decide) ?_
        refine lv_aload_n X.1 X.2.1 dL_law_266 rfl (lv_at hl 1 rfl) ?_
        refine lv_aload_n X.1 X.2.1 dL_law_267 rfl (lv_at hl 0 rfl) ?_
        refine lv_iload X.1 X.2.1 dL_law_268 (lv_at hl 4 rfl) ?_
        refine lv_iconst (v := 1) X.1 X.2.1 dL_law_270 (by decide) ?_
        refine lv_iadd X.1 X.2.1 dL_law_271 ?_
        obtain ⟨hin, hF⟩ := ck_ex hF
        refine va_sld X.1 X.2.1 hX0 hbl hbA hS hin dL_law_272 ?_
        refine lv_aload_n X.1 X.2.1 dL_law_273 rfl (lv_at hl 0 rfl) ?_
        refine lv_iload X.1 X.2.1 dL_law_274 (lv_at hl 4 rfl) ?_
        refine lv_iconst (v := 2) X.1 X.2.1 dL_law_276 (by decide) ?_
        refine lv_iadd X.1 X.2.1 dL_law_277 ?_
        obtain ⟨hin, hF⟩ := ck_ex hF
        refine va_sld X.1 X.2.1 hX0 hbl hbA hS hin dL_law_278 ?_
        obtain ⟨r11, σ10, hz, hF⟩ := b2_ex hF
        refine gx_rI (gx_runV (As := [.int (xs (v4 + 1).toNatClampNeg), .int (xs (v4 + 2).toNatClampNeg)]) (rest := []) X hG hS hT_v1.1 (hT_v1.eq (by decide)) (by decide) rfl (c_X11_holds l D cA s.heap.size ad σ n v1 (xs (v4 + 1).toNatClampNeg) (xs (v4 + 2).toNatClampNeg) hT_v1 hz) k_370 k_367 k_368 k_369 k_1 (h_X11_holds) rfl rfl ⟨by decide +kernel, by decide +kernel⟩ rfl hl.1 rfl (Nat.le_of_ble_eq_true rfl) dL_law_279 ⟨by show _ ≤ 601024; omega, by show _ ≤ 7293034; omega⟩) hS (fun H locs hG hS hX => ?_)
        have hT_v1 := hX.T hT_v1
        have hT_v2 := hX.T hT_v2
        have hT_v3 := hX.T hT_v3
        replace hE := hE.trans hX
        refine lv_aload_n X.1 X.2.1 dL_law_282 rfl (lv_at hl 2 rfl) ?_
        refine lv_aload_n X.1 X.2.1 dL_law_283 rfl (lv_at hl 0 rfl) ?_
        refine lv_iload X.1 X.2.1 dL_law_284 (lv_at hl 4 rfl) ?_
        refine lv_iconst (v := 1) X.1 X.2.1 dL_law_286 (by decide) ?_
        refine lv_iadd X.1 X.2.1 dL_law_287 ?_
        obtain ⟨hin, hF⟩ := ck_ex hF
        refine va_sld X.1 X.2.1 hX0 hbl hbA hS hin dL_law_288 ?_
        refine lv_aload_n X.1 X.2.1 dL_law_289 rfl (lv_at hl 0 rfl) ?_
        refine lv_iload X.1 X.2.1 dL_law_290 (lv_at hl 4 rfl) ?_
        refine lv_iconst (v := 2) X.1 X.2.1 dL_law_292 (by decide) ?_
        refine lv_iadd X.1 X.2.1 dL_law_293 ?_
        obtain ⟨hin, hF⟩ := ck_ex hF
        refine va_sld X.1 X.2.1 hX0 hbl hbA hS hin dL_law_294 ?_
        obtain ⟨r13, σ12, hz, hF⟩ := b2_ex hF
        refine gx_rI (gx_runV (As := [.int (xs (v4 + 1).toNatClampNeg), .int (xs (v4 + 2).toNatClampNeg)]) (rest := [.int r11]) X hG hS hT_v2.1 (hT_v2.eq (by decide)) (by decide) rfl (c_X12_holds l D cA s.heap.size ad σ10 n v2 (xs (v4 + 1).toNatClampNeg) (xs (v4 + 2).toNatClampNeg) hT_v2 hz) k_1077 k_1074 k_1075 k_1076 k_4 (h_X12_holds) rfl rfl ⟨by decide +kernel, by decide +kernel⟩ rfl hl.1 rfl (Nat.le_of_ble_eq_true rfl) dL_law_295 ⟨by show _ ≤ 601024; omega, by show _ ≤ 7293034; omega⟩) hS (fun H locs hG hS hX => ?_)
        have hT_v1 := hX.T hT_v1
        have hT_v2 := hX.T hT_v2
        have hT_v3 := hX.T hT_v3
        replace hE := hE.trans hX
        refine lv_icmp_eq (tgt := 1205) X.1 X.2.1 dL_law_298 (by decide) (fun hc => ?_) (fun hc => ?_)
        · replace hF := it_t hF hc
          exact w_L_law_1205 hl0 X hXX hX0 hbl n f (F_L_law_23 n L xs f) ih v1 v2 v3 v4 σ12 ad _ _ ls _ _ (by omega) (by omega) hT_v1 hT_v2 hT_v3 hG hS (lv_sub hl [0, 1, 2, 3, 4] rfl) hF
        · replace hF := it_f hF hc
          refine lv_iconst (v := 0) X.1 X.2.1 dL_law_301 (by decide) ?_
          exact (no_0 hF).elim
      replace hF := it_f hF hc2
      by_cases hc3 : ((xs v4.toNatClampNeg) &&& 31) = 3
      · replace hF := it_t hF hc3
        refine lv_tableIn (tgt := 303) X.1 X.2.1 dL_law_40 (by rw [hc3]; decide) (by rw [hc3]; decide) (by rw [hc3]; rfl) (by decide) ?_
        refine lv_aload_n X.1 X.2.1 dL_law_303 rfl (lv_at hl 1 rfl) ?_
        refine lv_aload_n X.1 X.2.1 dL_law_304 rfl (lv_at hl 0 rfl) ?_
        refine lv_iload X.1 X.2.1 dL_law_305 (lv_at hl 4 rfl) ?_
        refine lv_iconst (v := 1) X.1 X.2.1 dL_law_307 (by decide) ?_
        refine lv_iadd X.1 X.2.1 dL_law_308 ?_
        obtain ⟨hin, hF⟩ := ck_ex hF
        refine va_sld X.1 X.2.1 hX0 hbl hbA hS hin dL_law_309 ?_
        refine lv_aload_n X.1 X.2.1 dL_law_310 rfl (lv_at hl 0 rfl) ?_
        refine lv_iload X.1 X.2.1 dL_law_311 (lv_at hl 4 rfl) ?_
        refine lv_iconst (v := 2) X.1 X.2.1 dL_law_313 (by decide) ?_
        refine lv_iadd X.1 X.2.1 dL_law_314 ?_
        obtain ⟨hin, hF⟩ := ck_ex hF
        refine va_sld X.1 X.2.1 hX0 hbl hbA hS hin dL_law_315 ?_
        obtain ⟨r15, σ14, hz, hF⟩ := b2_ex hF
        refine gx_rI (gx_runV (As := [.int (xs (v4 + 1).toNatClampNeg), .int (xs (v4 + 2).toNatClampNeg)]) (rest := []) X hG hS hT_v1.1 (hT_v1.eq (by decide)) (by decide) rfl (c_X11_of l D cA s.heap.size ad σ n v1 (xs (v4 + 1).toNatClampNeg) (xs (v4 + 2).toNatClampNeg) hT_v1 hz) k_379 k_376 k_377 k_378 k_1 (h_X11_of) rfl rfl ⟨by decide +kernel, by decide +kernel⟩ rfl hl.1 rfl (Nat.le_of_ble_eq_true rfl) dL_law_316 ⟨by show _ ≤ 601024; omega, by show _ ≤ 7293034; omega⟩) hS (fun H locs hG hS hX => ?_)
        have hT_v1 := hX.T hT_v1
        have hT_v2 := hX.T hT_v2
        have hT_v3 := hX.T hT_v3
        replace hE := hE.trans hX
        refine lv_aload_n X.1 X.2.1 dL_law_319 rfl (lv_at hl 2 rfl) ?_
        refine lv_aload_n X.1 X.2.1 dL_law_320 rfl (lv_at hl 0 rfl) ?_
        refine lv_iload X.1 X.2.1 dL_law_321 (lv_at hl 4 rfl) ?_
        refine lv_iconst (v := 1) X.1 X.2.1 dL_law_323 (by decide) ?_
        refine lv_iadd X.1 X.2.1 dL_law_324 ?_
        obtain ⟨hin, hF⟩ := ck_ex hF
        refine va_sld X.1 X.2.1 hX0 hbl hbA hS hin dL_law_325 ?_
        refine lv_aload_n X.1 X.2.1 dL_law_326 rfl (lv_at hl 0 rfl) ?_
        refine lv_iload X.1 X.2.1 dL_law_327 (lv_at hl 4 rfl) ?_
        refine lv_iconst (v := 2) X.1 X.2.1 dL_law_329 (by decide) ?_
        refine lv_iadd X.1 X.2.1 dL_law_330 ?_
        obtain ⟨hin, hF⟩ := ck_ex hF
        refine va_sld X.1 X.2.1 hX0 hbl hbA hS hin dL_law_331 ?_
        obtain ⟨r17, σ16, hz, hF⟩ := b2_ex hF
        refine gx_rI (gx_runV (As := [.int (xs (v4 + 1).toNatClampNeg), .int (xs (v4 + 2).toNatClampNeg)]) (rest := [.int r15]) X hG hS hT_v2.1 (hT_v2.eq (by decide)) (by decide) rfl (c_X12_of l D cA s.heap.size ad σ14 n v2 (xs (v4 + 1).toNatClampNeg) (xs (v4 + 2).toNatClampNeg) hT_v2 hz) k_1093 k_1090 k_1091 k_1092 k_4 (h_X12_of) rfl rfl ⟨by decide +kernel, by decide +kernel⟩ rfl hl.1 rfl (Nat.le_of_ble_eq_true rfl) dL_law_332 ⟨by show _ ≤ 601024; omega, by show _ ≤ 7293034; omega⟩) hS (fun H locs hG hS hX => ?_)
        have hT_v1 := hX.T hT_v1
        have hT_v2 := hX.T hT_v2
        have hT_v3 := hX.T hT_v3
        replace hE := hE.trans hX
        refine lv_icmp_eq (tgt := 1205) X.1 X.2.1 dL_law_335 (by decide) (fun hc => ?_) (fun hc => ?_)
        · replace hF := it_t hF hc
          exact w_L_law_1205 hl0 X hXX hX0 hbl n f (F_L_law_23 n L xs f) ih v1 v2 v3 v4 σ16 ad _ _ ls _ _ (by omega) (by omega) hT_v1 hT_v2 hT_v3 hG hS (lv_sub hl [0, 1, 2, 3, 4] rfl) hF
        · replace hF := it_f hF hc
          refine lv_iconst (v := 0) X.1 X.2.1 dL_law_338 (by decide) ?_
          exact (no_0 hF).elim
      replace hF := it_f hF hc3
      by_cases hc4 : ((xs v4.toNatClampNeg) &&& 31) = 4
      · replace hF := it_t hF hc4
        refine lv_tableIn (tgt := 340) X.1 X.2.1 dL_law_40 (by rw [hc4]; decide) (by rw [hc4]; decide) (by rw [hc4]; rfl) (by decide) ?_
        refine lv_aload_n X.1 X.2.1 dL_law_340 rfl (lv_at hl 1 rfl) ?_
        refine lv_aload_n X.1 X.2.1 dL_law_341 rfl (lv_at hl 0 rfl) ?_
        refine lv_iload X.1 X.2.1 dL_law_342 (lv_at hl 4 rfl) ?_
        refine lv_iconst (v := 1) X.1 X.2.1 dL_law_344 (by decide) ?_
        refine lv_iadd X.1 X.2.1 dL_law_345 ?_
        obtain ⟨hin, hF⟩ := ck_ex hF
        refine va_sld X.1 X.2.1 hX0 hbl hbA hS hin dL_law_346 ?_
        obtain ⟨r19, σ18, hz, hF⟩ := b2_ex hF
        refine gx_rI (gx_runV (As := [.int (xs (v4 + 1).toNatClampNeg)]) (rest := []) X hG hS hT_v1.1 (hT_v1.eq (by decide)) (by decide) rfl (c_X11_leans l D cA s.heap.size ad σ n v1 (xs (v4 + 1).toNatClampNeg) hT_v1 hz) k_393 k_390 k_391 k_392 k_1 (h_X11_leans) rfl rfl ⟨by decide +kernel, by decide +kernel⟩ rfl hl.1 rfl (Nat.le_of_ble_eq_true rfl) dL_law_347 ⟨by show _ ≤ 601024; omega, by show _ ≤ 7293034; omega⟩) hS (fun H locs hG hS hX => ?_)
        have hT_v1 := hX.T hT_v1
        have hT_v2 := hX.T hT_v2
        have hT_v3 := hX.T hT_v3
        replace hE := hE.trans hX
        refine lv_aload_n X.1 X.2.1 dL_law_350 rfl (lv_at hl 2 rfl) ?_
        refine lv_aload_n X.1 X.2.1 dL_law_351 rfl (lv_at hl 0 rfl) ?_
        refine lv_iload X.1 X.2.1 dL_law_352 (lv_at hl 4 rfl) ?_
        refine lv_iconst (v := 1) X.1 X.2.1 dL_law_354 (by decide) ?_
        refine lv_iadd X.1 X.2.1 dL_law_355 ?_
        obtain ⟨hin, hF⟩ := ck_ex hF
        refine va_sld X.1 X.2.1 hX0 hbl hbA hS hin dL_law_356 ?_
        obtain ⟨r21, σ20, hz, hF⟩ := b2_ex hF
        refine gx_rI (gx_runV (As := [.int (xs (v4 + 1).toNatClampNeg)]) (rest := [.int r19]) X hG hS hT_v2.1 (hT_v2.eq (by decide)) (by decide) rfl (c_X12_leans l D cA s.heap.size ad σ18 n v2 (xs (v4 + 1).toNatClampNeg) hT_v2 hz) k_1148 k_1145 k_1146 k_1147 k_4 (h_X12_leans) rfl rfl ⟨by decide +kernel, by decide +kernel⟩ rfl hl.1 rfl (Nat.le_of_ble_eq_true rfl) dL_law_357 ⟨by show _ ≤ 601024; omega, by show _ ≤ 7293034; omega⟩) hS (fun H locs hG hS hX => ?_)
        have hT_v1 := hX.T hT_v1
        have hT_v2 := hX.T hT_v2
        have hT_v3 := hX.T hT_v3
        replace hE := hE.trans hX
        refine lv_icmp_eq (tgt := 1205) X.1 X.2.1 dL_law_360 (by decide) (fun hc => ?_) (fun hc => ?_)
        · replace hF := it_t hF hc
          exact w_L_law_1205 hl0 X hXX hX0 hbl n f (F_L_law_23 n L xs f) ih v1 v2 v3 v4 σ20 ad _ _ ls _ _ (by omega) (by omega) hT_v1 hT_v2 hT_v3 hG hS (lv_sub hl [0, 1, 2, 3, 4] rfl) hF
        · replace hF := it_f hF hc
          refine lv_iconst (v := 0) X.1 X.2.1 dL_law_363 (by decide) ?_
          exact (no_0 hF).elim
      replace hF := it_f hF hc4
      by_cases hc5 : ((xs v4.toNatClampNeg) &&& 31) = 5
      · replace hF := it_t hF hc5
        refine lv_tableIn (tgt := 365) X.1 X.2.1 dL_law_40 (by rw [hc5]; decide) (by rw [hc5]; decide) (by rw [hc5]; rfl) (by decide) ?_
        refine lv_aload_n X.1 X.2.1 dL_law_365 rfl (lv_at hl 1 rfl) ?_
        refine lv_aload_n X.1 X.2.1 dL_law_366 rfl (lv_at hl 0 rfl) ?_
        refine lv_iload X.1 X.2.1 dL_law_367 (lv_at hl 4 rfl) ?_
        refine lv_iconst (v := 1) X.1 X.2.1 dL_law_369 (by decide) ?_
        refine lv_iadd X.1 X.2.1 dL_law_370 ?_
        obtain ⟨hin, hF⟩ := ck_ex hF
        refine va_sld X.1 X.2.1 hX0 hbl hbA hS hin dL_law_371 ?_
        obtain ⟨r23, σ22, hz, hF⟩ := b2_ex hF
        refine gx_rIa (gx_runV (As := [.int (xs (v4 + 1).toNatClampNeg)]) (rest := []) X hG hS hT_v1.1 (hT_v1.eq (by decide)) (by decide) rfl (c_X11_law l D cA s.heap.size ad σ n v1 (xs (v4 + 1).toNatClampNeg) hT_v1 hz) k_431 k_428 k_429 k_430 k_1 (h_X11_law) rfl rfl ⟨by decide +kernel, by decide +kernel⟩ rfl hl.1 rfl (Nat.le_of_ble_eq_true rfl) dL_law_372 ⟨by show _ ≤ 601024; omega, by show _ ≤ 7293034; omega⟩) hS (fun ad24 H locs hG hS hX hA2 => ?_)
        have hl : lv_has ls 8 [(0, .ref b), (1, .ref (ad24 v1)), (2, .ref (ad24 v2)), (3, .ref (ad24 v3)), (4, .int v4)] := by rw [hA2 v1 hT_v1.1, hA2 v2 hT_v2.1, hA2 v3 hT_v3.1]; exact hl
        replace hA := hA.trans hE.1 hA2
        have hT_v1 := hX.T hT_v1
        have hT_v2 := hX.T hT_v2
        have hT_v3 := hX.T hT_v3
        replace hE := hE.trans hX
        refine lv_aload_n X.1 X.2.1 dL_law_375 rfl (lv_at hl 2 rfl) ?_
        refine lv_aload_n X.1 X.2.1 dL_law_376 rfl (lv_at hl 0 rfl) ?_
        refine lv_iload X.1 X.2.1 dL_law_377 (lv_at hl 4 rfl) ?_
        refine lv_iconst (v := 1) X.1 X.2.1 dL_law_379 (by decide) ?_
        refine lv_iadd X.1 X.2.1 dL_law_380 ?_
        obtain ⟨hin, hF⟩ := ck_ex hF
        refine va_sld X.1 X.2.1 hX0 hbl hbA hS hin dL_law_381 ?_
        obtain ⟨r26, σ25, hz, hF⟩ := b2_ex hF
        refine gx_rI (gx_runV (As := [.int (xs (v4 + 1).toNatClampNeg)]) (rest := [.int r23]) X hG hS hT_v2.1 (hT_v2.eq (by decide)) (by decide) rfl (c_X12_law l D cA s.heap.size ad24 σ22 n v2 (xs (v4 + 1).toNatClampNeg) hT_v2 hz) k_1107 k_1104 k_1105 k_1106 k_4 (h_X12_law) rfl rfl ⟨by decide +kernel, by decide +kernel⟩ rfl hl.1 rfl (Nat.le_of_ble_eq_true rfl) dL_law_382 ⟨by show _ ≤ 601024; omega, by show _ ≤ 7293034; omega⟩) hS (fun H locs hG hS hX => ?_)
        have hT_v1 := hX.T hT_v1
        have hT_v2 := hX.T hT_v2
        have hT_v3 := hX.T hT_v3
        replace hE := hE.trans hX
        refine lv_icmp_eq (tgt := 1205) X.1 X.2.1 dL_law_385 (by decide) (fun hc => ?_) (fun hc => ?_)
        · replace hF := it_t hF hc
          exact w_L_law_1205 hl0 X hXX hX0 hbl n f (F_L_law_23 n L xs f) ih v1 v2 v3 v4 σ25 ad24 _ _ ls _ _ (by omega) (by omega) hT_v1 hT_v2 hT_v3 hG hS (lv_sub hl [0, 1, 2, 3, 4] rfl) hF
        · replace hF := it_f hF hc
          refine lv_iconst (v := 0) X.1 X.2.1 dL_law_388 (by decide) ?_
          exact (no_0 hF).elim
      replace hF := it_f hF hc5
      by_cases hc6 : ((xs v4.toNatClampNeg) &&& 31) = 6
      · replace hF := it_t hF hc6
        refine lv_tableIn (tgt := 390) X.1 X.2.1 dL_law_40 (by rw [hc6]; decide) (by rw [hc6]; decide) (by rw [hc6]; rfl) (by decide) ?_
        refine lv_aload_n X.1 X.2.1 dL_law_390 rfl (lv_at hl 1 rfl) ?_
        refine lv_aload_n X.1 X.2.1 dL_law_391 rfl (lv_at hl 0 rfl) ?_
        refine lv_iload X.1 X.2.1 dL_law_392 (lv_at hl 4 rfl) ?_
        refine lv_iconst (v := 1) X.1 X.2.1 dL_law_394 (by decide) ?_
        refine lv_iadd X.1 X.2.1 dL_law_395 ?_
        obtain ⟨hin, hF⟩ := ck_ex hF
        refine va_sld X.1 X.2.1 hX0 hbl hbA hS hin dL_law_396 ?_
        refine lv_aload_n X.1 X.2.1 dL_law_397 rfl (lv_at hl 0 rfl) ?_
        refine lv_iload X.1 X.2.1 dL_law_398 (lv_at hl 4 rfl) ?_
        refine lv_iconst (v := 2) X.1 X.2.1 dL_law_400 (by decide) ?_
        refine lv_iadd X.1 X.2.1 dL_law_401 ?_
        obtain ⟨hin, hF⟩ := ck_ex hF
        refine va_sld X.1 X.2.1 hX0 hbl hbA hS hin dL_law_402 ?_
        obtain ⟨r28, σ27, hz, hF⟩ := b2_ex hF
        refine gx_rIm (gxx_runV (As := [.int (xs (v4 + 1).toNatClampNeg), .int (xs (v4 + 2).toNatClampNeg)]) (rest := []) X hXX hG hS hT_v1.1 (hT_v1.eq (by decide)) (by decide) rfl (c_X11_set l D cA s.heap.size ad σ n v1 (xs (v4 + 1).toNatClampNeg) (xs (v4 + 2).toNatClampNeg) hT_v1 hz) k_523 k_520 k_521 k_522 k_1 h_X11_set rfl rfl ⟨by decide +kernel, by decide +kernel⟩ rfl hl.1 rfl (Nat.le_of_ble_eq_true rfl) dL_law_403 ⟨by show _ ≤ 601024; omega, by show _ ≤ 7293034; omega⟩) hS (fun H locs hG hS hX => ?_)
        have hT_v1 := hX.T hT_v1
        have hT_v2 := hX.T hT_v2
        have hT_v3 := hX.T hT_v3
        replace hE := hE.trans hX
        refine lv_aload_n X.1 X.2.1 dL_law_406 rfl (lv_at hl 2 rfl) ?_
        refine lv_aload_n X.1 X.2.1 dL_law_407 rfl (lv_at hl 0 rfl) ?_
        refine lv_iload X.1 X.2.1 dL_law_408 (lv_at hl 4 rfl) ?_
        refine lv_iconst (v := 1) X.1 X.2.1 dL_law_410 (by decide) ?_
        refine lv_iadd X.1 X.2.1 dL_law_411 ?_
        obtain ⟨hin, hF⟩ := ck_ex hF
        refine va_sld X.1 X.2.1 hX0 hbl hbA hS hin dL_law_412 ?_
        refine lv_aload_n X.1 X.2.1 dL_law_413 rfl (lv_at hl 0 rfl) ?_
        refine lv_iload X.1 X.2.1 dL_law_414 (lv_at hl 4 rfl) ?_
        refine lv_iconst (v := 2) X.1 X.2.1 dL_law_416 (by decide) ?_
        refine lv_iadd X.1 X.2.1 dL_law_417 ?_
        obtain ⟨hin, hF⟩ := ck_ex hF
        refine va_sld X.1 X.2.1 hX0 hbl hbA hS hin dL_law_418 ?_
        obtain ⟨r30, σ29, hz, hF⟩ := b2_ex hF
        refine gx_rI (gx_runV (As := [.int (xs (v4 + 1).toNatClampNeg), .int (xs (v4 + 2).toNatClampNeg)]) (rest := [.int r28]) X hG hS hT_v2.1 (hT_v2.eq (by decide)) (by decide) rfl (c_X12_set l D cA s.heap.size ad σ27 n v2 (xs (v4 + 1).toNatClampNeg) (xs (v4 + 2).toNatClampNeg) hT_v2 hz) k_1176 k_1173 k_1174 k_1175 k_4 (h_X12_set) rfl rfl ⟨by decide +kernel, by decide +kernel⟩ rfl hl.1 rfl (Nat.le_of_ble_eq_true rfl) dL_law_419 ⟨by show _ ≤ 601024; omega, by show _ ≤ 7293034; omega⟩) hS (fun H locs hG hS hX => ?_)
        have hT_v1 := hX.T hT_v1
        have hT_v2 := hX.T hT_v2
        have hT_v3 := hX.T hT_v3
        replace hE := hE.trans hX
        refine lv_icmp_eq (tgt := 1205) X.1 X.2.1 dL_law_422 (by decide) (fun hc => ?_) (fun hc => ?_)
        · replace hF := it_t hF hc
          exact w_L_law_1205 hl0 X hXX hX0 hbl n f (F_L_law_23 n L xs f) ih v1 v2 v3 v4 σ29 ad _ _ ls _ _ (by omega) (by omega) hT_v1 hT_v2 hT_v3 hG hS (lv_sub hl [0, 1, 2, 3, 4] rfl) hF
        · replace hF := it_f hF hc
          refine lv_iconst (v := 0) X.1 X.2.1 dL_law_425 (by decide) ?_
          exact (no_0 hF).elim
      replace hF := it_f hF hc6
      by_cases hc7 : ((xs v4.toNatClampNeg) &&& 31) = 7
      · replace hF := it_t hF hc7
        refine lv_tableIn (tgt := 427) X.1 X.2.1 dL_law_40 (by rw [hc7]; decide) (by rw [hc7]; decide) (by rw [hc7]; rfl) (by decide) ?_
        refine lv_aload_n X.1 X.2.1 dL_law_427 rfl (lv_at hl 1 rfl) ?_
        obtain ⟨r32, σ31, hz, hF⟩ := b2_ex hF
        refine gx_rI (gx_runV (As := []) (rest := []) X hG hS hT_v1.1 (hT_v1.eq (by decide)) (by decide) rfl (c_X11_begin l D cA s.heap.size ad σ n v1 hT_v1 hz) k_531 k_528 k_529 k_530 k_1 (h_X11_begin) rfl rfl ⟨by decide +kernel, by decide +kernel⟩ rfl hl.1 rfl (Nat.le_of_ble_eq_true rfl) dL_law_428 ⟨by show _ ≤ 601024; omega, by show _ ≤ 7293034; omega⟩) hS (fun H locs hG hS hX => ?_)
        have hT_v1 := hX.T hT_v1
        have hT_v2 := hX.T hT_v2
        have hT_v3 := hX.T hT_v3
        replace hE := hE.trans hX
        refine lv_aload_n X.1 X.2.1 dL_law_431 rfl (lv_at hl 2 rfl) ?_
        obtain ⟨r34, σ33, hz, hF⟩ := b2_ex hF
        refine gx_rI (gx_runV (As := []) (rest := [.int r32]) X hG hS hT_v2.1 (hT_v2.eq (by decide)) (by decide) rfl (c_X12_begin l D cA s.heap.size ad σ31 n v2 hT_v2 hz) k_1184 k_1181 k_1182 k_1183 k_4 (h_X12_begin) rfl rfl ⟨by decide +kernel, by decide +kernel⟩ rfl hl.1 rfl (Nat.le_of_ble_eq_true rfl) dL_law_432 ⟨by show _ ≤ 601024; omega, by show _ ≤ 7293034; omega⟩) hS (fun H locs hG hS hX => ?_)
        have hT_v1 := hX.T hT_v1
        have hT_v2 := hX.T hT_v2
        have hT_v3 := hX.T hT_v3
        replace hE := hE.trans hX
        refine lv_icmp_eq (tgt := 1205) X.1 X.2.1 dL_law_435 (by decide) (fun hc => ?_) (fun hc => ?_)
        · replace hF := it_t hF hc
          exact w_L_law_1205 hl0 X hXX hX0 hbl n f (F_L_law_23 n L xs f) ih v1 v2 v3 v4 σ33 ad _ _ ls _ _ (by omega) (by omega) hT_v1 hT_v2 hT_v3 hG hS (lv_sub hl [0, 1, 2, 3, 4] rfl) hF
        · replace hF := it_f hF hc
          refine lv_iconst (v := 0) X.1 X.2.1 dL_law_438 (by decide) ?_
          exact (no_0 hF).elim
      replace hF := it_f hF hc7
      by_cases hc8 : ((xs v4.toNatClampNeg) &&& 31) = 8
      · replace hF := it_t hF hc8
        refine lv_tableIn (tgt := 440) X.1 X.2.1 dL_law_40 (by rw [hc8]; decide) (by rw [hc8]; decide) (by rw [hc8]; rfl) (by decide) ?_
        refine lv_aload_n X.1 X.2.1 dL_law_440 rfl (lv_at hl 1 rfl) ?_
        refine lv_aload_n X.1 X.2.1 dL_law_441 rfl (lv_at hl 0 rfl) ?_
        refine lv_iload X.1 X.2.1 dL_law_442 (lv_at hl 4 rfl) ?_
        refine lv_iconst (v := 1) X.1 X.2.1 dL_law_444 (by decide) ?_
        refine lv_iadd X.1 X.2.1 dL_law_445 ?_
        obtain ⟨hin, hF⟩ := ck_ex hF
        refine va_sld X.1 X.2.1 hX0 hbl hbA hS hin dL_law_446 ?_
        obtain ⟨r36, σ35, hz, hF⟩ := b2_ex hF
        refine gx_rI (gx_runV (As := [.int (xs (v4 + 1).toNatClampNeg)]) (rest := []) X hG hS hT_v1.1 (hT_v1.eq (by decide)) (by decide) rfl (c_X11_go l D cA s.heap.size ad σ n v1 (xs (v4 + 1).toNatClampNeg) hT_v1 hz) k_549 k_546 k_547 k_548 k_1 (h_X11_go) rfl rfl ⟨by decide +kernel, by decide +kernel⟩ rfl hl.1 rfl (Nat.le_of_ble_eq_true rfl) dL_law_447 ⟨by show _ ≤ 601024; omega, by show _ ≤ 7293034; omega⟩) hS (fun H locs hG hS hX => ?_)
        have hT_v1 := hX.T hT_v1
        have hT_v2 := hX.T hT_v2
        have hT_v3 := hX.T hT_v3
        replace hE := hE.trans hX
        refine lv_aload_n X.1 X.2.1 dL_law_450 rfl (lv_at hl 2 rfl) ?_
        refine lv_aload_n X.1 X.2.1 dL_law_451 rfl (lv_at hl 0 rfl) ?_
        refine lv_iload X.1 X.2.1 dL_law_452 (lv_at hl 4 rfl) ?_
        refine lv_iconst (v := 1) X.1 X.2.1 dL_law_454 (by decide) ?_
        refine lv_iadd X.1 X.2.1 dL_law_455 ?_
        obtain ⟨hin, hF⟩ := ck_ex hF
        refine va_sld X.1 X.2.1 hX0 hbl hbA hS hin dL_law_456 ?_
        obtain ⟨r38, σ37, hz, hF⟩ := b2_ex hF
        refine gx_rI (gx_runV (As := [.int (xs (v4 + 1).toNatClampNeg)]) (rest := [.int r36]) X hG hS hT_v2.1 (hT_v2.eq (by decide)) (by decide) rfl (c_X12_go l D cA s.heap.size ad σ35 n v2 (xs (v4 + 1).toNatClampNeg) hT_v2 hz) k_1212 k_1209 k_1210 k_1211 k_4 (h_X12_go) rfl rfl ⟨by decide +kernel, by decide +kernel⟩ rfl hl.1 rfl (Nat.le_of_ble_eq_true rfl) dL_law_457 ⟨by show _ ≤ 601024; omega, by show _ ≤ 7293034; omega⟩) hS (fun H locs hG hS hX => ?_)
        have hT_v1 := hX.T hT_v1
        have hT_v2 := hX.T hT_v2
        have hT_v3 := hX.T hT_v3
        replace hE := hE.trans hX
        refine lv_icmp_eq (tgt := 1205) X.1 X.2.1 dL_law_460 (by decide) (fun hc => ?_) (fun hc => ?_)
        · replace hF := it_t hF hc
          exact w_L_law_1205 hl0 X hXX hX0 hbl n f (F_L_law_23 n L xs f) ih v1 v2 v3 v4 σ37 ad _ _ ls _ _ (by omega) (by omega) hT_v1 hT_v2 hT_v3 hG hS (lv_sub hl [0, 1, 2, 3, 4] rfl) hF
        · replace hF := it_f hF hc
          refine lv_iconst (v := 0) X.1 X.2.1 dL_law_463 (by decide) ?_
          exact (no_0 hF).elim
      replace hF := it_f hF hc8
      by_cases hc9 : ((xs v4.toNatClampNeg) &&& 31) = 9
      · replace hF := it_t hF hc9
        refine lv_tableIn (tgt := 465) X.1 X.2.1 dL_law_40 (by rw [hc9]; decide) (by rw [hc9]; decide) (by rw [hc9]; rfl) (by decide) ?_
        refine lv_aload_n X.1 X.2.1 dL_law_465 rfl (lv_at hl 1 rfl) ?_
        refine lv_aload_n X.1 X.2.1 dL_law_466 rfl (lv_at hl 0 rfl) ?_
        refine lv_iload X.1 X.2.1 dL_law_467 (lv_at hl 4 rfl) ?_
        refine lv_iconst (v := 1) X.1 X.2.1 dL_law_469 (by decide) ?_
        refine lv_iadd X.1 X.2.1 dL_law_470 ?_
        obtain ⟨hin, hF⟩ := ck_ex hF
        refine va_sld X.1 X.2.1 hX0 hbl hbA hS hin dL_law_471 ?_
        obtain ⟨r40, σ39, hz, hF⟩ := b2_ex hF
        refine gx_rI (gx_runV (As := [.int (xs (v4 + 1).toNatClampNeg)]) (rest := []) X hG hS hT_v1.1 (hT_v1.eq (by decide)) (by decide) rfl (c_X11_talk l D cA s.heap.size ad σ n v1 (xs (v4 + 1).toNatClampNeg) hT_v1 hz) k_634 k_631 k_632 k_633 k_1 (h_X11_talk) rfl rfl ⟨by decide +kernel, by decide +kernel⟩ rfl hl.1 rfl (Nat.le_of_ble_eq_true rfl) dL_law_472 ⟨by show _ ≤ 601024; omega, by show _ ≤ 7293034; omega⟩) hS (fun H locs hG hS hX => ?_)
        have hT_v1 := hX.T hT_v1
        have hT_v2 := hX.T hT_v2
        have hT_v3 := hX.T hT_v3
        replace hE := hE.trans hX
        refine lv_aload_n X.1 X.2.1 dL_law_475 rfl (lv_at hl 2 rfl) ?_
        refine lv_aload_n X.1 X.2.1 dL_law_476 rfl (lv_at hl 0 rfl) ?_
        refine lv_iload X.1 X.2.1 dL_law_477 (lv_at hl 4 rfl) ?_
        refine lv_iconst (v := 1) X.1 X.2.1 dL_law_479 (by decide) ?_
        refine lv_iadd X.1 X.2.1 dL_law_480 ?_
        obtain ⟨hin, hF⟩ := ck_ex hF
        refine va_sld X.1 X.2.1 hX0 hbl hbA hS hin dL_law_481 ?_
        obtain ⟨r42, σ41, hz, hF⟩ := b2_ex hF
        refine gx_rI (gx_runV (As := [.int (xs (v4 + 1).toNatClampNeg)]) (rest := [.int r40]) X hG hS hT_v2.1 (hT_v2.eq (by decide)) (by decide) rfl (c_X12_talk l D cA s.heap.size ad σ39 n v2 (xs (v4 + 1).toNatClampNeg) hT_v2 hz) k_1257 k_1254 k_1255 k_1256 k_4 (h_X12_talk) rfl rfl ⟨by decide +kernel, by decide +kernel⟩ rfl hl.1 rfl (Nat.le_of_ble_eq_true rfl) dL_law_482 ⟨by show _ ≤ 601024; omega, by show _ ≤ 7293034; omega⟩) hS (fun H locs hG hS hX => ?_)
        have hT_v1 := hX.T hT_v1
        have hT_v2 := hX.T hT_v2
        have hT_v3 := hX.T hT_v3
        replace hE := hE.trans hX
        refine lv_icmp_eq (tgt := 1205) X.1 X.2.1 dL_law_485 (by decide) (fun hc => ?_) (fun hc => ?_)
        · replace hF := it_t hF hc
          exact w_L_law_1205 hl0 X hXX hX0 hbl n f (F_L_law_23 n L xs f) ih v1 v2 v3 v4 σ41 ad _ _ ls _ _ (by omega) (by omega) hT_v1 hT_v2 hT_v3 hG hS (lv_sub hl [0, 1, 2, 3, 4] rfl) hF
        · replace hF := it_f hF hc
          refine lv_iconst (v := 0) X.1 X.2.1 dL_law_488 (by decide) ?_
          exact (no_0 hF).elim
      replace hF := it_f hF hc9
      by_cases hc10 : ((xs v4.toNatClampNeg) &&& 31) = 10
      · replace hF := it_t hF hc10
        refine lv_tableIn (tgt := 490) X.1 X.2.1 dL_law_40 (by rw [hc10]; decide) (by rw [hc10]; decide) (by rw [hc10]; rfl) (by decide) ?_
        refine lv_aload_n X.1 X.2.1 dL_law_490 rfl (lv_at hl 1 rfl) ?_
        refine lv_aload_n X.1 X.2.1 dL_law_491 rfl (lv_at hl 0 rfl) ?_
        refine lv_iload X.1 X.2.1 dL_law_492 (lv_at hl 4 rfl) ?_
        refine lv_iconst (v := 1) X.1 X.2.1 dL_law_494 (by decide) ?_
        refine lv_iadd X.1 X.2.1 dL_law_495 ?_
        obtain ⟨hin, hF⟩ := ck_ex hF
        refine va_sld X.1 X.2.1 hX0 hbl hbA hS hin dL_law_496 ?_
        obtain ⟨r44, σ43, hz, hF⟩ := b2_ex hF
        refine gx_rI (gx_runV (As := [.int (xs (v4 + 1).toNatClampNeg)]) (rest := []) X hG hS hT_v1.1 (hT_v1.eq (by decide)) (by decide) rfl (c_X11_run l D cA s.heap.size ad σ n v1 (xs (v4 + 1).toNatClampNeg) hT_v1 hz) k_638 k_635 k_636 k_637 k_1 (h_X11_run) rfl rfl ⟨by decide +kernel, by decide +kernel⟩ rfl hl.1 rfl (Nat.le_of_ble_eq_true rfl) dL_law_497 ⟨by show _ ≤ 601024; omega, by show _ ≤ 7293034; omega⟩) hS (fun H locs hG hS hX => ?_)
        have hT_v1 := hX.T hT_v1
        have hT_v2 := hX.T hT_v2
        have hT_v3 := hX.T hT_v3
        replace hE := hE.trans hX
        refine lv_aload_n X.1 X.2.1 dL_law_500 rfl (lv_at hl 2 rfl) ?_
        refine lv_aload_n X.1 X.2.1 dL_law_501 rfl (lv_at hl 0 rfl) ?_
        refine lv_iload X.1 X.2.1 dL_law_502 (lv_at hl 4 rfl) ?_
        refine lv_iconst (v := 1) X.1 X.2.1 dL_law_504 (by decide) ?_
        refine lv_iadd X.1 X.2.1 dL_law_505 ?_
        obtain ⟨hin, hF⟩ := ck_ex hF
        refine va_sld X.1 X.2.1 hX0 hbl hbA hS hin dL_law_506 ?_
        obtain ⟨r46, σ45, hz, hF⟩ := b2_ex hF
        refine gx_rI (gx_runV (As := [.int (xs (v4 + 1).toNatClampNeg)]) (rest := [.int r44]) X hG hS hT_v2.1 (hT_v2.eq (by decide)) (by decide) rfl (c_X12_run l D cA s.heap.size ad σ43 n v2 (xs (v4 + 1).toNatClampNeg) hT_v2 hz) k_1261 k_1258 k_1259 k_1260 k_4 (h_X12_run) rfl rfl ⟨by decide +kernel, by decide +kernel⟩ rfl hl.1 rfl (Nat.le_of_ble_eq_true rfl) dL_law_507 ⟨by show _ ≤ 601024; omega, by show _ ≤ 7293034; omega⟩) hS (fun H locs hG hS hX => ?_)
        have hT_v1 := hX.T hT_v1
        have hT_v2 := hX.T hT_v2
        have hT_v3 := hX.T hT_v3
        replace hE := hE.trans hX
        refine lv_icmp_eq (tgt := 1205) X.1 X.2.1 dL_law_510 (by decide) (fun hc => ?_) (fun hc => ?_)
        · replace hF := it_t hF hc
          exact w_L_law_1205 hl0 X hXX hX0 hbl n f (F_L_law_23 n L xs f) ih v1 v2 v3 v4 σ45 ad _ _ ls _ _ (by omega) (by omega) hT_v1 hT_v2 hT_v3 hG hS (lv_sub hl [0, 1, 2, 3, 4] rfl) hF
        · replace hF := it_f hF hc
          refine lv_iconst (v := 0) X.1 X.2.1 dL_law_513 (by decide) ?_
          exact (no_0 hF).elim
      replace hF := it_f hF hc10
      by_cases hc11 : ((xs v4.toNatClampNeg) &&& 31) = 11
      · replace hF := it_t hF hc11
        refine lv_tableIn (tgt := 515) X.1 X.2.1 dL_law_40 (by rw [hc11]; decide) (by rw [hc11]; decide) (by rw [hc11]; rfl) (by decide) ?_
        refine lv_aload_n X.1 X.2.1 dL_law_515 rfl (lv_at hl 1 rfl) ?_
        refine lv_aload_n X.1 X.2.1 dL_law_516 rfl (lv_at hl 0 rfl) ?_
        refine lv_iload X.1 X.2.1 dL_law_517 (lv_at hl 4 rfl) ?_
        refine lv_iconst (v := 1) X.1 X.2.1 dL_law_519 (by decide) ?_
        refine lv_iadd X.1 X.2.1 dL_law_520 ?_
        obtain ⟨hin, hF⟩ := ck_ex hF
        refine va_sld X.1 X.2.1 hX0 hbl hbA hS hin dL_law_521 ?_
        refine lv_if_eq (tgt := 529) X.1 X.2.1 dL_law_522 (by decide) (fun hc => ?_) (fun hc => ?_)
        · replace hF := it_t hF hc
          refine lv_iconst (v := 0) X.1 X.2.1 dL_law_529 (by decide) ?_
          obtain ⟨r48, σ47, hz, hF⟩ := b2_ex hF
          refine gx_rI (gx_runV (As := [.int 0]) (rest := []) X hG hS hT_v1.1 (hT_v1.eq (by decide)) (by decide) rfl (c_X11_slips l D cA s.heap.size ad σ n v1 0 hT_v1 hz) k_660 k_657 k_658 k_659 k_1 (h_X11_slips) rfl rfl ⟨by decide +kernel, by decide +kernel⟩ rfl hl.1 rfl (Nat.le_of_ble_eq_true rfl) dL_law_530 ⟨by show _ ≤ 601024; omega, by show _ ≤ 7293034; omega⟩) hS (fun H locs hG hS hX => ?_)
          have hT_v1 := hX.T hT_v1
          have hT_v2 := hX.T hT_v2
          have hT_v3 := hX.T hT_v3
          replace hE := hE.trans hX
          refine lv_aload_n X.1 X.2.1 dL_law_533 rfl (lv_at hl 2 rfl) ?_
          refine lv_aload_n X.1 X.2.1 dL_law_534 rfl (lv_at hl 0 rfl) ?_
          refine lv_iload X.1 X.2.1 dL_law_535 (lv_at hl 4 rfl) ?_
          refine lv_iconst (v := 1) X.1 X.2.1 dL_law_537 (by decide) ?_
          refine lv_iadd X.1 X.2.1 dL_law_538 ?_
          obtain ⟨hin, hF⟩ := ck_ex hF
          refine va_sld X.1 X.2.1 hX0 hbl hbA hS hin dL_law_539 ?_
          refine lv_if_eq (tgt := 547) X.1 X.2.1 dL_law_540 (by decide) (fun hc => ?_) (fun hc => ?_)
          · replace hF := it_t hF hc
            refine lv_iconst (v := 0) X.1 X.2.1 dL_law_547 (by decide) ?_
            obtain ⟨r50, σ49, hz, hF⟩ := b2_ex hF
            refine gx_rI (gx_runV (As := [.int 0]) (rest := [.int r48]) X hG hS hT_v2.1 (hT_v2.eq (by decide)) (by decide) rfl (c_X12_slips l D cA s.heap.size ad σ47 n v2 0 hT_v2 hz) k_1286 k_1283 k_1284 k_1285 k_4 (h_X12_slips) rfl rfl ⟨by decide +kernel, by decide +kernel⟩ rfl hl.1 rfl (Nat.le_of_ble_eq_true rfl) dL_law_548 ⟨by show _ ≤ 601024; omega, by show _ ≤ 7293034; omega⟩) hS (fun H locs hG hS hX => ?_)
            have hT_v1 := hX.T hT_v1
            have hT_v2 := hX.T hT_v2
            have hT_v3 := hX.T hT_v3
            replace hE := hE.trans hX
            refine lv_icmp_eq (tgt := 1205) X.1 X.2.1 dL_law_551 (by decide) (fun hc => ?_) (fun hc => ?_)
            · replace hF := it_t hF hc
              exact w_L_law_1205 hl0 X hXX hX0 hbl n f (F_L_law_23 n L xs f) ih v1 v2 v3 v4 σ49 ad _ _ ls _ _ (by omega) (by omega) hT_v1 hT_v2 hT_v3 hG hS (lv_sub hl [0, 1, 2, 3, 4] rfl) hF
            · replace hF := it_f hF hc
              refine lv_iconst (v := 0) X.1 X.2.1 dL_law_554 (by decide) ?_
              exact (no_0 hF).elim
          · replace hF := it_f hF hc
            refine lv_iconst (v := 1) X.1 X.2.1 dL_law_543 (by decide) ?_
            refine lv_goto (tgt := 548) X.1 X.2.1 dL_law_544 (by decide) ?_
            obtain ⟨r52, σ51, hz, hF⟩ := b2_ex hF
            refine gx_rI (gx_runV (As := [.int 1]) (rest := [.int r48]) X hG hS hT_v2.1 (hT_v2.eq (by decide)) (by decide) rfl (c_X12_slips l D cA s.heap.size ad σ47 n v2 1 hT_v2 hz) k_1286 k_1283 k_1284 k_1285 k_4 (h_X12_slips) rfl rfl ⟨by decide +kernel, by decide +kernel⟩ rfl hl.1 rfl (Nat.le_of_ble_eq_true rfl) dL_law_548 ⟨by show _ ≤ 601024; omega, by show _ ≤ 7293034; omega⟩) hS (fun H locs hG hS hX => ?_)
            have hT_v1 := hX.T hT_v1
            have hT_v2 := hX.T hT_v2
            have hT_v3 := hX.T hT_v3
            replace hE := hE.trans hX
            refine lv_icmp_eq (tgt := 1205) X.1 X.2.1 dL_law_551 (by decide) (fun hc => ?_) (fun hc => ?_)
            · replace hF := it_t hF hc
              exact w_L_law_1205 hl0 X hXX hX0 hbl n f (F_L_law_23 n L xs f) ih v1 v2 v3 v4 σ51 ad _ _ ls _ _ (by omega) (by omega) hT_v1 hT_v2 hT_v3 hG hS (lv_sub hl [0, 1, 2, 3, 4] rfl) hF
            · replace hF := it_f hF hc
              refine lv_iconst (v := 0) X.1 X.2.1 dL_law_554 (by decide) ?_
              exact (no_0 hF).elim
        · replace hF := it_f hF hc
          refine lv_iconst (v := 1) X.1 X.2.1 dL_law_525 (by decide) ?_
          refine lv_goto (tgt := 530) X.1 X.2.1 dL_law_526 (by decide) ?_
          obtain ⟨r54, σ53, hz, hF⟩ := b2_ex hF
          refine gx_rI (gx_runV (As := [.int 1]) (rest := []) X hG hS hT_v1.1 (hT_v1.eq (by decide)) (by decide) rfl (c_X11_slips l D cA s.heap.size ad σ n v1 1 hT_v1 hz) k_660 k_657 k_658 k_659 k_1 (h_X11_slips) rfl rfl ⟨by decide +kernel, by decide +kernel⟩ rfl hl.1 rfl (Nat.le_of_ble_eq_true rfl) dL_law_530 ⟨by show _ ≤ 601024; omega, by show _ ≤ 7293034; omega⟩) hS (fun H locs hG hS hX => ?_)
          have hT_v1 := hX.T hT_v1
          have hT_v2 := hX.T hT_v2
          have hT_v3 := hX.T hT_v3
          replace hE := hE.trans hX
          refine lv_aload_n X.1 X.2.1 dL_law_533 rfl (lv_at hl 2 rfl) ?_
          refine lv_aload_n X.1 X.2.1 dL_law_534 rfl (lv_at hl 0 rfl) ?_
          refine lv_iload X.1 X.2.1 dL_law_535 (lv_at hl 4 rfl) ?_
          refine lv_iconst (v := 1) X.1 X.2.1 dL_law_537 (by decide) ?_
          refine lv_iadd X.1 X.2.1 dL_law_538 ?_
          obtain ⟨hin, hF⟩ := ck_ex hF
          refine va_sld X.1 X.2.1 hX0 hbl hbA hS hin dL_law_539 ?_
          refine lv_if_eq (tgt := 547) X.1 X.2.1 dL_law_540 (by decide) (fun hc => ?_) (fun hc => ?_)
          · replace hF := it_t hF hc
            refine lv_iconst (v := 0) X.1 X.2.1 dL_law_547 (by decide) ?_
            obtain ⟨r56, σ55, hz, hF⟩ := b2_ex hF
            refine gx_rI (gx_runV (As := [.int 0]) (rest := [.int r54]) X hG hS hT_v2.1 (hT_v2.eq (by decide)) (by decide) rfl (c_X12_slips l D cA s.heap.size ad σ53 n v2 0 hT_v2 hz) k_1286 k_1283 k_1284 k_1285 k_4 (h_X12_slips) rfl rfl ⟨by decide +kernel, by decide +kernel⟩ rfl hl.1 rfl (Nat.le_of_ble_eq_true rfl) dL_law_548 ⟨by show _ ≤ 601024; omega, by show _ ≤ 7293034; omega⟩) hS (fun H locs hG hS hX => ?_)
            have hT_v1 := hX.T hT_v1
            have hT_v2 := hX.T hT_v2
            have hT_v3 := hX.T hT_v3
            replace hE := hE.trans hX
            refine lv_icmp_eq (tgt := 1205) X.1 X.2.1 dL_law_551 (by decide) (fun hc => ?_) (fun hc => ?_)
            · replace hF := it_t hF hc
              exact w_L_law_1205 hl0 X hXX hX0 hbl n f (F_L_law_23 n L xs f) ih v1 v2 v3 v4 σ55 ad _ _ ls _ _ (by omega) (by omega) hT_v1 hT_v2 hT_v3 hG hS (lv_sub hl [0, 1, 2, 3, 4] rfl) hF
            · replace hF := it_f hF hc
              refine lv_iconst (v := 0) X.1 X.2.1 dL_law_554 (by decide) ?_
              exact (no_0 hF).elim
          · replace hF := it_f hF hc
            refine lv_iconst (v := 1) X.1 X.2.1 dL_law_543 (by decide) ?_
            refine lv_goto (tgt := 548) X.1 X.2.1 dL_law_544 (by decide) ?_
            obtain ⟨r58, σ57, hz, hF⟩ := b2_ex hF
            refine gx_rI (gx_runV (As := [.int 1]) (rest := [.int r54]) X hG hS hT_v2.1 (hT_v2.eq (by decide)) (by decide) rfl (c_X12_slips l D cA s.heap.size ad σ53 n v2 1 hT_v2 hz) k_1286 k_1283 k_1284 k_1285 k_4 (h_X12_slips) rfl rfl ⟨by decide +kernel, by decide +kernel⟩ rfl hl.1 rfl (Nat.le_of_ble_eq_true rfl) dL_law_548 ⟨by show _ ≤ 601024; omega, by show _ ≤ 7293034; omega⟩) hS (fun H locs hG hS hX => ?_)
            have hT_v1 := hX.T hT_v1
            have hT_v2 := hX.T hT_v2
            have hT_v3 := hX.T hT_v3
            replace hE := hE.trans hX
            refine lv_icmp_eq (tgt := 1205) X.1 X.2.1 dL_law_551 (by decide) (fun hc => ?_) (fun hc => ?_)
            · replace hF := it_t hF hc
              exact w_L_law_1205 hl0 X hXX hX0 hbl n f (F_L_law_23 n L xs f) ih v1 v2 v3 v4 σ57 ad _ _ ls _ _ (by omega) (by omega) hT_v1 hT_v2 hT_v3 hG hS (lv_sub hl [0, 1, 2, 3, 4] rfl) hF
            · replace hF := it_f hF hc
              refine lv_iconst (v := 0) X.1 X.2.1 dL_law_554 (by decide) ?_
              exact (no_0 hF).elim
      replace hF := it_f hF hc11
      by_cases hc12 : ((xs v4.toNatClampNeg) &&& 31) = 12
      · replace hF := it_t hF hc12
        refine lv_tableIn (tgt := 556) X.1 X.2.1 dL_law_40 (by rw [hc12]; decide) (by rw [hc12]; decide) (by rw [hc12]; rfl) (by decide) ?_
        refine lv_aload_n X.1 X.2.1 dL_law_556 rfl (lv_at hl 1 rfl) ?_
        refine lv_aload_n X.1 X.2.1 dL_law_557 rfl (lv_at hl 0 rfl) ?_
        refine lv_iload X.1 X.2.1 dL_law_558 (lv_at hl 4 rfl) ?_
        refine lv_iconst (v := 1) X.1 X.2.1 dL_law_560 (by decide) ?_
        refine lv_iadd X.1 X.2.1 dL_law_561 ?_
        obtain ⟨hin, hF⟩ := ck_ex hF
        refine va_sld X.1 X.2.1 hX0 hbl hbA hS hin dL_law_562 ?_
        refine lv_aload_n X.1 X.2.1 dL_law_563 rfl (lv_at hl 0 rfl) ?_
        refine lv_iload X.1 X.2.1 dL_law_564 (lv_at hl 4 rfl) ?_
        refine lv_iconst (v := 2) X.1 X.2.1 dL_law_566 (by decide) ?_
        refine lv_iadd X.1 X.2.1 dL_law_567 ?_
        obtain ⟨hin, hF⟩ := ck_ex hF
        refine va_sld X.1 X.2.1 hX0 hbl hbA hS hin dL_law_568 ?_
        obtain ⟨r60, σ59, hz, hF⟩ := b2_ex hF
        refine gx_rI (gx_runV (As := [.int (xs (v4 + 1).toNatClampNeg), .int (xs (v4 + 2).toNatClampNeg)]) (rest := []) X hG hS hT_v1.1 (hT_v1.eq (by decide)) (by decide) rfl (c_X11_moved l D cA s.heap.size ad σ n v1 (xs (v4 + 1).toNatClampNeg) (xs (v4 + 2).toNatClampNeg) hT_v1 hz) k_664 k_661 k_662 k_663 k_1 (h_X11_moved) rfl rfl ⟨by decide +kernel, by decide +kernel⟩ rfl hl.1 rfl (Nat.le_of_ble_eq_true rfl) dL_law_569 ⟨by show _ ≤ 601024; omega, by show _ ≤ 7293034; omega⟩) hS (fun H locs hG hS hX => ?_)
        have hT_v1 := hX.T hT_v1
        have hT_v2 := hX.T hT_v2
        have hT_v3 := hX.T hT_v3
        replace hE := hE.trans hX
        refine lv_aload_n X.1 X.2.1 dL_law_572 rfl (lv_at hl 2 rfl) ?_
        refine lv_aload_n X.1 X.2.1 dL_law_573 rfl (lv_at hl 0 rfl) ?_
        refine lv_iload X.1 X.2.1 dL_law_574 (lv_at hl 4 rfl) ?_
        refine lv_iconst (v := 1) X.1 X.2.1 dL_law_576 (by decide) ?_
        refine lv_iadd X.1 X.2.1 dL_law_577 ?_
        obtain ⟨hin, hF⟩ := ck_ex hF
        refine va_sld X.1 X.2.1 hX0 hbl hbA hS hin dL_law_578 ?_
        refine lv_aload_n X.1 X.2.1 dL_law_579 rfl (lv_at hl 0 rfl) ?_
        refine lv_iload X.1 X.2.1 dL_law_580 (lv_at hl 4 rfl) ?_
        refine lv_iconst (v := 2) X.1 X.2.1 dL_law_582 (by decide) ?_
        refine lv_iadd X.1 X.2.1 dL_law_583 ?_
        obtain ⟨hin, hF⟩ := ck_ex hF
        refine va_sld X.1 X.2.1 hX0 hbl hbA hS hin dL_law_584 ?_
        obtain ⟨r62, σ61, hz, hF⟩ := b2_ex hF
        refine gx_rI (gx_runV (As := [.int (xs (v4 + 1).toNatClampNeg), .int (xs (v4 + 2).toNatClampNeg)]) (rest := [.int r60]) X hG hS hT_v2.1 (hT_v2.eq (by decide)) (by decide) rfl (c_X12_moved l D cA s.heap.size ad σ59 n v2 (xs (v4 + 1).toNatClampNeg) (xs (v4 + 2).toNatClampNeg) hT_v2 hz) k_1290 k_1287 k_1288 k_1289 k_4 (h_X12_moved) rfl rfl ⟨by decide +kernel, by decide +kernel⟩ rfl hl.1 rfl (Nat.le_of_ble_eq_true rfl) dL_law_585 ⟨by show _ ≤ 601024; omega, by show _ ≤ 7293034; omega⟩) hS (fun H locs hG hS hX => ?_)
        have hT_v1 := hX.T hT_v1
        have hT_v2 := hX.T hT_v2
        have hT_v3 := hX.T hT_v3
        replace hE := hE.trans hX
        refine lv_icmp_eq (tgt := 1205) X.1 X.2.1 dL_law_588 (by decide) (fun hc => ?_) (fun hc => ?_)
        · replace hF := it_t hF hc
          exact w_L_law_1205 hl0 X hXX hX0 hbl n f (F_L_law_23 n L xs f) ih v1 v2 v3 v4 σ61 ad _ _ ls _ _ (by omega) (by omega) hT_v1 hT_v2 hT_v3 hG hS (lv_sub hl [0, 1, 2, 3, 4] rfl) hF
        · replace hF := it_f hF hc
          refine lv_iconst (v := 0) X.1 X.2.1 dL_law_591 (by decide) ?_
          exact (no_0 hF).elim
      replace hF := it_f hF hc12
      by_cases hc13 : ((xs v4.toNatClampNeg) &&& 31) = 13
      · replace hF := it_t hF hc13
        refine lv_tableIn (tgt := 593) X.1 X.2.1 dL_law_40 (by rw [hc13]; decide) (by rw [hc13]; decide) (by rw [hc13]; rfl) (by decide) ?_
        refine lv_aload_n X.1 X.2.1 dL_law_593 rfl (lv_at hl 1 rfl) ?_
        refine lv_aload_n X.1 X.2.1 dL_law_594 rfl (lv_at hl 0 rfl) ?_
        refine lv_iload X.1 X.2.1 dL_law_595 (lv_at hl 4 rfl) ?_
        refine lv_iconst (v := 1) X.1 X.2.1 dL_law_597 (by decide) ?_
        refine lv_iadd X.1 X.2.1 dL_law_598 ?_
        obtain ⟨hin, hF⟩ := ck_ex hF
        refine va_sld X.1 X.2.1 hX0 hbl hbA hS hin dL_law_599 ?_
        obtain ⟨r64, σ63, hz, hF⟩ := b2_ex hF
        refine gx_rI (gx_runV (As := [.int (xs (v4 + 1).toNatClampNeg)]) (rest := []) X hG hS hT_v1.1 (hT_v1.eq (by decide)) (by decide) rfl (c_X11_out l D cA s.heap.size ad σ n v1 (xs (v4 + 1).toNatClampNeg) hT_v1 hz) k_668 k_665 k_666 k_667 k_1 (h_X11_out) rfl rfl ⟨by decide +kernel, by decide +kernel⟩ rfl hl.1 rfl (Nat.le_of_ble_eq_true rfl) dL_law_600 ⟨by show _ ≤ 601024; omega, by show _ ≤ 7293034; omega⟩) hS (fun H locs hG hS hX => ?_)
        have hT_v1 := hX.T hT_v1
        have hT_v2 := hX.T hT_v2
        have hT_v3 := hX.T hT_v3
        replace hE := hE.trans hX
        refine lv_aload_n X.1 X.2.1 dL_law_603 rfl (lv_at hl 2 rfl) ?_
        refine lv_aload_n X.1 X.2.1 dL_law_604 rfl (lv_at hl 0 rfl) ?_
        refine lv_iload X.1 X.2.1 dL_law_605 (lv_at hl 4 rfl) ?_
        refine lv_iconst (v := 1) X.1 X.2.1 dL_law_607 (by decide) ?_
        refine lv_iadd X.1 X.2.1 dL_law_608 ?_
        obtain ⟨hin, hF⟩ := ck_ex hF
        refine va_sld X.1 X.2.1 hX0 hbl hbA hS hin dL_law_609 ?_
        obtain ⟨r66, σ65, hz, hF⟩ := b2_ex hF
        refine gx_rI (gx_runV (As := [.int (xs (v4 + 1).toNatClampNeg)]) (rest := [.int r64]) X hG hS hT_v2.1 (hT_v2.eq (by decide)) (by decide) rfl (c_X12_out l D cA s.heap.size ad σ63 n v2 (xs (v4 + 1).toNatClampNeg) hT_v2 hz) k_1295 k_1292 k_1293 k_1294 k_4 (h_X12_out) rfl rfl ⟨by decide +kernel, by decide +kernel⟩ rfl hl.1 rfl (Nat.le_of_ble_eq_true rfl) dL_law_610 ⟨by show _ ≤ 601024; omega, by show _ ≤ 7293034; omega⟩) hS (fun H locs hG hS hX => ?_)
        have hT_v1 := hX.T hT_v1
        have hT_v2 := hX.T hT_v2
        have hT_v3 := hX.T hT_v3
        replace hE := hE.trans hX
        refine lv_icmp_eq (tgt := 1205) X.1 X.2.1 dL_law_613 (by decide) (fun hc => ?_) (fun hc => ?_)
        · replace hF := it_t hF hc
          exact w_L_law_1205 hl0 X hXX hX0 hbl n f (F_L_law_23 n L xs f) ih v1 v2 v3 v4 σ65 ad _ _ ls _ _ (by omega) (by omega) hT_v1 hT_v2 hT_v3 hG hS (lv_sub hl [0, 1, 2, 3, 4] rfl) hF
        · replace hF := it_f hF hc
          refine lv_iconst (v := 0) X.1 X.2.1 dL_law_616 (by decide) ?_
          exact (no_0 hF).elim
      replace hF := it_f hF hc13
      by_cases hc14 : ((xs v4.toNatClampNeg) &&& 31) = 14
      · replace hF := it_t hF hc14
        refine lv_tableIn (tgt := 618) X.1 X.2.1 dL_law_40 (by rw [hc14]; decide) (by rw [hc14]; decide) (by rw [hc14]; rfl) (by decide) ?_
        refine lv_aload_n X.1 X.2.1 dL_law_618 rfl (lv_at hl 1 rfl) ?_
        obtain ⟨r68, σ67, hz, hF⟩ := b2_ex hF
        refine gx_rI (gx_runV (As := []) (rest := []) X hG hS hT_v1.1 (hT_v1.eq (by decide)) (by decide) rfl (c_X11_one l D cA s.heap.size ad σ n v1 hT_v1 hz) k_676 k_673 k_674 k_675 k_1 (h_X11_one) rfl rfl ⟨by decide +kernel, by decide +kernel⟩ rfl hl.1 rfl (Nat.le_of_ble_eq_true rfl) dL_law_619 ⟨by show _ ≤ 601024; omega, by show _ ≤ 7293034; omega⟩) hS (fun H locs hG hS hX => ?_)
        have hT_v1 := hX.T hT_v1
        have hT_v2 := hX.T hT_v2
        have hT_v3 := hX.T hT_v3
        replace hE := hE.trans hX
        refine lv_aload_n X.1 X.2.1 dL_law_622 rfl (lv_at hl 2 rfl) ?_
        obtain ⟨r70, σ69, hz, hF⟩ := b2_ex hF
        refine gx_rI (gx_runV (As := []) (rest := [.int r68]) X hG hS hT_v2.1 (hT_v2.eq (by decide)) (by decide) rfl (c_X12_one l D cA s.heap.size ad σ67 n v2 hT_v2 hz) k_1299 k_1296 k_1297 k_1298 k_4 (h_X12_one) rfl rfl ⟨by decide +kernel, by decide +kernel⟩ rfl hl.1 rfl (Nat.le_of_ble_eq_true rfl) dL_law_623 ⟨by show _ ≤ 601024; omega, by show _ ≤ 7293034; omega⟩) hS (fun H locs hG hS hX => ?_)
        have hT_v1 := hX.T hT_v1
        have hT_v2 := hX.T hT_v2
        have hT_v3 := hX.T hT_v3
        replace hE := hE.trans hX
        refine lv_icmp_eq (tgt := 1205) X.1 X.2.1 dL_law_626 (by decide) (fun hc => ?_) (fun hc => ?_)
        · replace hF := it_t hF hc
          exact w_L_law_1205 hl0 X hXX hX0 hbl n f (F_L_law_23 n L xs f) ih v1 v2 v3 v4 σ69 ad _ _ ls _ _ (by omega) (by omega) hT_v1 hT_v2 hT_v3 hG hS (lv_sub hl [0, 1, 2, 3, 4] rfl) hF
        · replace hF := it_f hF hc
          refine lv_iconst (v := 0) X.1 X.2.1 dL_law_629 (by decide) ?_
          exact (no_0 hF).elim
      replace hF := it_f hF hc14
      by_cases hc15 : ((xs v4.toNatClampNeg) &&& 31) = 15
      · replace hF := it_t hF hc15
        refine lv_tableIn (tgt := 631) X.1 X.2.1 dL_law_40 (by rw [hc15]; decide) (by rw [hc15]; decide) (by rw [hc15]; rfl) (by decide) ?_
        refine lv_aload_n X.1 X.2.1 dL_law_631 rfl (lv_at hl 1 rfl) ?_
        refine lv_aload_n X.1 X.2.1 dL_law_632 rfl (lv_at hl 0 rfl) ?_
        refine lv_iload X.1 X.2.1 dL_law_633 (lv_at hl 4 rfl) ?_
        refine lv_iconst (v := 1) X.1 X.2.1 dL_law_635 (by decide) ?_
        refine lv_iadd X.1 X.2.1 dL_law_636 ?_
        obtain ⟨hin, hF⟩ := ck_ex hF
        refine va_sld X.1 X.2.1 hX0 hbl hbA hS hin dL_law_637 ?_
        refine lv_aload_n X.1 X.2.1 dL_law_638 rfl (lv_at hl 0 rfl) ?_
        refine lv_iload X.1 X.2.1 dL_law_639 (lv_at hl 4 rfl) ?_
        refine lv_iconst (v := 2) X.1 X.2.1 dL_law_641 (by decide) ?_
        refine lv_iadd X.1 X.2.1 dL_law_642 ?_
        obtain ⟨hin, hF⟩ := ck_ex hF
        refine va_sld X.1 X.2.1 hX0 hbl hbA hS hin dL_law_643 ?_
        obtain ⟨r72, σ71, hz, hF⟩ := b2_ex hF
        refine gx_rI (gx_runV (As := [.int (xs (v4 + 1).toNatClampNeg), .int (xs (v4 + 2).toNatClampNeg)]) (rest := []) X hG hS hT_v1.1 (hT_v1.eq (by decide)) (by decide) rfl (c_X11_six l D cA s.heap.size ad σ n v1 (xs (v4 + 1).toNatClampNeg) (xs (v4 + 2).toNatClampNeg) hT_v1 hz) k_680 k_677 k_678 k_679 k_1 (h_X11_six) rfl rfl ⟨by decide +kernel, by decide +kernel⟩ rfl hl.1 rfl (Nat.le_of_ble_eq_true rfl) dL_law_644 ⟨by show _ ≤ 601024; omega, by show _ ≤ 7293034; omega⟩) hS (fun H locs hG hS hX => ?_)
        have hT_v1 := hX.T hT_v1
        have hT_v2 := hX.T hT_v2
        have hT_v3 := hX.T hT_v3
        replace hE := hE.trans hX
        refine lv_aload_n X.1 X.2.1 dL_law_647 rfl (lv_at hl 2 rfl) ?_
        refine lv_aload_n X.1 X.2.1 dL_law_648 rfl (lv_at hl 0 rfl) ?_
        refine lv_iload X.1 X.2.1 dL_law_649 (lv_at hl 4 rfl) ?_
        refine lv_iconst (v := 1) X.1 X.2.1 dL_law_651 (by decide) ?_
        refine lv_iadd X.1 X.2.1 dL_law_652 ?_
        obtain ⟨hin, hF⟩ := ck_ex hF
        refine va_sld X.1 X.2.1 hX0 hbl hbA hS hin dL_law_653 ?_
        refine lv_aload_n X.1 X.2.1 dL_law_654 rfl (lv_at hl 0 rfl) ?_
        refine lv_iload X.1 X.2.1 dL_law_655 (lv_at hl 4 rfl) ?_
        refine lv_iconst (v := 2) X.1 X.2.1 dL_law_657 (by decide) ?_
        refine lv_iadd X.1 X.2.1 dL_law_658 ?_
        obtain ⟨hin, hF⟩ := ck_ex hF
        refine va_sld X.1 X.2.1 hX0 hbl hbA hS hin dL_law_659 ?_
        obtain ⟨r74, σ73, hz, hF⟩ := b2_ex hF
        refine gx_rI (gx_runV (As := [.int (xs (v4 + 1).toNatClampNeg), .int (xs (v4 + 2).toNatClampNeg)]) (rest := [.int r72]) X hG hS hT_v2.1 (hT_v2.eq (by decide)) (by decide) rfl (c_X12_six l D cA s.heap.size ad σ71 n v2 (xs (v4 + 1).toNatClampNeg) (xs (v4 + 2).toNatClampNeg) hT_v2 hz) k_1303 k_1300 k_1301 k_1302 k_4 (h_X12_six) rfl rfl ⟨by decide +kernel, by decide +kernel⟩ rfl hl.1 rfl (Nat.le_of_ble_eq_true rfl) dL_law_660 ⟨by show _ ≤ 601024; omega, by show _ ≤ 7293034; omega⟩) hS (fun H locs hG hS hX => ?_)
        have hT_v1 := hX.T hT_v1
        have hT_v2 := hX.T hT_v2
        have hT_v3 := hX.T hT_v3
        replace hE := hE.trans hX
        refine lv_icmp_eq (tgt := 1205) X.1 X.2.1 dL_law_663 (by decide) (fun hc => ?_) (fun hc => ?_)
        · replace hF := it_t hF hc
          exact w_L_law_1205 hl0 X hXX hX0 hbl n f (F_L_law_23 n L xs f) ih v1 v2 v3 v4 σ73 ad _ _ ls _ _ (by omega) (by omega) hT_v1 hT_v2 hT_v3 hG hS (lv_sub hl [0, 1, 2, 3, 4] rfl) hF
        · replace hF := it_f hF hc
          refine lv_iconst (v := 0) X.1 X.2.1 dL_law_666 (by decide) ?_
          exact (no_0 hF).elim
      replace hF := it_f hF hc15
      by_cases hc16 : ((xs v4.toNatClampNeg) &&& 31) = 16
      · replace hF := it_t hF hc16
        refine lv_tableIn (tgt := 668) X.1 X.2.1 dL_law_40 (by rw [hc16]; decide) (by rw [hc16]; decide) (by rw [hc16]; rfl) (by decide) ?_
        refine lv_aload_n X.1 X.2.1 dL_law_668 rfl (lv_at hl 1 rfl) ?_
        refine lv_aload_n X.1 X.2.1 dL_law_669 rfl (lv_at hl 0 rfl) ?_
        refine lv_iload X.1 X.2.1 dL_law_670 (lv_at hl 4 rfl) ?_
        refine lv_iconst (v := 1) X.1 X.2.1 dL_law_672 (by decide) ?_
        refine lv_iadd X.1 X.2.1 dL_law_673 ?_
        obtain ⟨hin, hF⟩ := ck_ex hF
        refine va_sld X.1 X.2.1 hX0 hbl hbA hS hin dL_law_674 ?_
        obtain ⟨r76, σ75, hz, hF⟩ := b2_ex hF
        refine gx_rI (gx_runV (As := [.int (xs (v4 + 1).toNatClampNeg)]) (rest := []) X hG hS hT_v1.1 (hT_v1.eq (by decide)) (by decide) rfl (c_X11_lost l D cA s.heap.size ad σ n v1 (xs (v4 + 1).toNatClampNeg) hT_v1 hz) k_684 k_681 k_682 k_683 k_1 (h_X11_lost) rfl rfl ⟨by decide +kernel, by decide +kernel⟩ rfl hl.1 rfl (Nat.le_of_ble_eq_true rfl) dL_law_675 ⟨by show _ ≤ 601024; omega, by show _ ≤ 7293034; omega⟩) hS (fun H locs hG hS hX => ?_)
        have hT_v1 := hX.T hT_v1
        have hT_v2 := hX.T hT_v2
        have hT_v3 := hX.T hT_v3
        replace hE := hE.trans hX
        refine lv_aload_n X.1 X.2.1 dL_law_678 rfl (lv_at hl 2 rfl) ?_
        refine lv_aload_n X.1 X.2.1 dL_law_679 rfl (lv_at hl 0 rfl) ?_
        refine lv_iload X.1 X.2.1 dL_law_680 (lv_at hl 4 rfl) ?_
        refine lv_iconst (v := 1) X.1 X.2.1 dL_law_682 (by decide) ?_
        refine lv_iadd X.1 X.2.1 dL_law_683 ?_
        obtain ⟨hin, hF⟩ := ck_ex hF
        refine va_sld X.1 X.2.1 hX0 hbl hbA hS hin dL_law_684 ?_
        obtain ⟨r78, σ77, hz, hF⟩ := b2_ex hF
        refine gx_rI (gx_runV (As := [.int (xs (v4 + 1).toNatClampNeg)]) (rest := [.int r76]) X hG hS hT_v2.1 (hT_v2.eq (by decide)) (by decide) rfl (c_X12_lost l D cA s.heap.size ad σ75 n v2 (xs (v4 + 1).toNatClampNeg) hT_v2 hz) k_1307 k_1304 k_1305 k_1306 k_4 (h_X12_lost) rfl rfl ⟨by decide +kernel, by decide +kernel⟩ rfl hl.1 rfl (Nat.le_of_ble_eq_true rfl) dL_law_685 ⟨by show _ ≤ 601024; omega, by show _ ≤ 7293034; omega⟩) hS (fun H locs hG hS hX => ?_)
        have hT_v1 := hX.T hT_v1
        have hT_v2 := hX.T hT_v2
        have hT_v3 := hX.T hT_v3
        replace hE := hE.trans hX
        refine lv_icmp_eq (tgt := 1205) X.1 X.2.1 dL_law_688 (by decide) (fun hc => ?_) (fun hc => ?_)
        · replace hF := it_t hF hc
          exact w_L_law_1205 hl0 X hXX hX0 hbl n f (F_L_law_23 n L xs f) ih v1 v2 v3 v4 σ77 ad _ _ ls _ _ (by omega) (by omega) hT_v1 hT_v2 hT_v3 hG hS (lv_sub hl [0, 1, 2, 3, 4] rfl) hF
        · replace hF := it_f hF hc
          refine lv_iconst (v := 0) X.1 X.2.1 dL_law_691 (by decide) ?_
          exact (no_0 hF).elim
      replace hF := it_f hF hc16
      by_cases hc17 : ((xs v4.toNatClampNeg) &&& 31) = 17
      · replace hF := it_t hF hc17
        refine lv_tableIn (tgt := 693) X.1 X.2.1 dL_law_40 (by rw [hc17]; decide) (by rw [hc17]; decide) (by rw [hc17]; rfl) (by decide) ?_
        refine lv_aload_n X.1 X.2.1 dL_law_693 rfl (lv_at hl 1 rfl) ?_
        refine lv_aload_n X.1 X.2.1 dL_law_694 rfl (lv_at hl 0 rfl) ?_
        refine lv_iload X.1 X.2.1 dL_law_695 (lv_at hl 4 rfl) ?_
        refine lv_iconst (v := 1) X.1 X.2.1 dL_law_697 (by decide) ?_
        refine lv_iadd X.1 X.2.1 dL_law_698 ?_
        obtain ⟨hin, hF⟩ := ck_ex hF
        refine va_sld X.1 X.2.1 hX0 hbl hbA hS hin dL_law_699 ?_
        obtain ⟨r80, σ79, hz, hF⟩ := b2_ex hF
        refine gx_rI (gx_runV (As := [.int (xs (v4 + 1).toNatClampNeg)]) (rest := []) X hG hS hT_v1.1 (hT_v1.eq (by decide)) (by decide) rfl (c_X11_leads l D cA s.heap.size ad σ n v1 (xs (v4 + 1).toNatClampNeg) hT_v1 hz) k_692 k_689 k_690 k_691 k_1 (h_X11_leads) rfl rfl ⟨by decide +kernel, by decide +kernel⟩ rfl hl.1 rfl (Nat.le_of_ble_eq_true rfl) dL_law_700 ⟨by show _ ≤ 601024; omega, by show _ ≤ 7293034; omega⟩) hS (fun H locs hG hS hX => ?_)
        have hT_v1 := hX.T hT_v1
        have hT_v2 := hX.T hT_v2
        have hT_v3 := hX.T hT_v3
        replace hE := hE.trans hX
        refine lv_aload_n X.1 X.2.1 dL_law_703 rfl (lv_at hl 2 rfl) ?_
        refine lv_aload_n X.1 X.2.1 dL_law_704 rfl (lv_at hl 0 rfl) ?_
        refine lv_iload X.1 X.2.1 dL_law_705 (lv_at hl 4 rfl) ?_
        refine lv_iconst (v := 1) X.1 X.2.1 dL_law_707 (by decide) ?_
        refine lv_iadd X.1 X.2.1 dL_law_708 ?_
        obtain ⟨hin, hF⟩ := ck_ex hF
        refine va_sld X.1 X.2.1 hX0 hbl hbA hS hin dL_law_709 ?_
        obtain ⟨r82, σ81, hz, hF⟩ := b2_ex hF
        refine gx_rI (gx_runV (As := [.int (xs (v4 + 1).toNatClampNeg)]) (rest := [.int r80]) X hG hS hT_v2.1 (hT_v2.eq (by decide)) (by decide) rfl (c_X12_leads l D cA s.heap.size ad σ79 n v2 (xs (v4 + 1).toNatClampNeg) hT_v2 hz) k_1311 k_1308 k_1309 k_1310 k_4 (h_X12_leads) rfl rfl ⟨by decide +kernel, by decide +kernel⟩ rfl hl.1 rfl (Nat.le_of_ble_eq_true rfl) dL_law_710 ⟨by show _ ≤ 601024; omega, by show _ ≤ 7293034; omega⟩) hS (fun H locs hG hS hX => ?_)
        have hT_v1 := hX.T hT_v1
        have hT_v2 := hX.T hT_v2
        have hT_v3 := hX.T hT_v3
        replace hE := hE.trans hX
        refine lv_icmp_eq (tgt := 1205) X.1 X.2.1 dL_law_713 (by decide) (fun hc => ?_) (fun hc => ?_)
        · replace hF := it_t hF hc
          exact w_L_law_1205 hl0 X hXX hX0 hbl n f (F_L_law_23 n L xs f) ih v1 v2 v3 v4 σ81 ad _ _ ls _ _ (by omega) (by omega) hT_v1 hT_v2 hT_v3 hG hS (lv_sub hl [0, 1, 2, 3, 4] rfl) hF
        · replace hF := it_f hF hc
          refine lv_iconst (v := 0) X.1 X.2.1 dL_law_716 (by decide) ?_
          exact (no_0 hF).elim
      replace hF := it_f hF hc17
      by_cases hc18 : ((xs v4.toNatClampNeg) &&& 31) = 18
      · replace hF := it_t hF hc18
        refine lv_tableIn (tgt := 718) X.1 X.2.1 dL_law_40 (by rw [hc18]; decide) (by rw [hc18]; decide) (by rw [hc18]; rfl) (by decide) ?_
        refine lv_aload_n X.1 X.2.1 dL_law_718 rfl (lv_at hl 1 rfl) ?_
        obtain ⟨r84, σ83, hz, hF⟩ := b2_ex hF
        refine gx_rI (gx_runV (As := []) (rest := []) X hG hS hT_v1.1 (hT_v1.eq (by decide)) (by decide) rfl (c_X11_hands l D cA s.heap.size ad σ n v1 hT_v1 hz) k_699 k_696 k_697 k_698 k_1 (h_X11_hands) rfl rfl ⟨by decide +kernel, by decide +kernel⟩ rfl hl.1 rfl (Nat.le_of_ble_eq_true rfl) dL_law_719 ⟨by show _ ≤ 601024; omega, by show _ ≤ 7293034; omega⟩) hS (fun H locs hG hS hX => ?_)
        have hT_v1 := hX.T hT_v1
        have hT_v2 := hX.T hT_v2
        have hT_v3 := hX.T hT_v3
        replace hE := hE.trans hX
        refine lv_aload_n X.1 X.2.1 dL_law_722 rfl (lv_at hl 2 rfl) ?_
        obtain ⟨r86, σ85, hz, hF⟩ := b2_ex hF
        refine gx_rI (gx_runV (As := []) (rest := [.int r84]) X hG hS hT_v2.1 (hT_v2.eq (by decide)) (by decide) rfl (c_X12_hands l D cA s.heap.size ad σ83 n v2 hT_v2 hz) k_1315 k_1312 k_1313 k_1314 k_4 (h_X12_hands) rfl rfl ⟨by decide +kernel, by decide +kernel⟩ rfl hl.1 rfl (Nat.le_of_ble_eq_true rfl) dL_law_723 ⟨by show _ ≤ 601024; omega, by show _ ≤ 7293034; omega⟩) hS (fun H locs hG hS hX => ?_)
        have hT_v1 := hX.T hT_v1
        have hT_v2 := hX.T hT_v2
        have hT_v3 := hX.T hT_v3
        replace hE := hE.trans hX
        refine lv_icmp_eq (tgt := 1205) X.1 X.2.1 dL_law_726 (by decide) (fun hc => ?_) (fun hc => ?_)
        · replace hF := it_t hF hc
          exact w_L_law_1205 hl0 X hXX hX0 hbl n f (F_L_law_23 n L xs f) ih v1 v2 v3 v4 σ85 ad _ _ ls _ _ (by omega) (by omega) hT_v1 hT_v2 hT_v3 hG hS (lv_sub hl [0, 1, 2, 3, 4] rfl) hF
        · replace hF := it_f hF hc
          refine lv_iconst (v := 0) X.1 X.2.1 dL_law_729 (by decide) ?_
          exact (no_0 hF).elim
      replace hF := it_f hF hc18
      by_cases hc19 : ((xs v4.toNatClampNeg) &&& 31) = 19
      · replace hF := it_t hF hc19
        refine lv_tableIn (tgt := 731) X.1 X.2.1 dL_law_40 (by rw [hc19]; decide) (by rw [hc19]; decide) (by rw [hc19]; rfl) (by decide) ?_
        refine lv_aload_n X.1 X.2.1 dL_law_731 rfl (lv_at hl 1 rfl) ?_
        refine lv_aload_n X.1 X.2.1 dL_law_732 rfl (lv_at hl 0 rfl) ?_
        refine lv_iload X.1 X.2.1 dL_law_733 (lv_at hl 4 rfl) ?_
        refine lv_iconst (v := 1) X.1 X.2.1 dL_law_735 (by decide) ?_
        refine lv_iadd X.1 X.2.1 dL_law_736 ?_
        obtain ⟨hin, hF⟩ := ck_ex hF
        refine va_sld X.1 X.2.1 hX0 hbl hbA hS hin dL_law_737 ?_
        obtain ⟨r88, σ87, hz, hF⟩ := b2_ex hF
        refine gx_rI (gx_runV (As := [.int (xs (v4 + 1).toNatClampNeg)]) (rest := []) X hG hS hT_v1.1 (hT_v1.eq (by decide)) (by decide) rfl (c_X11_leftOut l D cA s.heap.size ad σ n v1 (xs (v4 + 1).toNatClampNeg) hT_v1 hz) k_703 k_700 k_701 k_702 k_1 (h_X11_leftOut) rfl rfl ⟨by decide +kernel, by decide +kernel⟩ rfl hl.1 rfl (Nat.le_of_ble_eq_true rfl) dL_law_738 ⟨by show _ ≤ 601024; omega, by show _ ≤ 7293034; omega⟩) hS (fun H locs hG hS hX => ?_)
        have hT_v1 := hX.T hT_v1
        have hT_v2 := hX.T hT_v2
        have hT_v3 := hX.T hT_v3
        replace hE := hE.trans hX
        refine lv_aload_n X.1 X.2.1 dL_law_741 rfl (lv_at hl 2 rfl) ?_
        refine lv_aload_n X.1 X.2.1 dL_law_742 rfl (lv_at hl 0 rfl) ?_
        refine lv_iload X.1 X.2.1 dL_law_743 (lv_at hl 4 rfl) ?_
        refine lv_iconst (v := 1) X.1 X.2.1 dL_law_745 (by decide) ?_
        refine lv_iadd X.1 X.2.1 dL_law_746 ?_
        obtain ⟨hin, hF⟩ := ck_ex hF
        refine va_sld X.1 X.2.1 hX0 hbl hbA hS hin dL_law_747 ?_
        obtain ⟨r90, σ89, hz, hF⟩ := b2_ex hF
        refine gx_rI (gx_runV (As := [.int (xs (v4 + 1).toNatClampNeg)]) (rest := [.int r88]) X hG hS hT_v2.1 (hT_v2.eq (by decide)) (by decide) rfl (c_X12_leftOut l D cA s.heap.size ad σ87 n v2 (xs (v4 + 1).toNatClampNeg) hT_v2 hz) k_1319 k_1316 k_1317 k_1318 k_4 (h_X12_leftOut) rfl rfl ⟨by decide +kernel, by decide +kernel⟩ rfl hl.1 rfl (Nat.le_of_ble_eq_true rfl) dL_law_748 ⟨by show _ ≤ 601024; omega, by show _ ≤ 7293034; omega⟩) hS (fun H locs hG hS hX => ?_)
        have hT_v1 := hX.T hT_v1
        have hT_v2 := hX.T hT_v2
        have hT_v3 := hX.T hT_v3
        replace hE := hE.trans hX
        refine lv_icmp_eq (tgt := 1205) X.1 X.2.1 dL_law_751 (by decide) (fun hc => ?_) (fun hc => ?_)
        · replace hF := it_t hF hc
          exact w_L_law_1205 hl0 X hXX hX0 hbl n f (F_L_law_23 n L xs f) ih v1 v2 v3 v4 σ89 ad _ _ ls _ _ (by omega) (by omega) hT_v1 hT_v2 hT_v3 hG hS (lv_sub hl [0, 1, 2, 3, 4] rfl) hF
        · replace hF := it_f hF hc
          refine lv_iconst (v := 0) X.1 X.2.1 dL_law_754 (by decide) ?_
          exact (no_0 hF).elim
      replace hF := it_f hF hc19
      by_cases hc20 : ((xs v4.toNatClampNeg) &&& 31) = 20
      · replace hF := it_t hF hc20
        refine lv_tableIn (tgt := 756) X.1 X.2.1 dL_law_40 (by rw [hc20]; decide) (by rw [hc20]; decide) (by rw [hc20]; rfl) (by decide) ?_
        refine lv_aload_n X.1 X.2.1 dL_law_756 rfl (lv_at hl 1 rfl) ?_
        refine lv_aload_n X.1 X.2.1 dL_law_757 rfl (lv_at hl 0 rfl) ?_
        refine lv_iload X.1 X.2.1 dL_law_758 (lv_at hl 4 rfl) ?_
        refine lv_iconst (v := 1) X.1 X.2.1 dL_law_760 (by decide) ?_
        refine lv_iadd X.1 X.2.1 dL_law_761 ?_
        obtain ⟨hin, hF⟩ := ck_ex hF
        refine va_sld X.1 X.2.1 hX0 hbl hbA hS hin dL_law_762 ?_
        refine lv_aload_n X.1 X.2.1 dL_law_763 rfl (lv_at hl 0 rfl) ?_
        refine lv_iload X.1 X.2.1 dL_law_764 (lv_at hl 4 rfl) ?_
        refine lv_iconst (v := 2) X.1 X.2.1 dL_law_766 (by decide) ?_
        refine lv_iadd X.1 X.2.1 dL_law_767 ?_
        obtain ⟨hin, hF⟩ := ck_ex hF
        refine va_sld X.1 X.2.1 hX0 hbl hbA hS hin dL_law_768 ?_
        refine lv_aload_n X.1 X.2.1 dL_law_769 rfl (lv_at hl 0 rfl) ?_
        refine lv_iload X.1 X.2.1 dL_law_770 (lv_at hl 4 rfl) ?_
        refine lv_iconst (v := 3) X.1 X.2.1 dL_law_772 (by decide) ?_
        refine lv_iadd X.1 X.2.1 dL_law_773 ?_
        obtain ⟨hin, hF⟩ := ck_ex hF
        refine va_sld X.1 X.2.1 hX0 hbl hbA hS hin dL_law_774 ?_
        refine lv_aload_n X.1 X.2.1 dL_law_775 rfl (lv_at hl 0 rfl) ?_
        refine lv_iload X.1 X.2.1 dL_law_776 (lv_at hl 4 rfl) ?_
        refine lv_iconst (v := 4) X.1 X.2.1 dL_law_778 (by decide) ?_
        refine lv_iadd X.1 X.2.1 dL_law_779 ?_
        obtain ⟨hin, hF⟩ := ck_ex hF
        refine va_sld X.1 X.2.1 hX0 hbl hbA hS hin dL_law_780 ?_
        obtain ⟨r92, σ91, hz, hF⟩ := b2_ex hF
        refine gx_rI (gx_runV (As := [.int (xs (v4 + 1).toNatClampNeg), .int (xs (v4 + 2).toNatClampNeg), .int (xs (v4 + 3).toNatClampNeg), .int (xs (v4 + 4).toNatClampNeg)]) (rest := []) X hG hS hT_v1.1 (hT_v1.eq (by decide)) (by decide) rfl (c_X11_worlds l D cA s.heap.size ad σ n v1 (xs (v4 + 1).toNatClampNeg) (xs (v4 + 2).toNatClampNeg) (xs (v4 + 3).toNatClampNeg) (xs (v4 + 4).toNatClampNeg) hT_v1 hz) k_713 k_710 k_711 k_712 k_1 (h_X11_worlds) rfl rfl ⟨by decide +kernel, by decide +kernel⟩ rfl hl.1 rfl (Nat.le_of_ble_eq_true rfl) dL_law_781 ⟨by show _ ≤ 601024; omega, by show _ ≤ 7293034; omega⟩) hS (fun H locs hG hS hX => ?_)
        have hT_v1 := hX.T hT_v1
        have hT_v2 := hX.T hT_v2
        have hT_v3 := hX.T hT_v3
        replace hE := hE.trans hX
        refine lv_aload_n X.1 X.2.1 dL_law_784 rfl (lv_at hl 2 rfl) ?_
        refine lv_aload_n X.1 X.2.1 dL_law_785 rfl (lv_at hl 0 rfl) ?_
        refine lv_iload X.1 X.2.1 dL_law_786 (lv_at hl 4 rfl) ?_
        refine lv_iconst (v := 1) X.1 X.2.1 dL_law_788 (by decide) ?_
        refine lv_iadd X.1 X.2.1 dL_law_789 ?_
        obtain ⟨hin, hF⟩ := ck_ex hF
        refine va_sld X.1 X.2.1 hX0 hbl hbA hS hin dL_law_790 ?_
        refine lv_aload_n X.1 X.2.1 dL_law_791 rfl (lv_at hl 0 rfl) ?_
        refine lv_iload X.1 X.2.1 dL_law_792 (lv_at hl 4 rfl) ?_
        refine lv_iconst (v := 2) X.1 X.2.1 dL_law_794 (by decide) ?_
        refine lv_iadd X.1 X.2.1 dL_law_795 ?_
        obtain ⟨hin, hF⟩ := ck_ex hF
        refine va_sld X.1 X.2.1 hX0 hbl hbA hS hin dL_law_796 ?_
        refine lv_aload_n X.1 X.2.1 dL_law_797 rfl (lv_at hl 0 rfl) ?_
        refine lv_iload X.1 X.2.1 dL_law_798 (lv_at hl 4 rfl) ?_
        refine lv_iconst (v := 3) X.1 X.2.1 dL_law_800 (by decide) ?_
        refine lv_iadd X.1 X.2.1 dL_law_801 ?_
        obtain ⟨hin, hF⟩ := ck_ex hF
        refine va_sld X.1 X.2.1 hX0 hbl hbA hS hin dL_law_802 ?_
        refine lv_aload_n X.1 X.2.1 dL_law_803 rfl (lv_at hl 0 rfl) ?_
        refine lv_iload X.1 X.2.1 dL_law_804 (lv_at hl 4 rfl) ?_
        refine lv_iconst (v := 4) X.1 X.2.1 dL_law_806 (by decide) ?_
        refine lv_iadd X.1 X.2.1 dL_law_807 ?_
        obtain ⟨hin, hF⟩ := ck_ex hF
        refine va_sld X.1 X.2.1 hX0 hbl hbA hS hin dL_law_808 ?_
        obtain ⟨r94, σ93, hz, hF⟩ := b2_ex hF
        refine gx_rI (gx_runV (As := [.int (xs (v4 + 1).toNatClampNeg), .int (xs (v4 + 2).toNatClampNeg), .int (xs (v4 + 3).toNatClampNeg), .int (xs (v4 + 4).toNatClampNeg)]) (rest := [.int r92]) X hG hS hT_v2.1 (hT_v2.eq (by decide)) (by decide) rfl (c_X12_worlds l D cA s.heap.size ad σ91 n v2 (xs (v4 + 1).toNatClampNeg) (xs (v4 + 2).toNatClampNeg) (xs (v4 + 3).toNatClampNeg) (xs (v4 + 4).toNatClampNeg) hT_v2 hz) k_1330 k_1327 k_1328 k_1329 k_4 (h_X12_worlds) rfl rfl ⟨by decide +kernel, by decide +kernel⟩ rfl hl.1 rfl (Nat.le_of_ble_eq_true rfl) dL_law_809 ⟨by show _ ≤ 601024; omega, by show _ ≤ 7293034; omega⟩) hS (fun H locs hG hS hX => ?_)
        have hT_v1 := hX.T hT_v1
        have hT_v2 := hX.T hT_v2
        have hT_v3 := hX.T hT_v3
        replace hE := hE.trans hX
        refine lv_icmp_eq (tgt := 1205) X.1 X.2.1 dL_law_812 (by decide) (fun hc => ?_) (fun hc => ?_)
        · replace hF := it_t hF hc
          exact w_L_law_1205 hl0 X hXX hX0 hbl n f (F_L_law_23 n L xs f) ih v1 v2 v3 v4 σ93 ad _ _ ls _ _ (by omega) (by omega) hT_v1 hT_v2 hT_v3 hG hS (lv_sub hl [0, 1, 2, 3, 4] rfl) hF
        · replace hF := it_f hF hc
          refine lv_iconst (v := 0) X.1 X.2.1 dL_law_815 (by decide) ?_
          exact (no_0 hF).elim
      replace hF := it_f hF hc20
      by_cases hc21 : ((xs v4.toNatClampNeg) &&& 31) = 21
      · replace hF := it_t hF hc21
        refine lv_tableIn (tgt := 817) X.1 X.2.1 dL_law_40 (by rw [hc21]; decide) (by rw [hc21]; decide) (by rw [hc21]; rfl) (by decide) ?_
        refine lv_aload_n X.1 X.2.1 dL_law_817 rfl (lv_at hl 1 rfl) ?_
        obtain ⟨r96, σ95, hz, hF⟩ := b2_ex hF
        refine gx_rI (gx_runV (As := []) (rest := []) X hG hS hT_v1.1 (hT_v1.eq (by decide)) (by decide) rfl (c_X11_image l D cA s.heap.size ad σ n v1 hT_v1 hz) k_728 k_725 k_726 k_727 k_1 (h_X11_image) rfl rfl ⟨by decide +kernel, by decide +kernel⟩ rfl hl.1 rfl (Nat.le_of_ble_eq_true rfl) dL_law_818 ⟨by show _ ≤ 601024; omega, by show _ ≤ 7293034; omega⟩) hS (fun H locs hG hS hX => ?_)
        have hT_v1 := hX.T hT_v1
        have hT_v2 := hX.T hT_v2
        have hT_v3 := hX.T hT_v3
        replace hE := hE.trans hX
        refine lv_aload_n X.1 X.2.1 dL_law_821 rfl (lv_at hl 2 rfl) ?_
        obtain ⟨r98, σ97, hz, hF⟩ := b2_ex hF
        refine gx_rI (gx_runV (As := []) (rest := [.int r96]) X hG hS hT_v2.1 (hT_v2.eq (by decide)) (by decide) rfl (c_X12_image l D cA s.heap.size ad σ95 n v2 hT_v2 hz) k_1338 k_1335 k_1336 k_1337 k_4 (h_X12_image) rfl rfl ⟨by decide +kernel, by decide +kernel⟩ rfl hl.1 rfl (Nat.le_of_ble_eq_true rfl) dL_law_822 ⟨by show _ ≤ 601024; omega, by show _ ≤ 7293034; omega⟩) hS (fun H locs hG hS hX => ?_)
        have hT_v1 := hX.T hT_v1
        have hT_v2 := hX.T hT_v2
        have hT_v3 := hX.T hT_v3
        replace hE := hE.trans hX
        refine lv_icmp_eq (tgt := 1205) X.1 X.2.1 dL_law_825 (by decide) (fun hc => ?_) (fun hc => ?_)
        · replace hF := it_t hF hc
          exact w_L_law_1205 hl0 X hXX hX0 hbl n f (F_L_law_23 n L xs f) ih v1 v2 v3 v4 σ97 ad _ _ ls _ _ (by omega) (by omega) hT_v1 hT_v2 hT_v3 hG hS (lv_sub hl [0, 1, 2, 3, 4] rfl) hF
        · replace hF := it_f hF hc
          refine lv_iconst (v := 0) X.1 X.2.1 dL_law_828 (by decide) ?_
          exact (no_0 hF).elim
      replace hF := it_f hF hc21
      by_cases hc22 : ((xs v4.toNatClampNeg) &&& 31) = 22
      · replace hF := it_t hF hc22
        refine lv_tableIn (tgt := 830) X.1 X.2.1 dL_law_40 (by rw [hc22]; decide) (by rw [hc22]; decide) (by rw [hc22]; rfl) (by decide) ?_
        refine lv_aload_n X.1 X.2.1 dL_law_830 rfl (lv_at hl 1 rfl) ?_
        obtain ⟨r100, σ99, hz, hF⟩ := b2_ex hF
        refine gx_rI (gx_runV (As := []) (rest := []) X hG hS hT_v1.1 (hT_v1.eq (by decide)) (by decide) rfl (c_X11_restore l D cA s.heap.size ad σ n v1 hT_v1 hz) k_738 k_735 k_736 k_737 k_1 (h_X11_restore) rfl rfl ⟨by decide +kernel, by decide +kernel⟩ rfl hl.1 rfl (Nat.le_of_ble_eq_true rfl) dL_law_831 ⟨by show _ ≤ 601024; omega, by show _ ≤ 7293034; omega⟩) hS (fun H locs hG hS hX => ?_)
        have hT_v1 := hX.T hT_v1
        have hT_v2 := hX.T hT_v2
        have hT_v3 := hX.T hT_v3
        replace hE := hE.trans hX
        refine lv_aload_n X.1 X.2.1 dL_law_834 rfl (lv_at hl 2 rfl) ?_
        obtain ⟨r102, σ101, hz, hF⟩ := b2_ex hF
        refine gx_rI (gx_runV (As := []) (rest := [.int r100]) X hG hS hT_v2.1 (hT_v2.eq (by decide)) (by decide) rfl (c_X12_restore l D cA s.heap.size ad σ99 n v2 hT_v2 hz) k_1342 k_1339 k_1340 k_1341 k_4 (h_X12_restore) rfl rfl ⟨by decide +kernel, by decide +kernel⟩ rfl hl.1 rfl (Nat.le_of_ble_eq_true rfl) dL_law_835 ⟨by show _ ≤ 601024; omega, by show _ ≤ 7293034; omega⟩) hS (fun H locs hG hS hX => ?_)
        have hT_v1 := hX.T hT_v1
        have hT_v2 := hX.T hT_v2
        have hT_v3 := hX.T hT_v3
        replace hE := hE.trans hX
        refine lv_icmp_eq (tgt := 1205) X.1 X.2.1 dL_law_838 (by decide) (fun hc => ?_) (fun hc => ?_)
        · replace hF := it_t hF hc
          exact w_L_law_1205 hl0 X hXX hX0 hbl n f (F_L_law_23 n L xs f) ih v1 v2 v3 v4 σ101 ad _ _ ls _ _ (by omega) (by omega) hT_v1 hT_v2 hT_v3 hG hS (lv_sub hl [0, 1, 2, 3, 4] rfl) hF
        · replace hF := it_f hF hc
          refine lv_iconst (v := 0) X.1 X.2.1 dL_law_841 (by decide) ?_
          exact (no_0 hF).elim
      replace hF := it_f hF hc22
      by_cases hc23 : ((xs v4.toNatClampNeg) &&& 31) = 23
      · replace hF := it_t hF hc23
        refine lv_tableIn (tgt := 843) X.1 X.2.1 dL_law_40 (by rw [hc23]; decide) (by rw [hc23]; decide) (by rw [hc23]; rfl) (by decide) ?_
        refine lv_aload_n X.1 X.2.1 dL_law_843 rfl (lv_at hl 1 rfl) ?_
        refine lv_aload_n X.1 X.2.1 dL_law_844 rfl (lv_at hl 0 rfl) ?_
        refine lv_iload X.1 X.2.1 dL_law_845 (lv_at hl 4 rfl) ?_
        refine lv_iconst (v := 1) X.1 X.2.1 dL_law_847 (by decide) ?_
        refine lv_iadd X.1 X.2.1 dL_law_848 ?_
        obtain ⟨hin, hF⟩ := ck_ex hF
        refine va_sld X.1 X.2.1 hX0 hbl hbA hS hin dL_law_849 ?_
        obtain ⟨r104, σ103, hz, hF⟩ := b2_ex hF
        refine gx_rI (gx_runV (As := [.int (xs (v4 + 1).toNatClampNeg)]) (rest := []) X hG hS hT_v1.1 (hT_v1.eq (by decide)) (by decide) rfl (c_X11_count l D cA s.heap.size ad σ n v1 (xs (v4 + 1).toNatClampNeg) hT_v1 hz) k_742 k_739 k_740 k_741 k_1 (h_X11_count) rfl rfl ⟨by decide +kernel, by decide +kernel⟩ rfl hl.1 rfl (Nat.le_of_ble_eq_true rfl) dL_law_850 ⟨by show _ ≤ 601024; omega, by show _ ≤ 7293034; omega⟩) hS (fun H locs hG hS hX => ?_)
        have hT_v1 := hX.T hT_v1
        have hT_v2 := hX.T hT_v2
        have hT_v3 := hX.T hT_v3
        replace hE := hE.trans hX
        refine lv_aload_n X.1 X.2.1 dL_law_853 rfl (lv_at hl 2 rfl) ?_
        refine lv_aload_n X.1 X.2.1 dL_law_854 rfl (lv_at hl 0 rfl) ?_
        refine lv_iload X.1 X.2.1 dL_law_855 (lv_at hl 4 rfl) ?_
        refine lv_iconst (v := 1) X.1 X.2.1 dL_law_857 (by decide) ?_
        refine lv_iadd X.1 X.2.1 dL_law_858 ?_
        obtain ⟨hin, hF⟩ := ck_ex hF
        refine va_sld X.1 X.2.1 hX0 hbl hbA hS hin dL_law_859 ?_
        obtain ⟨r106, σ105, hz, hF⟩ := b2_ex hF
        refine gx_rI (gx_runV (As := [.int (xs (v4 + 1).toNatClampNeg)]) (rest := [.int r104]) X hG hS hT_v2.1 (hT_v2.eq (by decide)) (by decide) rfl (c_X12_count l D cA s.heap.size ad σ103 n v2 (xs (v4 + 1).toNatClampNeg) hT_v2 hz) k_1346 k_1343 k_1344 k_1345 k_4 (h_X12_count) rfl rfl ⟨by decide +kernel, by decide +kernel⟩ rfl hl.1 rfl (Nat.le_of_ble_eq_true rfl) dL_law_860 ⟨by show _ ≤ 601024; omega, by show _ ≤ 7293034; omega⟩) hS (fun H locs hG hS hX => ?_)
        have hT_v1 := hX.T hT_v1
        have hT_v2 := hX.T hT_v2
        have hT_v3 := hX.T hT_v3
        replace hE := hE.trans hX
        refine lv_icmp_eq (tgt := 1205) X.1 X.2.1 dL_law_863 (by decide) (fun hc => ?_) (fun hc => ?_)
        · replace hF := it_t hF hc
          exact w_L_law_1205 hl0 X hXX hX0 hbl n f (F_L_law_23 n L xs f) ih v1 v2 v3 v4 σ105 ad _ _ ls _ _ (by omega) (by omega) hT_v1 hT_v2 hT_v3 hG hS (lv_sub hl [0, 1, 2, 3, 4] rfl) hF
        · replace hF := it_f hF hc
          refine lv_iconst (v := 0) X.1 X.2.1 dL_law_866 (by decide) ?_
          exact (no_0 hF).elim
      replace hF := it_f hF hc23
      by_cases hc24 : ((xs v4.toNatClampNeg) &&& 31) = 24
      · replace hF := it_t hF hc24
        refine lv_tableIn (tgt := 868) X.1 X.2.1 dL_law_40 (by rw [hc24]; decide) (by rw [hc24]; decide) (by rw [hc24]; rfl) (by decide) ?_
        refine lv_aload_n X.1 X.2.1 dL_law_868 rfl (lv_at hl 1 rfl) ?_
        refine lv_aload_n X.1 X.2.1 dL_law_869 rfl (lv_at hl 0 rfl) ?_
        refine lv_iload X.1 X.2.1 dL_law_870 (lv_at hl 4 rfl) ?_
        refine lv_iconst (v := 1) X.1 X.2.1 dL_law_872 (by decide) ?_
        refine lv_iadd X.1 X.2.1 dL_law_873 ?_
        obtain ⟨hin, hF⟩ := ck_ex hF
        refine va_sld X.1 X.2.1 hX0 hbl hbA hS hin dL_law_874 ?_
        refine lv_aload_n X.1 X.2.1 dL_law_875 rfl (lv_at hl 0 rfl) ?_
        refine lv_iload X.1 X.2.1 dL_law_876 (lv_at hl 4 rfl) ?_
        refine lv_iconst (v := 2) X.1 X.2.1 dL_law_878 (by decide) ?_
        refine lv_iadd X.1 X.2.1 dL_law_879 ?_
        obtain ⟨hin, hF⟩ := ck_ex hF
        refine va_sld X.1 X.2.1 hX0 hbl hbA hS hin dL_law_880 ?_
        refine lv_aload_n X.1 X.2.1 dL_law_881 rfl (lv_at hl 0 rfl) ?_
        refine lv_iload X.1 X.2.1 dL_law_882 (lv_at hl 4 rfl) ?_
        refine lv_iconst (v := 3) X.1 X.2.1 dL_law_884 (by decide) ?_
        refine lv_iadd X.1 X.2.1 dL_law_885 ?_
        obtain ⟨hin, hF⟩ := ck_ex hF
        refine va_sld X.1 X.2.1 hX0 hbl hbA hS hin dL_law_886 ?_
        obtain ⟨r108, σ107, hz, hF⟩ := b2_ex hF
        refine gx_rI (gx_runV (As := [.int (xs (v4 + 1).toNatClampNeg), .int (xs (v4 + 2).toNatClampNeg), .int (xs (v4 + 3).toNatClampNeg)]) (rest := []) X hG hS hT_v1.1 (hT_v1.eq (by decide)) (by decide) rfl (c_X11_keep l D cA s.heap.size ad σ n v1 (xs (v4 + 1).toNatClampNeg) (xs (v4 + 2).toNatClampNeg) (xs (v4 + 3).toNatClampNeg) hT_v1 hz) k_748 k_745 k_746 k_747 k_1 (h_X11_keep) rfl rfl ⟨by decide +kernel, by decide +kernel⟩ rfl hl.1 rfl (Nat.le_of_ble_eq_true rfl) dL_law_887 ⟨by show _ ≤ 601024; omega, by show _ ≤ 7293034; omega⟩) hS (fun H locs hG hS hX => ?_)
        have hT_v1 := hX.T hT_v1
        have hT_v2 := hX.T hT_v2
        have hT_v3 := hX.T hT_v3
        replace hE := hE.trans hX
        refine lv_aload_n X.1 X.2.1 dL_law_890 rfl (lv_at hl 2 rfl) ?_
        refine lv_aload_n X.1 X.2.1 dL_law_891 rfl (lv_at hl 0 rfl) ?_
        refine lv_iload X.1 X.2.1 dL_law_892 (lv_at hl 4 rfl) ?_
        refine lv_iconst (v := 1) X.1 X.2.1 dL_law_894 (by decide) ?_
        refine lv_iadd X.1 X.2.1 dL_law_895 ?_
        obtain ⟨hin, hF⟩ := ck_ex hF
        refine va_sld X.1 X.2.1 hX0 hbl hbA hS hin dL_law_896 ?_
        refine lv_aload_n X.1 X.2.1 dL_law_897 rfl (lv_at hl 0 rfl) ?_
        refine lv_iload X.1 X.2.1 dL_law_898 (lv_at hl 4 rfl) ?_
        refine lv_iconst (v := 2) X.1 X.2.1 dL_law_900 (by decide) ?_
        refine lv_iadd X.1 X.2.1 dL_law_901 ?_
        obtain ⟨hin, hF⟩ := ck_ex hF
        refine va_sld X.1 X.2.1 hX0 hbl hbA hS hin dL_law_902 ?_
        refine lv_aload_n X.1 X.2.1 dL_law_903 rfl (lv_at hl 0 rfl) ?_
        refine lv_iload X.1 X.2.1 dL_law_904 (lv_at hl 4 rfl) ?_
        refine lv_iconst (v := 3) X.1 X.2.1 dL_law_906 (by decide) ?_
        refine lv_iadd X.1 X.2.1 dL_law_907 ?_
        obtain ⟨hin, hF⟩ := ck_ex hF
        refine va_sld X.1 X.2.1 hX0 hbl hbA hS hin dL_law_908 ?_
        obtain ⟨r110, σ109, hz, hF⟩ := b2_ex hF
        refine gx_rI (gx_runV (As := [.int (xs (v4 + 1).toNatClampNeg), .int (xs (v4 + 2).toNatClampNeg), .int (xs (v4 + 3).toNatClampNeg)]) (rest := [.int r108]) X hG hS hT_v2.1 (hT_v2.eq (by decide)) (by decide) rfl (c_X12_keep l D cA s.heap.size ad σ107 n v2 (xs (v4 + 1).toNatClampNeg) (xs (v4 + 2).toNatClampNeg) (xs (v4 + 3).toNatClampNeg) hT_v2 hz) k_1350 k_1347 k_1348 k_1349 k_4 (h_X12_keep) rfl rfl ⟨by decide +kernel, by decide +kernel⟩ rfl hl.1 rfl (Nat.le_of_ble_eq_true rfl) dL_law_909 ⟨by show _ ≤ 601024; omega, by show _ ≤ 7293034; omega⟩) hS (fun H locs hG hS hX => ?_)
        have hT_v1 := hX.T hT_v1
        have hT_v2 := hX.T hT_v2
        have hT_v3 := hX.T hT_v3
        replace hE := hE.trans hX
        refine lv_icmp_eq (tgt := 1205) X.1 X.2.1 dL_law_912 (by decide) (fun hc => ?_) (fun hc => ?_)
        · replace hF := it_t hF hc
          exact w_L_law_1205 hl0 X hXX hX0 hbl n f (F_L_law_23 n L xs f) ih v1 v2 v3 v4 σ109 ad _ _ ls _ _ (by omega) (by omega) hT_v1 hT_v2 hT_v3 hG hS (lv_sub hl [0, 1, 2, 3, 4] rfl) hF
        · replace hF := it_f hF hc
          refine lv_iconst (v := 0) X.1 X.2.1 dL_law_915 (by decide) ?_
          exact (no_0 hF).elim
      replace hF := it_f hF hc24
      by_cases hc25 : ((xs v4.toNatClampNeg) &&& 31) = 25
      · replace hF := it_t hF hc25
        refine lv_tableIn (tgt := 917) X.1 X.2.1 dL_law_40 (by rw [hc25]; decide) (by rw [hc25]; decide) (by rw [hc25]; rfl) (by decide) ?_
        refine lv_aload_n X.1 X.2.1 dL_law_917 rfl (lv_at hl 1 rfl) ?_
        refine lv_aload_n X.1 X.2.1 dL_law_918 rfl (lv_at hl 0 rfl) ?_
        refine lv_iload X.1 X.2.1 dL_law_919 (lv_at hl 4 rfl) ?_
        refine lv_iconst (v := 1) X.1 X.2.1 dL_law_921 (by decide) ?_
        refine lv_iadd X.1 X.2.1 dL_law_922 ?_
        obtain ⟨hin, hF⟩ := ck_ex hF
        refine va_sld X.1 X.2.1 hX0 hbl hbA hS hin dL_law_923 ?_
        refine lv_aload_n X.1 X.2.1 dL_law_924 rfl (lv_at hl 0 rfl) ?_
        refine lv_iload X.1 X.2.1 dL_law_925 (lv_at hl 4 rfl) ?_
        refine lv_iconst (v := 2) X.1 X.2.1 dL_law_927 (by decide) ?_
        refine lv_iadd X.1 X.2.1 dL_law_928 ?_
        obtain ⟨hin, hF⟩ := ck_ex hF
        refine va_sld X.1 X.2.1 hX0 hbl hbA hS hin dL_law_929 ?_
        refine lv_aload_n X.1 X.2.1 dL_law_930 rfl (lv_at hl 0 rfl) ?_
        refine lv_iload X.1 X.2.1 dL_law_931 (lv_at hl 4 rfl) ?_
        refine lv_iconst (v := 3) X.1 X.2.1 dL_law_933 (by decide) ?_
        refine lv_iadd X.1 X.2.1 dL_law_934 ?_
        obtain ⟨hin, hF⟩ := ck_ex hF
        refine va_sld X.1 X.2.1 hX0 hbl hbA hS hin dL_law_935 ?_
        obtain ⟨r112, σ111, hz, hF⟩ := b2_ex hF
        refine gx_rI (gx_runV (As := [.int (xs (v4 + 1).toNatClampNeg), .int (xs (v4 + 2).toNatClampNeg), .int (xs (v4 + 3).toNatClampNeg)]) (rest := []) X hG hS hT_v1.1 (hT_v1.eq (by decide)) (by decide) rfl (c_X11_row l D cA s.heap.size ad σ n v1 (xs (v4 + 1).toNatClampNeg) (xs (v4 + 2).toNatClampNeg) (xs (v4 + 3).toNatClampNeg) hT_v1 hz) k_756 k_753 k_754 k_755 k_1 (h_X11_row) rfl rfl ⟨by decide +kernel, by decide +kernel⟩ rfl hl.1 rfl (Nat.le_of_ble_eq_true rfl) dL_law_936 ⟨by show _ ≤ 601024; omega, by show _ ≤ 7293034; omega⟩) hS (fun H locs hG hS hX => ?_)
        have hT_v1 := hX.T hT_v1
        have hT_v2 := hX.T hT_v2
        have hT_v3 := hX.T hT_v3
        replace hE := hE.trans hX
        refine lv_aload_n X.1 X.2.1 dL_law_939 rfl (lv_at hl 2 rfl) ?_
        refine lv_aload_n X.1 X.2.1 dL_law_940 rfl (lv_at hl 0 rfl) ?_
        refine lv_iload X.1 X.2.1 dL_law_941 (lv_at hl 4 rfl) ?_
        refine lv_iconst (v := 1) X.1 X.2.1 dL_law_943 (by decide) ?_
        refine lv_iadd X.1 X.2.1 dL_law_944 ?_
        obtain ⟨hin, hF⟩ := ck_ex hF
        refine va_sld X.1 X.2.1 hX0 hbl hbA hS hin dL_law_945 ?_
        refine lv_aload_n X.1 X.2.1 dL_law_946 rfl (lv_at hl 0 rfl) ?_
        refine lv_iload X.1 X.2.1 dL_law_947 (lv_at hl 4 rfl) ?_
        refine lv_iconst (v := 2) X.1 X.2.1 dL_law_949 (by decide) ?_
        refine lv_iadd X.1 X.2.1 dL_law_950 ?_
        obtain ⟨hin, hF⟩ := ck_ex hF
        refine va_sld X.1 X.2.1 hX0 hbl hbA hS hin dL_law_951 ?_
        refine lv_aload_n X.1 X.2.1 dL_law_952 rfl (lv_at hl 0 rfl) ?_
        refine lv_iload X.1 X.2.1 dL_law_953 (lv_at hl 4 rfl) ?_
        refine lv_iconst (v := 3) X.1 X.2.1 dL_law_955 (by decide) ?_
        refine lv_iadd X.1 X.2.1 dL_law_956 ?_
        obtain ⟨hin, hF⟩ := ck_ex hF
        refine va_sld X.1 X.2.1 hX0 hbl hbA hS hin dL_law_957 ?_
        obtain ⟨r114, σ113, hz, hF⟩ := b2_ex hF
        refine gx_rI (gx_runV (As := [.int (xs (v4 + 1).toNatClampNeg), .int (xs (v4 + 2).toNatClampNeg), .int (xs (v4 + 3).toNatClampNeg)]) (rest := [.int r112]) X hG hS hT_v2.1 (hT_v2.eq (by decide)) (by decide) rfl (c_X12_row l D cA s.heap.size ad σ111 n v2 (xs (v4 + 1).toNatClampNeg) (xs (v4 + 2).toNatClampNeg) (xs (v4 + 3).toNatClampNeg) hT_v2 hz) k_1358 k_1355 k_1356 k_1357 k_4 (h_X12_row) rfl rfl ⟨by decide +kernel, by decide +kernel⟩ rfl hl.1 rfl (Nat.le_of_ble_eq_true rfl) dL_law_958 ⟨by show _ ≤ 601024; omega, by show _ ≤ 7293034; omega⟩) hS (fun H locs hG hS hX => ?_)
        have hT_v1 := hX.T hT_v1
        have hT_v2 := hX.T hT_v2
        have hT_v3 := hX.T hT_v3
        replace hE := hE.trans hX
        refine lv_icmp_eq (tgt := 1205) X.1 X.2.1 dL_law_961 (by decide) (fun hc => ?_) (fun hc => ?_)
        · replace hF := it_t hF hc
          exact w_L_law_1205 hl0 X hXX hX0 hbl n f (F_L_law_23 n L xs f) ih v1 v2 v3 v4 σ113 ad _ _ ls _ _ (by omega) (by omega) hT_v1 hT_v2 hT_v3 hG hS (lv_sub hl [0, 1, 2, 3, 4] rfl) hF
        · replace hF := it_f hF hc
          refine lv_iconst (v := 0) X.1 X.2.1 dL_law_964 (by decide) ?_
          exact (no_0 hF).elim
      replace hF := it_f hF hc25
      by_cases hc26 : ((xs v4.toNatClampNeg) &&& 31) = 26
      · replace hF := it_t hF hc26
        refine lv_tableIn (tgt := 966) X.1 X.2.1 dL_law_40 (by rw [hc26]; decide) (by rw [hc26]; decide) (by rw [hc26]; rfl) (by decide) ?_
        refine lv_aload_n X.1 X.2.1 dL_law_966 rfl (lv_at hl 1 rfl) ?_
        refine lv_aload_n X.1 X.2.1 dL_law_967 rfl (lv_at hl 0 rfl) ?_
        refine lv_iload X.1 X.2.1 dL_law_968 (lv_at hl 4 rfl) ?_
        refine lv_iconst (v := 1) X.1 X.2.1 dL_law_970 (by decide) ?_
        refine lv_iadd X.1 X.2.1 dL_law_971 ?_
        obtain ⟨hin, hF⟩ := ck_ex hF
        refine va_sld X.1 X.2.1 hX0 hbl hbA hS hin dL_law_972 ?_
        refine lv_aload_n X.1 X.2.1 dL_law_973 rfl (lv_at hl 0 rfl) ?_
        refine lv_iload X.1 X.2.1 dL_law_974 (lv_at hl 4 rfl) ?_
        refine lv_iconst (v := 2) X.1 X.2.1 dL_law_976 (by decide) ?_
        refine lv_iadd X.1 X.2.1 dL_law_977 ?_
        obtain ⟨hin, hF⟩ := ck_ex hF
        refine va_sld X.1 X.2.1 hX0 hbl hbA hS hin dL_law_978 ?_
        refine lv_aload_n X.1 X.2.1 dL_law_979 rfl (lv_at hl 0 rfl) ?_
        refine lv_iload X.1 X.2.1 dL_law_980 (lv_at hl 4 rfl) ?_
        refine lv_iconst (v := 3) X.1 X.2.1 dL_law_982 (by decide) ?_
        refine lv_iadd X.1 X.2.1 dL_law_983 ?_
        obtain ⟨hin, hF⟩ := ck_ex hF
        refine va_sld X.1 X.2.1 hX0 hbl hbA hS hin dL_law_984 ?_
        obtain ⟨r116, σ115, hz, hF⟩ := b2_ex hF
        refine gx_rI (gx_runV (As := [.int (xs (v4 + 1).toNatClampNeg), .int (xs (v4 + 2).toNatClampNeg), .int (xs (v4 + 3).toNatClampNeg)]) (rest := []) X hG hS hT_v1.1 (hT_v1.eq (by decide)) (by decide) rfl (c_X11_put l D cA s.heap.size ad σ n v1 (xs (v4 + 1).toNatClampNeg) (xs (v4 + 2).toNatClampNeg) (xs (v4 + 3).toNatClampNeg) hT_v1 hz) k_764 k_761 k_762 k_763 k_1 (h_X11_put) rfl rfl ⟨by decide +kernel, by decide +kernel⟩ rfl hl.1 rfl (Nat.le_of_ble_eq_true rfl) dL_law_985 ⟨by show _ ≤ 601024; omega, by show _ ≤ 7293034; omega⟩) hS (fun H locs hG hS hX => ?_)
        have hT_v1 := hX.T hT_v1
        have hT_v2 := hX.T hT_v2
        have hT_v3 := hX.T hT_v3
        replace hE := hE.trans hX
        refine lv_aload_n X.1 X.2.1 dL_law_988 rfl (lv_at hl 2 rfl) ?_
        refine lv_aload_n X.1 X.2.1 dL_law_989 rfl (lv_at hl 0 rfl) ?_
        refine lv_iload X.1 X.2.1 dL_law_990 (lv_at hl 4 rfl) ?_
        refine lv_iconst (v := 1) X.1 X.2.1 dL_law_992 (by decide) ?_
        refine lv_iadd X.1 X.2.1 dL_law_993 ?_
        obtain ⟨hin, hF⟩ := ck_ex hF
        refine va_sld X.1 X.2.1 hX0 hbl hbA hS hin dL_law_994 ?_
        refine lv_aload_n X.1 X.2.1 dL_law_995 rfl (lv_at hl 0 rfl) ?_
        refine lv_iload X.1 X.2.1 dL_law_996 (lv_at hl 4 rfl) ?_
        refine lv_iconst (v := 2) X.1 X.2.1 dL_law_998 (by decide) ?_
        refine lv_iadd X.1 X.2.1 dL_law_999 ?_
        obtain ⟨hin, hF⟩ := ck_ex hF
        refine va_sld X.1 X.2.1 hX0 hbl hbA hS hin dL_law_1000 ?_
        refine lv_aload_n X.1 X.2.1 dL_law_1001 rfl (lv_at hl 0 rfl) ?_
        refine lv_iload X.1 X.2.1 dL_law_1002 (lv_at hl 4 rfl) ?_
        refine lv_iconst (v := 3) X.1 X.2.1 dL_law_1004 (by decide) ?_
        refine lv_iadd X.1 X.2.1 dL_law_1005 ?_
        obtain ⟨hin, hF⟩ := ck_ex hF
        refine va_sld X.1 X.2.1 hX0 hbl hbA hS hin dL_law_1006 ?_
        obtain ⟨r118, σ117, hz, hF⟩ := b2_ex hF
        refine gx_rI (gx_runV (As := [.int (xs (v4 + 1).toNatClampNeg), .int (xs (v4 + 2).toNatClampNeg), .int (xs (v4 + 3).toNatClampNeg)]) (rest := [.int r116]) X hG hS hT_v2.1 (hT_v2.eq (by decide)) (by decide) rfl (c_X12_put l D cA s.heap.size ad σ115 n v2 (xs (v4 + 1).toNatClampNeg) (xs (v4 + 2).toNatClampNeg) (xs (v4 + 3).toNatClampNeg) hT_v2 hz) k_1362 k_1359 k_1360 k_1361 k_4 (h_X12_put) rfl rfl ⟨by decide +kernel, by decide +kernel⟩ rfl hl.1 rfl (Nat.le_of_ble_eq_true rfl) dL_law_1007 ⟨by show _ ≤ 601024; omega, by show _ ≤ 7293034; omega⟩) hS (fun H locs hG hS hX => ?_)
        have hT_v1 := hX.T hT_v1
        have hT_v2 := hX.T hT_v2
        have hT_v3 := hX.T hT_v3
        replace hE := hE.trans hX
        refine lv_icmp_eq (tgt := 1205) X.1 X.2.1 dL_law_1010 (by decide) (fun hc => ?_) (fun hc => ?_)
        · replace hF := it_t hF hc
          exact w_L_law_1205 hl0 X hXX hX0 hbl n f (F_L_law_23 n L xs f) ih v1 v2 v3 v4 σ117 ad _ _ ls _ _ (by omega) (by omega) hT_v1 hT_v2 hT_v3 hG hS (lv_sub hl [0, 1, 2, 3, 4] rfl) hF
        · replace hF := it_f hF hc
          refine lv_iconst (v := 0) X.1 X.2.1 dL_law_1013 (by decide) ?_
          exact (no_0 hF).elim
      replace hF := it_f hF hc26
      by_cases hc27 : ((xs v4.toNatClampNeg) &&& 31) = 27
      · replace hF := it_t hF hc27
        refine lv_tableIn (tgt := 1015) X.1 X.2.1 dL_law_40 (by rw [hc27]; decide) (by rw [hc27]; decide) (by rw [hc27]; rfl) (by decide) ?_
        refine lv_aload_n X.1 X.2.1 dL_law_1015 rfl (lv_at hl 1 rfl) ?_
        refine lv_aload_n X.1 X.2.1 dL_law_1016 rfl (lv_at hl 0 rfl) ?_
        refine lv_iload X.1 X.2.1 dL_law_1017 (lv_at hl 4 rfl) ?_
        refine lv_iconst (v := 1) X.1 X.2.1 dL_law_1019 (by decide) ?_
        refine lv_iadd X.1 X.2.1 dL_law_1020 ?_
        obtain ⟨hin, hF⟩ := ck_ex hF
        refine va_sld X.1 X.2.1 hX0 hbl hbA hS hin dL_law_1021 ?_
        refine lv_aload_n X.1 X.2.1 dL_law_1022 rfl (lv_at hl 0 rfl) ?_
        refine lv_iload X.1 X.2.1 dL_law_1023 (lv_at hl 4 rfl) ?_
        refine lv_iconst (v := 2) X.1 X.2.1 dL_law_1025 (by decide) ?_
        refine lv_iadd X.1 X.2.1 dL_law_1026 ?_
        obtain ⟨hin, hF⟩ := ck_ex hF
        refine va_sld X.1 X.2.1 hX0 hbl hbA hS hin dL_law_1027 ?_
        refine lv_aload_n X.1 X.2.1 dL_law_1028 rfl (lv_at hl 3 rfl) ?_
        obtain ⟨r120, σ119, hz, hF⟩ := b2_ex hF
        refine gx_rIm (gxx_runSW (As := [.ref (ad v1), .int (xs (v4 + 1).toNatClampNeg), .int (xs (v4 + 2).toNatClampNeg), .ref (ad v3)]) (rest := []) X hXX hG hS (c_L_element l hl0 D cA s.heap.size ad σ n v1 (xs (v4 + 1).toNatClampNeg) (xs (v4 + 2).toNatClampNeg) v3 hT_v1 hT_v3 hz) k_943 k_941 k_942 k_0 h_L_element rfl rfl ⟨by decide +kernel, by decide +kernel⟩ rfl hl.1 rfl (Nat.le_of_ble_eq_true rfl) dL_law_1029 ⟨by show _ ≤ 601024; omega, by show _ ≤ 7293034; omega⟩) hS (fun H locs hG hS hX => ?_)
        have hT_v1 := hX.T hT_v1
        have hT_v2 := hX.T hT_v2
        have hT_v3 := hX.T hT_v3
        replace hE := hE.trans hX
        refine lv_istore (lv' := [(5, .int r120), (0, .ref b), (1, .ref (ad v1)), (2, .ref (ad v2)), (3, .ref (ad v3)), (4, .int v4)]) X.1 X.2.1 dL_law_1032 hl (by decide) rfl (fun ls hl => ?_)
        refine lv_aload_n X.1 X.2.1 dL_law_1034 rfl (lv_at hl 3 rfl) ?_
        refine lv_aload_n X.1 X.2.1 dL_law_1035 rfl (lv_at hl 1 rfl) ?_
        refine lv_iload X.1 X.2.1 dL_law_1036 (lv_at hl 5 rfl) ?_
        refine lv_iconst (v := 1) X.1 X.2.1 dL_law_1038 (by decide) ?_
        refine lv_iadd X.1 X.2.1 dL_law_1039 ?_
        obtain ⟨hin, hF⟩ := ck_ex hF
        refine va_sld X.1 X.2.1 hX0 hbl hbA hS hin dL_law_1040 ?_
        refine lv_aload_n X.1 X.2.1 dL_law_1041 rfl (lv_at hl 1 rfl) ?_
        refine lv_iload X.1 X.2.1 dL_law_1042 (lv_at hl 5 rfl) ?_
        refine lv_iconst (v := 2) X.1 X.2.1 dL_law_1044 (by decide) ?_
        refine lv_iadd X.1 X.2.1 dL_law_1045 ?_
        obtain ⟨hin, hF⟩ := ck_ex hF
        refine va_sld X.1 X.2.1 hX0 hbl hbA hS hin dL_law_1046 ?_
        obtain ⟨r122, σ121, hz, hF⟩ := b2_ex hF
        refine gx_rL (gx_runV (As := [.int (xs (v4 + 1).toNatClampNeg), .int (xs (v4 + 2).toNatClampNeg)]) (rest := []) X hG hS hT_v2.1 (hT_v2.eq (by decide)) (by decide) rfl (c_X12_element l D cA s.heap.size ad σ119 n v2 (xs (v4 + 1).toNatClampNeg) (xs (v4 + 2).toNatClampNeg) hT_v2 hz) k_1366 k_1363 k_1364 k_1365 k_4 (h_X12_element) rfl rfl ⟨by decide +kernel, by decide +kernel⟩ rfl hl.1 rfl (Nat.le_of_ble_eq_true rfl) dL_law_1047 ⟨by show _ ≤ 601024; omega, by show _ ≤ 7293034; omega⟩) hS (fun H locs hG hS hX => ?_)
        have hT_v1 := hX.T hT_v1
        have hT_v2 := hX.T hT_v2
        have hT_v3 := hX.T hT_v3
        replace hE := hE.trans hX
        refine lv_lstore (lv' := [(6, .long r122), (5, .int r120), (0, .ref b), (1, .ref (ad v1)), (2, .ref (ad v2)), (3, .ref (ad v3)), (4, .int v4)]) X.1 X.2.1 dL_law_1050 hl (by decide) rfl (fun ls hl => ?_)
        refine lv_aload_n X.1 X.2.1 dL_law_1052 rfl (lv_at hl 4 rfl) ?_
        obtain ⟨r124, σ123, hz, hF⟩ := b2_ex hF
        refine gx_rI (gx_runV (As := []) (rest := []) X hG hS hT_v2.1 (hT_v2.eq (by decide)) (by decide) rfl (c_X12_thrown l D cA s.heap.size ad σ121 n v2 hT_v2 hz) k_1054 k_1051 k_1052 k_1053 k_4 (h_X12_thrown) rfl rfl ⟨by decide +kernel, by decide +kernel⟩ rfl hl.1 rfl (Nat.le_of_ble_eq_true rfl) dL_law_1053 ⟨by show _ ≤ 601024; omega, by show _ ≤ 7293034; omega⟩) hS (fun H locs hG hS hX => ?_)
        have hT_v1 := hX.T hT_v1
        have hT_v2 := hX.T hT_v2
        have hT_v3 := hX.T hT_v3
        replace hE := hE.trans hX
        refine lv_iload X.1 X.2.1 dL_law_1056 (lv_at hl 1 rfl) ?_
        refine lv_icmp_eq (tgt := 1063) X.1 X.2.1 dL_law_1058 (by decide) (fun hc => ?_) (fun hc => ?_)
        · replace hF := it_t hF hc
          refine lv_iload X.1 X.2.1 dL_law_1063 (lv_at hl 1 rfl) ?_
          refine lv_if_ne (tgt := 1079) X.1 X.2.1 dL_law_1065 (by decide) (fun hc => ?_) (fun hc => ?_)
          · replace hF := it_f hF hc
            refine lv_goto (tgt := 1205) X.1 X.2.1 dL_law_1079 (by decide) ?_
            exact w_L_law_1205 hl0 X hXX hX0 hbl n f (F_L_law_23 n L xs f) ih v1 v2 v3 v4 σ123 ad _ _ ls _ _ (by omega) (by omega) hT_v1 hT_v2 hT_v3 hG hS (lv_sub hl [2, 3, 4, 5, 6] rfl) hF
          · replace hF := it_t hF hc
            refine lv_aload_n X.1 X.2.1 dL_law_1068 rfl (lv_at hl 5 rfl) ?_
            refine lv_iconst (v := 0) X.1 X.2.1 dL_law_1069 (by decide) ?_
            refine gx_lald X hG hT_v3 hF dL_law_1070 (fun hF => ?_)
            refine lv_lload X.1 X.2.1 dL_law_1071 (lv_at hl 0 rfl) ?_
            refine W.lcmp X.1 X.2.1 dL_law_1073 ?_
            refine lv_if_eq (tgt := 1079) X.1 X.2.1 dL_law_1074 (by decide) (fun hc => ?_) (fun hc => ?_)
            · replace hF := it_t hF hc
              refine lv_goto (tgt := 1205) X.1 X.2.1 dL_law_1079 (by decide) ?_
              exact w_L_law_1205 hl0 X hXX hX0 hbl n f (F_L_law_23 n L xs f) ih v1 v2 v3 v4 σ123 ad _ _ ls _ _ (by omega) (by omega) hT_v1 hT_v2 hT_v3 hG hS (lv_sub hl [2, 3, 4, 5, 6] rfl) hF
            · replace hF := it_f hF hc
              refine lv_iconst (v := 0) X.1 X.2.1 dL_law_1077 (by decide) ?_
              exact (no_0 hF).elim
        · replace hF := it_f hF hc
          refine lv_iconst (v := 0) X.1 X.2.1 dL_law_1061 (by decide) ?_
          exact (no_0 hF).elim
      replace hF := it_f hF hc27
      by_cases hc28 : ((xs v4.toNatClampNeg) &&& 31) = 28
      · replace hF := it_t hF hc28
        refine lv_tableIn (tgt := 1082) X.1 X.2.1 dL_law_40 (by rw [hc28]; decide) (by rw [hc28]; decide) (by rw [hc28]; rfl) (by decide) ?_
        refine lv_aload_n X.1 X.2.1 dL_law_1082 rfl (lv_at hl 1 rfl) ?_
        refine lv_aload_n X.1 X.2.1 dL_law_1083 rfl (lv_at hl 0 rfl) ?_
        refine lv_iload X.1 X.2.1 dL_law_1084 (lv_at hl 4 rfl) ?_
        refine lv_iconst (v := 1) X.1 X.2.1 dL_law_1086 (by decide) ?_
        refine lv_iadd X.1 X.2.1 dL_law_1087 ?_
        obtain ⟨hin, hF⟩ := ck_ex hF
        refine va_sld X.1 X.2.1 hX0 hbl hbA hS hin dL_law_1088 ?_
        refine lv_aload_n X.1 X.2.1 dL_law_1089 rfl (lv_at hl 0 rfl) ?_
        refine lv_iload X.1 X.2.1 dL_law_1090 (lv_at hl 4 rfl) ?_
        refine lv_iconst (v := 2) X.1 X.2.1 dL_law_1092 (by decide) ?_
        refine lv_iadd X.1 X.2.1 dL_law_1093 ?_
        obtain ⟨hin, hF⟩ := ck_ex hF
        refine va_sld X.1 X.2.1 hX0 hbl hbA hS hin dL_law_1094 ?_
        refine lv_aload_n X.1 X.2.1 dL_law_1095 rfl (lv_at hl 0 rfl) ?_
        refine lv_iload X.1 X.2.1 dL_law_1096 (lv_at hl 4 rfl) ?_
        refine lv_iconst (v := 3) X.1 X.2.1 dL_law_1098 (by decide) ?_
        refine lv_iadd X.1 X.2.1 dL_law_1099 ?_
        obtain ⟨hin, hF⟩ := ck_ex hF
        refine va_sld X.1 X.2.1 hX0 hbl hbA hS hin dL_law_1100 ?_
        refine lv_aload_n X.1 X.2.1 dL_law_1101 rfl (lv_at hl 0 rfl) ?_
        refine lv_iload X.1 X.2.1 dL_law_1102 (lv_at hl 4 rfl) ?_
        refine lv_iconst (v := 4) X.1 X.2.1 dL_law_1104 (by decide) ?_
        refine lv_iadd X.1 X.2.1 dL_law_1105 ?_
        obtain ⟨hin, hF⟩ := ck_ex hF
        refine va_sld X.1 X.2.1 hX0 hbl hbA hS hin dL_law_1106 ?_
        refine lv_aload_n X.1 X.2.1 dL_law_1107 rfl (lv_at hl 0 rfl) ?_
        refine lv_iload X.1 X.2.1 dL_law_1108 (lv_at hl 4 rfl) ?_
        refine lv_iconst (v := 5) X.1 X.2.1 dL_law_1110 (by decide) ?_
        refine lv_iadd X.1 X.2.1 dL_law_1111 ?_
        obtain ⟨hin, hF⟩ := ck_ex hF
        refine va_sld X.1 X.2.1 hX0 hbl hbA hS hin dL_law_1112 ?_
        obtain ⟨r126, σ125, hz, hF⟩ := b2_ex hF
        refine gx_rI (gx_runV (As := [.int (xs (v4 + 1).toNatClampNeg), .int (xs (v4 + 2).toNatClampNeg), .int (xs (v4 + 3).toNatClampNeg), .int (xs (v4 + 4).toNatClampNeg), .int (xs (v4 + 5).toNatClampNeg)]) (rest := []) X hG hS hT_v1.1 (hT_v1.eq (by decide)) (by decide) rfl (c_X11_copy l D cA s.heap.size ad σ n v1 (xs (v4 + 1).toNatClampNeg) (xs (v4 + 2).toNatClampNeg) (xs (v4 + 3).toNatClampNeg) (xs (v4 + 4).toNatClampNeg) (xs (v4 + 5).toNatClampNeg) hT_v1 hz) k_777 k_774 k_775 k_776 k_1 (h_X11_copy) rfl rfl ⟨by decide +kernel, by decide +kernel⟩ rfl hl.1 rfl (Nat.le_of_ble_eq_true rfl) dL_law_1113 ⟨by show _ ≤ 601024; omega, by show _ ≤ 7293034; omega⟩) hS (fun H locs hG hS hX => ?_)
        have hT_v1 := hX.T hT_v1
        have hT_v2 := hX.T hT_v2
        have hT_v3 := hX.T hT_v3
        replace hE := hE.trans hX
        refine lv_aload_n X.1 X.2.1 dL_law_1116 rfl (lv_at hl 2 rfl) ?_
        refine lv_aload_n X.1 X.2.1 dL_law_1117 rfl (lv_at hl 0 rfl) ?_
        refine lv_iload X.1 X.2.1 dL_law_1118 (lv_at hl 4 rfl) ?_
        refine lv_iconst (v := 1) X.1 X.2.1 dL_law_1120 (by decide) ?_
        refine lv_iadd X.1 X.2.1 dL_law_1121 ?_
        obtain ⟨hin, hF⟩ := ck_ex hF
        refine va_sld X.1 X.2.1 hX0 hbl hbA hS hin dL_law_1122 ?_
        refine lv_aload_n X.1 X.2.1 dL_law_1123 rfl (lv_at hl 0 rfl) ?_
        refine lv_iload X.1 X.2.1 dL_law_1124 (lv_at hl 4 rfl) ?_
        refine lv_iconst (v := 2) X.1 X.2.1 dL_law_1126 (by decide) ?_
        refine lv_iadd X.1 X.2.1 dL_law_1127 ?_
        obtain ⟨hin, hF⟩ := ck_ex hF
        refine va_sld X.1 X.2.1 hX0 hbl hbA hS hin dL_law_1128 ?_
        refine lv_aload_n X.1 X.2.1 dL_law_1129 rfl (lv_at hl 0 rfl) ?_
        refine lv_iload X.1 X.2.1 dL_law_1130 (lv_at hl 4 rfl) ?_
        refine lv_iconst (v := 3) X.1 X.2.1 dL_law_1132 (by decide) ?_
        refine lv_iadd X.1 X.2.1 dL_law_1133 ?_
        obtain ⟨hin, hF⟩ := ck_ex hF
        refine va_sld X.1 X.2.1 hX0 hbl hbA hS hin dL_law_1134 ?_
        refine lv_aload_n X.1 X.2.1 dL_law_1135 rfl (lv_at hl 0 rfl) ?_
        refine lv_iload X.1 X.2.1 dL_law_1136 (lv_at hl 4 rfl) ?_
        refine lv_iconst (v := 4) X.1 X.2.1 dL_law_1138 (by decide) ?_
        refine lv_iadd X.1 X.2.1 dL_law_1139 ?_
        obtain ⟨hin, hF⟩ := ck_ex hF
        refine va_sld X.1 X.2.1 hX0 hbl hbA hS hin dL_law_1140 ?_
        refine lv_aload_n X.1 X.2.1 dL_law_1141 rfl (lv_at hl 0 rfl) ?_
        refine lv_iload X.1 X.2.1 dL_law_1142 (lv_at hl 4 rfl) ?_
        refine lv_iconst (v := 5) X.1 X.2.1 dL_law_1144 (by decide) ?_
        refine lv_iadd X.1 X.2.1 dL_law_1145 ?_
        obtain ⟨hin, hF⟩ := ck_ex hF
        refine va_sld X.1 X.2.1 hX0 hbl hbA hS hin dL_law_1146 ?_
        obtain ⟨r128, σ127, hz, hF⟩ := b2_ex hF
        refine gx_rI (gx_runV (As := [.int (xs (v4 + 1).toNatClampNeg), .int (xs (v4 + 2).toNatClampNeg), .int (xs (v4 + 3).toNatClampNeg), .int (xs (v4 + 4).toNatClampNeg), .int (xs (v4 + 5).toNatClampNeg)]) (rest := [.int r126]) X hG hS hT_v2.1 (hT_v2.eq (by decide)) (by decide) rfl (c_X12_copy l D cA s.heap.size ad σ125 n v2 (xs (v4 + 1).toNatClampNeg) (xs (v4 + 2).toNatClampNeg) (xs (v4 + 3).toNatClampNeg) (xs (v4 + 4).toNatClampNeg) (xs (v4 + 5).toNatClampNeg) hT_v2 hz) k_1370 k_1367 k_1368 k_1369 k_4 (h_X12_copy) rfl rfl ⟨by decide +kernel, by decide +kernel⟩ rfl hl.1 rfl (Nat.le_of_ble_eq_true rfl) dL_law_1147 ⟨by show _ ≤ 601024; omega, by show _ ≤ 7293034; omega⟩) hS (fun H locs hG hS hX => ?_)
        have hT_v1 := hX.T hT_v1
        have hT_v2 := hX.T hT_v2
        have hT_v3 := hX.T hT_v3
        replace hE := hE.trans hX
        refine lv_icmp_eq (tgt := 1205) X.1 X.2.1 dL_law_1150 (by decide) (fun hc => ?_) (fun hc => ?_)
        · replace hF := it_t hF hc
          exact w_L_law_1205 hl0 X hXX hX0 hbl n f (F_L_law_23 n L xs f) ih v1 v2 v3 v4 σ127 ad _ _ ls _ _ (by omega) (by omega) hT_v1 hT_v2 hT_v3 hG hS (lv_sub hl [0, 1, 2, 3, 4] rfl) hF
        · replace hF := it_f hF hc
          refine lv_iconst (v := 0) X.1 X.2.1 dL_law_1153 (by decide) ?_
          exact (no_0 hF).elim
      replace hF := it_f hF hc28
      by_cases hc29 : ((xs v4.toNatClampNeg) &&& 31) = 29
      · replace hF := it_t hF hc29
        refine lv_tableIn (tgt := 1155) X.1 X.2.1 dL_law_40 (by rw [hc29]; decide) (by rw [hc29]; decide) (by rw [hc29]; rfl) (by decide) ?_
        refine lv_aload_n X.1 X.2.1 dL_law_1155 rfl (lv_at hl 1 rfl) ?_
        refine lv_aload_n X.1 X.2.1 dL_law_1156 rfl (lv_at hl 0 rfl) ?_
        refine lv_iload X.1 X.2.1 dL_law_1157 (lv_at hl 4 rfl) ?_
        refine lv_iconst (v := 1) X.1 X.2.1 dL_law_1159 (by decide) ?_
        refine lv_iadd X.1 X.2.1 dL_law_1160 ?_
        obtain ⟨hin, hF⟩ := ck_ex hF
        refine va_sld X.1 X.2.1 hX0 hbl hbA hS hin dL_law_1161 ?_
        obtain ⟨r130, σ129, hz, hF⟩ := b2_ex hF
        refine gx_rI (gx_runV (As := [.int (xs (v4 + 1).toNatClampNeg)]) (rest := []) X hG hS hT_v1.1 (hT_v1.eq (by decide)) (by decide) rfl (c_X11_voice l D cA s.heap.size ad σ n v1 (xs (v4 + 1).toNatClampNeg) hT_v1 hz) k_781 k_778 k_779 k_780 k_1 (h_X11_voice) rfl rfl ⟨by decide +kernel, by decide +kernel⟩ rfl hl.1 rfl (Nat.le_of_ble_eq_true rfl) dL_law_1162 ⟨by show _ ≤ 601024; omega, by show _ ≤ 7293034; omega⟩) hS (fun H locs hG hS hX => ?_)
        have hT_v1 := hX.T hT_v1
        have hT_v2 := hX.T hT_v2
        have hT_v3 := hX.T hT_v3
        replace hE := hE.trans hX
        refine lv_aload_n X.1 X.2.1 dL_law_1165 rfl (lv_at hl 2 rfl) ?_
        refine lv_aload_n X.1 X.2.1 dL_law_1166 rfl (lv_at hl 0 rfl) ?_
        refine lv_iload X.1 X.2.1 dL_law_1167 (lv_at hl 4 rfl) ?_
        refine lv_iconst (v := 1) X.1 X.2.1 dL_law_1169 (by decide) ?_
        refine lv_iadd X.1 X.2.1 dL_law_1170 ?_
        obtain ⟨hin, hF⟩ := ck_ex hF
        refine va_sld X.1 X.2.1 hX0 hbl hbA hS hin dL_law_1171 ?_
        obtain ⟨r132, σ131, hz, hF⟩ := b2_ex hF
        refine gx_rI (gx_runV (As := [.int (xs (v4 + 1).toNatClampNeg)]) (rest := [.int r130]) X hG hS hT_v2.1 (hT_v2.eq (by decide)) (by decide) rfl (c_X12_voice l D cA s.heap.size ad σ129 n v2 (xs (v4 + 1).toNatClampNeg) hT_v2 hz) k_1374 k_1371 k_1372 k_1373 k_4 (h_X12_voice) rfl rfl ⟨by decide +kernel, by decide +kernel⟩ rfl hl.1 rfl (Nat.le_of_ble_eq_true rfl) dL_law_1172 ⟨by show _ ≤ 601024; omega, by show _ ≤ 7293034; omega⟩) hS (fun H locs hG hS hX => ?_)
        have hT_v1 := hX.T hT_v1
        have hT_v2 := hX.T hT_v2
        have hT_v3 := hX.T hT_v3
        replace hE := hE.trans hX
        refine lv_icmp_eq (tgt := 1205) X.1 X.2.1 dL_law_1175 (by decide) (fun hc => ?_) (fun hc => ?_)
        · replace hF := it_t hF hc
          exact w_L_law_1205 hl0 X hXX hX0 hbl n f (F_L_law_23 n L xs f) ih v1 v2 v3 v4 σ131 ad _ _ ls _ _ (by omega) (by omega) hT_v1 hT_v2 hT_v3 hG hS (lv_sub hl [0, 1, 2, 3, 4] rfl) hF
        · replace hF := it_f hF hc
          refine lv_iconst (v := 0) X.1 X.2.1 dL_law_1178 (by decide) ?_
          exact (no_0 hF).elim
      replace hF := it_f hF hc29
      by_cases hc30 : ((xs v4.toNatClampNeg) &&& 31) = 30
      · replace hF := it_t hF hc30
        refine lv_tableIn (tgt := 1180) X.1 X.2.1 dL_law_40 (by rw [hc30]; decide) (by rw [hc30]; decide) (by rw [hc30]; rfl) (by decide) ?_
        refine lv_aload_n X.1 X.2.1 dL_law_1180 rfl (lv_at hl 1 rfl) ?_
        refine lv_aload_n X.1 X.2.1 dL_law_1181 rfl (lv_at hl 0 rfl) ?_
        refine lv_iload X.1 X.2.1 dL_law_1182 (lv_at hl 4 rfl) ?_
        refine lv_iconst (v := 1) X.1 X.2.1 dL_law_1184 (by decide) ?_
        refine lv_iadd X.1 X.2.1 dL_law_1185 ?_
        obtain ⟨hin, hF⟩ := ck_ex hF
        refine va_sld X.1 X.2.1 hX0 hbl hbA hS hin dL_law_1186 ?_
        obtain ⟨r134, σ133, hz, hF⟩ := b2_ex hF
        refine gx_rIm (gxx_runVW (As := [.int (xs (v4 + 1).toNatClampNeg)]) (rest := []) X hXX hG hS hT_v1.1 (hT_v1.eq (by decide)) (by decide) rfl (c_X11_toss l hl0 D cA s.heap.size ad σ n v1 (xs (v4 + 1).toNatClampNeg) hT_v1 hz) k_819 k_816 k_817 k_818 k_1 ⟨by decide, by decide, by decide, (show Option.map _ _ = some 1 by decide +kernel)⟩ rfl rfl ⟨by decide +kernel, by decide +kernel⟩ rfl hl.1 rfl (Nat.le_of_ble_eq_true rfl) dL_law_1187 ⟨by show _ ≤ 601024; omega, by show _ ≤ 7293034; omega⟩) hS (fun H locs hG hS hX => ?_)
        have hT_v1 := hX.T hT_v1
        have hT_v2 := hX.T hT_v2
        have hT_v3 := hX.T hT_v3
        replace hE := hE.trans hX
        refine lv_aload_n X.1 X.2.1 dL_law_1190 rfl (lv_at hl 2 rfl) ?_
        refine lv_aload_n X.1 X.2.1 dL_law_1191 rfl (lv_at hl 0 rfl) ?_
        refine lv_iload X.1 X.2.1 dL_law_1192 (lv_at hl 4 rfl) ?_
        refine lv_iconst (v := 1) X.1 X.2.1 dL_law_1194 (by decide) ?_
        refine lv_iadd X.1 X.2.1 dL_law_1195 ?_
        obtain ⟨hin, hF⟩ := ck_ex hF
        refine va_sld X.1 X.2.1 hX0 hbl hbA hS hin dL_law_1196 ?_
        obtain ⟨r136, σ135, hz, hF⟩ := b2_ex hF
        refine gx_rI (gx_runV (As := [.int (xs (v4 + 1).toNatClampNeg)]) (rest := [.int r134]) X hG hS hT_v2.1 (hT_v2.eq (by decide)) (by decide) rfl (c_X12_toss l D cA s.heap.size ad σ133 n v2 (xs (v4 + 1).toNatClampNeg) hT_v2 hz) k_1382 k_1379 k_1380 k_1381 k_4 (h_X12_toss) rfl rfl ⟨by decide +kernel, by decide +kernel⟩ rfl hl.1 rfl (Nat.le_of_ble_eq_true rfl) dL_law_1197 ⟨by show _ ≤ 601024; omega, by show _ ≤ 7293034; omega⟩) hS (fun H locs hG hS hX => ?_)
        have hT_v1 := hX.T hT_v1
        have hT_v2 := hX.T hT_v2
        have hT_v3 := hX.T hT_v3
        replace hE := hE.trans hX
        refine lv_icmp_eq (tgt := 1205) X.1 X.2.1 dL_law_1200 (by decide) (fun hc => ?_) (fun hc => ?_)
        · replace hF := it_t hF hc
          exact w_L_law_1205 hl0 X hXX hX0 hbl n f (F_L_law_23 n L xs f) ih v1 v2 v3 v4 σ135 ad _ _ ls _ _ (by omega) (by omega) hT_v1 hT_v2 hT_v3 hG hS (lv_sub hl [0, 1, 2, 3, 4] rfl) hF
        · replace hF := it_f hF hc
          refine lv_iconst (v := 0) X.1 X.2.1 dL_law_1203 (by decide) ?_
          exact (no_0 hF).elim
      replace hF := it_f hF hc30
      have hz0 := ne_lit hc0 (z := 0) (by decide)
      have hz1 := ne_lit hc1 (z := 1) (by decide)
      have hz2 := ne_lit hc2 (z := 2) (by decide)
      have hz3 := ne_lit hc3 (z := 3) (by decide)
      have hz4 := ne_lit hc4 (z := 4) (by decide)
      have hz5 := ne_lit hc5 (z := 5) (by decide)
      have hz6 := ne_lit hc6 (z := 6) (by decide)
      have hz7 := ne_lit hc7 (z := 7) (by decide)
      have hz8 := ne_lit hc8 (z := 8) (by decide)
      have hz9 := ne_lit hc9 (z := 9) (by decide)
      have hz10 := ne_lit hc10 (z := 10) (by decide)
      have hz11 := ne_lit hc11 (z := 11) (by decide)
      have hz12 := ne_lit hc12 (z := 12) (by decide)
      have hz13 := ne_lit hc13 (z := 13) (by decide)
      have hz14 := ne_lit hc14 (z := 14) (by decide)
      have hz15 := ne_lit hc15 (z := 15) (by decide)
      have hz16 := ne_lit hc16 (z := 16) (by decide)
      have hz17 := ne_lit hc17 (z := 17) (by decide)
      have hz18 := ne_lit hc18 (z := 18) (by decide)
      have hz19 := ne_lit hc19 (z := 19) (by decide)
      have hz20 := ne_lit hc20 (z := 20) (by decide)
      have hz21 := ne_lit hc21 (z := 21) (by decide)
      have hz22 := ne_lit hc22 (z := 22) (by decide)
      have hz23 := ne_lit hc23 (z := 23) (by decide)
      have hz24 := ne_lit hc24 (z := 24) (by decide)
      have hz25 := ne_lit hc25 (z := 25) (by decide)
      have hz26 := ne_lit hc26 (z := 26) (by decide)
      have hz27 := ne_lit hc27 (z := 27) (by decide)
      have hz28 := ne_lit hc28 (z := 28) (by decide)
      have hz29 := ne_lit hc29 (z := 29) (by decide)
      have hz30 := ne_lit hc30 (z := 30) (by decide)
      refine lv_tableOut (tgt := 1205) X.1 X.2.1 dL_law_40 (by omega) (by decide) ?_
      exact w_L_law_1205 hl0 X hXX hX0 hbl n f (F_L_law_23 n L xs f) ih v1 v2 v3 v4 σ ad _ _ ls _ _ (by omega) (by omega) hT_v1 hT_v2 hT_v3 hG hS (lv_sub hl [0, 1, 2, 3, 4] rfl) hF
def F_L_law (n L : Nat) (xs : Nat → Int32) (σ : Hp) : Option (Int32 × Hp) := nb σ 11 0 fun (i1 : Nat) (σ2 : Hp) => b1 (F_X11_init n i1 σ2) fun (σ4 : Hp) => nb σ4 12 0 fun (i6 : Nat) (σ7 : Hp) => b1 (F_X12_init n i6 σ7) fun (σ9 : Hp) => ck (¬ (1 : Int32) < 0 ∧ (1 : Int32).toNatClampNeg ≤ 1) (nb σ9 17 (1 : Int32).toNatClampNeg fun (i11 : Nat) (σ12 : Hp) => F_L_law_23 n L xs n i1 i6 i11 0 σ12)
set_option maxHeartbeats 100000000 in
set_option maxRecDepth 100000 in
theorem w_L_law {b L : Nat} {xs : Nat → Int32} {τ : Hp} (hl0 : l.stackTraces = false) (X : SX D cA s.heap.size p s m #[Value.ref b] meth c code 8 ret R_law) (hXX : EXX s.heap.size ta tb sa s) (hX0 : va_X b L xs s s.heap) (hbl : b < s.heap.size) (n : Nat) (hn : n ≤ 6000) (σ : Hp) (ad : Nat → Nat) (ls : Array Slot) (hG : GW D cA s.heap.size ad σ s.heap) (hl : lv_has ls 8 [(0, .ref b)]) (hF : F_L_law n L xs σ = some (1, τ)) : W p l e room_1 s m #[Value.ref b] below meth c s.heap [] 0 0 (lw_Z below #[Value.ref b] s) (F0 m 0 ls []) := by
  have hbA : ¬ bA s.heap.size b := Nat.not_le.mpr hbl
  have hS : va_S (bA s.heap.size) s.heap s.heap [] := va_S.rf
  have hE := xT.rf σ
  have hA := adE.rf σ ad
  unfold F_L_law at hF
  refine gx_new X hG hS (by decide) rfl inX11 tyX11_ok df11 k_22 k_23 k_1 rfl (by show _ ≤ 601024; omega) (by show _ ≤ 7293034; omega) dL_law_0 hF (fun i1 σ2 ad3 H hG hS hX hA2 hT_i1 hF => ?_)
  replace hA := hA.trans hE.1 hA2
  replace hE := hE.trans hX
  refine lv_dup X.1 X.2.1 dL_law_3 rfl ?_
  obtain ⟨σ4, hz, hF⟩ := b1_ex hF
  refine gx_rVa (gx_runI (As := []) (rest := [.ref (ad3 i1)]) X hG hS (c_X11_init l D cA s.heap.size ad3 σ2 n i1 hT_i1 hz) k_26 k_24 k_25 k_1 rfl (h_X11_init.2) rfl rfl ⟨by decide +kernel, by decide +kernel⟩ rfl hl.1 rfl (Nat.le_of_ble_eq_true rfl) dL_law_4 ⟨by show _ ≤ 601024; omega, by show _ ≤ 7293034; omega⟩) hS (fun ad5 H locs hG hS hX hA2 => ?_)
  refine W.eq (g2 := F0 m 7 ls [.ref (ad5 i1)]) (by rw [hA2 i1 hT_i1.1] <;> rfl) ?_
  replace hA := hA.trans hE.1 hA2
  have hT_i1 := hX.T hT_i1
  replace hE := hE.trans hX
  refine lv_astore_n (lv' := [(1, .ref (ad5 i1)), (0, .ref b)]) X.1 X.2.1 dL_law_7 rfl hl (by decide) rfl (fun ls hl => ?_)
  refine gx_new X hG hS (by decide) rfl inX12 tyX12_ok df12 k_954 k_955 k_4 rfl (by show _ ≤ 601024; omega) (by show _ ≤ 7293034; omega) dL_law_8 hF (fun i6 σ7 ad8 H hG hS hX hA2 hT_i6 hF => ?_)
  have hl : lv_has ls 8 [(1, .ref (ad8 i1)), (0, .ref b)] := by rw [hA2 i1 hT_i1.1]; exact hl
  replace hA := hA.trans hE.1 hA2
  have hT_i1 := hX.T hT_i1
  replace hE := hE.trans hX
  refine lv_dup X.1 X.2.1 dL_law_11 rfl ?_
  obtain ⟨σ9, hz, hF⟩ := b1_ex hF
  refine gx_rVa (gx_runI (As := []) (rest := [.ref (ad8 i6)]) X hG hS (c_X12_init l D cA s.heap.size ad8 σ7 n i6 hT_i6 hz) k_958 k_956 k_957 k_4 rfl (h_X12_init.2) rfl rfl ⟨by decide +kernel, by decide +kernel⟩ rfl hl.1 rfl (Nat.le_of_ble_eq_true rfl) dL_law_12 ⟨by show _ ≤ 601024; omega, by show _ ≤ 7293034; omega⟩) hS (fun ad10 H locs hG hS hX hA2 => ?_)
  have hl : lv_has ls 8 [(1, .ref (ad10 i1)), (0, .ref b)] := by rw [hA2 i1 hT_i1.1]; exact hl
  refine W.eq (g2 := F0 m 15 ls [.ref (ad10 i6)]) (by rw [hA2 i6 hT_i6.1] <;> rfl) ?_
  replace hA := hA.trans hE.1 hA2
  have hT_i1 := hX.T hT_i1
  have hT_i6 := hX.T hT_i6
  replace hE := hE.trans hX
  refine lv_astore_n (lv' := [(2, .ref (ad10 i6)), (1, .ref (ad10 i1)), (0, .ref b)]) X.1 X.2.1 dL_law_15 rfl hl (by decide) rfl (fun ls hl => ?_)
  refine lv_iconst (v := 1) X.1 X.2.1 dL_law_16 (by decide) ?_
  refine gx_newJ (M := 1) X hG hS k_1383 (by show _ ≤ 601024; omega) (by show _ ≤ 7293034; omega) (by decide) dL_law_17 hF (fun i11 σ12 ad13 H hG hS hX hA2 hT_i11 hF => ?_)
  have hl : lv_has ls 8 [(2, .ref (ad13 i6)), (1, .ref (ad13 i1)), (0, .ref b)] := by rw [hA2 i6 hT_i6.1, hA2 i1 hT_i1.1]; exact hl
  replace hA := hA.trans hE.1 hA2
  have hT_i1 := hX.T hT_i1
  have hT_i6 := hX.T hT_i6
  replace hE := hE.trans hX
  refine lv_astore_n (lv' := [(3, .ref (ad13 i11)), (2, .ref (ad13 i6)), (1, .ref (ad13 i1)), (0, .ref b)]) X.1 X.2.1 dL_law_19 rfl hl (by decide) rfl (fun ls hl => ?_)
  refine lv_iconst (v := 0) X.1 X.2.1 dL_law_20 (by decide) ?_
  refine lv_istore (lv' := [(4, .int 0), (3, .ref (ad13 i11)), (2, .ref (ad13 i6)), (1, .ref (ad13 i1)), (0, .ref b)]) X.1 X.2.1 dL_law_21 hl (by decide) rfl (fun ls hl => ?_)
  exact w_L_law_23 hl0 X hXX hX0 hbl n n i1 i6 i11 0 σ12 ad13 _ _ ls _ _ (by omega) (by omega) hT_i1 hT_i6 hT_i11 hG hS (lv_sub hl [4, 3, 2, 1, 0] rfl) hF
end LAW2
