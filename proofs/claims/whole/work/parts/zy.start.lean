/-! THE START: what the constructors bring -/
def V0 : List (Nat × Nat × Nat × List Int32) := [(1, 8, 0, [0, 0, 0, 0, 0, 0, 0, -1]), (2, 13, 600, []), (6, 14, 3, []), (158, 13, 2400, []), (159, 14, 4, []), (160, 14, 4, []), (161, 14, 4, [-1]), (162, 14, 12, []), (187, 16, 3, [])]
set_option maxRecDepth 100000 in
theorem st0_V : V0.all (fun q => match st0[q.1]? with
  | some c => c.1 == q.2.1 && (c.2.1 == q.2.2.1 && (c.2.2.2.1 == q.2.2.2 && c.2.2.1 == 0))
  | none => false) = true := by decide +kernel
set_option maxRecDepth 100000 in
theorem st0_55 : (match st0[55]? with
  | some c => c.2.2.2.2.2 == []
  | none => false) = true := by decide +kernel
set_option maxRecDepth 100000 in
theorem st0_l : st0.length = 188 := by decide +kernel
theorem st0_i {h : mH} {B : Nat} (hh : hp h B [] st0) {q : Nat × Nat × Nat × List Int32} (hq : q ∈ V0) {z : Int} (hz : q.2.1 < 13 ∨ z.toNat < q.2.2.1) : rI h (B + q.1) z = (q.2.2.2.getD z.toNat 0).toInt := by
  have h1 := List.all_eq_true.mp st0_V q hq
  cases hc : st0[q.1]? with
  | none => rw [hc] at h1; cases h1
  | some c =>
    rw [hc] at h1
    simp only [Bool.and_eq_true, beq_iff_eq] at h1
    have h2 := (hh.2 q.1 c hc).2.1 z.toNat (by rw [h1.1, h1.2.1]; exact hz)
    unfold rI
    rw [h2, h1.2.2.1, h1.2.2.2]
theorem st0_n {h : mH} {B : Nat} (hh : hp h B [] st0) (k : Nat) : mR h (B + 55) k = none := by
  have h1 := st0_55
  cases hc : st0[55]? with
  | none => rw [hc] at h1; cases h1
  | some c =>
    rw [hc] at h1
    simp only [beq_iff_eq] at h1
    have h2 := (hh.2 55 c hc).2.2.2 k
    rw [h2, h1]
    rfl
def sg0 : Sg := (fun k => if k = 5 then -1 else 0, fun _ _ => 0, fun _ _ => 0, fun _ _ => 0, fun _ => 0)
theorem sg0_n {s : Int} (n : s ≠ 5) : cn sg0 s = 0 := if_neg n
theorem sg0_5 : cn sg0 5 = -1 := show (if (5 : Int) = 5 then (-1 : Int) else 0) = -1 from if_pos rfl
theorem sg0_w : wfS sg0 := by
  have c0 := sg0_n (s := 0) (by omega)
  have c1 := sg0_n (s := 1) (by omega)
  have c2 := sg0_n (s := 2) (by omega)
  have c3 := sg0_n (s := 3) (by omega)
  have c4 := sg0_n (s := 4) (by omega)
  have c5 := sg0_5
  exact ⟨⟨by omega, by omega, by omega, by omega, by omega, by omega⟩, fun i _ _ => by show (-128 : Int) ≤ 0 ∧ (0 : Int) < 128; omega, fun k a z => by omega, fun k a z => by omega, fun k a z => by omega⟩
theorem st0_z {h : mH} {B o kd l : Nat} (hh : hp h B [] st0) (hq : (o, kd, l, ([] : List Int32)) ∈ V0) {z : Int} (hz : z.toNat < l) : rI h (B + o) z = 0 := by
  have e := st0_i hh hq (z := z) (Or.inr hz)
  rw [e]
  rfl
theorem inv0 {h : mH} {B : Nat} (hh : hp h B [] st0) : Inv B h := by
  have c0 := sg0_n (s := 0) (by omega)
  have c1 := sg0_n (s := 1) (by omega)
  have c2 := sg0_n (s := 2) (by omega)
  have a1 : ∀ z : Int, rI h (B + 1) z = (([0, 0, 0, 0, 0, 0, 0, -1] : List Int32).getD z.toNat 0).toInt := fun z => st0_i hh (q := (1, 8, 0, [0, 0, 0, 0, 0, 0, 0, -1])) (List.mem_of_getElem? (i := 0) rfl) (Or.inl (show 8 < 13 by omega))
  have a4 : rI h (B + 161) 0 = -1 := (st0_i hh (q := (161, 14, 4, [-1])) (List.mem_of_getElem? (i := 6) rfl) (z := 0) (Or.inr (show (0 : Int).toNat < 4 by decide))).trans (by decide)
  refine ⟨st0_bk hh, st0_rk hh, ?_, ⟨sg0, ?_, ?_⟩, fun k a z => Or.inl ⟨st0_n hh _, st0_z hh (o := 187) (kd := 16) (l := 3) (List.mem_of_getElem? (i := 8) rfl) (by omega)⟩, fun k k' t t' _ _ _ _ _ p _ => by rw [st0_n hh] at p; cases p⟩
  · have l := hh.1
    rw [st0_l] at l
    rw [l]
    show B + 188 ≤ B + (0 + 188)
    omega
  · refine ⟨sg0_w, fun i p q => ?_, fun s p q => ?_, ⟨?_, ?_, ?_⟩, fun k a z => by omega, fun k a z => by omega, fun k a z => by omega⟩
    · exact st0_z hh (o := 2) (kd := 13) (l := 600) (List.mem_of_getElem? (i := 1) rfl) (by omega)
    · rw [sg0_n (by omega)]
      exact st0_z hh (o := 6) (kd := 14) (l := 3) (List.mem_of_getElem? (i := 2) rfl) (by omega)
    · rw [sg0_n (by omega), a1]; decide
    · rw [sg0_n (by omega), a1]; decide
    · rw [sg0_5, a1]; decide
  · refine ⟨sg0_w, fun i p q => ?_, fun s p q => ?_, ⟨?_, ?_, ?_⟩, fun k a z => by omega, fun k a z => by omega, fun k a z => by omega⟩
    · exact st0_z hh (o := 158) (kd := 13) (l := 2400) (List.mem_of_getElem? (i := 3) rfl) (by omega)
    · rw [sg0_n (by omega)]
      exact st0_z hh (o := 162) (kd := 14) (l := 12) (List.mem_of_getElem? (i := 7) rfl) (by omega)
    · rw [sg0_n (by omega)]
      exact st0_z hh (o := 159) (kd := 14) (l := 4) (List.mem_of_getElem? (i := 4) rfl) (by omega)
    · rw [sg0_n (by omega)]
      exact st0_z hh (o := 160) (kd := 14) (l := 4) (List.mem_of_getElem? (i := 5) rfl) (by omega)
    · rw [sg0_5]; exact a4
theorem hInv0 : lawInv := fun ad B _ HA => ⟨Inv B, fun _ hh => inv0 hh, fun _ I => ⟨congrArg Prod.fst (bk_s0 I.1), rk_s I.2.1⟩, ⟨op0, op1, op2 HA, op3, op4, op5, op6, op7, op8, op9, op10, op11, op12, op13, op14, op15, op16, op17, op18, op19, op20, op21, op22, op23, op24, op25, op26, op27, op28, op29, op30, op31, op32, op33, op34, op35⟩⟩
