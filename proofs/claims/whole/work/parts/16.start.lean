/-! THE START: what the Statement says of it, as a relation to an empty abstract heap -/
def mKc (j : Nat) : List Int32 := match j with
  | 0 => [1, 0, 0, 0]
  | 1 => [20, 3, 20, 1]
  | 2 => [1, 0, 0]
  | 3 => [70, 20, 9]
  | 4 => [40, 20, 40, 2]
  | 5 => [100, 111, 119, 110]
  | 6 => [117, 112]
  | 7 => [99, 108, 111, 116, 104]
  | 8 => [114, 105, 118, 101, 116]
  | 9 => [104, 101, 97, 116]
  | 10 => [112, 97, 114, 116]
  | 11 => [99, 117, 116]
  | 12 => [103, 114, 105, 110, 100]
  | 13 => [111, 105, 108]
  | 14 => [100, 97, 121]
  | 15 => [110, 111]
  | 16 => [108, 111, 110, 103]
  | 17 => [97, 112, 97, 114, 116]
  | 18 => [114, 111, 117, 103, 104]
  | 19 => [108, 101, 102, 116]
  | _ => []
def NWL0 : List Cond := [Cond.arrayOf (Term.static "BladePairs$Reader" "BLADE_LEAST" "[I") .int, Cond.eq (Term.length (Term.static "BladePairs$Reader" "BLADE_LEAST" "[I")) (.int 4), Cond.eq (Term.elem (Term.static "BladePairs$Reader" "BLADE_LEAST" "[I") (.int 0)) (.int 1), Cond.eq (Term.elem (Term.static "BladePairs$Reader" "BLADE_LEAST" "[I") (.int 1)) (.int 0), Cond.eq (Term.elem (Term.static "BladePairs$Reader" "BLADE_LEAST" "[I") (.int 2)) (.int 0), Cond.eq (Term.elem (Term.static "BladePairs$Reader" "BLADE_LEAST" "[I") (.int 3)) (.int 0), Cond.arrayOf (Term.static "BladePairs$Reader" "BLADE_MOST" "[I") .int, Cond.eq (Term.length (Term.static "BladePairs$Reader" "BLADE_MOST" "[I")) (.int 4), Cond.eq (Term.elem (Term.static "BladePairs$Reader" "BLADE_MOST" "[I") (.int 0)) (.int 20), Cond.eq (Term.elem (Term.static "BladePairs$Reader" "BLADE_MOST" "[I") (.int 1)) (.int 3), Cond.eq (Term.elem (Term.static "BladePairs$Reader" "BLADE_MOST" "[I") (.int 2)) (.int 20), Cond.eq (Term.elem (Term.static "BladePairs$Reader" "BLADE_MOST" "[I") (.int 3)) (.int 1), Cond.arrayOf (Term.static "BladePairs$Reader" "CLOTH_LEAST" "[I") .int, Cond.eq (Term.length (Term.static "BladePairs$Reader" "CLOTH_LEAST" "[I")) (.int 3), Cond.eq (Term.elem (Term.static "BladePairs$Reader" "CLOTH_LEAST" "[I") (.int 0)) (.int 1), Cond.eq (Term.elem (Term.static "BladePairs$Reader" "CLOTH_LEAST" "[I") (.int 1)) (.int 0), Cond.eq (Term.elem (Term.static "BladePairs$Reader" "CLOTH_LEAST" "[I") (.int 2)) (.int 0), Cond.arrayOf (Term.static "BladePairs$Reader" "CLOTH_MOST" "[I") .int, Cond.eq (Term.length (Term.static "BladePairs$Reader" "CLOTH_MOST" "[I")) (.int 3), Cond.eq (Term.elem (Term.static "BladePairs$Reader" "CLOTH_MOST" "[I") (.int 0)) (.int 70)]
set_option maxRecDepth 100000 in
theorem nwl0 : NWL0.all (fun w => decide (w ∈ flatC (Jvm.Cond.and given_1 narrow_1))) = true := by decide +kernel
def NWL20 : List Cond := [Cond.eq (Term.elem (Term.static "BladePairs$Reader" "CLOTH_MOST" "[I") (.int 1)) (.int 20), Cond.eq (Term.elem (Term.static "BladePairs$Reader" "CLOTH_MOST" "[I") (.int 2)) (.int 9), Cond.arrayOf (Term.static "BladePairs$Reader" "CLUE_MOST" "[I") .int, Cond.eq (Term.length (Term.static "BladePairs$Reader" "CLUE_MOST" "[I")) (.int 4), Cond.eq (Term.elem (Term.static "BladePairs$Reader" "CLUE_MOST" "[I") (.int 0)) (.int 40), Cond.eq (Term.elem (Term.static "BladePairs$Reader" "CLUE_MOST" "[I") (.int 1)) (.int 20), Cond.eq (Term.elem (Term.static "BladePairs$Reader" "CLUE_MOST" "[I") (.int 2)) (.int 40), Cond.eq (Term.elem (Term.static "BladePairs$Reader" "CLUE_MOST" "[I") (.int 3)) (.int 2), Cond.exactly (Term.string "BladePairs$Reader" 121) "java/lang/String", Cond.eq (Term.field (Term.string "BladePairs$Reader" 121) "java/lang/String" "coder" "B") (.int 0), Cond.arrayOf (Term.field (Term.string "BladePairs$Reader" 121) "java/lang/String" "value" "[B") .byte, Cond.eq (Term.length (Term.field (Term.string "BladePairs$Reader" 121) "java/lang/String" "value" "[B")) (.int 4), Cond.eq (Term.elem (Term.field (Term.string "BladePairs$Reader" 121) "java/lang/String" "value" "[B") (.int 0)) (.int 100), Cond.eq (Term.elem (Term.field (Term.string "BladePairs$Reader" 121) "java/lang/String" "value" "[B") (.int 1)) (.int 111), Cond.eq (Term.elem (Term.field (Term.string "BladePairs$Reader" 121) "java/lang/String" "value" "[B") (.int 2)) (.int 119), Cond.eq (Term.elem (Term.field (Term.string "BladePairs$Reader" 121) "java/lang/String" "value" "[B") (.int 3)) (.int 110), Cond.exactly (Term.string "BladePairs$Reader" 131) "java/lang/String", Cond.eq (Term.field (Term.string "BladePairs$Reader" 131) "java/lang/String" "coder" "B") (.int 0), Cond.arrayOf (Term.field (Term.string "BladePairs$Reader" 131) "java/lang/String" "value" "[B") .byte, Cond.eq (Term.length (Term.field (Term.string "BladePairs$Reader" 131) "java/lang/String" "value" "[B")) (.int 2)]
set_option maxRecDepth 100000 in
theorem nwl20 : NWL20.all (fun w => decide (w ∈ flatC (Jvm.Cond.and given_1 narrow_1))) = true := by decide +kernel
def NWL40 : List Cond := [Cond.eq (Term.elem (Term.field (Term.string "BladePairs$Reader" 131) "java/lang/String" "value" "[B") (.int 0)) (.int 117), Cond.eq (Term.elem (Term.field (Term.string "BladePairs$Reader" 131) "java/lang/String" "value" "[B") (.int 1)) (.int 112), Cond.exactly (Term.string "BladePairs$Reader" 133) "java/lang/String", Cond.eq (Term.field (Term.string "BladePairs$Reader" 133) "java/lang/String" "coder" "B") (.int 0), Cond.arrayOf (Term.field (Term.string "BladePairs$Reader" 133) "java/lang/String" "value" "[B") .byte, Cond.eq (Term.length (Term.field (Term.string "BladePairs$Reader" 133) "java/lang/String" "value" "[B")) (.int 5), Cond.eq (Term.elem (Term.field (Term.string "BladePairs$Reader" 133) "java/lang/String" "value" "[B") (.int 0)) (.int 99), Cond.eq (Term.elem (Term.field (Term.string "BladePairs$Reader" 133) "java/lang/String" "value" "[B") (.int 1)) (.int 108), Cond.eq (Term.elem (Term.field (Term.string "BladePairs$Reader" 133) "java/lang/String" "value" "[B") (.int 2)) (.int 111), Cond.eq (Term.elem (Term.field (Term.string "BladePairs$Reader" 133) "java/lang/String" "value" "[B") (.int 3)) (.int 116), Cond.eq (Term.elem (Term.field (Term.string "BladePairs$Reader" 133) "java/lang/String" "value" "[B") (.int 4)) (.int 104), Cond.exactly (Term.string "BladePairs$Reader" 138) "java/lang/String", Cond.eq (Term.field (Term.string "BladePairs$Reader" 138) "java/lang/String" "coder" "B") (.int 0), Cond.arrayOf (Term.field (Term.string "BladePairs$Reader" 138) "java/lang/String" "value" "[B") .byte, Cond.eq (Term.length (Term.field (Term.string "BladePairs$Reader" 138) "java/lang/String" "value" "[B")) (.int 5), Cond.eq (Term.elem (Term.field (Term.string "BladePairs$Reader" 138) "java/lang/String" "value" "[B") (.int 0)) (.int 114), Cond.eq (Term.elem (Term.field (Term.string "BladePairs$Reader" 138) "java/lang/String" "value" "[B") (.int 1)) (.int 105), Cond.eq (Term.elem (Term.field (Term.string "BladePairs$Reader" 138) "java/lang/String" "value" "[B") (.int 2)) (.int 118), Cond.eq (Term.elem (Term.field (Term.string "BladePairs$Reader" 138) "java/lang/String" "value" "[B") (.int 3)) (.int 101), Cond.eq (Term.elem (Term.field (Term.string "BladePairs$Reader" 138) "java/lang/String" "value" "[B") (.int 4)) (.int 116)]
set_option maxRecDepth 100000 in
theorem nwl40 : NWL40.all (fun w => decide (w ∈ flatC (Jvm.Cond.and given_1 narrow_1))) = true := by decide +kernel
def NWL60 : List Cond := [Cond.exactly (Term.string "BladePairs$Reader" 193) "java/lang/String", Cond.eq (Term.field (Term.string "BladePairs$Reader" 193) "java/lang/String" "coder" "B") (.int 0), Cond.arrayOf (Term.field (Term.string "BladePairs$Reader" 193) "java/lang/String" "value" "[B") .byte, Cond.eq (Term.length (Term.field (Term.string "BladePairs$Reader" 193) "java/lang/String" "value" "[B")) (.int 4), Cond.eq (Term.elem (Term.field (Term.string "BladePairs$Reader" 193) "java/lang/String" "value" "[B") (.int 0)) (.int 104), Cond.eq (Term.elem (Term.field (Term.string "BladePairs$Reader" 193) "java/lang/String" "value" "[B") (.int 1)) (.int 101), Cond.eq (Term.elem (Term.field (Term.string "BladePairs$Reader" 193) "java/lang/String" "value" "[B") (.int 2)) (.int 97), Cond.eq (Term.elem (Term.field (Term.string "BladePairs$Reader" 193) "java/lang/String" "value" "[B") (.int 3)) (.int 116), Cond.exactly (Term.string "BladePairs$Reader" 195) "java/lang/String", Cond.eq (Term.field (Term.string "BladePairs$Reader" 195) "java/lang/String" "coder" "B") (.int 0), Cond.arrayOf (Term.field (Term.string "BladePairs$Reader" 195) "java/lang/String" "value" "[B") .byte, Cond.eq (Term.length (Term.field (Term.string "BladePairs$Reader" 195) "java/lang/String" "value" "[B")) (.int 4), Cond.eq (Term.elem (Term.field (Term.string "BladePairs$Reader" 195) "java/lang/String" "value" "[B") (.int 0)) (.int 112), Cond.eq (Term.elem (Term.field (Term.string "BladePairs$Reader" 195) "java/lang/String" "value" "[B") (.int 1)) (.int 97), Cond.eq (Term.elem (Term.field (Term.string "BladePairs$Reader" 195) "java/lang/String" "value" "[B") (.int 2)) (.int 114), Cond.eq (Term.elem (Term.field (Term.string "BladePairs$Reader" 195) "java/lang/String" "value" "[B") (.int 3)) (.int 116), Cond.exactly (Term.string "BladePairs$Reader" 197) "java/lang/String", Cond.eq (Term.field (Term.string "BladePairs$Reader" 197) "java/lang/String" "coder" "B") (.int 0), Cond.arrayOf (Term.field (Term.string "BladePairs$Reader" 197) "java/lang/String" "value" "[B") .byte, Cond.eq (Term.length (Term.field (Term.string "BladePairs$Reader" 197) "java/lang/String" "value" "[B")) (.int 3)]
set_option maxRecDepth 100000 in
theorem nwl60 : NWL60.all (fun w => decide (w ∈ flatC (Jvm.Cond.and given_1 narrow_1))) = true := by decide +kernel
def NWL80 : List Cond := [Cond.eq (Term.elem (Term.field (Term.string "BladePairs$Reader" 197) "java/lang/String" "value" "[B") (.int 0)) (.int 99), Cond.eq (Term.elem (Term.field (Term.string "BladePairs$Reader" 197) "java/lang/String" "value" "[B") (.int 1)) (.int 117), Cond.eq (Term.elem (Term.field (Term.string "BladePairs$Reader" 197) "java/lang/String" "value" "[B") (.int 2)) (.int 116), Cond.exactly (Term.string "BladePairs$Reader" 199) "java/lang/String", Cond.eq (Term.field (Term.string "BladePairs$Reader" 199) "java/lang/String" "coder" "B") (.int 0), Cond.arrayOf (Term.field (Term.string "BladePairs$Reader" 199) "java/lang/String" "value" "[B") .byte, Cond.eq (Term.length (Term.field (Term.string "BladePairs$Reader" 199) "java/lang/String" "value" "[B")) (.int 5), Cond.eq (Term.elem (Term.field (Term.string "BladePairs$Reader" 199) "java/lang/String" "value" "[B") (.int 0)) (.int 103), Cond.eq (Term.elem (Term.field (Term.string "BladePairs$Reader" 199) "java/lang/String" "value" "[B") (.int 1)) (.int 114), Cond.eq (Term.elem (Term.field (Term.string "BladePairs$Reader" 199) "java/lang/String" "value" "[B") (.int 2)) (.int 105), Cond.eq (Term.elem (Term.field (Term.string "BladePairs$Reader" 199) "java/lang/String" "value" "[B") (.int 3)) (.int 110), Cond.eq (Term.elem (Term.field (Term.string "BladePairs$Reader" 199) "java/lang/String" "value" "[B") (.int 4)) (.int 100), Cond.exactly (Term.string "BladePairs$Reader" 201) "java/lang/String", Cond.eq (Term.field (Term.string "BladePairs$Reader" 201) "java/lang/String" "coder" "B") (.int 0), Cond.arrayOf (Term.field (Term.string "BladePairs$Reader" 201) "java/lang/String" "value" "[B") .byte, Cond.eq (Term.length (Term.field (Term.string "BladePairs$Reader" 201) "java/lang/String" "value" "[B")) (.int 3), Cond.eq (Term.elem (Term.field (Term.string "BladePairs$Reader" 201) "java/lang/String" "value" "[B") (.int 0)) (.int 111), Cond.eq (Term.elem (Term.field (Term.string "BladePairs$Reader" 201) "java/lang/String" "value" "[B") (.int 1)) (.int 105), Cond.eq (Term.elem (Term.field (Term.string "BladePairs$Reader" 201) "java/lang/String" "value" "[B") (.int 2)) (.int 108), Cond.exactly (Term.string "BladePairs$Reader" 203) "java/lang/String"]
set_option maxRecDepth 100000 in
theorem nwl80 : NWL80.all (fun w => decide (w ∈ flatC (Jvm.Cond.and given_1 narrow_1))) = true := by decide +kernel
def NWL100 : List Cond := [Cond.eq (Term.field (Term.string "BladePairs$Reader" 203) "java/lang/String" "coder" "B") (.int 0), Cond.arrayOf (Term.field (Term.string "BladePairs$Reader" 203) "java/lang/String" "value" "[B") .byte, Cond.eq (Term.length (Term.field (Term.string "BladePairs$Reader" 203) "java/lang/String" "value" "[B")) (.int 3), Cond.eq (Term.elem (Term.field (Term.string "BladePairs$Reader" 203) "java/lang/String" "value" "[B") (.int 0)) (.int 100), Cond.eq (Term.elem (Term.field (Term.string "BladePairs$Reader" 203) "java/lang/String" "value" "[B") (.int 1)) (.int 97), Cond.eq (Term.elem (Term.field (Term.string "BladePairs$Reader" 203) "java/lang/String" "value" "[B") (.int 2)) (.int 121), Cond.exactly (Term.string "BladePairs$Reader" 211) "java/lang/String", Cond.eq (Term.field (Term.string "BladePairs$Reader" 211) "java/lang/String" "coder" "B") (.int 0), Cond.arrayOf (Term.field (Term.string "BladePairs$Reader" 211) "java/lang/String" "value" "[B") .byte, Cond.eq (Term.length (Term.field (Term.string "BladePairs$Reader" 211) "java/lang/String" "value" "[B")) (.int 2), Cond.eq (Term.elem (Term.field (Term.string "BladePairs$Reader" 211) "java/lang/String" "value" "[B") (.int 0)) (.int 110), Cond.eq (Term.elem (Term.field (Term.string "BladePairs$Reader" 211) "java/lang/String" "value" "[B") (.int 1)) (.int 111), Cond.exactly (Term.string "BladePairs$Reader" 219) "java/lang/String", Cond.eq (Term.field (Term.string "BladePairs$Reader" 219) "java/lang/String" "coder" "B") (.int 0), Cond.arrayOf (Term.field (Term.string "BladePairs$Reader" 219) "java/lang/String" "value" "[B") .byte, Cond.eq (Term.length (Term.field (Term.string "BladePairs$Reader" 219) "java/lang/String" "value" "[B")) (.int 4), Cond.eq (Term.elem (Term.field (Term.string "BladePairs$Reader" 219) "java/lang/String" "value" "[B") (.int 0)) (.int 108), Cond.eq (Term.elem (Term.field (Term.string "BladePairs$Reader" 219) "java/lang/String" "value" "[B") (.int 1)) (.int 111), Cond.eq (Term.elem (Term.field (Term.string "BladePairs$Reader" 219) "java/lang/String" "value" "[B") (.int 2)) (.int 110), Cond.eq (Term.elem (Term.field (Term.string "BladePairs$Reader" 219) "java/lang/String" "value" "[B") (.int 3)) (.int 103)]
set_option maxRecDepth 100000 in
theorem nwl100 : NWL100.all (fun w => decide (w ∈ flatC (Jvm.Cond.and given_1 narrow_1))) = true := by decide +kernel
def NWL120 : List Cond := [Cond.exactly (Term.string "BladePairs$Reader" 221) "java/lang/String", Cond.eq (Term.field (Term.string "BladePairs$Reader" 221) "java/lang/String" "coder" "B") (.int 0), Cond.arrayOf (Term.field (Term.string "BladePairs$Reader" 221) "java/lang/String" "value" "[B") .byte, Cond.eq (Term.length (Term.field (Term.string "BladePairs$Reader" 221) "java/lang/String" "value" "[B")) (.int 5), Cond.eq (Term.elem (Term.field (Term.string "BladePairs$Reader" 221) "java/lang/String" "value" "[B") (.int 0)) (.int 97), Cond.eq (Term.elem (Term.field (Term.string "BladePairs$Reader" 221) "java/lang/String" "value" "[B") (.int 1)) (.int 112), Cond.eq (Term.elem (Term.field (Term.string "BladePairs$Reader" 221) "java/lang/String" "value" "[B") (.int 2)) (.int 97), Cond.eq (Term.elem (Term.field (Term.string "BladePairs$Reader" 221) "java/lang/String" "value" "[B") (.int 3)) (.int 114), Cond.eq (Term.elem (Term.field (Term.string "BladePairs$Reader" 221) "java/lang/String" "value" "[B") (.int 4)) (.int 116), Cond.exactly (Term.string "BladePairs$Reader" 223) "java/lang/String", Cond.eq (Term.field (Term.string "BladePairs$Reader" 223) "java/lang/String" "coder" "B") (.int 0), Cond.arrayOf (Term.field (Term.string "BladePairs$Reader" 223) "java/lang/String" "value" "[B") .byte, Cond.eq (Term.length (Term.field (Term.string "BladePairs$Reader" 223) "java/lang/String" "value" "[B")) (.int 5), Cond.eq (Term.elem (Term.field (Term.string "BladePairs$Reader" 223) "java/lang/String" "value" "[B") (.int 0)) (.int 114), Cond.eq (Term.elem (Term.field (Term.string "BladePairs$Reader" 223) "java/lang/String" "value" "[B") (.int 1)) (.int 111), Cond.eq (Term.elem (Term.field (Term.string "BladePairs$Reader" 223) "java/lang/String" "value" "[B") (.int 2)) (.int 117), Cond.eq (Term.elem (Term.field (Term.string "BladePairs$Reader" 223) "java/lang/String" "value" "[B") (.int 3)) (.int 103), Cond.eq (Term.elem (Term.field (Term.string "BladePairs$Reader" 223) "java/lang/String" "value" "[B") (.int 4)) (.int 104), Cond.exactly (Term.string "BladePairs$Reader" 225) "java/lang/String", Cond.eq (Term.field (Term.string "BladePairs$Reader" 225) "java/lang/String" "coder" "B") (.int 0)]
set_option maxRecDepth 100000 in
theorem nwl120 : NWL120.all (fun w => decide (w ∈ flatC (Jvm.Cond.and given_1 narrow_1))) = true := by decide +kernel
def NWL140 : List Cond := [Cond.arrayOf (Term.field (Term.string "BladePairs$Reader" 225) "java/lang/String" "value" "[B") .byte, Cond.eq (Term.length (Term.field (Term.string "BladePairs$Reader" 225) "java/lang/String" "value" "[B")) (.int 4), Cond.eq (Term.elem (Term.field (Term.string "BladePairs$Reader" 225) "java/lang/String" "value" "[B") (.int 0)) (.int 108), Cond.eq (Term.elem (Term.field (Term.string "BladePairs$Reader" 225) "java/lang/String" "value" "[B") (.int 1)) (.int 101), Cond.eq (Term.elem (Term.field (Term.string "BladePairs$Reader" 225) "java/lang/String" "value" "[B") (.int 2)) (.int 102), Cond.eq (Term.elem (Term.field (Term.string "BladePairs$Reader" 225) "java/lang/String" "value" "[B") (.int 3)) (.int 116), Cond.eq (Term.static "java/lang/String" "COMPACT_STRINGS" "Z") (.int 1)]
set_option maxRecDepth 100000 in
theorem nwl140 : NWL140.all (fun w => decide (w ∈ flatC (Jvm.Cond.and given_1 narrow_1))) = true := by decide +kernel
theorem nwg {l : List Cond} {args : Array Value} {s : State} {w : Cond} (h : l.all (fun w => decide (w ∈ flatC (Jvm.Cond.and given_1 narrow_1))) = true) (hg : (Jvm.Cond.and given_1 narrow_1).before args s = true) (i : Nat) (hi : l[i]? = some w) : w.before args s = true := flat_of_before _ hg w (of_decide_eq_true (List.all_eq_true.mp h w (List.mem_of_getElem? hi)))
def mKt (j : Nat) : Term := match j with
  | 0 => (Term.static "BladePairs$Reader" "BLADE_LEAST" "[I")
  | 1 => (Term.static "BladePairs$Reader" "BLADE_MOST" "[I")
  | 2 => (Term.static "BladePairs$Reader" "CLOTH_LEAST" "[I")
  | 3 => (Term.static "BladePairs$Reader" "CLOTH_MOST" "[I")
  | 4 => (Term.static "BladePairs$Reader" "CLUE_MOST" "[I")
  | 5 => (Term.string "BladePairs$Reader" 121)
  | 6 => (Term.string "BladePairs$Reader" 131)
  | 7 => (Term.string "BladePairs$Reader" 133)
  | 8 => (Term.string "BladePairs$Reader" 138)
  | 9 => (Term.string "BladePairs$Reader" 193)
  | 10 => (Term.string "BladePairs$Reader" 195)
  | 11 => (Term.string "BladePairs$Reader" 197)
  | 12 => (Term.string "BladePairs$Reader" 199)
  | 13 => (Term.string "BladePairs$Reader" 201)
  | 14 => (Term.string "BladePairs$Reader" 203)
  | 15 => (Term.string "BladePairs$Reader" 211)
  | 16 => (Term.string "BladePairs$Reader" 219)
  | 17 => (Term.string "BladePairs$Reader" 221)
  | 18 => (Term.string "BladePairs$Reader" 223)
  | 19 => (Term.string "BladePairs$Reader" 225)
  | _ => Term.int 0
theorem stA_0 {args : Array Value} {s : State} (hg : (Jvm.Cond.and given_1 narrow_1).before args s = true) : ∃ t : Nat, (mKt 0).eval args s none [] s = some (.ref t) ∧ va_T .int t (mKc 0).length (fun k => .int ((mKc 0).getD k 0)) (fun q => s.heap.size ≤ q) s s.heap := by
  refine va_Tof (tm := mKt 0) (f := fun k => .int ((mKc 0).getD k 0)) (by decide) (nwg nwl0 hg 0 rfl) (va_eqt (nwg nwl0 hg 1 rfl)) (fun i hi => ?_) (fun a ha => Nat.not_le.mpr ha)
  have hi : i < 4 := hi
  match i, hi with
  | 0, _ => exact va_eqt (nwg nwl0 hg 2 rfl)
  | 1, _ => exact va_eqt (nwg nwl0 hg 3 rfl)
  | 2, _ => exact va_eqt (nwg nwl0 hg 4 rfl)
  | 3, _ => exact va_eqt (nwg nwl0 hg 5 rfl)
theorem stA_1 {args : Array Value} {s : State} (hg : (Jvm.Cond.and given_1 narrow_1).before args s = true) : ∃ t : Nat, (mKt 1).eval args s none [] s = some (.ref t) ∧ va_T .int t (mKc 1).length (fun k => .int ((mKc 1).getD k 0)) (fun q => s.heap.size ≤ q) s s.heap := by
  refine va_Tof (tm := mKt 1) (f := fun k => .int ((mKc 1).getD k 0)) (by decide) (nwg nwl0 hg 6 rfl) (va_eqt (nwg nwl0 hg 7 rfl)) (fun i hi => ?_) (fun a ha => Nat.not_le.mpr ha)
  have hi : i < 4 := hi
  match i, hi with
  | 0, _ => exact va_eqt (nwg nwl0 hg 8 rfl)
  | 1, _ => exact va_eqt (nwg nwl0 hg 9 rfl)
  | 2, _ => exact va_eqt (nwg nwl0 hg 10 rfl)
  | 3, _ => exact va_eqt (nwg nwl0 hg 11 rfl)
theorem stA_2 {args : Array Value} {s : State} (hg : (Jvm.Cond.and given_1 narrow_1).before args s = true) : ∃ t : Nat, (mKt 2).eval args s none [] s = some (.ref t) ∧ va_T .int t (mKc 2).length (fun k => .int ((mKc 2).getD k 0)) (fun q => s.heap.size ≤ q) s s.heap := by
  refine va_Tof (tm := mKt 2) (f := fun k => .int ((mKc 2).getD k 0)) (by decide) (nwg nwl0 hg 12 rfl) (va_eqt (nwg nwl0 hg 13 rfl)) (fun i hi => ?_) (fun a ha => Nat.not_le.mpr ha)
  have hi : i < 3 := hi
  match i, hi with
  | 0, _ => exact va_eqt (nwg nwl0 hg 14 rfl)
  | 1, _ => exact va_eqt (nwg nwl0 hg 15 rfl)
  | 2, _ => exact va_eqt (nwg nwl0 hg 16 rfl)
theorem stA_3 {args : Array Value} {s : State} (hg : (Jvm.Cond.and given_1 narrow_1).before args s = true) : ∃ t : Nat, (mKt 3).eval args s none [] s = some (.ref t) ∧ va_T .int t (mKc 3).length (fun k => .int ((mKc 3).getD k 0)) (fun q => s.heap.size ≤ q) s s.heap := by
  refine va_Tof (tm := mKt 3) (f := fun k => .int ((mKc 3).getD k 0)) (by decide) (nwg nwl0 hg 17 rfl) (va_eqt (nwg nwl0 hg 18 rfl)) (fun i hi => ?_) (fun a ha => Nat.not_le.mpr ha)
  have hi : i < 3 := hi
  match i, hi with
  | 0, _ => exact va_eqt (nwg nwl0 hg 19 rfl)
  | 1, _ => exact va_eqt (nwg nwl20 hg 0 rfl)
  | 2, _ => exact va_eqt (nwg nwl20 hg 1 rfl)
theorem stA_4 {args : Array Value} {s : State} (hg : (Jvm.Cond.and given_1 narrow_1).before args s = true) : ∃ t : Nat, (mKt 4).eval args s none [] s = some (.ref t) ∧ va_T .int t (mKc 4).length (fun k => .int ((mKc 4).getD k 0)) (fun q => s.heap.size ≤ q) s s.heap := by
  refine va_Tof (tm := mKt 4) (f := fun k => .int ((mKc 4).getD k 0)) (by decide) (nwg nwl20 hg 2 rfl) (va_eqt (nwg nwl20 hg 3 rfl)) (fun i hi => ?_) (fun a ha => Nat.not_le.mpr ha)
  have hi : i < 4 := hi
  match i, hi with
  | 0, _ => exact va_eqt (nwg nwl20 hg 4 rfl)
  | 1, _ => exact va_eqt (nwg nwl20 hg 5 rfl)
  | 2, _ => exact va_eqt (nwg nwl20 hg 6 rfl)
  | 3, _ => exact va_eqt (nwg nwl20 hg 7 rfl)
theorem stS_5 {args : Array Value} {s : State} (hg : (Jvm.Cond.and given_1 narrow_1).before args s = true) : ∃ t : Nat, (mKt 5).eval args s none [] s = some (.ref t) ∧ mStr s.heap.size (mKc 5).length (fun k => (mKc 5).getD k 0) t s s.heap := by
  obtain ⟨aK, aV, ⟨h1, -⟩, h2⟩ := vk_Sof (N := 1) (tm := fun _ => mKt 5) (len := [4]) (byt := [mKc 5]) (A := fun q => s.heap.size ≤ q) (args := args) (s := s)
    (fun i hi => by obtain rfl : i = 0 := (by omega); decide) (fun i _ => (nwg nwl20 hg 8 rfl)) (fun i _ => (nwg nwl20 hg 9 rfl)) (fun i _ => (nwg nwl20 hg 10 rfl)) (fun i hi => by obtain rfl : i = 0 := (by omega); exact (nwg nwl20 hg 11 rfl))
    (fun i hi n hn => by
      obtain rfl : i = 0 := by omega
      have hn : n < 4 := hn
      match n, hn with
      | 0, _ => exact (nwg nwl20 hg 12 rfl)
      | 1, _ => exact (nwg nwl20 hg 13 rfl)
      | 2, _ => exact (nwg nwl20 hg 14 rfl)
      | 3, _ => exact (nwg nwl20 hg 15 rfl))
    (fun i n hi hn e => absurd (by omega) e) (fun a ha => Nat.not_le.mpr ha)
  obtain ⟨g1, g2, g3, g4⟩ := h1 0 (by omega)
  exact ⟨aK 0, h2 0 (by omega), by decide, aV 0, g1, g3, g2, g4⟩
theorem stS_6 {args : Array Value} {s : State} (hg : (Jvm.Cond.and given_1 narrow_1).before args s = true) : ∃ t : Nat, (mKt 6).eval args s none [] s = some (.ref t) ∧ mStr s.heap.size (mKc 6).length (fun k => (mKc 6).getD k 0) t s s.heap := by
  obtain ⟨aK, aV, ⟨h1, -⟩, h2⟩ := vk_Sof (N := 1) (tm := fun _ => mKt 6) (len := [2]) (byt := [mKc 6]) (A := fun q => s.heap.size ≤ q) (args := args) (s := s)
    (fun i hi => by obtain rfl : i = 0 := (by omega); decide) (fun i _ => (nwg nwl20 hg 16 rfl)) (fun i _ => (nwg nwl20 hg 17 rfl)) (fun i _ => (nwg nwl20 hg 18 rfl)) (fun i hi => by obtain rfl : i = 0 := (by omega); exact (nwg nwl20 hg 19 rfl))
    (fun i hi n hn => by
      obtain rfl : i = 0 := by omega
      have hn : n < 2 := hn
      match n, hn with
      | 0, _ => exact (nwg nwl40 hg 0 rfl)
      | 1, _ => exact (nwg nwl40 hg 1 rfl))
    (fun i n hi hn e => absurd (by omega) e) (fun a ha => Nat.not_le.mpr ha)
  obtain ⟨g1, g2, g3, g4⟩ := h1 0 (by omega)
  exact ⟨aK 0, h2 0 (by omega), by decide, aV 0, g1, g3, g2, g4⟩
theorem stS_7 {args : Array Value} {s : State} (hg : (Jvm.Cond.and given_1 narrow_1).before args s = true) : ∃ t : Nat, (mKt 7).eval args s none [] s = some (.ref t) ∧ mStr s.heap.size (mKc 7).length (fun k => (mKc 7).getD k 0) t s s.heap := by
  obtain ⟨aK, aV, ⟨h1, -⟩, h2⟩ := vk_Sof (N := 1) (tm := fun _ => mKt 7) (len := [5]) (byt := [mKc 7]) (A := fun q => s.heap.size ≤ q) (args := args) (s := s)
    (fun i hi => by obtain rfl : i = 0 := (by omega); decide) (fun i _ => (nwg nwl40 hg 2 rfl)) (fun i _ => (nwg nwl40 hg 3 rfl)) (fun i _ => (nwg nwl40 hg 4 rfl)) (fun i hi => by obtain rfl : i = 0 := (by omega); exact (nwg nwl40 hg 5 rfl))
    (fun i hi n hn => by
      obtain rfl : i = 0 := by omega
      have hn : n < 5 := hn
      match n, hn with
      | 0, _ => exact (nwg nwl40 hg 6 rfl)
      | 1, _ => exact (nwg nwl40 hg 7 rfl)
      | 2, _ => exact (nwg nwl40 hg 8 rfl)
      | 3, _ => exact (nwg nwl40 hg 9 rfl)
      | 4, _ => exact (nwg nwl40 hg 10 rfl))
    (fun i n hi hn e => absurd (by omega) e) (fun a ha => Nat.not_le.mpr ha)
  obtain ⟨g1, g2, g3, g4⟩ := h1 0 (by omega)
  exact ⟨aK 0, h2 0 (by omega), by decide, aV 0, g1, g3, g2, g4⟩
theorem stS_8 {args : Array Value} {s : State} (hg : (Jvm.Cond.and given_1 narrow_1).before args s = true) : ∃ t : Nat, (mKt 8).eval args s none [] s = some (.ref t) ∧ mStr s.heap.size (mKc 8).length (fun k => (mKc 8).getD k 0) t s s.heap := by
  obtain ⟨aK, aV, ⟨h1, -⟩, h2⟩ := vk_Sof (N := 1) (tm := fun _ => mKt 8) (len := [5]) (byt := [mKc 8]) (A := fun q => s.heap.size ≤ q) (args := args) (s := s)
    (fun i hi => by obtain rfl : i = 0 := (by omega); decide) (fun i _ => (nwg nwl40 hg 11 rfl)) (fun i _ => (nwg nwl40 hg 12 rfl)) (fun i _ => (nwg nwl40 hg 13 rfl)) (fun i hi => by obtain rfl : i = 0 := (by omega); exact (nwg nwl40 hg 14 rfl))
    (fun i hi n hn => by
      obtain rfl : i = 0 := by omega
      have hn : n < 5 := hn
      match n, hn with
      | 0, _ => exact (nwg nwl40 hg 15 rfl)
      | 1, _ => exact (nwg nwl40 hg 16 rfl)
      | 2, _ => exact (nwg nwl40 hg 17 rfl)
      | 3, _ => exact (nwg nwl40 hg 18 rfl)
      | 4, _ => exact (nwg nwl40 hg 19 rfl))
    (fun i n hi hn e => absurd (by omega) e) (fun a ha => Nat.not_le.mpr ha)
  obtain ⟨g1, g2, g3, g4⟩ := h1 0 (by omega)
  exact ⟨aK 0, h2 0 (by omega), by decide, aV 0, g1, g3, g2, g4⟩
theorem stS_9 {args : Array Value} {s : State} (hg : (Jvm.Cond.and given_1 narrow_1).before args s = true) : ∃ t : Nat, (mKt 9).eval args s none [] s = some (.ref t) ∧ mStr s.heap.size (mKc 9).length (fun k => (mKc 9).getD k 0) t s s.heap := by
  obtain ⟨aK, aV, ⟨h1, -⟩, h2⟩ := vk_Sof (N := 1) (tm := fun _ => mKt 9) (len := [4]) (byt := [mKc 9]) (A := fun q => s.heap.size ≤ q) (args := args) (s := s)
    (fun i hi => by obtain rfl : i = 0 := (by omega); decide) (fun i _ => (nwg nwl60 hg 0 rfl)) (fun i _ => (nwg nwl60 hg 1 rfl)) (fun i _ => (nwg nwl60 hg 2 rfl)) (fun i hi => by obtain rfl : i = 0 := (by omega); exact (nwg nwl60 hg 3 rfl))
    (fun i hi n hn => by
      obtain rfl : i = 0 := by omega
      have hn : n < 4 := hn
      match n, hn with
      | 0, _ => exact (nwg nwl60 hg 4 rfl)
      | 1, _ => exact (nwg nwl60 hg 5 rfl)
      | 2, _ => exact (nwg nwl60 hg 6 rfl)
      | 3, _ => exact (nwg nwl60 hg 7 rfl))
    (fun i n hi hn e => absurd (by omega) e) (fun a ha => Nat.not_le.mpr ha)
  obtain ⟨g1, g2, g3, g4⟩ := h1 0 (by omega)
  exact ⟨aK 0, h2 0 (by omega), by decide, aV 0, g1, g3, g2, g4⟩
theorem stS_10 {args : Array Value} {s : State} (hg : (Jvm.Cond.and given_1 narrow_1).before args s = true) : ∃ t : Nat, (mKt 10).eval args s none [] s = some (.ref t) ∧ mStr s.heap.size (mKc 10).length (fun k => (mKc 10).getD k 0) t s s.heap := by
  obtain ⟨aK, aV, ⟨h1, -⟩, h2⟩ := vk_Sof (N := 1) (tm := fun _ => mKt 10) (len := [4]) (byt := [mKc 10]) (A := fun q => s.heap.size ≤ q) (args := args) (s := s)
    (fun i hi => by obtain rfl : i = 0 := (by omega); decide) (fun i _ => (nwg nwl60 hg 8 rfl)) (fun i _ => (nwg nwl60 hg 9 rfl)) (fun i _ => (nwg nwl60 hg 10 rfl)) (fun i hi => by obtain rfl : i = 0 := (by omega); exact (nwg nwl60 hg 11 rfl))
    (fun i hi n hn => by
      obtain rfl : i = 0 := by omega
      have hn : n < 4 := hn
      match n, hn with
      | 0, _ => exact (nwg nwl60 hg 12 rfl)
      | 1, _ => exact (nwg nwl60 hg 13 rfl)
      | 2, _ => exact (nwg nwl60 hg 14 rfl)
      | 3, _ => exact (nwg nwl60 hg 15 rfl))
    (fun i n hi hn e => absurd (by omega) e) (fun a ha => Nat.not_le.mpr ha)
  obtain ⟨g1, g2, g3, g4⟩ := h1 0 (by omega)
  exact ⟨aK 0, h2 0 (by omega), by decide, aV 0, g1, g3, g2, g4⟩
theorem stS_11 {args : Array Value} {s : State} (hg : (Jvm.Cond.and given_1 narrow_1).before args s = true) : ∃ t : Nat, (mKt 11).eval args s none [] s = some (.ref t) ∧ mStr s.heap.size (mKc 11).length (fun k => (mKc 11).getD k 0) t s s.heap := by
  obtain ⟨aK, aV, ⟨h1, -⟩, h2⟩ := vk_Sof (N := 1) (tm := fun _ => mKt 11) (len := [3]) (byt := [mKc 11]) (A := fun q => s.heap.size ≤ q) (args := args) (s := s)
    (fun i hi => by obtain rfl : i = 0 := (by omega); decide) (fun i _ => (nwg nwl60 hg 16 rfl)) (fun i _ => (nwg nwl60 hg 17 rfl)) (fun i _ => (nwg nwl60 hg 18 rfl)) (fun i hi => by obtain rfl : i = 0 := (by omega); exact (nwg nwl60 hg 19 rfl))
    (fun i hi n hn => by
      obtain rfl : i = 0 := by omega
      have hn : n < 3 := hn
      match n, hn with
      | 0, _ => exact (nwg nwl80 hg 0 rfl)
      | 1, _ => exact (nwg nwl80 hg 1 rfl)
      | 2, _ => exact (nwg nwl80 hg 2 rfl))
    (fun i n hi hn e => absurd (by omega) e) (fun a ha => Nat.not_le.mpr ha)
  obtain ⟨g1, g2, g3, g4⟩ := h1 0 (by omega)
  exact ⟨aK 0, h2 0 (by omega), by decide, aV 0, g1, g3, g2, g4⟩
theorem stS_12 {args : Array Value} {s : State} (hg : (Jvm.Cond.and given_1 narrow_1).before args s = true) : ∃ t : Nat, (mKt 12).eval args s none [] s = some (.ref t) ∧ mStr s.heap.size (mKc 12).length (fun k => (mKc 12).getD k 0) t s s.heap := by
  obtain ⟨aK, aV, ⟨h1, -⟩, h2⟩ := vk_Sof (N := 1) (tm := fun _ => mKt 12) (len := [5]) (byt := [mKc 12]) (A := fun q => s.heap.size ≤ q) (args := args) (s := s)
    (fun i hi => by obtain rfl : i = 0 := (by omega); decide) (fun i _ => (nwg nwl80 hg 3 rfl)) (fun i _ => (nwg nwl80 hg 4 rfl)) (fun i _ => (nwg nwl80 hg 5 rfl)) (fun i hi => by obtain rfl : i = 0 := (by omega); exact (nwg nwl80 hg 6 rfl))
    (fun i hi n hn => by
      obtain rfl : i = 0 := by omega
      have hn : n < 5 := hn
      match n, hn with
      | 0, _ => exact (nwg nwl80 hg 7 rfl)
      | 1, _ => exact (nwg nwl80 hg 8 rfl)
      | 2, _ => exact (nwg nwl80 hg 9 rfl)
      | 3, _ => exact (nwg nwl80 hg 10 rfl)
      | 4, _ => exact (nwg nwl80 hg 11 rfl))
    (fun i n hi hn e => absurd (by omega) e) (fun a ha => Nat.not_le.mpr ha)
  obtain ⟨g1, g2, g3, g4⟩ := h1 0 (by omega)
  exact ⟨aK 0, h2 0 (by omega), by decide, aV 0, g1, g3, g2, g4⟩
theorem stS_13 {args : Array Value} {s : State} (hg : (Jvm.Cond.and given_1 narrow_1).before args s = true) : ∃ t : Nat, (mKt 13).eval args s none [] s = some (.ref t) ∧ mStr s.heap.size (mKc 13).length (fun k => (mKc 13).getD k 0) t s s.heap := by
  obtain ⟨aK, aV, ⟨h1, -⟩, h2⟩ := vk_Sof (N := 1) (tm := fun _ => mKt 13) (len := [3]) (byt := [mKc 13]) (A := fun q => s.heap.size ≤ q) (args := args) (s := s)
    (fun i hi => by obtain rfl : i = 0 := (by omega); decide) (fun i _ => (nwg nwl80 hg 12 rfl)) (fun i _ => (nwg nwl80 hg 13 rfl)) (fun i _ => (nwg nwl80 hg 14 rfl)) (fun i hi => by obtain rfl : i = 0 := (by omega); exact (nwg nwl80 hg 15 rfl))
    (fun i hi n hn => by
      obtain rfl : i = 0 := by omega
      have hn : n < 3 := hn
      match n, hn with
      | 0, _ => exact (nwg nwl80 hg 16 rfl)
      | 1, _ => exact (nwg nwl80 hg 17 rfl)
      | 2, _ => exact (nwg nwl80 hg 18 rfl))
    (fun i n hi hn e => absurd (by omega) e) (fun a ha => Nat.not_le.mpr ha)
  obtain ⟨g1, g2, g3, g4⟩ := h1 0 (by omega)
  exact ⟨aK 0, h2 0 (by omega), by decide, aV 0, g1, g3, g2, g4⟩
theorem stS_14 {args : Array Value} {s : State} (hg : (Jvm.Cond.and given_1 narrow_1).before args s = true) : ∃ t : Nat, (mKt 14).eval args s none [] s = some (.ref t) ∧ mStr s.heap.size (mKc 14).length (fun k => (mKc 14).getD k 0) t s s.heap := by
  obtain ⟨aK, aV, ⟨h1, -⟩, h2⟩ := vk_Sof (N := 1) (tm := fun _ => mKt 14) (len := [3]) (byt := [mKc 14]) (A := fun q => s.heap.size ≤ q) (args := args) (s := s)
    (fun i hi => by obtain rfl : i = 0 := (by omega); decide) (fun i _ => (nwg nwl80 hg 19 rfl)) (fun i _ => (nwg nwl100 hg 0 rfl)) (fun i _ => (nwg nwl100 hg 1 rfl)) (fun i hi => by obtain rfl : i = 0 := (by omega); exact (nwg nwl100 hg 2 rfl))
    (fun i hi n hn => by
      obtain rfl : i = 0 := by omega
      have hn : n < 3 := hn
      match n, hn with
      | 0, _ => exact (nwg nwl100 hg 3 rfl)
      | 1, _ => exact (nwg nwl100 hg 4 rfl)
      | 2, _ => exact (nwg nwl100 hg 5 rfl))
    (fun i n hi hn e => absurd (by omega) e) (fun a ha => Nat.not_le.mpr ha)
  obtain ⟨g1, g2, g3, g4⟩ := h1 0 (by omega)
  exact ⟨aK 0, h2 0 (by omega), by decide, aV 0, g1, g3, g2, g4⟩
theorem stS_15 {args : Array Value} {s : State} (hg : (Jvm.Cond.and given_1 narrow_1).before args s = true) : ∃ t : Nat, (mKt 15).eval args s none [] s = some (.ref t) ∧ mStr s.heap.size (mKc 15).length (fun k => (mKc 15).getD k 0) t s s.heap := by
  obtain ⟨aK, aV, ⟨h1, -⟩, h2⟩ := vk_Sof (N := 1) (tm := fun _ => mKt 15) (len := [2]) (byt := [mKc 15]) (A := fun q => s.heap.size ≤ q) (args := args) (s := s)
    (fun i hi => by obtain rfl : i = 0 := (by omega); decide) (fun i _ => (nwg nwl100 hg 6 rfl)) (fun i _ => (nwg nwl100 hg 7 rfl)) (fun i _ => (nwg nwl100 hg 8 rfl)) (fun i hi => by obtain rfl : i = 0 := (by omega); exact (nwg nwl100 hg 9 rfl))
    (fun i hi n hn => by
      obtain rfl : i = 0 := by omega
      have hn : n < 2 := hn
      match n, hn with
      | 0, _ => exact (nwg nwl100 hg 10 rfl)
      | 1, _ => exact (nwg nwl100 hg 11 rfl))
    (fun i n hi hn e => absurd (by omega) e) (fun a ha => Nat.not_le.mpr ha)
  obtain ⟨g1, g2, g3, g4⟩ := h1 0 (by omega)
  exact ⟨aK 0, h2 0 (by omega), by decide, aV 0, g1, g3, g2, g4⟩
theorem stS_16 {args : Array Value} {s : State} (hg : (Jvm.Cond.and given_1 narrow_1).before args s = true) : ∃ t : Nat, (mKt 16).eval args s none [] s = some (.ref t) ∧ mStr s.heap.size (mKc 16).length (fun k => (mKc 16).getD k 0) t s s.heap := by
  obtain ⟨aK, aV, ⟨h1, -⟩, h2⟩ := vk_Sof (N := 1) (tm := fun _ => mKt 16) (len := [4]) (byt := [mKc 16]) (A := fun q => s.heap.size ≤ q) (args := args) (s := s)
    (fun i hi => by obtain rfl : i = 0 := (by omega); decide) (fun i _ => (nwg nwl100 hg 12 rfl)) (fun i _ => (nwg nwl100 hg 13 rfl)) (fun i _ => (nwg nwl100 hg 14 rfl)) (fun i hi => by obtain rfl : i = 0 := (by omega); exact (nwg nwl100 hg 15 rfl))
    (fun i hi n hn => by
      obtain rfl : i = 0 := by omega
      have hn : n < 4 := hn
      match n, hn with
      | 0, _ => exact (nwg nwl100 hg 16 rfl)
      | 1, _ => exact (nwg nwl100 hg 17 rfl)
      | 2, _ => exact (nwg nwl100 hg 18 rfl)
      | 3, _ => exact (nwg nwl100 hg 19 rfl))
    (fun i n hi hn e => absurd (by omega) e) (fun a ha => Nat.not_le.mpr ha)
  obtain ⟨g1, g2, g3, g4⟩ := h1 0 (by omega)
  exact ⟨aK 0, h2 0 (by omega), by decide, aV 0, g1, g3, g2, g4⟩
theorem stS_17 {args : Array Value} {s : State} (hg : (Jvm.Cond.and given_1 narrow_1).before args s = true) : ∃ t : Nat, (mKt 17).eval args s none [] s = some (.ref t) ∧ mStr s.heap.size (mKc 17).length (fun k => (mKc 17).getD k 0) t s s.heap := by
  obtain ⟨aK, aV, ⟨h1, -⟩, h2⟩ := vk_Sof (N := 1) (tm := fun _ => mKt 17) (len := [5]) (byt := [mKc 17]) (A := fun q => s.heap.size ≤ q) (args := args) (s := s)
    (fun i hi => by obtain rfl : i = 0 := (by omega); decide) (fun i _ => (nwg nwl120 hg 0 rfl)) (fun i _ => (nwg nwl120 hg 1 rfl)) (fun i _ => (nwg nwl120 hg 2 rfl)) (fun i hi => by obtain rfl : i = 0 := (by omega); exact (nwg nwl120 hg 3 rfl))
    (fun i hi n hn => by
      obtain rfl : i = 0 := by omega
      have hn : n < 5 := hn
      match n, hn with
      | 0, _ => exact (nwg nwl120 hg 4 rfl)
      | 1, _ => exact (nwg nwl120 hg 5 rfl)
      | 2, _ => exact (nwg nwl120 hg 6 rfl)
      | 3, _ => exact (nwg nwl120 hg 7 rfl)
      | 4, _ => exact (nwg nwl120 hg 8 rfl))
    (fun i n hi hn e => absurd (by omega) e) (fun a ha => Nat.not_le.mpr ha)
  obtain ⟨g1, g2, g3, g4⟩ := h1 0 (by omega)
  exact ⟨aK 0, h2 0 (by omega), by decide, aV 0, g1, g3, g2, g4⟩
theorem stS_18 {args : Array Value} {s : State} (hg : (Jvm.Cond.and given_1 narrow_1).before args s = true) : ∃ t : Nat, (mKt 18).eval args s none [] s = some (.ref t) ∧ mStr s.heap.size (mKc 18).length (fun k => (mKc 18).getD k 0) t s s.heap := by
  obtain ⟨aK, aV, ⟨h1, -⟩, h2⟩ := vk_Sof (N := 1) (tm := fun _ => mKt 18) (len := [5]) (byt := [mKc 18]) (A := fun q => s.heap.size ≤ q) (args := args) (s := s)
    (fun i hi => by obtain rfl : i = 0 := (by omega); decide) (fun i _ => (nwg nwl120 hg 9 rfl)) (fun i _ => (nwg nwl120 hg 10 rfl)) (fun i _ => (nwg nwl120 hg 11 rfl)) (fun i hi => by obtain rfl : i = 0 := (by omega); exact (nwg nwl120 hg 12 rfl))
    (fun i hi n hn => by
      obtain rfl : i = 0 := by omega
      have hn : n < 5 := hn
      match n, hn with
      | 0, _ => exact (nwg nwl120 hg 13 rfl)
      | 1, _ => exact (nwg nwl120 hg 14 rfl)
      | 2, _ => exact (nwg nwl120 hg 15 rfl)
      | 3, _ => exact (nwg nwl120 hg 16 rfl)
      | 4, _ => exact (nwg nwl120 hg 17 rfl))
    (fun i n hi hn e => absurd (by omega) e) (fun a ha => Nat.not_le.mpr ha)
  obtain ⟨g1, g2, g3, g4⟩ := h1 0 (by omega)
  exact ⟨aK 0, h2 0 (by omega), by decide, aV 0, g1, g3, g2, g4⟩
theorem stS_19 {args : Array Value} {s : State} (hg : (Jvm.Cond.and given_1 narrow_1).before args s = true) : ∃ t : Nat, (mKt 19).eval args s none [] s = some (.ref t) ∧ mStr s.heap.size (mKc 19).length (fun k => (mKc 19).getD k 0) t s s.heap := by
  obtain ⟨aK, aV, ⟨h1, -⟩, h2⟩ := vk_Sof (N := 1) (tm := fun _ => mKt 19) (len := [4]) (byt := [mKc 19]) (A := fun q => s.heap.size ≤ q) (args := args) (s := s)
    (fun i hi => by obtain rfl : i = 0 := (by omega); decide) (fun i _ => (nwg nwl120 hg 18 rfl)) (fun i _ => (nwg nwl120 hg 19 rfl)) (fun i _ => (nwg nwl140 hg 0 rfl)) (fun i hi => by obtain rfl : i = 0 := (by omega); exact (nwg nwl140 hg 1 rfl))
    (fun i hi n hn => by
      obtain rfl : i = 0 := by omega
      have hn : n < 4 := hn
      match n, hn with
      | 0, _ => exact (nwg nwl140 hg 2 rfl)
      | 1, _ => exact (nwg nwl140 hg 3 rfl)
      | 2, _ => exact (nwg nwl140 hg 4 rfl)
      | 3, _ => exact (nwg nwl140 hg 5 rfl))
    (fun i n hi hn e => absurd (by omega) e) (fun a ha => Nat.not_le.mpr ha)
  obtain ⟨g1, g2, g3, g4⟩ := h1 0 (by omega)
  exact ⟨aK 0, h2 0 (by omega), by decide, aV 0, g1, g3, g2, g4⟩
