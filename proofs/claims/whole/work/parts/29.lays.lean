/-! LAYOUTS of the class's parts, and which lie in which (written by program: wip/whole/gen29.py) -/
/-- cells from x on: offset, kind, length; references: offset, field or place, offset -/
def lk (A R : List (Nat × Nat × Nat)) (h : mH) (x : Nat) : Prop := (∀ q ∈ A, mS h (x + q.1) = (q.2.1, q.2.2)) ∧ ∀ q ∈ R, mR h (x + q.1) q.2.1 = some (x + q.2.2)
theorem lk_sub {A R A' R' : List (Nat × Nat × Nat)} (o : Nat) (hA : A'.all (fun q => decide ((q.1 + o, q.2.1, q.2.2) ∈ A)) = true) (hR : R'.all (fun q => decide ((q.1 + o, q.2.1, q.2.2 + o) ∈ R)) = true) {h : mH} {x : Nat} (hk : lk A R h x) : lk A' R' h (x + o) := by
  refine ⟨fun q hq => ?_, fun q hq => ?_⟩
  · have h1 := of_decide_eq_true (List.all_eq_true.mp hA q hq)
    have h2 := hk.1 _ h1
    rw [show x + o + q.1 = x + (q.1 + o) by omega]
    exact h2
  · have h1 := of_decide_eq_true (List.all_eq_true.mp hR q hq)
    have h2 := hk.2 _ h1
    rw [show x + o + q.1 = x + (q.1 + o) by omega, show x + o + q.2.2 = x + (q.2.2 + o) by omega]
    exact h2
def blA : List (Nat × Nat × Nat) := [(0, 0, 0), (1, 14, 6), (2, 14, 6), (3, 14, 6), (4, 14, 6), (5, 14, 6)]
def blR : List (Nat × Nat × Nat) := [(0, 0, 1), (0, 1, 2), (0, 2, 3), (0, 3, 4), (0, 4, 5)]
abbrev blk (h : mH) (x : Nat) : Prop := lk blA blR h x
theorem bl_s {h : mH} {x : Nat} (hk : blk h x) : mS h x = (0, 0) := hk.1 (0, 0, 0) (List.mem_of_getElem? (i := 0) rfl)
theorem bl_s0 {h : mH} {x : Nat} (hk : blk h x) : mS h (x + 0) = (0, 0) := hk.1 (0, 0, 0) (List.mem_of_getElem? (i := 0) rfl)
theorem bl_s1 {h : mH} {x : Nat} (hk : blk h x) : mS h (x + 1) = (14, 6) := hk.1 (1, 14, 6) (List.mem_of_getElem? (i := 1) rfl)
theorem bl_s2 {h : mH} {x : Nat} (hk : blk h x) : mS h (x + 2) = (14, 6) := hk.1 (2, 14, 6) (List.mem_of_getElem? (i := 2) rfl)
theorem bl_s3 {h : mH} {x : Nat} (hk : blk h x) : mS h (x + 3) = (14, 6) := hk.1 (3, 14, 6) (List.mem_of_getElem? (i := 3) rfl)
theorem bl_s4 {h : mH} {x : Nat} (hk : blk h x) : mS h (x + 4) = (14, 6) := hk.1 (4, 14, 6) (List.mem_of_getElem? (i := 4) rfl)
theorem bl_s5 {h : mH} {x : Nat} (hk : blk h x) : mS h (x + 5) = (14, 6) := hk.1 (5, 14, 6) (List.mem_of_getElem? (i := 5) rfl)
theorem bl_r0_0 {h : mH} {x : Nat} (hk : blk h x) : mR h (x + 0) 0 = some (x + 1) := hk.2 (0, 0, 1) (List.mem_of_getElem? (i := 0) rfl)
theorem bl_r0_1 {h : mH} {x : Nat} (hk : blk h x) : mR h (x + 0) 1 = some (x + 2) := hk.2 (0, 1, 2) (List.mem_of_getElem? (i := 1) rfl)
theorem bl_r0_2 {h : mH} {x : Nat} (hk : blk h x) : mR h (x + 0) 2 = some (x + 3) := hk.2 (0, 2, 3) (List.mem_of_getElem? (i := 2) rfl)
theorem bl_r0_3 {h : mH} {x : Nat} (hk : blk h x) : mR h (x + 0) 3 = some (x + 4) := hk.2 (0, 3, 4) (List.mem_of_getElem? (i := 3) rfl)
theorem bl_r0_4 {h : mH} {x : Nat} (hk : blk h x) : mR h (x + 0) 4 = some (x + 5) := hk.2 (0, 4, 5) (List.mem_of_getElem? (i := 4) rfl)
def fgA : List (Nat × Nat × Nat) := [(0, 2, 0), (1, 0, 0), (2, 14, 6), (3, 14, 6), (4, 14, 6), (5, 14, 6), (6, 14, 6), (7, 0, 0), (8, 14, 6), (9, 14, 6), (10, 14, 6), (11, 14, 6), (12, 14, 6), (13, 14, 6), (14, 14, 6), (15, 14, 6)]
def fgR : List (Nat × Nat × Nat) := [(0, 0, 1), (0, 1, 7), (0, 2, 13), (0, 3, 14), (0, 4, 15), (1, 0, 2), (1, 1, 3), (1, 2, 4), (1, 3, 5), (1, 4, 6), (7, 0, 8), (7, 1, 9), (7, 2, 10), (7, 3, 11), (7, 4, 12)]
abbrev fgk (h : mH) (x : Nat) : Prop := lk fgA fgR h x
theorem fg_s {h : mH} {x : Nat} (hk : fgk h x) : mS h x = (2, 0) := hk.1 (0, 2, 0) (List.mem_of_getElem? (i := 0) rfl)
theorem fg_s0 {h : mH} {x : Nat} (hk : fgk h x) : mS h (x + 0) = (2, 0) := hk.1 (0, 2, 0) (List.mem_of_getElem? (i := 0) rfl)
theorem fg_s1 {h : mH} {x : Nat} (hk : fgk h x) : mS h (x + 1) = (0, 0) := hk.1 (1, 0, 0) (List.mem_of_getElem? (i := 1) rfl)
theorem fg_s2 {h : mH} {x : Nat} (hk : fgk h x) : mS h (x + 2) = (14, 6) := hk.1 (2, 14, 6) (List.mem_of_getElem? (i := 2) rfl)
theorem fg_s3 {h : mH} {x : Nat} (hk : fgk h x) : mS h (x + 3) = (14, 6) := hk.1 (3, 14, 6) (List.mem_of_getElem? (i := 3) rfl)
theorem fg_s4 {h : mH} {x : Nat} (hk : fgk h x) : mS h (x + 4) = (14, 6) := hk.1 (4, 14, 6) (List.mem_of_getElem? (i := 4) rfl)
theorem fg_s5 {h : mH} {x : Nat} (hk : fgk h x) : mS h (x + 5) = (14, 6) := hk.1 (5, 14, 6) (List.mem_of_getElem? (i := 5) rfl)
theorem fg_s6 {h : mH} {x : Nat} (hk : fgk h x) : mS h (x + 6) = (14, 6) := hk.1 (6, 14, 6) (List.mem_of_getElem? (i := 6) rfl)
theorem fg_s7 {h : mH} {x : Nat} (hk : fgk h x) : mS h (x + 7) = (0, 0) := hk.1 (7, 0, 0) (List.mem_of_getElem? (i := 7) rfl)
theorem fg_s8 {h : mH} {x : Nat} (hk : fgk h x) : mS h (x + 8) = (14, 6) := hk.1 (8, 14, 6) (List.mem_of_getElem? (i := 8) rfl)
theorem fg_s9 {h : mH} {x : Nat} (hk : fgk h x) : mS h (x + 9) = (14, 6) := hk.1 (9, 14, 6) (List.mem_of_getElem? (i := 9) rfl)
theorem fg_s10 {h : mH} {x : Nat} (hk : fgk h x) : mS h (x + 10) = (14, 6) := hk.1 (10, 14, 6) (List.mem_of_getElem? (i := 10) rfl)
theorem fg_s11 {h : mH} {x : Nat} (hk : fgk h x) : mS h (x + 11) = (14, 6) := hk.1 (11, 14, 6) (List.mem_of_getElem? (i := 11) rfl)
theorem fg_s12 {h : mH} {x : Nat} (hk : fgk h x) : mS h (x + 12) = (14, 6) := hk.1 (12, 14, 6) (List.mem_of_getElem? (i := 12) rfl)
theorem fg_s13 {h : mH} {x : Nat} (hk : fgk h x) : mS h (x + 13) = (14, 6) := hk.1 (13, 14, 6) (List.mem_of_getElem? (i := 13) rfl)
theorem fg_s14 {h : mH} {x : Nat} (hk : fgk h x) : mS h (x + 14) = (14, 6) := hk.1 (14, 14, 6) (List.mem_of_getElem? (i := 14) rfl)
theorem fg_s15 {h : mH} {x : Nat} (hk : fgk h x) : mS h (x + 15) = (14, 6) := hk.1 (15, 14, 6) (List.mem_of_getElem? (i := 15) rfl)
theorem fg_r0_0 {h : mH} {x : Nat} (hk : fgk h x) : mR h (x + 0) 0 = some (x + 1) := hk.2 (0, 0, 1) (List.mem_of_getElem? (i := 0) rfl)
theorem fg_r0_1 {h : mH} {x : Nat} (hk : fgk h x) : mR h (x + 0) 1 = some (x + 7) := hk.2 (0, 1, 7) (List.mem_of_getElem? (i := 1) rfl)
theorem fg_r0_2 {h : mH} {x : Nat} (hk : fgk h x) : mR h (x + 0) 2 = some (x + 13) := hk.2 (0, 2, 13) (List.mem_of_getElem? (i := 2) rfl)
theorem fg_r0_3 {h : mH} {x : Nat} (hk : fgk h x) : mR h (x + 0) 3 = some (x + 14) := hk.2 (0, 3, 14) (List.mem_of_getElem? (i := 3) rfl)
theorem fg_r0_4 {h : mH} {x : Nat} (hk : fgk h x) : mR h (x + 0) 4 = some (x + 15) := hk.2 (0, 4, 15) (List.mem_of_getElem? (i := 4) rfl)
theorem fg_r1_0 {h : mH} {x : Nat} (hk : fgk h x) : mR h (x + 1) 0 = some (x + 2) := hk.2 (1, 0, 2) (List.mem_of_getElem? (i := 5) rfl)
theorem fg_r1_1 {h : mH} {x : Nat} (hk : fgk h x) : mR h (x + 1) 1 = some (x + 3) := hk.2 (1, 1, 3) (List.mem_of_getElem? (i := 6) rfl)
theorem fg_r1_2 {h : mH} {x : Nat} (hk : fgk h x) : mR h (x + 1) 2 = some (x + 4) := hk.2 (1, 2, 4) (List.mem_of_getElem? (i := 7) rfl)
theorem fg_r1_3 {h : mH} {x : Nat} (hk : fgk h x) : mR h (x + 1) 3 = some (x + 5) := hk.2 (1, 3, 5) (List.mem_of_getElem? (i := 8) rfl)
theorem fg_r1_4 {h : mH} {x : Nat} (hk : fgk h x) : mR h (x + 1) 4 = some (x + 6) := hk.2 (1, 4, 6) (List.mem_of_getElem? (i := 9) rfl)
theorem fg_r7_0 {h : mH} {x : Nat} (hk : fgk h x) : mR h (x + 7) 0 = some (x + 8) := hk.2 (7, 0, 8) (List.mem_of_getElem? (i := 10) rfl)
theorem fg_r7_1 {h : mH} {x : Nat} (hk : fgk h x) : mR h (x + 7) 1 = some (x + 9) := hk.2 (7, 1, 9) (List.mem_of_getElem? (i := 11) rfl)
theorem fg_r7_2 {h : mH} {x : Nat} (hk : fgk h x) : mR h (x + 7) 2 = some (x + 10) := hk.2 (7, 2, 10) (List.mem_of_getElem? (i := 12) rfl)
theorem fg_r7_3 {h : mH} {x : Nat} (hk : fgk h x) : mR h (x + 7) 3 = some (x + 11) := hk.2 (7, 3, 11) (List.mem_of_getElem? (i := 13) rfl)
theorem fg_r7_4 {h : mH} {x : Nat} (hk : fgk h x) : mR h (x + 7) 4 = some (x + 12) := hk.2 (7, 4, 12) (List.mem_of_getElem? (i := 14) rfl)
def yrA : List (Nat × Nat × Nat) := [(0, 10, 0), (1, 14, 40), (2, 14, 40), (3, 14, 40)]
def yrR : List (Nat × Nat × Nat) := [(0, 0, 1), (0, 1, 2), (0, 2, 3)]
abbrev yrk (h : mH) (x : Nat) : Prop := lk yrA yrR h x
theorem yr_s {h : mH} {x : Nat} (hk : yrk h x) : mS h x = (10, 0) := hk.1 (0, 10, 0) (List.mem_of_getElem? (i := 0) rfl)
theorem yr_s0 {h : mH} {x : Nat} (hk : yrk h x) : mS h (x + 0) = (10, 0) := hk.1 (0, 10, 0) (List.mem_of_getElem? (i := 0) rfl)
theorem yr_s1 {h : mH} {x : Nat} (hk : yrk h x) : mS h (x + 1) = (14, 40) := hk.1 (1, 14, 40) (List.mem_of_getElem? (i := 1) rfl)
theorem yr_s2 {h : mH} {x : Nat} (hk : yrk h x) : mS h (x + 2) = (14, 40) := hk.1 (2, 14, 40) (List.mem_of_getElem? (i := 2) rfl)
theorem yr_s3 {h : mH} {x : Nat} (hk : yrk h x) : mS h (x + 3) = (14, 40) := hk.1 (3, 14, 40) (List.mem_of_getElem? (i := 3) rfl)
theorem yr_r0_0 {h : mH} {x : Nat} (hk : yrk h x) : mR h (x + 0) 0 = some (x + 1) := hk.2 (0, 0, 1) (List.mem_of_getElem? (i := 0) rfl)
theorem yr_r0_1 {h : mH} {x : Nat} (hk : yrk h x) : mR h (x + 0) 1 = some (x + 2) := hk.2 (0, 1, 2) (List.mem_of_getElem? (i := 1) rfl)
theorem yr_r0_2 {h : mH} {x : Nat} (hk : yrk h x) : mR h (x + 0) 2 = some (x + 3) := hk.2 (0, 2, 3) (List.mem_of_getElem? (i := 2) rfl)
def cuA : List (Nat × Nat × Nat) := [(0, 1, 0), (1, 14, 8), (2, 14, 8), (3, 14, 8)]
def cuR : List (Nat × Nat × Nat) := [(0, 0, 1), (0, 1, 2), (0, 2, 3)]
abbrev cuk (h : mH) (x : Nat) : Prop := lk cuA cuR h x
theorem cu_s {h : mH} {x : Nat} (hk : cuk h x) : mS h x = (1, 0) := hk.1 (0, 1, 0) (List.mem_of_getElem? (i := 0) rfl)
theorem cu_s0 {h : mH} {x : Nat} (hk : cuk h x) : mS h (x + 0) = (1, 0) := hk.1 (0, 1, 0) (List.mem_of_getElem? (i := 0) rfl)
theorem cu_s1 {h : mH} {x : Nat} (hk : cuk h x) : mS h (x + 1) = (14, 8) := hk.1 (1, 14, 8) (List.mem_of_getElem? (i := 1) rfl)
theorem cu_s2 {h : mH} {x : Nat} (hk : cuk h x) : mS h (x + 2) = (14, 8) := hk.1 (2, 14, 8) (List.mem_of_getElem? (i := 2) rfl)
theorem cu_s3 {h : mH} {x : Nat} (hk : cuk h x) : mS h (x + 3) = (14, 8) := hk.1 (3, 14, 8) (List.mem_of_getElem? (i := 3) rfl)
theorem cu_r0_0 {h : mH} {x : Nat} (hk : cuk h x) : mR h (x + 0) 0 = some (x + 1) := hk.2 (0, 0, 1) (List.mem_of_getElem? (i := 0) rfl)
theorem cu_r0_1 {h : mH} {x : Nat} (hk : cuk h x) : mR h (x + 0) 1 = some (x + 2) := hk.2 (0, 1, 2) (List.mem_of_getElem? (i := 1) rfl)
theorem cu_r0_2 {h : mH} {x : Nat} (hk : cuk h x) : mR h (x + 0) 2 = some (x + 3) := hk.2 (0, 2, 3) (List.mem_of_getElem? (i := 2) rfl)
def tdA : List (Nat × Nat × Nat) := [(0, 8, 0), (1, 13, 600), (2, 18, 2), (3, 20, 2), (4, 17, 2), (5, 14, 3), (6, 2, 0), (7, 0, 0), (8, 14, 6), (9, 14, 6), (10, 14, 6), (11, 14, 6), (12, 14, 6), (13, 0, 0), (14, 14, 6), (15, 14, 6), (16, 14, 6), (17, 14, 6), (18, 14, 6), (19, 14, 6), (20, 14, 6), (21, 14, 6), (22, 10, 0), (23, 14, 40), (24, 14, 40), (25, 14, 40), (26, 1, 0), (27, 14, 8), (28, 14, 8), (29, 14, 8), (30, 2, 0), (31, 0, 0), (32, 14, 6), (33, 14, 6), (34, 14, 6), (35, 14, 6), (36, 14, 6), (37, 0, 0), (38, 14, 6), (39, 14, 6), (40, 14, 6), (41, 14, 6), (42, 14, 6), (43, 14, 6), (44, 14, 6), (45, 14, 6), (46, 10, 0), (47, 14, 40), (48, 14, 40), (49, 14, 40), (50, 1, 0), (51, 14, 8), (52, 14, 8), (53, 14, 8)]
def tdR : List (Nat × Nat × Nat) := [(0, 0, 1), (0, 1, 2), (0, 2, 3), (0, 3, 4), (0, 4, 5), (2, 0, 6), (2, 1, 30), (3, 0, 22), (3, 1, 46), (4, 0, 26), (4, 1, 50), (6, 0, 7), (6, 1, 13), (6, 2, 19), (6, 3, 20), (6, 4, 21), (7, 0, 8), (7, 1, 9), (7, 2, 10), (7, 3, 11), (7, 4, 12), (13, 0, 14), (13, 1, 15), (13, 2, 16), (13, 3, 17), (13, 4, 18), (22, 0, 23), (22, 1, 24), (22, 2, 25), (26, 0, 27), (26, 1, 28), (26, 2, 29), (30, 0, 31), (30, 1, 37), (30, 2, 43), (30, 3, 44), (30, 4, 45), (31, 0, 32), (31, 1, 33), (31, 2, 34), (31, 3, 35), (31, 4, 36), (37, 0, 38), (37, 1, 39), (37, 2, 40), (37, 3, 41), (37, 4, 42), (46, 0, 47), (46, 1, 48), (46, 2, 49), (50, 0, 51), (50, 1, 52), (50, 2, 53)]
abbrev tdk (h : mH) (x : Nat) : Prop := lk tdA tdR h x
theorem td_s {h : mH} {x : Nat} (hk : tdk h x) : mS h x = (8, 0) := hk.1 (0, 8, 0) (List.mem_of_getElem? (i := 0) rfl)
theorem td_s0 {h : mH} {x : Nat} (hk : tdk h x) : mS h (x + 0) = (8, 0) := hk.1 (0, 8, 0) (List.mem_of_getElem? (i := 0) rfl)
theorem td_s1 {h : mH} {x : Nat} (hk : tdk h x) : mS h (x + 1) = (13, 600) := hk.1 (1, 13, 600) (List.mem_of_getElem? (i := 1) rfl)
theorem td_s2 {h : mH} {x : Nat} (hk : tdk h x) : mS h (x + 2) = (18, 2) := hk.1 (2, 18, 2) (List.mem_of_getElem? (i := 2) rfl)
theorem td_s3 {h : mH} {x : Nat} (hk : tdk h x) : mS h (x + 3) = (20, 2) := hk.1 (3, 20, 2) (List.mem_of_getElem? (i := 3) rfl)
theorem td_s4 {h : mH} {x : Nat} (hk : tdk h x) : mS h (x + 4) = (17, 2) := hk.1 (4, 17, 2) (List.mem_of_getElem? (i := 4) rfl)
theorem td_s5 {h : mH} {x : Nat} (hk : tdk h x) : mS h (x + 5) = (14, 3) := hk.1 (5, 14, 3) (List.mem_of_getElem? (i := 5) rfl)
theorem td_s6 {h : mH} {x : Nat} (hk : tdk h x) : mS h (x + 6) = (2, 0) := hk.1 (6, 2, 0) (List.mem_of_getElem? (i := 6) rfl)
theorem td_s7 {h : mH} {x : Nat} (hk : tdk h x) : mS h (x + 7) = (0, 0) := hk.1 (7, 0, 0) (List.mem_of_getElem? (i := 7) rfl)
theorem td_s8 {h : mH} {x : Nat} (hk : tdk h x) : mS h (x + 8) = (14, 6) := hk.1 (8, 14, 6) (List.mem_of_getElem? (i := 8) rfl)
theorem td_s9 {h : mH} {x : Nat} (hk : tdk h x) : mS h (x + 9) = (14, 6) := hk.1 (9, 14, 6) (List.mem_of_getElem? (i := 9) rfl)
theorem td_s10 {h : mH} {x : Nat} (hk : tdk h x) : mS h (x + 10) = (14, 6) := hk.1 (10, 14, 6) (List.mem_of_getElem? (i := 10) rfl)
theorem td_s11 {h : mH} {x : Nat} (hk : tdk h x) : mS h (x + 11) = (14, 6) := hk.1 (11, 14, 6) (List.mem_of_getElem? (i := 11) rfl)
theorem td_s12 {h : mH} {x : Nat} (hk : tdk h x) : mS h (x + 12) = (14, 6) := hk.1 (12, 14, 6) (List.mem_of_getElem? (i := 12) rfl)
theorem td_s13 {h : mH} {x : Nat} (hk : tdk h x) : mS h (x + 13) = (0, 0) := hk.1 (13, 0, 0) (List.mem_of_getElem? (i := 13) rfl)
theorem td_s14 {h : mH} {x : Nat} (hk : tdk h x) : mS h (x + 14) = (14, 6) := hk.1 (14, 14, 6) (List.mem_of_getElem? (i := 14) rfl)
theorem td_s15 {h : mH} {x : Nat} (hk : tdk h x) : mS h (x + 15) = (14, 6) := hk.1 (15, 14, 6) (List.mem_of_getElem? (i := 15) rfl)
theorem td_s16 {h : mH} {x : Nat} (hk : tdk h x) : mS h (x + 16) = (14, 6) := hk.1 (16, 14, 6) (List.mem_of_getElem? (i := 16) rfl)
theorem td_s17 {h : mH} {x : Nat} (hk : tdk h x) : mS h (x + 17) = (14, 6) := hk.1 (17, 14, 6) (List.mem_of_getElem? (i := 17) rfl)
theorem td_s18 {h : mH} {x : Nat} (hk : tdk h x) : mS h (x + 18) = (14, 6) := hk.1 (18, 14, 6) (List.mem_of_getElem? (i := 18) rfl)
theorem td_s19 {h : mH} {x : Nat} (hk : tdk h x) : mS h (x + 19) = (14, 6) := hk.1 (19, 14, 6) (List.mem_of_getElem? (i := 19) rfl)
theorem td_s20 {h : mH} {x : Nat} (hk : tdk h x) : mS h (x + 20) = (14, 6) := hk.1 (20, 14, 6) (List.mem_of_getElem? (i := 20) rfl)
theorem td_s21 {h : mH} {x : Nat} (hk : tdk h x) : mS h (x + 21) = (14, 6) := hk.1 (21, 14, 6) (List.mem_of_getElem? (i := 21) rfl)
theorem td_s22 {h : mH} {x : Nat} (hk : tdk h x) : mS h (x + 22) = (10, 0) := hk.1 (22, 10, 0) (List.mem_of_getElem? (i := 22) rfl)
theorem td_s23 {h : mH} {x : Nat} (hk : tdk h x) : mS h (x + 23) = (14, 40) := hk.1 (23, 14, 40) (List.mem_of_getElem? (i := 23) rfl)
theorem td_s24 {h : mH} {x : Nat} (hk : tdk h x) : mS h (x + 24) = (14, 40) := hk.1 (24, 14, 40) (List.mem_of_getElem? (i := 24) rfl)
theorem td_s25 {h : mH} {x : Nat} (hk : tdk h x) : mS h (x + 25) = (14, 40) := hk.1 (25, 14, 40) (List.mem_of_getElem? (i := 25) rfl)
theorem td_s26 {h : mH} {x : Nat} (hk : tdk h x) : mS h (x + 26) = (1, 0) := hk.1 (26, 1, 0) (List.mem_of_getElem? (i := 26) rfl)
theorem td_s27 {h : mH} {x : Nat} (hk : tdk h x) : mS h (x + 27) = (14, 8) := hk.1 (27, 14, 8) (List.mem_of_getElem? (i := 27) rfl)
theorem td_s28 {h : mH} {x : Nat} (hk : tdk h x) : mS h (x + 28) = (14, 8) := hk.1 (28, 14, 8) (List.mem_of_getElem? (i := 28) rfl)
theorem td_s29 {h : mH} {x : Nat} (hk : tdk h x) : mS h (x + 29) = (14, 8) := hk.1 (29, 14, 8) (List.mem_of_getElem? (i := 29) rfl)
theorem td_s30 {h : mH} {x : Nat} (hk : tdk h x) : mS h (x + 30) = (2, 0) := hk.1 (30, 2, 0) (List.mem_of_getElem? (i := 30) rfl)
theorem td_s31 {h : mH} {x : Nat} (hk : tdk h x) : mS h (x + 31) = (0, 0) := hk.1 (31, 0, 0) (List.mem_of_getElem? (i := 31) rfl)
theorem td_s32 {h : mH} {x : Nat} (hk : tdk h x) : mS h (x + 32) = (14, 6) := hk.1 (32, 14, 6) (List.mem_of_getElem? (i := 32) rfl)
theorem td_s33 {h : mH} {x : Nat} (hk : tdk h x) : mS h (x + 33) = (14, 6) := hk.1 (33, 14, 6) (List.mem_of_getElem? (i := 33) rfl)
theorem td_s34 {h : mH} {x : Nat} (hk : tdk h x) : mS h (x + 34) = (14, 6) := hk.1 (34, 14, 6) (List.mem_of_getElem? (i := 34) rfl)
theorem td_s35 {h : mH} {x : Nat} (hk : tdk h x) : mS h (x + 35) = (14, 6) := hk.1 (35, 14, 6) (List.mem_of_getElem? (i := 35) rfl)
theorem td_s36 {h : mH} {x : Nat} (hk : tdk h x) : mS h (x + 36) = (14, 6) := hk.1 (36, 14, 6) (List.mem_of_getElem? (i := 36) rfl)
theorem td_s37 {h : mH} {x : Nat} (hk : tdk h x) : mS h (x + 37) = (0, 0) := hk.1 (37, 0, 0) (List.mem_of_getElem? (i := 37) rfl)
theorem td_s38 {h : mH} {x : Nat} (hk : tdk h x) : mS h (x + 38) = (14, 6) := hk.1 (38, 14, 6) (List.mem_of_getElem? (i := 38) rfl)
theorem td_s39 {h : mH} {x : Nat} (hk : tdk h x) : mS h (x + 39) = (14, 6) := hk.1 (39, 14, 6) (List.mem_of_getElem? (i := 39) rfl)
theorem td_s40 {h : mH} {x : Nat} (hk : tdk h x) : mS h (x + 40) = (14, 6) := hk.1 (40, 14, 6) (List.mem_of_getElem? (i := 40) rfl)
theorem td_s41 {h : mH} {x : Nat} (hk : tdk h x) : mS h (x + 41) = (14, 6) := hk.1 (41, 14, 6) (List.mem_of_getElem? (i := 41) rfl)
theorem td_s42 {h : mH} {x : Nat} (hk : tdk h x) : mS h (x + 42) = (14, 6) := hk.1 (42, 14, 6) (List.mem_of_getElem? (i := 42) rfl)
theorem td_s43 {h : mH} {x : Nat} (hk : tdk h x) : mS h (x + 43) = (14, 6) := hk.1 (43, 14, 6) (List.mem_of_getElem? (i := 43) rfl)
theorem td_s44 {h : mH} {x : Nat} (hk : tdk h x) : mS h (x + 44) = (14, 6) := hk.1 (44, 14, 6) (List.mem_of_getElem? (i := 44) rfl)
theorem td_s45 {h : mH} {x : Nat} (hk : tdk h x) : mS h (x + 45) = (14, 6) := hk.1 (45, 14, 6) (List.mem_of_getElem? (i := 45) rfl)
theorem td_s46 {h : mH} {x : Nat} (hk : tdk h x) : mS h (x + 46) = (10, 0) := hk.1 (46, 10, 0) (List.mem_of_getElem? (i := 46) rfl)
theorem td_s47 {h : mH} {x : Nat} (hk : tdk h x) : mS h (x + 47) = (14, 40) := hk.1 (47, 14, 40) (List.mem_of_getElem? (i := 47) rfl)
theorem td_s48 {h : mH} {x : Nat} (hk : tdk h x) : mS h (x + 48) = (14, 40) := hk.1 (48, 14, 40) (List.mem_of_getElem? (i := 48) rfl)
theorem td_s49 {h : mH} {x : Nat} (hk : tdk h x) : mS h (x + 49) = (14, 40) := hk.1 (49, 14, 40) (List.mem_of_getElem? (i := 49) rfl)
theorem td_s50 {h : mH} {x : Nat} (hk : tdk h x) : mS h (x + 50) = (1, 0) := hk.1 (50, 1, 0) (List.mem_of_getElem? (i := 50) rfl)
theorem td_s51 {h : mH} {x : Nat} (hk : tdk h x) : mS h (x + 51) = (14, 8) := hk.1 (51, 14, 8) (List.mem_of_getElem? (i := 51) rfl)
theorem td_s52 {h : mH} {x : Nat} (hk : tdk h x) : mS h (x + 52) = (14, 8) := hk.1 (52, 14, 8) (List.mem_of_getElem? (i := 52) rfl)
theorem td_s53 {h : mH} {x : Nat} (hk : tdk h x) : mS h (x + 53) = (14, 8) := hk.1 (53, 14, 8) (List.mem_of_getElem? (i := 53) rfl)
theorem td_r0_0 {h : mH} {x : Nat} (hk : tdk h x) : mR h (x + 0) 0 = some (x + 1) := hk.2 (0, 0, 1) (List.mem_of_getElem? (i := 0) rfl)
theorem td_r0_1 {h : mH} {x : Nat} (hk : tdk h x) : mR h (x + 0) 1 = some (x + 2) := hk.2 (0, 1, 2) (List.mem_of_getElem? (i := 1) rfl)
theorem td_r0_2 {h : mH} {x : Nat} (hk : tdk h x) : mR h (x + 0) 2 = some (x + 3) := hk.2 (0, 2, 3) (List.mem_of_getElem? (i := 2) rfl)
theorem td_r0_3 {h : mH} {x : Nat} (hk : tdk h x) : mR h (x + 0) 3 = some (x + 4) := hk.2 (0, 3, 4) (List.mem_of_getElem? (i := 3) rfl)
theorem td_r0_4 {h : mH} {x : Nat} (hk : tdk h x) : mR h (x + 0) 4 = some (x + 5) := hk.2 (0, 4, 5) (List.mem_of_getElem? (i := 4) rfl)
theorem td_r2_0 {h : mH} {x : Nat} (hk : tdk h x) : mR h (x + 2) 0 = some (x + 6) := hk.2 (2, 0, 6) (List.mem_of_getElem? (i := 5) rfl)
theorem td_r2_1 {h : mH} {x : Nat} (hk : tdk h x) : mR h (x + 2) 1 = some (x + 30) := hk.2 (2, 1, 30) (List.mem_of_getElem? (i := 6) rfl)
theorem td_r3_0 {h : mH} {x : Nat} (hk : tdk h x) : mR h (x + 3) 0 = some (x + 22) := hk.2 (3, 0, 22) (List.mem_of_getElem? (i := 7) rfl)
theorem td_r3_1 {h : mH} {x : Nat} (hk : tdk h x) : mR h (x + 3) 1 = some (x + 46) := hk.2 (3, 1, 46) (List.mem_of_getElem? (i := 8) rfl)
theorem td_r4_0 {h : mH} {x : Nat} (hk : tdk h x) : mR h (x + 4) 0 = some (x + 26) := hk.2 (4, 0, 26) (List.mem_of_getElem? (i := 9) rfl)
theorem td_r4_1 {h : mH} {x : Nat} (hk : tdk h x) : mR h (x + 4) 1 = some (x + 50) := hk.2 (4, 1, 50) (List.mem_of_getElem? (i := 10) rfl)
theorem td_r6_0 {h : mH} {x : Nat} (hk : tdk h x) : mR h (x + 6) 0 = some (x + 7) := hk.2 (6, 0, 7) (List.mem_of_getElem? (i := 11) rfl)
theorem td_r6_1 {h : mH} {x : Nat} (hk : tdk h x) : mR h (x + 6) 1 = some (x + 13) := hk.2 (6, 1, 13) (List.mem_of_getElem? (i := 12) rfl)
theorem td_r6_2 {h : mH} {x : Nat} (hk : tdk h x) : mR h (x + 6) 2 = some (x + 19) := hk.2 (6, 2, 19) (List.mem_of_getElem? (i := 13) rfl)
theorem td_r6_3 {h : mH} {x : Nat} (hk : tdk h x) : mR h (x + 6) 3 = some (x + 20) := hk.2 (6, 3, 20) (List.mem_of_getElem? (i := 14) rfl)
theorem td_r6_4 {h : mH} {x : Nat} (hk : tdk h x) : mR h (x + 6) 4 = some (x + 21) := hk.2 (6, 4, 21) (List.mem_of_getElem? (i := 15) rfl)
theorem td_r7_0 {h : mH} {x : Nat} (hk : tdk h x) : mR h (x + 7) 0 = some (x + 8) := hk.2 (7, 0, 8) (List.mem_of_getElem? (i := 16) rfl)
theorem td_r7_1 {h : mH} {x : Nat} (hk : tdk h x) : mR h (x + 7) 1 = some (x + 9) := hk.2 (7, 1, 9) (List.mem_of_getElem? (i := 17) rfl)
theorem td_r7_2 {h : mH} {x : Nat} (hk : tdk h x) : mR h (x + 7) 2 = some (x + 10) := hk.2 (7, 2, 10) (List.mem_of_getElem? (i := 18) rfl)
theorem td_r7_3 {h : mH} {x : Nat} (hk : tdk h x) : mR h (x + 7) 3 = some (x + 11) := hk.2 (7, 3, 11) (List.mem_of_getElem? (i := 19) rfl)
theorem td_r7_4 {h : mH} {x : Nat} (hk : tdk h x) : mR h (x + 7) 4 = some (x + 12) := hk.2 (7, 4, 12) (List.mem_of_getElem? (i := 20) rfl)
theorem td_r13_0 {h : mH} {x : Nat} (hk : tdk h x) : mR h (x + 13) 0 = some (x + 14) := hk.2 (13, 0, 14) (List.mem_of_getElem? (i := 21) rfl)
theorem td_r13_1 {h : mH} {x : Nat} (hk : tdk h x) : mR h (x + 13) 1 = some (x + 15) := hk.2 (13, 1, 15) (List.mem_of_getElem? (i := 22) rfl)
theorem td_r13_2 {h : mH} {x : Nat} (hk : tdk h x) : mR h (x + 13) 2 = some (x + 16) := hk.2 (13, 2, 16) (List.mem_of_getElem? (i := 23) rfl)
theorem td_r13_3 {h : mH} {x : Nat} (hk : tdk h x) : mR h (x + 13) 3 = some (x + 17) := hk.2 (13, 3, 17) (List.mem_of_getElem? (i := 24) rfl)
theorem td_r13_4 {h : mH} {x : Nat} (hk : tdk h x) : mR h (x + 13) 4 = some (x + 18) := hk.2 (13, 4, 18) (List.mem_of_getElem? (i := 25) rfl)
theorem td_r22_0 {h : mH} {x : Nat} (hk : tdk h x) : mR h (x + 22) 0 = some (x + 23) := hk.2 (22, 0, 23) (List.mem_of_getElem? (i := 26) rfl)
theorem td_r22_1 {h : mH} {x : Nat} (hk : tdk h x) : mR h (x + 22) 1 = some (x + 24) := hk.2 (22, 1, 24) (List.mem_of_getElem? (i := 27) rfl)
theorem td_r22_2 {h : mH} {x : Nat} (hk : tdk h x) : mR h (x + 22) 2 = some (x + 25) := hk.2 (22, 2, 25) (List.mem_of_getElem? (i := 28) rfl)
theorem td_r26_0 {h : mH} {x : Nat} (hk : tdk h x) : mR h (x + 26) 0 = some (x + 27) := hk.2 (26, 0, 27) (List.mem_of_getElem? (i := 29) rfl)
theorem td_r26_1 {h : mH} {x : Nat} (hk : tdk h x) : mR h (x + 26) 1 = some (x + 28) := hk.2 (26, 1, 28) (List.mem_of_getElem? (i := 30) rfl)
theorem td_r26_2 {h : mH} {x : Nat} (hk : tdk h x) : mR h (x + 26) 2 = some (x + 29) := hk.2 (26, 2, 29) (List.mem_of_getElem? (i := 31) rfl)
theorem td_r30_0 {h : mH} {x : Nat} (hk : tdk h x) : mR h (x + 30) 0 = some (x + 31) := hk.2 (30, 0, 31) (List.mem_of_getElem? (i := 32) rfl)
theorem td_r30_1 {h : mH} {x : Nat} (hk : tdk h x) : mR h (x + 30) 1 = some (x + 37) := hk.2 (30, 1, 37) (List.mem_of_getElem? (i := 33) rfl)
theorem td_r30_2 {h : mH} {x : Nat} (hk : tdk h x) : mR h (x + 30) 2 = some (x + 43) := hk.2 (30, 2, 43) (List.mem_of_getElem? (i := 34) rfl)
theorem td_r30_3 {h : mH} {x : Nat} (hk : tdk h x) : mR h (x + 30) 3 = some (x + 44) := hk.2 (30, 3, 44) (List.mem_of_getElem? (i := 35) rfl)
theorem td_r30_4 {h : mH} {x : Nat} (hk : tdk h x) : mR h (x + 30) 4 = some (x + 45) := hk.2 (30, 4, 45) (List.mem_of_getElem? (i := 36) rfl)
theorem td_r31_0 {h : mH} {x : Nat} (hk : tdk h x) : mR h (x + 31) 0 = some (x + 32) := hk.2 (31, 0, 32) (List.mem_of_getElem? (i := 37) rfl)
theorem td_r31_1 {h : mH} {x : Nat} (hk : tdk h x) : mR h (x + 31) 1 = some (x + 33) := hk.2 (31, 1, 33) (List.mem_of_getElem? (i := 38) rfl)
theorem td_r31_2 {h : mH} {x : Nat} (hk : tdk h x) : mR h (x + 31) 2 = some (x + 34) := hk.2 (31, 2, 34) (List.mem_of_getElem? (i := 39) rfl)
theorem td_r31_3 {h : mH} {x : Nat} (hk : tdk h x) : mR h (x + 31) 3 = some (x + 35) := hk.2 (31, 3, 35) (List.mem_of_getElem? (i := 40) rfl)
theorem td_r31_4 {h : mH} {x : Nat} (hk : tdk h x) : mR h (x + 31) 4 = some (x + 36) := hk.2 (31, 4, 36) (List.mem_of_getElem? (i := 41) rfl)
theorem td_r37_0 {h : mH} {x : Nat} (hk : tdk h x) : mR h (x + 37) 0 = some (x + 38) := hk.2 (37, 0, 38) (List.mem_of_getElem? (i := 42) rfl)
theorem td_r37_1 {h : mH} {x : Nat} (hk : tdk h x) : mR h (x + 37) 1 = some (x + 39) := hk.2 (37, 1, 39) (List.mem_of_getElem? (i := 43) rfl)
theorem td_r37_2 {h : mH} {x : Nat} (hk : tdk h x) : mR h (x + 37) 2 = some (x + 40) := hk.2 (37, 2, 40) (List.mem_of_getElem? (i := 44) rfl)
theorem td_r37_3 {h : mH} {x : Nat} (hk : tdk h x) : mR h (x + 37) 3 = some (x + 41) := hk.2 (37, 3, 41) (List.mem_of_getElem? (i := 45) rfl)
theorem td_r37_4 {h : mH} {x : Nat} (hk : tdk h x) : mR h (x + 37) 4 = some (x + 42) := hk.2 (37, 4, 42) (List.mem_of_getElem? (i := 46) rfl)
theorem td_r46_0 {h : mH} {x : Nat} (hk : tdk h x) : mR h (x + 46) 0 = some (x + 47) := hk.2 (46, 0, 47) (List.mem_of_getElem? (i := 47) rfl)
theorem td_r46_1 {h : mH} {x : Nat} (hk : tdk h x) : mR h (x + 46) 1 = some (x + 48) := hk.2 (46, 1, 48) (List.mem_of_getElem? (i := 48) rfl)
theorem td_r46_2 {h : mH} {x : Nat} (hk : tdk h x) : mR h (x + 46) 2 = some (x + 49) := hk.2 (46, 2, 49) (List.mem_of_getElem? (i := 49) rfl)
theorem td_r50_0 {h : mH} {x : Nat} (hk : tdk h x) : mR h (x + 50) 0 = some (x + 51) := hk.2 (50, 0, 51) (List.mem_of_getElem? (i := 50) rfl)
theorem td_r50_1 {h : mH} {x : Nat} (hk : tdk h x) : mR h (x + 50) 1 = some (x + 52) := hk.2 (50, 1, 52) (List.mem_of_getElem? (i := 51) rfl)
theorem td_r50_2 {h : mH} {x : Nat} (hk : tdk h x) : mR h (x + 50) 2 = some (x + 53) := hk.2 (50, 2, 53) (List.mem_of_getElem? (i := 52) rfl)
def rdA : List (Nat × Nat × Nat) := [(0, 6, 0), (1, 2, 0), (2, 0, 0), (3, 14, 6), (4, 14, 6), (5, 14, 6), (6, 14, 6), (7, 14, 6), (8, 0, 0), (9, 14, 6), (10, 14, 6), (11, 14, 6), (12, 14, 6), (13, 14, 6), (14, 14, 6), (15, 14, 6), (16, 14, 6), (17, 10, 0), (18, 14, 40), (19, 14, 40), (20, 14, 40), (21, 1, 0), (22, 14, 8), (23, 14, 8), (24, 14, 8), (25, 13, 600), (26, 14, 4)]
def rdR : List (Nat × Nat × Nat) := [(0, 0, 1), (0, 1, 17), (0, 2, 21), (0, 5, 25), (0, 6, 26), (1, 0, 2), (1, 1, 8), (1, 2, 14), (1, 3, 15), (1, 4, 16), (2, 0, 3), (2, 1, 4), (2, 2, 5), (2, 3, 6), (2, 4, 7), (8, 0, 9), (8, 1, 10), (8, 2, 11), (8, 3, 12), (8, 4, 13), (17, 0, 18), (17, 1, 19), (17, 2, 20), (21, 0, 22), (21, 1, 23), (21, 2, 24)]
abbrev rdk (h : mH) (x : Nat) : Prop := lk rdA rdR h x
theorem rd_s {h : mH} {x : Nat} (hk : rdk h x) : mS h x = (6, 0) := hk.1 (0, 6, 0) (List.mem_of_getElem? (i := 0) rfl)
theorem rd_s0 {h : mH} {x : Nat} (hk : rdk h x) : mS h (x + 0) = (6, 0) := hk.1 (0, 6, 0) (List.mem_of_getElem? (i := 0) rfl)
theorem rd_s1 {h : mH} {x : Nat} (hk : rdk h x) : mS h (x + 1) = (2, 0) := hk.1 (1, 2, 0) (List.mem_of_getElem? (i := 1) rfl)
theorem rd_s2 {h : mH} {x : Nat} (hk : rdk h x) : mS h (x + 2) = (0, 0) := hk.1 (2, 0, 0) (List.mem_of_getElem? (i := 2) rfl)
theorem rd_s3 {h : mH} {x : Nat} (hk : rdk h x) : mS h (x + 3) = (14, 6) := hk.1 (3, 14, 6) (List.mem_of_getElem? (i := 3) rfl)
theorem rd_s4 {h : mH} {x : Nat} (hk : rdk h x) : mS h (x + 4) = (14, 6) := hk.1 (4, 14, 6) (List.mem_of_getElem? (i := 4) rfl)
theorem rd_s5 {h : mH} {x : Nat} (hk : rdk h x) : mS h (x + 5) = (14, 6) := hk.1 (5, 14, 6) (List.mem_of_getElem? (i := 5) rfl)
theorem rd_s6 {h : mH} {x : Nat} (hk : rdk h x) : mS h (x + 6) = (14, 6) := hk.1 (6, 14, 6) (List.mem_of_getElem? (i := 6) rfl)
theorem rd_s7 {h : mH} {x : Nat} (hk : rdk h x) : mS h (x + 7) = (14, 6) := hk.1 (7, 14, 6) (List.mem_of_getElem? (i := 7) rfl)
theorem rd_s8 {h : mH} {x : Nat} (hk : rdk h x) : mS h (x + 8) = (0, 0) := hk.1 (8, 0, 0) (List.mem_of_getElem? (i := 8) rfl)
theorem rd_s9 {h : mH} {x : Nat} (hk : rdk h x) : mS h (x + 9) = (14, 6) := hk.1 (9, 14, 6) (List.mem_of_getElem? (i := 9) rfl)
theorem rd_s10 {h : mH} {x : Nat} (hk : rdk h x) : mS h (x + 10) = (14, 6) := hk.1 (10, 14, 6) (List.mem_of_getElem? (i := 10) rfl)
theorem rd_s11 {h : mH} {x : Nat} (hk : rdk h x) : mS h (x + 11) = (14, 6) := hk.1 (11, 14, 6) (List.mem_of_getElem? (i := 11) rfl)
theorem rd_s12 {h : mH} {x : Nat} (hk : rdk h x) : mS h (x + 12) = (14, 6) := hk.1 (12, 14, 6) (List.mem_of_getElem? (i := 12) rfl)
theorem rd_s13 {h : mH} {x : Nat} (hk : rdk h x) : mS h (x + 13) = (14, 6) := hk.1 (13, 14, 6) (List.mem_of_getElem? (i := 13) rfl)
theorem rd_s14 {h : mH} {x : Nat} (hk : rdk h x) : mS h (x + 14) = (14, 6) := hk.1 (14, 14, 6) (List.mem_of_getElem? (i := 14) rfl)
theorem rd_s15 {h : mH} {x : Nat} (hk : rdk h x) : mS h (x + 15) = (14, 6) := hk.1 (15, 14, 6) (List.mem_of_getElem? (i := 15) rfl)
theorem rd_s16 {h : mH} {x : Nat} (hk : rdk h x) : mS h (x + 16) = (14, 6) := hk.1 (16, 14, 6) (List.mem_of_getElem? (i := 16) rfl)
theorem rd_s17 {h : mH} {x : Nat} (hk : rdk h x) : mS h (x + 17) = (10, 0) := hk.1 (17, 10, 0) (List.mem_of_getElem? (i := 17) rfl)
theorem rd_s18 {h : mH} {x : Nat} (hk : rdk h x) : mS h (x + 18) = (14, 40) := hk.1 (18, 14, 40) (List.mem_of_getElem? (i := 18) rfl)
theorem rd_s19 {h : mH} {x : Nat} (hk : rdk h x) : mS h (x + 19) = (14, 40) := hk.1 (19, 14, 40) (List.mem_of_getElem? (i := 19) rfl)
theorem rd_s20 {h : mH} {x : Nat} (hk : rdk h x) : mS h (x + 20) = (14, 40) := hk.1 (20, 14, 40) (List.mem_of_getElem? (i := 20) rfl)
theorem rd_s21 {h : mH} {x : Nat} (hk : rdk h x) : mS h (x + 21) = (1, 0) := hk.1 (21, 1, 0) (List.mem_of_getElem? (i := 21) rfl)
theorem rd_s22 {h : mH} {x : Nat} (hk : rdk h x) : mS h (x + 22) = (14, 8) := hk.1 (22, 14, 8) (List.mem_of_getElem? (i := 22) rfl)
theorem rd_s23 {h : mH} {x : Nat} (hk : rdk h x) : mS h (x + 23) = (14, 8) := hk.1 (23, 14, 8) (List.mem_of_getElem? (i := 23) rfl)
theorem rd_s24 {h : mH} {x : Nat} (hk : rdk h x) : mS h (x + 24) = (14, 8) := hk.1 (24, 14, 8) (List.mem_of_getElem? (i := 24) rfl)
theorem rd_s25 {h : mH} {x : Nat} (hk : rdk h x) : mS h (x + 25) = (13, 600) := hk.1 (25, 13, 600) (List.mem_of_getElem? (i := 25) rfl)
theorem rd_s26 {h : mH} {x : Nat} (hk : rdk h x) : mS h (x + 26) = (14, 4) := hk.1 (26, 14, 4) (List.mem_of_getElem? (i := 26) rfl)
theorem rd_r0_0 {h : mH} {x : Nat} (hk : rdk h x) : mR h (x + 0) 0 = some (x + 1) := hk.2 (0, 0, 1) (List.mem_of_getElem? (i := 0) rfl)
theorem rd_r0_1 {h : mH} {x : Nat} (hk : rdk h x) : mR h (x + 0) 1 = some (x + 17) := hk.2 (0, 1, 17) (List.mem_of_getElem? (i := 1) rfl)
theorem rd_r0_2 {h : mH} {x : Nat} (hk : rdk h x) : mR h (x + 0) 2 = some (x + 21) := hk.2 (0, 2, 21) (List.mem_of_getElem? (i := 2) rfl)
theorem rd_r0_5 {h : mH} {x : Nat} (hk : rdk h x) : mR h (x + 0) 5 = some (x + 25) := hk.2 (0, 5, 25) (List.mem_of_getElem? (i := 3) rfl)
theorem rd_r0_6 {h : mH} {x : Nat} (hk : rdk h x) : mR h (x + 0) 6 = some (x + 26) := hk.2 (0, 6, 26) (List.mem_of_getElem? (i := 4) rfl)
theorem rd_r1_0 {h : mH} {x : Nat} (hk : rdk h x) : mR h (x + 1) 0 = some (x + 2) := hk.2 (1, 0, 2) (List.mem_of_getElem? (i := 5) rfl)
theorem rd_r1_1 {h : mH} {x : Nat} (hk : rdk h x) : mR h (x + 1) 1 = some (x + 8) := hk.2 (1, 1, 8) (List.mem_of_getElem? (i := 6) rfl)
theorem rd_r1_2 {h : mH} {x : Nat} (hk : rdk h x) : mR h (x + 1) 2 = some (x + 14) := hk.2 (1, 2, 14) (List.mem_of_getElem? (i := 7) rfl)
theorem rd_r1_3 {h : mH} {x : Nat} (hk : rdk h x) : mR h (x + 1) 3 = some (x + 15) := hk.2 (1, 3, 15) (List.mem_of_getElem? (i := 8) rfl)
theorem rd_r1_4 {h : mH} {x : Nat} (hk : rdk h x) : mR h (x + 1) 4 = some (x + 16) := hk.2 (1, 4, 16) (List.mem_of_getElem? (i := 9) rfl)
theorem rd_r2_0 {h : mH} {x : Nat} (hk : rdk h x) : mR h (x + 2) 0 = some (x + 3) := hk.2 (2, 0, 3) (List.mem_of_getElem? (i := 10) rfl)
theorem rd_r2_1 {h : mH} {x : Nat} (hk : rdk h x) : mR h (x + 2) 1 = some (x + 4) := hk.2 (2, 1, 4) (List.mem_of_getElem? (i := 11) rfl)
theorem rd_r2_2 {h : mH} {x : Nat} (hk : rdk h x) : mR h (x + 2) 2 = some (x + 5) := hk.2 (2, 2, 5) (List.mem_of_getElem? (i := 12) rfl)
theorem rd_r2_3 {h : mH} {x : Nat} (hk : rdk h x) : mR h (x + 2) 3 = some (x + 6) := hk.2 (2, 3, 6) (List.mem_of_getElem? (i := 13) rfl)
theorem rd_r2_4 {h : mH} {x : Nat} (hk : rdk h x) : mR h (x + 2) 4 = some (x + 7) := hk.2 (2, 4, 7) (List.mem_of_getElem? (i := 14) rfl)
theorem rd_r8_0 {h : mH} {x : Nat} (hk : rdk h x) : mR h (x + 8) 0 = some (x + 9) := hk.2 (8, 0, 9) (List.mem_of_getElem? (i := 15) rfl)
theorem rd_r8_1 {h : mH} {x : Nat} (hk : rdk h x) : mR h (x + 8) 1 = some (x + 10) := hk.2 (8, 1, 10) (List.mem_of_getElem? (i := 16) rfl)
theorem rd_r8_2 {h : mH} {x : Nat} (hk : rdk h x) : mR h (x + 8) 2 = some (x + 11) := hk.2 (8, 2, 11) (List.mem_of_getElem? (i := 17) rfl)
theorem rd_r8_3 {h : mH} {x : Nat} (hk : rdk h x) : mR h (x + 8) 3 = some (x + 12) := hk.2 (8, 3, 12) (List.mem_of_getElem? (i := 18) rfl)
theorem rd_r8_4 {h : mH} {x : Nat} (hk : rdk h x) : mR h (x + 8) 4 = some (x + 13) := hk.2 (8, 4, 13) (List.mem_of_getElem? (i := 19) rfl)
theorem rd_r17_0 {h : mH} {x : Nat} (hk : rdk h x) : mR h (x + 17) 0 = some (x + 18) := hk.2 (17, 0, 18) (List.mem_of_getElem? (i := 20) rfl)
theorem rd_r17_1 {h : mH} {x : Nat} (hk : rdk h x) : mR h (x + 17) 1 = some (x + 19) := hk.2 (17, 1, 19) (List.mem_of_getElem? (i := 21) rfl)
theorem rd_r17_2 {h : mH} {x : Nat} (hk : rdk h x) : mR h (x + 17) 2 = some (x + 20) := hk.2 (17, 2, 20) (List.mem_of_getElem? (i := 22) rfl)
theorem rd_r21_0 {h : mH} {x : Nat} (hk : rdk h x) : mR h (x + 21) 0 = some (x + 22) := hk.2 (21, 0, 22) (List.mem_of_getElem? (i := 23) rfl)
theorem rd_r21_1 {h : mH} {x : Nat} (hk : rdk h x) : mR h (x + 21) 1 = some (x + 23) := hk.2 (21, 1, 23) (List.mem_of_getElem? (i := 24) rfl)
theorem rd_r21_2 {h : mH} {x : Nat} (hk : rdk h x) : mR h (x + 21) 2 = some (x + 24) := hk.2 (21, 2, 24) (List.mem_of_getElem? (i := 25) rfl)
def seA : List (Nat × Nat × Nat) := [(0, 7, 0), (1, 2, 0), (2, 0, 0), (3, 14, 6), (4, 14, 6), (5, 14, 6), (6, 14, 6), (7, 14, 6), (8, 0, 0), (9, 14, 6), (10, 14, 6), (11, 14, 6), (12, 14, 6), (13, 14, 6), (14, 14, 6), (15, 14, 6), (16, 14, 6)]
def seR : List (Nat × Nat × Nat) := [(0, 0, 1), (1, 0, 2), (1, 1, 8), (1, 2, 14), (1, 3, 15), (1, 4, 16), (2, 0, 3), (2, 1, 4), (2, 2, 5), (2, 3, 6), (2, 4, 7), (8, 0, 9), (8, 1, 10), (8, 2, 11), (8, 3, 12), (8, 4, 13)]
abbrev sek (h : mH) (x : Nat) : Prop := lk seA seR h x
theorem se_s {h : mH} {x : Nat} (hk : sek h x) : mS h x = (7, 0) := hk.1 (0, 7, 0) (List.mem_of_getElem? (i := 0) rfl)
theorem se_s0 {h : mH} {x : Nat} (hk : sek h x) : mS h (x + 0) = (7, 0) := hk.1 (0, 7, 0) (List.mem_of_getElem? (i := 0) rfl)
theorem se_s1 {h : mH} {x : Nat} (hk : sek h x) : mS h (x + 1) = (2, 0) := hk.1 (1, 2, 0) (List.mem_of_getElem? (i := 1) rfl)
theorem se_s2 {h : mH} {x : Nat} (hk : sek h x) : mS h (x + 2) = (0, 0) := hk.1 (2, 0, 0) (List.mem_of_getElem? (i := 2) rfl)
theorem se_s3 {h : mH} {x : Nat} (hk : sek h x) : mS h (x + 3) = (14, 6) := hk.1 (3, 14, 6) (List.mem_of_getElem? (i := 3) rfl)
theorem se_s4 {h : mH} {x : Nat} (hk : sek h x) : mS h (x + 4) = (14, 6) := hk.1 (4, 14, 6) (List.mem_of_getElem? (i := 4) rfl)
theorem se_s5 {h : mH} {x : Nat} (hk : sek h x) : mS h (x + 5) = (14, 6) := hk.1 (5, 14, 6) (List.mem_of_getElem? (i := 5) rfl)
theorem se_s6 {h : mH} {x : Nat} (hk : sek h x) : mS h (x + 6) = (14, 6) := hk.1 (6, 14, 6) (List.mem_of_getElem? (i := 6) rfl)
theorem se_s7 {h : mH} {x : Nat} (hk : sek h x) : mS h (x + 7) = (14, 6) := hk.1 (7, 14, 6) (List.mem_of_getElem? (i := 7) rfl)
theorem se_s8 {h : mH} {x : Nat} (hk : sek h x) : mS h (x + 8) = (0, 0) := hk.1 (8, 0, 0) (List.mem_of_getElem? (i := 8) rfl)
theorem se_s9 {h : mH} {x : Nat} (hk : sek h x) : mS h (x + 9) = (14, 6) := hk.1 (9, 14, 6) (List.mem_of_getElem? (i := 9) rfl)
theorem se_s10 {h : mH} {x : Nat} (hk : sek h x) : mS h (x + 10) = (14, 6) := hk.1 (10, 14, 6) (List.mem_of_getElem? (i := 10) rfl)
theorem se_s11 {h : mH} {x : Nat} (hk : sek h x) : mS h (x + 11) = (14, 6) := hk.1 (11, 14, 6) (List.mem_of_getElem? (i := 11) rfl)
theorem se_s12 {h : mH} {x : Nat} (hk : sek h x) : mS h (x + 12) = (14, 6) := hk.1 (12, 14, 6) (List.mem_of_getElem? (i := 12) rfl)
theorem se_s13 {h : mH} {x : Nat} (hk : sek h x) : mS h (x + 13) = (14, 6) := hk.1 (13, 14, 6) (List.mem_of_getElem? (i := 13) rfl)
theorem se_s14 {h : mH} {x : Nat} (hk : sek h x) : mS h (x + 14) = (14, 6) := hk.1 (14, 14, 6) (List.mem_of_getElem? (i := 14) rfl)
theorem se_s15 {h : mH} {x : Nat} (hk : sek h x) : mS h (x + 15) = (14, 6) := hk.1 (15, 14, 6) (List.mem_of_getElem? (i := 15) rfl)
theorem se_s16 {h : mH} {x : Nat} (hk : sek h x) : mS h (x + 16) = (14, 6) := hk.1 (16, 14, 6) (List.mem_of_getElem? (i := 16) rfl)
theorem se_r0_0 {h : mH} {x : Nat} (hk : sek h x) : mR h (x + 0) 0 = some (x + 1) := hk.2 (0, 0, 1) (List.mem_of_getElem? (i := 0) rfl)
theorem se_r1_0 {h : mH} {x : Nat} (hk : sek h x) : mR h (x + 1) 0 = some (x + 2) := hk.2 (1, 0, 2) (List.mem_of_getElem? (i := 1) rfl)
theorem se_r1_1 {h : mH} {x : Nat} (hk : sek h x) : mR h (x + 1) 1 = some (x + 8) := hk.2 (1, 1, 8) (List.mem_of_getElem? (i := 2) rfl)
theorem se_r1_2 {h : mH} {x : Nat} (hk : sek h x) : mR h (x + 1) 2 = some (x + 14) := hk.2 (1, 2, 14) (List.mem_of_getElem? (i := 3) rfl)
theorem se_r1_3 {h : mH} {x : Nat} (hk : sek h x) : mR h (x + 1) 3 = some (x + 15) := hk.2 (1, 3, 15) (List.mem_of_getElem? (i := 4) rfl)
theorem se_r1_4 {h : mH} {x : Nat} (hk : sek h x) : mR h (x + 1) 4 = some (x + 16) := hk.2 (1, 4, 16) (List.mem_of_getElem? (i := 5) rfl)
theorem se_r2_0 {h : mH} {x : Nat} (hk : sek h x) : mR h (x + 2) 0 = some (x + 3) := hk.2 (2, 0, 3) (List.mem_of_getElem? (i := 6) rfl)
theorem se_r2_1 {h : mH} {x : Nat} (hk : sek h x) : mR h (x + 2) 1 = some (x + 4) := hk.2 (2, 1, 4) (List.mem_of_getElem? (i := 7) rfl)
theorem se_r2_2 {h : mH} {x : Nat} (hk : sek h x) : mR h (x + 2) 2 = some (x + 5) := hk.2 (2, 2, 5) (List.mem_of_getElem? (i := 8) rfl)
theorem se_r2_3 {h : mH} {x : Nat} (hk : sek h x) : mR h (x + 2) 3 = some (x + 6) := hk.2 (2, 3, 6) (List.mem_of_getElem? (i := 9) rfl)
theorem se_r2_4 {h : mH} {x : Nat} (hk : sek h x) : mR h (x + 2) 4 = some (x + 7) := hk.2 (2, 4, 7) (List.mem_of_getElem? (i := 10) rfl)
theorem se_r8_0 {h : mH} {x : Nat} (hk : sek h x) : mR h (x + 8) 0 = some (x + 9) := hk.2 (8, 0, 9) (List.mem_of_getElem? (i := 11) rfl)
theorem se_r8_1 {h : mH} {x : Nat} (hk : sek h x) : mR h (x + 8) 1 = some (x + 10) := hk.2 (8, 1, 10) (List.mem_of_getElem? (i := 12) rfl)
theorem se_r8_2 {h : mH} {x : Nat} (hk : sek h x) : mR h (x + 8) 2 = some (x + 11) := hk.2 (8, 2, 11) (List.mem_of_getElem? (i := 13) rfl)
theorem se_r8_3 {h : mH} {x : Nat} (hk : sek h x) : mR h (x + 8) 3 = some (x + 12) := hk.2 (8, 3, 12) (List.mem_of_getElem? (i := 14) rfl)
theorem se_r8_4 {h : mH} {x : Nat} (hk : sek h x) : mR h (x + 8) 4 = some (x + 13) := hk.2 (8, 4, 13) (List.mem_of_getElem? (i := 15) rfl)
def maA : List (Nat × Nat × Nat) := [(0, 5, 0), (1, 2, 0), (2, 0, 0), (3, 14, 6), (4, 14, 6), (5, 14, 6), (6, 14, 6), (7, 14, 6), (8, 0, 0), (9, 14, 6), (10, 14, 6), (11, 14, 6), (12, 14, 6), (13, 14, 6), (14, 14, 6), (15, 14, 6), (16, 14, 6), (17, 2, 0), (18, 0, 0), (19, 14, 6), (20, 14, 6), (21, 14, 6), (22, 14, 6), (23, 14, 6), (24, 0, 0), (25, 14, 6), (26, 14, 6), (27, 14, 6), (28, 14, 6), (29, 14, 6), (30, 14, 6), (31, 14, 6), (32, 14, 6), (33, 14, 6), (34, 14, 6), (35, 14, 6), (36, 14, 6), (37, 14, 6), (38, 14, 6), (39, 14, 42), (40, 14, 42), (41, 14, 42)]
def maR : List (Nat × Nat × Nat) := [(0, 0, 1), (0, 1, 17), (0, 2, 33), (0, 3, 34), (0, 4, 35), (0, 5, 36), (0, 6, 37), (0, 7, 38), (0, 8, 39), (0, 9, 40), (0, 10, 41), (1, 0, 2), (1, 1, 8), (1, 2, 14), (1, 3, 15), (1, 4, 16), (2, 0, 3), (2, 1, 4), (2, 2, 5), (2, 3, 6), (2, 4, 7), (8, 0, 9), (8, 1, 10), (8, 2, 11), (8, 3, 12), (8, 4, 13), (17, 0, 18), (17, 1, 24), (17, 2, 30), (17, 3, 31), (17, 4, 32), (18, 0, 19), (18, 1, 20), (18, 2, 21), (18, 3, 22), (18, 4, 23), (24, 0, 25), (24, 1, 26), (24, 2, 27), (24, 3, 28), (24, 4, 29)]
abbrev mak (h : mH) (x : Nat) : Prop := lk maA maR h x
theorem ma_s {h : mH} {x : Nat} (hk : mak h x) : mS h x = (5, 0) := hk.1 (0, 5, 0) (List.mem_of_getElem? (i := 0) rfl)
theorem ma_s0 {h : mH} {x : Nat} (hk : mak h x) : mS h (x + 0) = (5, 0) := hk.1 (0, 5, 0) (List.mem_of_getElem? (i := 0) rfl)
theorem ma_s1 {h : mH} {x : Nat} (hk : mak h x) : mS h (x + 1) = (2, 0) := hk.1 (1, 2, 0) (List.mem_of_getElem? (i := 1) rfl)
theorem ma_s2 {h : mH} {x : Nat} (hk : mak h x) : mS h (x + 2) = (0, 0) := hk.1 (2, 0, 0) (List.mem_of_getElem? (i := 2) rfl)
theorem ma_s3 {h : mH} {x : Nat} (hk : mak h x) : mS h (x + 3) = (14, 6) := hk.1 (3, 14, 6) (List.mem_of_getElem? (i := 3) rfl)
theorem ma_s4 {h : mH} {x : Nat} (hk : mak h x) : mS h (x + 4) = (14, 6) := hk.1 (4, 14, 6) (List.mem_of_getElem? (i := 4) rfl)
theorem ma_s5 {h : mH} {x : Nat} (hk : mak h x) : mS h (x + 5) = (14, 6) := hk.1 (5, 14, 6) (List.mem_of_getElem? (i := 5) rfl)
theorem ma_s6 {h : mH} {x : Nat} (hk : mak h x) : mS h (x + 6) = (14, 6) := hk.1 (6, 14, 6) (List.mem_of_getElem? (i := 6) rfl)
theorem ma_s7 {h : mH} {x : Nat} (hk : mak h x) : mS h (x + 7) = (14, 6) := hk.1 (7, 14, 6) (List.mem_of_getElem? (i := 7) rfl)
theorem ma_s8 {h : mH} {x : Nat} (hk : mak h x) : mS h (x + 8) = (0, 0) := hk.1 (8, 0, 0) (List.mem_of_getElem? (i := 8) rfl)
theorem ma_s9 {h : mH} {x : Nat} (hk : mak h x) : mS h (x + 9) = (14, 6) := hk.1 (9, 14, 6) (List.mem_of_getElem? (i := 9) rfl)
theorem ma_s10 {h : mH} {x : Nat} (hk : mak h x) : mS h (x + 10) = (14, 6) := hk.1 (10, 14, 6) (List.mem_of_getElem? (i := 10) rfl)
theorem ma_s11 {h : mH} {x : Nat} (hk : mak h x) : mS h (x + 11) = (14, 6) := hk.1 (11, 14, 6) (List.mem_of_getElem? (i := 11) rfl)
theorem ma_s12 {h : mH} {x : Nat} (hk : mak h x) : mS h (x + 12) = (14, 6) := hk.1 (12, 14, 6) (List.mem_of_getElem? (i := 12) rfl)
theorem ma_s13 {h : mH} {x : Nat} (hk : mak h x) : mS h (x + 13) = (14, 6) := hk.1 (13, 14, 6) (List.mem_of_getElem? (i := 13) rfl)
theorem ma_s14 {h : mH} {x : Nat} (hk : mak h x) : mS h (x + 14) = (14, 6) := hk.1 (14, 14, 6) (List.mem_of_getElem? (i := 14) rfl)
theorem ma_s15 {h : mH} {x : Nat} (hk : mak h x) : mS h (x + 15) = (14, 6) := hk.1 (15, 14, 6) (List.mem_of_getElem? (i := 15) rfl)
theorem ma_s16 {h : mH} {x : Nat} (hk : mak h x) : mS h (x + 16) = (14, 6) := hk.1 (16, 14, 6) (List.mem_of_getElem? (i := 16) rfl)
theorem ma_s17 {h : mH} {x : Nat} (hk : mak h x) : mS h (x + 17) = (2, 0) := hk.1 (17, 2, 0) (List.mem_of_getElem? (i := 17) rfl)
theorem ma_s18 {h : mH} {x : Nat} (hk : mak h x) : mS h (x + 18) = (0, 0) := hk.1 (18, 0, 0) (List.mem_of_getElem? (i := 18) rfl)
theorem ma_s19 {h : mH} {x : Nat} (hk : mak h x) : mS h (x + 19) = (14, 6) := hk.1 (19, 14, 6) (List.mem_of_getElem? (i := 19) rfl)
theorem ma_s20 {h : mH} {x : Nat} (hk : mak h x) : mS h (x + 20) = (14, 6) := hk.1 (20, 14, 6) (List.mem_of_getElem? (i := 20) rfl)
theorem ma_s21 {h : mH} {x : Nat} (hk : mak h x) : mS h (x + 21) = (14, 6) := hk.1 (21, 14, 6) (List.mem_of_getElem? (i := 21) rfl)
theorem ma_s22 {h : mH} {x : Nat} (hk : mak h x) : mS h (x + 22) = (14, 6) := hk.1 (22, 14, 6) (List.mem_of_getElem? (i := 22) rfl)
theorem ma_s23 {h : mH} {x : Nat} (hk : mak h x) : mS h (x + 23) = (14, 6) := hk.1 (23, 14, 6) (List.mem_of_getElem? (i := 23) rfl)
theorem ma_s24 {h : mH} {x : Nat} (hk : mak h x) : mS h (x + 24) = (0, 0) := hk.1 (24, 0, 0) (List.mem_of_getElem? (i := 24) rfl)
theorem ma_s25 {h : mH} {x : Nat} (hk : mak h x) : mS h (x + 25) = (14, 6) := hk.1 (25, 14, 6) (List.mem_of_getElem? (i := 25) rfl)
theorem ma_s26 {h : mH} {x : Nat} (hk : mak h x) : mS h (x + 26) = (14, 6) := hk.1 (26, 14, 6) (List.mem_of_getElem? (i := 26) rfl)
theorem ma_s27 {h : mH} {x : Nat} (hk : mak h x) : mS h (x + 27) = (14, 6) := hk.1 (27, 14, 6) (List.mem_of_getElem? (i := 27) rfl)
theorem ma_s28 {h : mH} {x : Nat} (hk : mak h x) : mS h (x + 28) = (14, 6) := hk.1 (28, 14, 6) (List.mem_of_getElem? (i := 28) rfl)
theorem ma_s29 {h : mH} {x : Nat} (hk : mak h x) : mS h (x + 29) = (14, 6) := hk.1 (29, 14, 6) (List.mem_of_getElem? (i := 29) rfl)
theorem ma_s30 {h : mH} {x : Nat} (hk : mak h x) : mS h (x + 30) = (14, 6) := hk.1 (30, 14, 6) (List.mem_of_getElem? (i := 30) rfl)
theorem ma_s31 {h : mH} {x : Nat} (hk : mak h x) : mS h (x + 31) = (14, 6) := hk.1 (31, 14, 6) (List.mem_of_getElem? (i := 31) rfl)
theorem ma_s32 {h : mH} {x : Nat} (hk : mak h x) : mS h (x + 32) = (14, 6) := hk.1 (32, 14, 6) (List.mem_of_getElem? (i := 32) rfl)
theorem ma_s33 {h : mH} {x : Nat} (hk : mak h x) : mS h (x + 33) = (14, 6) := hk.1 (33, 14, 6) (List.mem_of_getElem? (i := 33) rfl)
theorem ma_s34 {h : mH} {x : Nat} (hk : mak h x) : mS h (x + 34) = (14, 6) := hk.1 (34, 14, 6) (List.mem_of_getElem? (i := 34) rfl)
theorem ma_s35 {h : mH} {x : Nat} (hk : mak h x) : mS h (x + 35) = (14, 6) := hk.1 (35, 14, 6) (List.mem_of_getElem? (i := 35) rfl)
theorem ma_s36 {h : mH} {x : Nat} (hk : mak h x) : mS h (x + 36) = (14, 6) := hk.1 (36, 14, 6) (List.mem_of_getElem? (i := 36) rfl)
theorem ma_s37 {h : mH} {x : Nat} (hk : mak h x) : mS h (x + 37) = (14, 6) := hk.1 (37, 14, 6) (List.mem_of_getElem? (i := 37) rfl)
theorem ma_s38 {h : mH} {x : Nat} (hk : mak h x) : mS h (x + 38) = (14, 6) := hk.1 (38, 14, 6) (List.mem_of_getElem? (i := 38) rfl)
theorem ma_s39 {h : mH} {x : Nat} (hk : mak h x) : mS h (x + 39) = (14, 42) := hk.1 (39, 14, 42) (List.mem_of_getElem? (i := 39) rfl)
theorem ma_s40 {h : mH} {x : Nat} (hk : mak h x) : mS h (x + 40) = (14, 42) := hk.1 (40, 14, 42) (List.mem_of_getElem? (i := 40) rfl)
theorem ma_s41 {h : mH} {x : Nat} (hk : mak h x) : mS h (x + 41) = (14, 42) := hk.1 (41, 14, 42) (List.mem_of_getElem? (i := 41) rfl)
theorem ma_r0_0 {h : mH} {x : Nat} (hk : mak h x) : mR h (x + 0) 0 = some (x + 1) := hk.2 (0, 0, 1) (List.mem_of_getElem? (i := 0) rfl)
theorem ma_r0_1 {h : mH} {x : Nat} (hk : mak h x) : mR h (x + 0) 1 = some (x + 17) := hk.2 (0, 1, 17) (List.mem_of_getElem? (i := 1) rfl)
theorem ma_r0_2 {h : mH} {x : Nat} (hk : mak h x) : mR h (x + 0) 2 = some (x + 33) := hk.2 (0, 2, 33) (List.mem_of_getElem? (i := 2) rfl)
theorem ma_r0_3 {h : mH} {x : Nat} (hk : mak h x) : mR h (x + 0) 3 = some (x + 34) := hk.2 (0, 3, 34) (List.mem_of_getElem? (i := 3) rfl)
theorem ma_r0_4 {h : mH} {x : Nat} (hk : mak h x) : mR h (x + 0) 4 = some (x + 35) := hk.2 (0, 4, 35) (List.mem_of_getElem? (i := 4) rfl)
theorem ma_r0_5 {h : mH} {x : Nat} (hk : mak h x) : mR h (x + 0) 5 = some (x + 36) := hk.2 (0, 5, 36) (List.mem_of_getElem? (i := 5) rfl)
theorem ma_r0_6 {h : mH} {x : Nat} (hk : mak h x) : mR h (x + 0) 6 = some (x + 37) := hk.2 (0, 6, 37) (List.mem_of_getElem? (i := 6) rfl)
theorem ma_r0_7 {h : mH} {x : Nat} (hk : mak h x) : mR h (x + 0) 7 = some (x + 38) := hk.2 (0, 7, 38) (List.mem_of_getElem? (i := 7) rfl)
theorem ma_r0_8 {h : mH} {x : Nat} (hk : mak h x) : mR h (x + 0) 8 = some (x + 39) := hk.2 (0, 8, 39) (List.mem_of_getElem? (i := 8) rfl)
theorem ma_r0_9 {h : mH} {x : Nat} (hk : mak h x) : mR h (x + 0) 9 = some (x + 40) := hk.2 (0, 9, 40) (List.mem_of_getElem? (i := 9) rfl)
theorem ma_r0_10 {h : mH} {x : Nat} (hk : mak h x) : mR h (x + 0) 10 = some (x + 41) := hk.2 (0, 10, 41) (List.mem_of_getElem? (i := 10) rfl)
theorem ma_r1_0 {h : mH} {x : Nat} (hk : mak h x) : mR h (x + 1) 0 = some (x + 2) := hk.2 (1, 0, 2) (List.mem_of_getElem? (i := 11) rfl)
theorem ma_r1_1 {h : mH} {x : Nat} (hk : mak h x) : mR h (x + 1) 1 = some (x + 8) := hk.2 (1, 1, 8) (List.mem_of_getElem? (i := 12) rfl)
theorem ma_r1_2 {h : mH} {x : Nat} (hk : mak h x) : mR h (x + 1) 2 = some (x + 14) := hk.2 (1, 2, 14) (List.mem_of_getElem? (i := 13) rfl)
theorem ma_r1_3 {h : mH} {x : Nat} (hk : mak h x) : mR h (x + 1) 3 = some (x + 15) := hk.2 (1, 3, 15) (List.mem_of_getElem? (i := 14) rfl)
theorem ma_r1_4 {h : mH} {x : Nat} (hk : mak h x) : mR h (x + 1) 4 = some (x + 16) := hk.2 (1, 4, 16) (List.mem_of_getElem? (i := 15) rfl)
theorem ma_r2_0 {h : mH} {x : Nat} (hk : mak h x) : mR h (x + 2) 0 = some (x + 3) := hk.2 (2, 0, 3) (List.mem_of_getElem? (i := 16) rfl)
theorem ma_r2_1 {h : mH} {x : Nat} (hk : mak h x) : mR h (x + 2) 1 = some (x + 4) := hk.2 (2, 1, 4) (List.mem_of_getElem? (i := 17) rfl)
theorem ma_r2_2 {h : mH} {x : Nat} (hk : mak h x) : mR h (x + 2) 2 = some (x + 5) := hk.2 (2, 2, 5) (List.mem_of_getElem? (i := 18) rfl)
theorem ma_r2_3 {h : mH} {x : Nat} (hk : mak h x) : mR h (x + 2) 3 = some (x + 6) := hk.2 (2, 3, 6) (List.mem_of_getElem? (i := 19) rfl)
theorem ma_r2_4 {h : mH} {x : Nat} (hk : mak h x) : mR h (x + 2) 4 = some (x + 7) := hk.2 (2, 4, 7) (List.mem_of_getElem? (i := 20) rfl)
theorem ma_r8_0 {h : mH} {x : Nat} (hk : mak h x) : mR h (x + 8) 0 = some (x + 9) := hk.2 (8, 0, 9) (List.mem_of_getElem? (i := 21) rfl)
theorem ma_r8_1 {h : mH} {x : Nat} (hk : mak h x) : mR h (x + 8) 1 = some (x + 10) := hk.2 (8, 1, 10) (List.mem_of_getElem? (i := 22) rfl)
theorem ma_r8_2 {h : mH} {x : Nat} (hk : mak h x) : mR h (x + 8) 2 = some (x + 11) := hk.2 (8, 2, 11) (List.mem_of_getElem? (i := 23) rfl)
theorem ma_r8_3 {h : mH} {x : Nat} (hk : mak h x) : mR h (x + 8) 3 = some (x + 12) := hk.2 (8, 3, 12) (List.mem_of_getElem? (i := 24) rfl)
theorem ma_r8_4 {h : mH} {x : Nat} (hk : mak h x) : mR h (x + 8) 4 = some (x + 13) := hk.2 (8, 4, 13) (List.mem_of_getElem? (i := 25) rfl)
theorem ma_r17_0 {h : mH} {x : Nat} (hk : mak h x) : mR h (x + 17) 0 = some (x + 18) := hk.2 (17, 0, 18) (List.mem_of_getElem? (i := 26) rfl)
theorem ma_r17_1 {h : mH} {x : Nat} (hk : mak h x) : mR h (x + 17) 1 = some (x + 24) := hk.2 (17, 1, 24) (List.mem_of_getElem? (i := 27) rfl)
theorem ma_r17_2 {h : mH} {x : Nat} (hk : mak h x) : mR h (x + 17) 2 = some (x + 30) := hk.2 (17, 2, 30) (List.mem_of_getElem? (i := 28) rfl)
theorem ma_r17_3 {h : mH} {x : Nat} (hk : mak h x) : mR h (x + 17) 3 = some (x + 31) := hk.2 (17, 3, 31) (List.mem_of_getElem? (i := 29) rfl)
theorem ma_r17_4 {h : mH} {x : Nat} (hk : mak h x) : mR h (x + 17) 4 = some (x + 32) := hk.2 (17, 4, 32) (List.mem_of_getElem? (i := 30) rfl)
theorem ma_r18_0 {h : mH} {x : Nat} (hk : mak h x) : mR h (x + 18) 0 = some (x + 19) := hk.2 (18, 0, 19) (List.mem_of_getElem? (i := 31) rfl)
theorem ma_r18_1 {h : mH} {x : Nat} (hk : mak h x) : mR h (x + 18) 1 = some (x + 20) := hk.2 (18, 1, 20) (List.mem_of_getElem? (i := 32) rfl)
theorem ma_r18_2 {h : mH} {x : Nat} (hk : mak h x) : mR h (x + 18) 2 = some (x + 21) := hk.2 (18, 2, 21) (List.mem_of_getElem? (i := 33) rfl)
theorem ma_r18_3 {h : mH} {x : Nat} (hk : mak h x) : mR h (x + 18) 3 = some (x + 22) := hk.2 (18, 3, 22) (List.mem_of_getElem? (i := 34) rfl)
theorem ma_r18_4 {h : mH} {x : Nat} (hk : mak h x) : mR h (x + 18) 4 = some (x + 23) := hk.2 (18, 4, 23) (List.mem_of_getElem? (i := 35) rfl)
theorem ma_r24_0 {h : mH} {x : Nat} (hk : mak h x) : mR h (x + 24) 0 = some (x + 25) := hk.2 (24, 0, 25) (List.mem_of_getElem? (i := 36) rfl)
theorem ma_r24_1 {h : mH} {x : Nat} (hk : mak h x) : mR h (x + 24) 1 = some (x + 26) := hk.2 (24, 1, 26) (List.mem_of_getElem? (i := 37) rfl)
theorem ma_r24_2 {h : mH} {x : Nat} (hk : mak h x) : mR h (x + 24) 2 = some (x + 27) := hk.2 (24, 2, 27) (List.mem_of_getElem? (i := 38) rfl)
theorem ma_r24_3 {h : mH} {x : Nat} (hk : mak h x) : mR h (x + 24) 3 = some (x + 28) := hk.2 (24, 3, 28) (List.mem_of_getElem? (i := 39) rfl)
theorem ma_r24_4 {h : mH} {x : Nat} (hk : mak h x) : mR h (x + 24) 4 = some (x + 29) := hk.2 (24, 4, 29) (List.mem_of_getElem? (i := 40) rfl)
def mkA : List (Nat × Nat × Nat) := [(0, 4, 0), (1, 14, 6), (2, 14, 6), (3, 14, 6)]
def mkR : List (Nat × Nat × Nat) := [(0, 0, 1), (0, 1, 2), (0, 3, 3)]
abbrev mkk (h : mH) (x : Nat) : Prop := lk mkA mkR h x
theorem mk_s {h : mH} {x : Nat} (hk : mkk h x) : mS h x = (4, 0) := hk.1 (0, 4, 0) (List.mem_of_getElem? (i := 0) rfl)
theorem mk_s0 {h : mH} {x : Nat} (hk : mkk h x) : mS h (x + 0) = (4, 0) := hk.1 (0, 4, 0) (List.mem_of_getElem? (i := 0) rfl)
theorem mk_s1 {h : mH} {x : Nat} (hk : mkk h x) : mS h (x + 1) = (14, 6) := hk.1 (1, 14, 6) (List.mem_of_getElem? (i := 1) rfl)
theorem mk_s2 {h : mH} {x : Nat} (hk : mkk h x) : mS h (x + 2) = (14, 6) := hk.1 (2, 14, 6) (List.mem_of_getElem? (i := 2) rfl)
theorem mk_s3 {h : mH} {x : Nat} (hk : mkk h x) : mS h (x + 3) = (14, 6) := hk.1 (3, 14, 6) (List.mem_of_getElem? (i := 3) rfl)
theorem mk_r0_0 {h : mH} {x : Nat} (hk : mkk h x) : mR h (x + 0) 0 = some (x + 1) := hk.2 (0, 0, 1) (List.mem_of_getElem? (i := 0) rfl)
theorem mk_r0_1 {h : mH} {x : Nat} (hk : mkk h x) : mR h (x + 0) 1 = some (x + 2) := hk.2 (0, 1, 2) (List.mem_of_getElem? (i := 1) rfl)
theorem mk_r0_3 {h : mH} {x : Nat} (hk : mkk h x) : mR h (x + 0) 3 = some (x + 3) := hk.2 (0, 3, 3) (List.mem_of_getElem? (i := 2) rfl)
def wkA : List (Nat × Nat × Nat) := [(0, 9, 0), (1, 14, 6), (2, 14, 6), (3, 14, 6), (4, 16, 384), (5, 14, 6), (6, 14, 7)]
def wkR : List (Nat × Nat × Nat) := [(0, 0, 1), (0, 2, 2), (0, 3, 3), (0, 4, 4), (0, 5, 5), (0, 6, 6)]
abbrev wkk (h : mH) (x : Nat) : Prop := lk wkA wkR h x
theorem wk_s {h : mH} {x : Nat} (hk : wkk h x) : mS h x = (9, 0) := hk.1 (0, 9, 0) (List.mem_of_getElem? (i := 0) rfl)
theorem wk_s0 {h : mH} {x : Nat} (hk : wkk h x) : mS h (x + 0) = (9, 0) := hk.1 (0, 9, 0) (List.mem_of_getElem? (i := 0) rfl)
theorem wk_s1 {h : mH} {x : Nat} (hk : wkk h x) : mS h (x + 1) = (14, 6) := hk.1 (1, 14, 6) (List.mem_of_getElem? (i := 1) rfl)
theorem wk_s2 {h : mH} {x : Nat} (hk : wkk h x) : mS h (x + 2) = (14, 6) := hk.1 (2, 14, 6) (List.mem_of_getElem? (i := 2) rfl)
theorem wk_s3 {h : mH} {x : Nat} (hk : wkk h x) : mS h (x + 3) = (14, 6) := hk.1 (3, 14, 6) (List.mem_of_getElem? (i := 3) rfl)
theorem wk_s4 {h : mH} {x : Nat} (hk : wkk h x) : mS h (x + 4) = (16, 384) := hk.1 (4, 16, 384) (List.mem_of_getElem? (i := 4) rfl)
theorem wk_s5 {h : mH} {x : Nat} (hk : wkk h x) : mS h (x + 5) = (14, 6) := hk.1 (5, 14, 6) (List.mem_of_getElem? (i := 5) rfl)
theorem wk_s6 {h : mH} {x : Nat} (hk : wkk h x) : mS h (x + 6) = (14, 7) := hk.1 (6, 14, 7) (List.mem_of_getElem? (i := 6) rfl)
theorem wk_r0_0 {h : mH} {x : Nat} (hk : wkk h x) : mR h (x + 0) 0 = some (x + 1) := hk.2 (0, 0, 1) (List.mem_of_getElem? (i := 0) rfl)
theorem wk_r0_2 {h : mH} {x : Nat} (hk : wkk h x) : mR h (x + 0) 2 = some (x + 2) := hk.2 (0, 2, 2) (List.mem_of_getElem? (i := 1) rfl)
theorem wk_r0_3 {h : mH} {x : Nat} (hk : wkk h x) : mR h (x + 0) 3 = some (x + 3) := hk.2 (0, 3, 3) (List.mem_of_getElem? (i := 2) rfl)
theorem wk_r0_4 {h : mH} {x : Nat} (hk : wkk h x) : mR h (x + 0) 4 = some (x + 4) := hk.2 (0, 4, 4) (List.mem_of_getElem? (i := 3) rfl)
theorem wk_r0_5 {h : mH} {x : Nat} (hk : wkk h x) : mR h (x + 0) 5 = some (x + 5) := hk.2 (0, 5, 5) (List.mem_of_getElem? (i := 4) rfl)
theorem wk_r0_6 {h : mH} {x : Nat} (hk : wkk h x) : mR h (x + 0) 6 = some (x + 6) := hk.2 (0, 6, 6) (List.mem_of_getElem? (i := 5) rfl)
def gaA : List (Nat × Nat × Nat) := [(0, 3, 0), (1, 14, 651), (2, 14, 21), (3, 14, 21)]
def gaR : List (Nat × Nat × Nat) := [(0, 0, 1), (0, 4, 2), (0, 5, 3)]
abbrev gak (h : mH) (x : Nat) : Prop := lk gaA gaR h x
theorem ga_s {h : mH} {x : Nat} (hk : gak h x) : mS h x = (3, 0) := hk.1 (0, 3, 0) (List.mem_of_getElem? (i := 0) rfl)
theorem ga_s0 {h : mH} {x : Nat} (hk : gak h x) : mS h (x + 0) = (3, 0) := hk.1 (0, 3, 0) (List.mem_of_getElem? (i := 0) rfl)
theorem ga_s1 {h : mH} {x : Nat} (hk : gak h x) : mS h (x + 1) = (14, 651) := hk.1 (1, 14, 651) (List.mem_of_getElem? (i := 1) rfl)
theorem ga_s2 {h : mH} {x : Nat} (hk : gak h x) : mS h (x + 2) = (14, 21) := hk.1 (2, 14, 21) (List.mem_of_getElem? (i := 2) rfl)
theorem ga_s3 {h : mH} {x : Nat} (hk : gak h x) : mS h (x + 3) = (14, 21) := hk.1 (3, 14, 21) (List.mem_of_getElem? (i := 3) rfl)
theorem ga_r0_0 {h : mH} {x : Nat} (hk : gak h x) : mR h (x + 0) 0 = some (x + 1) := hk.2 (0, 0, 1) (List.mem_of_getElem? (i := 0) rfl)
theorem ga_r0_4 {h : mH} {x : Nat} (hk : gak h x) : mR h (x + 0) 4 = some (x + 2) := hk.2 (0, 4, 2) (List.mem_of_getElem? (i := 1) rfl)
theorem ga_r0_5 {h : mH} {x : Nat} (hk : gak h x) : mR h (x + 0) 5 = some (x + 3) := hk.2 (0, 5, 3) (List.mem_of_getElem? (i := 2) rfl)
set_option maxRecDepth 20000 in
theorem fg_bl1 {h : mH} {x : Nat} (hk : fgk h x) : blk h (x + 1) := lk_sub (A := fgA) (R := fgR) 1 (by decide +kernel) (by decide +kernel) hk
set_option maxRecDepth 20000 in
theorem fg_bl7 {h : mH} {x : Nat} (hk : fgk h x) : blk h (x + 7) := lk_sub (A := fgA) (R := fgR) 7 (by decide +kernel) (by decide +kernel) hk
set_option maxRecDepth 20000 in
theorem td_fg6 {h : mH} {x : Nat} (hk : tdk h x) : fgk h (x + 6) := lk_sub (A := tdA) (R := tdR) 6 (by decide +kernel) (by decide +kernel) hk
set_option maxRecDepth 20000 in
theorem td_bl7 {h : mH} {x : Nat} (hk : tdk h x) : blk h (x + 7) := lk_sub (A := tdA) (R := tdR) 7 (by decide +kernel) (by decide +kernel) hk
set_option maxRecDepth 20000 in
theorem td_bl13 {h : mH} {x : Nat} (hk : tdk h x) : blk h (x + 13) := lk_sub (A := tdA) (R := tdR) 13 (by decide +kernel) (by decide +kernel) hk
set_option maxRecDepth 20000 in
theorem td_yr22 {h : mH} {x : Nat} (hk : tdk h x) : yrk h (x + 22) := lk_sub (A := tdA) (R := tdR) 22 (by decide +kernel) (by decide +kernel) hk
set_option maxRecDepth 20000 in
theorem td_cu26 {h : mH} {x : Nat} (hk : tdk h x) : cuk h (x + 26) := lk_sub (A := tdA) (R := tdR) 26 (by decide +kernel) (by decide +kernel) hk
set_option maxRecDepth 20000 in
theorem td_fg30 {h : mH} {x : Nat} (hk : tdk h x) : fgk h (x + 30) := lk_sub (A := tdA) (R := tdR) 30 (by decide +kernel) (by decide +kernel) hk
set_option maxRecDepth 20000 in
theorem td_bl31 {h : mH} {x : Nat} (hk : tdk h x) : blk h (x + 31) := lk_sub (A := tdA) (R := tdR) 31 (by decide +kernel) (by decide +kernel) hk
set_option maxRecDepth 20000 in
theorem td_bl37 {h : mH} {x : Nat} (hk : tdk h x) : blk h (x + 37) := lk_sub (A := tdA) (R := tdR) 37 (by decide +kernel) (by decide +kernel) hk
set_option maxRecDepth 20000 in
theorem td_yr46 {h : mH} {x : Nat} (hk : tdk h x) : yrk h (x + 46) := lk_sub (A := tdA) (R := tdR) 46 (by decide +kernel) (by decide +kernel) hk
set_option maxRecDepth 20000 in
theorem td_cu50 {h : mH} {x : Nat} (hk : tdk h x) : cuk h (x + 50) := lk_sub (A := tdA) (R := tdR) 50 (by decide +kernel) (by decide +kernel) hk
set_option maxRecDepth 20000 in
theorem rd_fg1 {h : mH} {x : Nat} (hk : rdk h x) : fgk h (x + 1) := lk_sub (A := rdA) (R := rdR) 1 (by decide +kernel) (by decide +kernel) hk
set_option maxRecDepth 20000 in
theorem rd_bl2 {h : mH} {x : Nat} (hk : rdk h x) : blk h (x + 2) := lk_sub (A := rdA) (R := rdR) 2 (by decide +kernel) (by decide +kernel) hk
set_option maxRecDepth 20000 in
theorem rd_bl8 {h : mH} {x : Nat} (hk : rdk h x) : blk h (x + 8) := lk_sub (A := rdA) (R := rdR) 8 (by decide +kernel) (by decide +kernel) hk
set_option maxRecDepth 20000 in
theorem rd_yr17 {h : mH} {x : Nat} (hk : rdk h x) : yrk h (x + 17) := lk_sub (A := rdA) (R := rdR) 17 (by decide +kernel) (by decide +kernel) hk
set_option maxRecDepth 20000 in
theorem rd_cu21 {h : mH} {x : Nat} (hk : rdk h x) : cuk h (x + 21) := lk_sub (A := rdA) (R := rdR) 21 (by decide +kernel) (by decide +kernel) hk
set_option maxRecDepth 20000 in
theorem se_fg1 {h : mH} {x : Nat} (hk : sek h x) : fgk h (x + 1) := lk_sub (A := seA) (R := seR) 1 (by decide +kernel) (by decide +kernel) hk
set_option maxRecDepth 20000 in
theorem se_bl2 {h : mH} {x : Nat} (hk : sek h x) : blk h (x + 2) := lk_sub (A := seA) (R := seR) 2 (by decide +kernel) (by decide +kernel) hk
set_option maxRecDepth 20000 in
theorem se_bl8 {h : mH} {x : Nat} (hk : sek h x) : blk h (x + 8) := lk_sub (A := seA) (R := seR) 8 (by decide +kernel) (by decide +kernel) hk
set_option maxRecDepth 20000 in
theorem ma_fg1 {h : mH} {x : Nat} (hk : mak h x) : fgk h (x + 1) := lk_sub (A := maA) (R := maR) 1 (by decide +kernel) (by decide +kernel) hk
set_option maxRecDepth 20000 in
theorem ma_bl2 {h : mH} {x : Nat} (hk : mak h x) : blk h (x + 2) := lk_sub (A := maA) (R := maR) 2 (by decide +kernel) (by decide +kernel) hk
set_option maxRecDepth 20000 in
theorem ma_bl8 {h : mH} {x : Nat} (hk : mak h x) : blk h (x + 8) := lk_sub (A := maA) (R := maR) 8 (by decide +kernel) (by decide +kernel) hk
set_option maxRecDepth 20000 in
theorem ma_fg17 {h : mH} {x : Nat} (hk : mak h x) : fgk h (x + 17) := lk_sub (A := maA) (R := maR) 17 (by decide +kernel) (by decide +kernel) hk
set_option maxRecDepth 20000 in
theorem ma_bl18 {h : mH} {x : Nat} (hk : mak h x) : blk h (x + 18) := lk_sub (A := maA) (R := maR) 18 (by decide +kernel) (by decide +kernel) hk
set_option maxRecDepth 20000 in
theorem ma_bl24 {h : mH} {x : Nat} (hk : mak h x) : blk h (x + 24) := lk_sub (A := maA) (R := maR) 24 (by decide +kernel) (by decide +kernel) hk
set_option maxRecDepth 20000 in
theorem bk_td1 {h : mH} {x : Nat} (hk : bk h x) : tdk h (x + 1) := lk_sub (A := bA) (R := bR) 1 (by decide +kernel) (by decide +kernel) hk
set_option maxRecDepth 20000 in
theorem bk_fg7 {h : mH} {x : Nat} (hk : bk h x) : fgk h (x + 7) := lk_sub (A := bA) (R := bR) 7 (by decide +kernel) (by decide +kernel) hk
set_option maxRecDepth 20000 in
theorem bk_bl8 {h : mH} {x : Nat} (hk : bk h x) : blk h (x + 8) := lk_sub (A := bA) (R := bR) 8 (by decide +kernel) (by decide +kernel) hk
set_option maxRecDepth 20000 in
theorem bk_bl14 {h : mH} {x : Nat} (hk : bk h x) : blk h (x + 14) := lk_sub (A := bA) (R := bR) 14 (by decide +kernel) (by decide +kernel) hk
set_option maxRecDepth 20000 in
theorem bk_yr23 {h : mH} {x : Nat} (hk : bk h x) : yrk h (x + 23) := lk_sub (A := bA) (R := bR) 23 (by decide +kernel) (by decide +kernel) hk
set_option maxRecDepth 20000 in
theorem bk_cu27 {h : mH} {x : Nat} (hk : bk h x) : cuk h (x + 27) := lk_sub (A := bA) (R := bR) 27 (by decide +kernel) (by decide +kernel) hk
set_option maxRecDepth 20000 in
theorem bk_fg31 {h : mH} {x : Nat} (hk : bk h x) : fgk h (x + 31) := lk_sub (A := bA) (R := bR) 31 (by decide +kernel) (by decide +kernel) hk
set_option maxRecDepth 20000 in
theorem bk_bl32 {h : mH} {x : Nat} (hk : bk h x) : blk h (x + 32) := lk_sub (A := bA) (R := bR) 32 (by decide +kernel) (by decide +kernel) hk
set_option maxRecDepth 20000 in
theorem bk_bl38 {h : mH} {x : Nat} (hk : bk h x) : blk h (x + 38) := lk_sub (A := bA) (R := bR) 38 (by decide +kernel) (by decide +kernel) hk
set_option maxRecDepth 20000 in
theorem bk_yr47 {h : mH} {x : Nat} (hk : bk h x) : yrk h (x + 47) := lk_sub (A := bA) (R := bR) 47 (by decide +kernel) (by decide +kernel) hk
set_option maxRecDepth 20000 in
theorem bk_cu51 {h : mH} {x : Nat} (hk : bk h x) : cuk h (x + 51) := lk_sub (A := bA) (R := bR) 51 (by decide +kernel) (by decide +kernel) hk
set_option maxRecDepth 20000 in
theorem bk_rd56 {h : mH} {x : Nat} (hk : bk h x) : rdk h (x + 56) := lk_sub (A := bA) (R := bR) 56 (by decide +kernel) (by decide +kernel) hk
set_option maxRecDepth 20000 in
theorem bk_fg57 {h : mH} {x : Nat} (hk : bk h x) : fgk h (x + 57) := lk_sub (A := bA) (R := bR) 57 (by decide +kernel) (by decide +kernel) hk
set_option maxRecDepth 20000 in
theorem bk_bl58 {h : mH} {x : Nat} (hk : bk h x) : blk h (x + 58) := lk_sub (A := bA) (R := bR) 58 (by decide +kernel) (by decide +kernel) hk
set_option maxRecDepth 20000 in
theorem bk_bl64 {h : mH} {x : Nat} (hk : bk h x) : blk h (x + 64) := lk_sub (A := bA) (R := bR) 64 (by decide +kernel) (by decide +kernel) hk
set_option maxRecDepth 20000 in
theorem bk_yr73 {h : mH} {x : Nat} (hk : bk h x) : yrk h (x + 73) := lk_sub (A := bA) (R := bR) 73 (by decide +kernel) (by decide +kernel) hk
set_option maxRecDepth 20000 in
theorem bk_cu77 {h : mH} {x : Nat} (hk : bk h x) : cuk h (x + 77) := lk_sub (A := bA) (R := bR) 77 (by decide +kernel) (by decide +kernel) hk
set_option maxRecDepth 20000 in
theorem bk_se83 {h : mH} {x : Nat} (hk : bk h x) : sek h (x + 83) := lk_sub (A := bA) (R := bR) 83 (by decide +kernel) (by decide +kernel) hk
set_option maxRecDepth 20000 in
theorem bk_fg84 {h : mH} {x : Nat} (hk : bk h x) : fgk h (x + 84) := lk_sub (A := bA) (R := bR) 84 (by decide +kernel) (by decide +kernel) hk
set_option maxRecDepth 20000 in
theorem bk_bl85 {h : mH} {x : Nat} (hk : bk h x) : blk h (x + 85) := lk_sub (A := bA) (R := bR) 85 (by decide +kernel) (by decide +kernel) hk
set_option maxRecDepth 20000 in
theorem bk_bl91 {h : mH} {x : Nat} (hk : bk h x) : blk h (x + 91) := lk_sub (A := bA) (R := bR) 91 (by decide +kernel) (by decide +kernel) hk
set_option maxRecDepth 20000 in
theorem bk_ma100 {h : mH} {x : Nat} (hk : bk h x) : mak h (x + 100) := lk_sub (A := bA) (R := bR) 100 (by decide +kernel) (by decide +kernel) hk
set_option maxRecDepth 20000 in
theorem bk_fg101 {h : mH} {x : Nat} (hk : bk h x) : fgk h (x + 101) := lk_sub (A := bA) (R := bR) 101 (by decide +kernel) (by decide +kernel) hk
set_option maxRecDepth 20000 in
theorem bk_bl102 {h : mH} {x : Nat} (hk : bk h x) : blk h (x + 102) := lk_sub (A := bA) (R := bR) 102 (by decide +kernel) (by decide +kernel) hk
set_option maxRecDepth 20000 in
theorem bk_bl108 {h : mH} {x : Nat} (hk : bk h x) : blk h (x + 108) := lk_sub (A := bA) (R := bR) 108 (by decide +kernel) (by decide +kernel) hk
set_option maxRecDepth 20000 in
theorem bk_fg117 {h : mH} {x : Nat} (hk : bk h x) : fgk h (x + 117) := lk_sub (A := bA) (R := bR) 117 (by decide +kernel) (by decide +kernel) hk
set_option maxRecDepth 20000 in
theorem bk_bl118 {h : mH} {x : Nat} (hk : bk h x) : blk h (x + 118) := lk_sub (A := bA) (R := bR) 118 (by decide +kernel) (by decide +kernel) hk
set_option maxRecDepth 20000 in
theorem bk_bl124 {h : mH} {x : Nat} (hk : bk h x) : blk h (x + 124) := lk_sub (A := bA) (R := bR) 124 (by decide +kernel) (by decide +kernel) hk
set_option maxRecDepth 20000 in
theorem bk_mk142 {h : mH} {x : Nat} (hk : bk h x) : mkk h (x + 142) := lk_sub (A := bA) (R := bR) 142 (by decide +kernel) (by decide +kernel) hk
set_option maxRecDepth 20000 in
theorem bk_wk146 {h : mH} {x : Nat} (hk : bk h x) : wkk h (x + 146) := lk_sub (A := bA) (R := bR) 146 (by decide +kernel) (by decide +kernel) hk
set_option maxRecDepth 20000 in
theorem bk_ga153 {h : mH} {x : Nat} (hk : bk h x) : gak h (x + 153) := lk_sub (A := bA) (R := bR) 153 (by decide +kernel) (by decide +kernel) hk
